section PMs
variable {α : Type} {a0 a1 a2 a3 a4 a5 c e x : α} {f p r : List α}
theorem pf_in : List.Perm (c :: e :: (([a0, a1, a2, a4] ++ (f ++ (p ++ r))) ++ [x])) ((a0 :: a1 :: a2 :: c :: a4 :: e :: (f ++ (p ++ r))) ++ [x]) := by
  have h1 : (a0 :: a1 :: a2 :: c :: a4 :: e :: (f ++ (p ++ r))) ++ [x] = [a0, a1, a2] ++ c :: ([a4, e] ++ ((f ++ (p ++ r)) ++ [x])) := by simp
  rw [h1]
  refine List.Perm.trans ?_ List.perm_middle.symm
  refine List.Perm.cons c ?_
  have h2 : [a0, a1, a2] ++ ([a4, e] ++ ((f ++ (p ++ r)) ++ [x])) = [a0, a1, a2, a4] ++ e :: ((f ++ (p ++ r)) ++ [x]) := by simp
  rw [h2]
  refine List.Perm.trans ?_ List.perm_middle.symm
  refine List.Perm.cons e ?_
  rw [List.append_assoc]
theorem pf_out : List.Perm (a0 :: a1 :: a2 :: c :: a4 :: e :: ((f ++ [x]) ++ (p ++ r))) (c :: e :: (([a0, a1, a2, a4] ++ (f ++ (p ++ r))) ++ [x])) := by
  refine List.Perm.trans ?_ pf_in.symm
  have h1 : (a0 :: a1 :: a2 :: c :: a4 :: e :: ((f ++ [x]) ++ (p ++ r))) = ([a0, a1, a2, c, a4, e] ++ f) ++ ([x] ++ (p ++ r)) := by simp
  have h2 : (a0 :: a1 :: a2 :: c :: a4 :: e :: (f ++ (p ++ r))) ++ [x] = ([a0, a1, a2, c, a4, e] ++ f) ++ ((p ++ r) ++ [x]) := by simp
  rw [h1, h2]
  exact List.Perm.append_left _ List.perm_append_comm
theorem pp_in : List.Perm (c :: e :: (([a0, a1, a3, a4, a5] ++ (f ++ (p ++ r))) ++ [x])) ((a0 :: a1 :: c :: a3 :: a4 :: a5 :: (f ++ (p ++ ([e] ++ r)))) ++ [x]) := by
  have h1 : (a0 :: a1 :: c :: a3 :: a4 :: a5 :: (f ++ (p ++ ([e] ++ r)))) ++ [x] = [a0, a1] ++ c :: (([a3, a4, a5] ++ (f ++ p)) ++ e :: (r ++ [x])) := by simp
  rw [h1]
  refine List.Perm.trans ?_ List.perm_middle.symm
  refine List.Perm.cons c ?_
  have h2 : [a0, a1] ++ (([a3, a4, a5] ++ (f ++ p)) ++ e :: (r ++ [x])) = ([a0, a1, a3, a4, a5] ++ (f ++ p)) ++ e :: (r ++ [x]) := by simp
  rw [h2]
  refine List.Perm.trans ?_ List.perm_middle.symm
  refine List.Perm.cons e ?_
  have h3 : ([a0, a1, a3, a4, a5] ++ (f ++ (p ++ r))) ++ [x] = ([a0, a1, a3, a4, a5] ++ (f ++ p)) ++ (r ++ [x]) := by simp
  rw [h3]
theorem pp_in0 : List.Perm (c :: (([a0, a1, a3, a4, a5] ++ (f ++ (p ++ r))) ++ [x])) ((a0 :: a1 :: c :: a3 :: a4 :: a5 :: (f ++ (p ++ ([] ++ r)))) ++ [x]) := by
  have h1 : (a0 :: a1 :: c :: a3 :: a4 :: a5 :: (f ++ (p ++ ([] ++ r)))) ++ [x] = [a0, a1] ++ c :: ([a3, a4, a5] ++ (f ++ (p ++ r)) ++ [x]) := by simp
  rw [h1]
  refine List.Perm.trans ?_ List.perm_middle.symm
  exact List.Perm.refl _
theorem pp_out : List.Perm (a0 :: a1 :: c :: a3 :: a4 :: a5 :: (f ++ ((p ++ [x]) ++ ([e] ++ r)))) (c :: e :: (([a0, a1, a3, a4, a5] ++ (f ++ (p ++ r))) ++ [x])) := by
  refine List.Perm.trans ?_ pp_in.symm
  have h1 : (a0 :: a1 :: c :: a3 :: a4 :: a5 :: (f ++ ((p ++ [x]) ++ ([e] ++ r)))) = ([a0, a1, c, a3, a4, a5] ++ (f ++ p)) ++ ([x] ++ ([e] ++ r)) := by simp
  have h2 : (a0 :: a1 :: c :: a3 :: a4 :: a5 :: (f ++ (p ++ ([e] ++ r)))) ++ [x] = ([a0, a1, c, a3, a4, a5] ++ (f ++ p)) ++ (([e] ++ r) ++ [x]) := by simp
  rw [h1, h2]
  exact List.Perm.append_left _ List.perm_append_comm
end PMs
theorem CI_5 : CI 5 := ⟨_, _, _, rfl, q5_233⟩
theorem CI_6 : CI 6 := ⟨_, _, _, rfl, q5_238⟩
theorem mp_congr {f f' : Int → Nat × va_E} (n : Nat) (h : ∀ i : Int, 0 ≤ i → i < n → f' i = f i) : mpW f' n = mpW f n := by
  unfold mpW
  apply List.map_congr_left
  intro i hi
  have hi2 := List.mem_range.mp hi
  exact h _ (by omega) (by omega)
/-- the addresses with a fold, a part more -/
def adF (ad : Nat → Nat) (n q : Nat) : Nat → Nat := fun k => if k = 2 * n + 101 then q else ad k
def adP (ad : Nat → Nat) (n q : Nat) : Nat → Nat := fun k => if k = 2 * n + 100 then q else ad k
section ADs
variable {ad : Nat → Nat} {n q : Nat} {i : Int}
theorem adF_f (h : i.toNat ≠ n) : fA (adF ad n q) i = fA ad i := by
  show (if 2 * i.toNat + 101 = 2 * n + 101 then q else ad (2 * i.toNat + 101)) = _
  exact if_neg (by omega)
theorem adF_n (h : i.toNat = n) : fA (adF ad n q) i = q := by
  show (if 2 * i.toNat + 101 = 2 * n + 101 then q else ad (2 * i.toNat + 101)) = _
  exact if_pos (by omega)
theorem adF_p : pA (adF ad n q) i = pA ad i := by
  show (if 2 * i.toNat + 100 = 2 * n + 101 then q else ad (2 * i.toNat + 100)) = _
  exact if_neg (by omega)
theorem adF_0 {k : Nat} (h : k < 100) : adF ad n q k = ad k := if_neg (by omega)
theorem adP_p (h : i.toNat ≠ n) : pA (adP ad n q) i = pA ad i := by
  show (if 2 * i.toNat + 100 = 2 * n + 100 then q else ad (2 * i.toNat + 100)) = _
  exact if_neg (by omega)
theorem adP_n (h : i.toNat = n) : pA (adP ad n q) i = q := by
  show (if 2 * i.toNat + 100 = 2 * n + 100 then q else ad (2 * i.toNat + 100)) = _
  exact if_pos (by omega)
theorem adP_f : fA (adP ad n q) i = fA ad i := by
  show (if 2 * i.toNat + 101 = 2 * n + 100 then q else ad (2 * i.toNat + 101)) = _
  exact if_neg (by omega)
theorem adP_0 {k : Nat} (h : k < 100) : adP ad n q k = ad k := if_neg (by omega)
end ADs
abbrev YF (Y : Nat → Int → Int) (f x y : Int) : Nat → Int → Int := u2 (u2 (u2 (u2 Y 0 (Y 3 0) f) 1 (Y 3 0) x) 2 (Y 3 0) y) 3 0 (Y 3 0 + 1)
abbrev SF (S : Nat → Int → Int) (n : Int) : Nat → Int → Int := u2 (u2 (u2 S 0 n 0) 1 n 0) 2 n 0
/-- the page with one part more -/
def YP (Y : Nat → Int → Int) (f x y z u e : Int) : Nat → Int → Int := u2 (u2 (u2 (u2 (u2 (u2 (u2 Y 4 (Y 10 0) f) 5 (Y 10 0) x) 6 (Y 10 0) y) 7 (Y 10 0) z) 8 (Y 10 0) u) 9 (Y 10 0) e) 10 0 (Y 10 0 + 1)
theorem YP_10 {Y : Nat → Int → Int} {f x y z u e : Int} : YP Y f x y z u e 10 0 = Y 10 0 + 1 := rfl
abbrev SP (S : Nat → Int → Int) (n : Int) : Nat → Int → Int := u2 (u2 (u2 (u2 (u2 S 4 n 0) 5 n 0) 6 n 0) 7 n 0) 8 n 0
section WN
variable {C : WC} {ad : Nat → Nat} {B : BT} {E : Int × Nat} {F F' : Int × Nat × Nat} {S Y : Nat → Int → Int} {g : Int → Int} {R : va_W}
theorem WW_app {T : va_W} : WW C ad B E F S Y g R ++ T = WW C ad B E F S Y g (R ++ T) := by
  unfold WW
  simp [List.append_assoc]
theorem LT.app {T : va_W} (h : LT ad C E Y R) : LT ad C E Y (R ++ T) := by
  intro hn
  obtain ⟨cap, f, h1, h2, h3⟩ := h hn
  exact ⟨cap, f, h1, by rw [List.getElem?_append_left (List.getElem?_eq_some_iff.mp h2).1]; exact h2, h3⟩
theorem WW_fnew (hI : MI Y) {q : Nat} {f x y : Int} (hf : 0 ≤ f ∧ f < Y 3 0) : WW C (adF ad (Y 3 0).toNat q) B E F' (SF S (Y 3 0)) (YF Y f x y) g R = (ad 0, .inr (1, fSB B)) :: (B.1, aB C B.2.1 B.2.2.1) :: (ad 2, .inr (4, fAL E (Y 10 0))) :: (ad 3, .inr (4, fAL (F'.1, F'.2.1) (Y 3 0 + 1))) :: (ad 4, .inr (7, fSp ad S Y)) :: (F'.2.1, aO C F'.2.2 (flF (adF ad (Y 3 0).toNat q) (Y 3 0 + 1))) :: ((mpW (cF ad S Y) (Y 3 0).toNat ++ [(q, .inr (5, [vi (Y 3 0), .ref (fA ad f), vi x, vi y, vi 0, vi 0, vi 0]))]) ++ (mpW (cP ad S Y g) (Y 10 0).toNat ++ R)) := by
  have I3 := hI.1
  have e3 : YF Y f x y 3 0 = Y 3 0 + 1 := rfl
  have en : (YF Y f x y 3 0).toNat = (Y 3 0).toNat + 1 := by rw [e3]; omega
  have eF : ∀ i : Int, 0 ≤ i → i < (Y 3 0).toNat → cF (adF ad (Y 3 0).toNat q) (SF S (Y 3 0)) (YF Y f x y) i = cF ad S Y i := by
    intro i i0 i1
    have hne : i ≠ Y 3 0 := by omega
    have hon : onV (adF ad (Y 3 0).toNat q) (YF Y f x y) i = onV ad Y i := by
      by_cases c : i ≤ 0
      · rw [on_0 c, on_0 c]
      · have hi := hI.2.1 i (by omega) (by omega)
        rw [on_p (by omega), on_p (by omega)]
        show Value.ref (fA _ (uI (Y 0) (Y 3 0) f i)) = _
        rw [uI_n _ _ hne, adF_f (by omega)]
    show (fA (adF ad (Y 3 0).toNat q) i, (.inr (5, [vi i, onV (adF ad (Y 3 0).toNat q) (YF Y f x y) i, vi (uI (Y 1) (Y 3 0) x i), vi (uI (Y 2) (Y 3 0) y i), vi (uI (S 0) (Y 3 0) 0 i), vi (uI (S 1) (Y 3 0) 0 i), vi (uI (S 2) (Y 3 0) 0 i)]) : va_E)) = _
    rw [uI_n _ _ hne, uI_n _ _ hne, uI_n _ _ hne, uI_n _ _ hne, uI_n _ _ hne, hon, adF_f (by omega)]
    rfl
  have eN : cF (adF ad (Y 3 0).toNat q) (SF S (Y 3 0)) (YF Y f x y) (((Y 3 0).toNat : Nat) : Int) = (q, .inr (5, [vi (Y 3 0), .ref (fA ad f), vi x, vi y, vi 0, vi 0, vi 0])) := by
    rw [show (((Y 3 0).toNat : Nat) : Int) = Y 3 0 by omega]
    have hon : onV (adF ad (Y 3 0).toNat q) (YF Y f x y) (Y 3 0) = .ref (fA ad f) := by
      rw [on_p (by omega)]
      show Value.ref (fA _ (uI (Y 0) (Y 3 0) f (Y 3 0))) = _
      rw [uI_s, adF_f (by omega)]
    show (fA (adF ad (Y 3 0).toNat q) (Y 3 0), (.inr (5, [vi (Y 3 0), onV (adF ad (Y 3 0).toNat q) (YF Y f x y) (Y 3 0), vi (uI (Y 1) (Y 3 0) x (Y 3 0)), vi (uI (Y 2) (Y 3 0) y (Y 3 0)), vi (uI (S 0) (Y 3 0) 0 (Y 3 0)), vi (uI (S 1) (Y 3 0) 0 (Y 3 0)), vi (uI (S 2) (Y 3 0) 0 (Y 3 0))]) : va_E)) = _
    rw [uI_s, uI_s, uI_s, uI_s, uI_s, hon, adF_n rfl]
  have eP : ∀ p : Int, 0 ≤ p → p < (Y 10 0).toNat → cP (adF ad (Y 3 0).toNat q) (SF S (Y 3 0)) (YF Y f x y) g p = cP ad S Y g p := by
    intro p p0 p1
    have hp := hI.2.2.2.1 p p0 (by omega)
    show (pA (adF ad (Y 3 0).toNat q) p, (.inr (6, [.ref (fA (adF ad (Y 3 0).toNat q) (Y 4 p)), vi (Y 5 p), vi (Y 7 p), vi (Y 8 p), vi (Y 9 p), vi (Y 6 p), vi (g p), vi (S 4 p), vi (S 5 p), vi (S 6 p), vi (S 7 p), vi (S 8 p)]) : va_E)) = _
    rw [adF_p, adF_f (by omega)]
    rfl
  have eS : fSp (adF ad (Y 3 0).toNat q) (SF S (Y 3 0)) (YF Y f x y) = fSp ad S Y := by
    show [Value.ref (adF ad (Y 3 0).toNat q 3), .ref (adF ad (Y 3 0).toNat q 2), .ref (adF ad (Y 3 0).toNat q 0), vi (Y 12 0), vi (S 9 0)] = _
    rw [adF_0 (by omega), adF_0 (by omega), adF_0 (by omega)]
    rfl
  unfold WW wC
  rw [en, mp_push _ eF, eN, show YF Y f x y 10 0 = Y 10 0 from rfl, mp_congr _ eP, eS, adF_0 (by omega), adF_0 (by omega), adF_0 (by omega), adF_0 (by omega), e3]
  rfl
/-- the rest of the world while the list of folds grows -/
def rF (C : WC) (ad : Nat → Nat) (B : BT) (E : Int × Nat) (S Y : Nat → Int → Int) (g : Int → Int) (R : va_W) (x : Nat × va_E) : va_W := ([(ad 0, .inr (1, fSB B)), (B.1, aB C B.2.1 B.2.2.1), (ad 2, .inr (4, fAL E (Y 10 0))), (ad 4, .inr (7, fSp ad S Y))] ++ (mpW (cF ad S Y) (Y 3 0).toNat ++ (mpW (cP ad S Y g) (Y 10 0).toNat ++ R))) ++ [x]
theorem rF_at {x : Nat × va_E} {i : Nat} (hi : (i : Int) < Y 3 0) : ∃ (k : Nat) (fs : List Value), (rF C ad B E S Y g R x)[k]? = some (fA ad (i : Int), .inr (5, fs)) := by
  refine ⟨i + 4, fFd ad S Y (i : Int), ?_⟩
  unfold rF
  refine old_at ?_ _
  show (mpW (cF ad S Y) (Y 3 0).toNat ++ (mpW (cP ad S Y g) (Y 10 0).toNat ++ R))[i]? = _
  exact mp_at (f := cF ad S Y) (i := (i : Int)) (by omega) (by omega) _
theorem rF_new {q ci : Nat} {fs : List Value} : ∃ (k : Nat) (gs : List Value), (rF C ad B E S Y g R (q, .inr (ci, fs)))[k]? = some (q, .inr (ci, gs)) := ⟨_, fs, new_at _ _⟩
theorem flF_none {n : Int} {i : Nat} (h : n ≤ (i : Int)) : flF ad n i = none := if_neg (by omega)
theorem flF_some {n : Int} {i y : Nat} (hi : (i : Int) < n) (h : flF ad n i = some y) : y = fA ad (i : Int) := by
  unfold flF at h
  rw [if_pos hi] at h
  exact (Option.some.inj h).symm
theorem flF_push {n : Int} (n0 : 0 ≤ n) {q : Nat} {x : Nat × Nat × (Nat → Option Nat)} (h : AddP (flF ad n) n q x) : x.2.2 = flF (adF ad n.toNat q) (n + 1) := by
  obtain ⟨h1, h2, h3, h4⟩ := h
  funext i
  unfold flF
  by_cases c : (i : Int) < n
  · rw [h3 i c, if_pos (by omega)]
    unfold flF
    rw [if_pos c, adF_f (by omega)]
  · by_cases d : (i : Int) = n
    · have e : i = n.toNat := by omega
      subst e
      rw [h2, if_pos (by omega), adF_n (by omega)]
    · rw [h4 i (by omega), if_neg (by omega)]
/-- the elements of the list of parts -/
def plF (ad : Nat → Nat) (n : Int) : Nat → Option Nat := fun j => if (j : Int) < n then some (pA ad (j : Int)) else none
def elW (C : WC) (ad : Nat → Nat) (E : Int × Nat) (cap : Nat) (n : Int) : va_W := if n ≤ 0 then [] else [(E.2, aO C cap (plF ad n))]
def PLF (C : WC) (E : Int × Nat) (cap : Nat) (Y : Nat → Int → Int) : Prop := (Y 10 0 = 0 → E.2 = C.2.2.2 0) ∧ (0 < Y 10 0 → (10 ≤ cap ∧ cap ≤ 22) ∧ Y 10 0 ≤ cap)
theorem PLF.lt {cap : Nat} {R0 : va_W} (h : PLF C E cap Y) : LT ad C E Y (elW C ad E cap (Y 10 0) ++ R0) := by
  intro hn
  obtain ⟨h1, h2⟩ := h.2 hn
  refine ⟨cap, plF ad (Y 10 0), ⟨h2, by omega⟩, by unfold elW; rw [if_neg (by omega)]; rfl, fun p p0 p1 => ?_⟩
  unfold plF
  rw [Int.toNat_of_nonneg p0, if_pos p1]
theorem elW_F {cap n0 q : Nat} {n : Int} : elW C (adF ad n0 q) E cap n = elW C ad E cap n := by
  unfold elW
  congr 4
  funext j
  unfold plF
  rw [adF_p]
theorem WW_pnew (hI : MI Y) {q : Nat} {f x y z u e : Int} {E' : Int × Nat} : WW C (adP ad (Y 10 0).toNat q) B E' F (SP S (Y 10 0)) (YP Y f x y z u e) (uI g (Y 10 0) (-1)) R = (ad 0, .inr (1, fSB B)) :: (B.1, aB C B.2.1 B.2.2.1) :: (ad 2, .inr (4, fAL E' (Y 10 0 + 1))) :: (ad 3, .inr (4, fAL (F.1, F.2.1) (Y 3 0))) :: (ad 4, .inr (7, fSp ad S Y)) :: (F.2.1, aO C F.2.2 (flF ad (Y 3 0))) :: (mpW (cF ad S Y) (Y 3 0).toNat ++ ((mpW (cP ad S Y g) (Y 10 0).toNat ++ [(q, .inr (6, [.ref (fA ad f), vi x, vi z, vi u, vi e, vi y, vi (-1), vi 0, vi 0, vi 0, vi 0, vi 0]))]) ++ R)) := by
  have I10 := hI.2.2.1
  have en : (YP Y f x y z u e 10 0).toNat = (Y 10 0).toNat + 1 := by rw [YP_10]; omega
  have eF : ∀ i : Int, 0 ≤ i → i < (Y 3 0).toNat → cF (adP ad (Y 10 0).toNat q) (SP S (Y 10 0)) (YP Y f x y z u e) i = cF ad S Y i := by
    intro i i0 i1
    have hon : onV (adP ad (Y 10 0).toNat q) (YP Y f x y z u e) i = onV ad Y i := by
      by_cases c : i ≤ 0
      · rw [on_0 c, on_0 c]
      · rw [on_p (by omega), on_p (by omega)]
        show Value.ref (fA _ (Y 0 i)) = _
        rw [adP_f]
    show (fA (adP ad (Y 10 0).toNat q) i, (.inr (5, [vi i, onV (adP ad (Y 10 0).toNat q) (YP Y f x y z u e) i, vi (Y 1 i), vi (Y 2 i), vi (S 0 i), vi (S 1 i), vi (S 2 i)]) : va_E)) = _
    rw [hon, adP_f]
    rfl
  have eP : ∀ p : Int, 0 ≤ p → p < (Y 10 0).toNat → cP (adP ad (Y 10 0).toNat q) (SP S (Y 10 0)) (YP Y f x y z u e) (uI g (Y 10 0) (-1)) p = cP ad S Y g p := by
    intro p p0 p1
    have hne : p ≠ Y 10 0 := by omega
    show (pA (adP ad (Y 10 0).toNat q) p, (.inr (6, [.ref (fA (adP ad (Y 10 0).toNat q) (uI (Y 4) (Y 10 0) f p)), vi (uI (Y 5) (Y 10 0) x p), vi (uI (Y 7) (Y 10 0) z p), vi (uI (Y 8) (Y 10 0) u p), vi (uI (Y 9) (Y 10 0) e p), vi (uI (Y 6) (Y 10 0) y p), vi (uI g (Y 10 0) (-1) p), vi (uI (S 4) (Y 10 0) 0 p), vi (uI (S 5) (Y 10 0) 0 p), vi (uI (S 6) (Y 10 0) 0 p), vi (uI (S 7) (Y 10 0) 0 p), vi (uI (S 8) (Y 10 0) 0 p)]) : va_E)) = _
    rw [uI_n _ _ hne, uI_n _ _ hne, uI_n _ _ hne, uI_n _ _ hne, uI_n _ _ hne, uI_n _ _ hne, uI_n _ _ hne, uI_n _ _ hne, uI_n _ _ hne, uI_n _ _ hne, uI_n _ _ hne, uI_n _ _ hne, adP_f, adP_p (by omega)]
    rfl
  have eN : cP (adP ad (Y 10 0).toNat q) (SP S (Y 10 0)) (YP Y f x y z u e) (uI g (Y 10 0) (-1)) (((Y 10 0).toNat : Nat) : Int) = (q, .inr (6, [.ref (fA ad f), vi x, vi z, vi u, vi e, vi y, vi (-1), vi 0, vi 0, vi 0, vi 0, vi 0])) := by
    rw [show (((Y 10 0).toNat : Nat) : Int) = Y 10 0 by omega]
    show (pA (adP ad (Y 10 0).toNat q) (Y 10 0), (.inr (6, [.ref (fA (adP ad (Y 10 0).toNat q) (uI (Y 4) (Y 10 0) f (Y 10 0))), vi (uI (Y 5) (Y 10 0) x (Y 10 0)), vi (uI (Y 7) (Y 10 0) z (Y 10 0)), vi (uI (Y 8) (Y 10 0) u (Y 10 0)), vi (uI (Y 9) (Y 10 0) e (Y 10 0)), vi (uI (Y 6) (Y 10 0) y (Y 10 0)), vi (uI g (Y 10 0) (-1) (Y 10 0)), vi (uI (S 4) (Y 10 0) 0 (Y 10 0)), vi (uI (S 5) (Y 10 0) 0 (Y 10 0)), vi (uI (S 6) (Y 10 0) 0 (Y 10 0)), vi (uI (S 7) (Y 10 0) 0 (Y 10 0)), vi (uI (S 8) (Y 10 0) 0 (Y 10 0))]) : va_E)) = _
    rw [uI_s, uI_s, uI_s, uI_s, uI_s, uI_s, uI_s, uI_s, uI_s, uI_s, uI_s, uI_s, adP_f, adP_n rfl]
  have eL : flF (adP ad (Y 10 0).toNat q) (Y 3 0) = flF ad (Y 3 0) := by
    funext j
    unfold flF
    rw [adP_f]
  have eS : fSp (adP ad (Y 10 0).toNat q) (SP S (Y 10 0)) (YP Y f x y z u e) = fSp ad S Y := by
    show [Value.ref (adP ad (Y 10 0).toNat q 3), .ref (adP ad (Y 10 0).toNat q 2), .ref (adP ad (Y 10 0).toNat q 0), vi (Y 12 0), vi (S 9 0)] = _
    rw [adP_0 (by omega), adP_0 (by omega), adP_0 (by omega)]
    rfl
  unfold WW wC
  rw [en, mp_push _ eP, eN, show YP Y f x y z u e 3 0 = Y 3 0 from rfl, mp_congr _ eF, eS, eL, adP_0 (by omega), adP_0 (by omega), adP_0 (by omega), adP_0 (by omega), YP_10]
  rfl
/-- the rest of the world while the list of parts grows -/
def rP (C : WC) (ad : Nat → Nat) (B : BT) (F : Int × Nat × Nat) (S Y : Nat → Int → Int) (g : Int → Int) (R0 : va_W) (x : Nat × va_E) : va_W := ([(ad 0, .inr (1, fSB B)), (B.1, aB C B.2.1 B.2.2.1), (ad 3, .inr (4, fAL (F.1, F.2.1) (Y 3 0))), (ad 4, .inr (7, fSp ad S Y)), (F.2.1, aO C F.2.2 (flF ad (Y 3 0)))] ++ (mpW (cF ad S Y) (Y 3 0).toNat ++ (mpW (cP ad S Y g) (Y 10 0).toNat ++ R0))) ++ [x]
theorem rP_at {R0 : va_W} {x : Nat × va_E} {i : Nat} (hi : (i : Int) < Y 10 0) : ∃ (k : Nat) (fs : List Value), (rP C ad B F S Y g R0 x)[k]? = some (pA ad (i : Int), .inr (6, fs)) := by
  refine ⟨i + (Y 3 0).toNat + 5, fPa ad S Y g (i : Int), ?_⟩
  unfold rP
  refine old_at ?_ _
  show (mpW (cF ad S Y) (Y 3 0).toNat ++ (mpW (cP ad S Y g) (Y 10 0).toNat ++ R0))[i + (Y 3 0).toNat]? = _
  rw [mp_after]
  exact mp_at (f := cP ad S Y g) (i := (i : Int)) (by omega) (by omega) _
theorem rP_new {R0 : va_W} {q ci : Nat} {fs : List Value} : ∃ (k : Nat) (gs : List Value), (rP C ad B F S Y g R0 (q, .inr (ci, fs)))[k]? = some (q, .inr (ci, gs)) := ⟨_, fs, new_at _ _⟩
theorem plF_none {n : Int} {i : Nat} (h : n ≤ (i : Int)) : plF ad n i = none := if_neg (by omega)
theorem plF_some {n : Int} {i y : Nat} (hi : (i : Int) < n) (h : plF ad n i = some y) : y = pA ad (i : Int) := by
  unfold plF at h
  rw [if_pos hi] at h
  exact (Option.some.inj h).symm
theorem plF_push {n : Int} (n0 : 0 ≤ n) {q : Nat} {x : Nat × Nat × (Nat → Option Nat)} (h : AddP (plF ad n) n q x) : x.2.2 = plF (adP ad n.toNat q) (n + 1) := by
  obtain ⟨h1, h2, h3, h4⟩ := h
  funext i
  unfold plF
  by_cases c : (i : Int) < n
  · rw [h3 i c, if_pos (by omega)]
    unfold plF
    rw [if_pos c, adP_p (by omega)]
  · by_cases d : (i : Int) = n
    · have e : i = n.toNat := by omega
      subst e
      rw [h2, if_pos (by omega), adP_n (by omega)]
    · rw [h4 i (by omega), if_neg (by omega)]
theorem SI.part {f x y z u e : Int} (hI : MI Y) (h : SI Y g) : SI (YP Y f x y z u e) (uI g (Y 10 0) (-1)) := by
  intro p p0 p1
  have I12 := hI.2.2.2.2.1
  have p1 : p < Y 10 0 + 1 := p1
  by_cases c : p = Y 10 0
  · subst c
    rw [uI_s]
    refine ⟨⟨by omega, show (-1 : Int) < Y 12 0 by omega⟩, fun h => absurd h (by omega), fun k k0 k1 hk => ?_⟩
    have hk : Y 11 k = Y 10 0 := hk
    have := hI.2.2.2.2.2.1 k k0 k1
    omega
  · rw [uI_n _ _ c]
    exact h p p0 (by omega)
theorem SI.fold {f x y : Int} (h : SI Y g) : SI (YF Y f x y) g := h
end WN
set_option maxHeartbeats 4000000 in
set_option maxRecDepth 100000 in
/-- Fold(..) -/
theorem c_X0_init_n {C : WC} {l : Launch} (hfl : l.stackTraces = false) {ws : va_W} {q : Nat} {i x y : Int}  : MM C l yX0_init cX0_init 5 none 0 0 0 [.ref q, vi i, .null, vi x, vi y] (ws ++ [(q, .inr (5, [vi 0, .null, vi 0, vi 0, vi 0, vi 0, vi 0]))]) (rn (ws ++ [(q, .inr (5, [vi i, .null, vi x, vi y, vi 0, vi 0, vi 0]))])) := by
  refine mi_of (by decide +kernel) (Nat.le_of_ble_eq_true rfl) hfl rfl (fun K Q X hni r => ?_)
  have X : Cx C l "Springleaf$Fold" cX0_init 5 0 0 0 K := X
  show G C K Q 0 0 0 [(0, .ref q), (1, vi i), (2, .null), (3, vi x), (4, vi y)] [] (ws ++ [(q, .inr (5, [vi 0, .null, vi 0, vi 0, vi 0, vi 0, vi 0]))])
  refine g_aload_n (t := 1) X dX0_init_0 0 rfl rfl ?_
  refine g_oinit (t := 4) X q1_101 (Nat.le_of_ble_eq_true rfl) dX0_init_1 rfl ?_
  refine g_aload_n (t := 5) X dX0_init_4 0 rfl rfl ?_
  refine g_iload_n (t := 6) X dX0_init_5 1 rfl rfl ?_
  refine g_putF (t := 9) (ws1 := (ws ++ [(q, .inr (5, [vi i, .null, vi 0, vi 0, vi 0, vi 0, vi 0]))])) X hni inX0 tyX0 tyX0_ok nmX0 ws.length (new_at _ _) rfl 0 (by decide) q1_102 rfl rfl rfl rfl rfl rfl (Nat.le_of_ble_eq_true rfl) (new_set _ _ _) dX0_init_6 rfl ?_
  refine g_aload_n (t := 10) X dX0_init_9 0 rfl rfl ?_
  refine g_aload_nN (t := 11) X dX0_init_10 2 rfl rfl ?_
  refine g_putF (t := 14) (ws1 := (ws ++ [(q, .inr (5, [vi i, .null, vi 0, vi 0, vi 0, vi 0, vi 0]))])) X hni inX0 tyX0 tyX0_ok nmX0 ws.length (new_at _ _) rfl 1 (by decide) q1_103 rfl rfl rfl rfl rfl rfl (Nat.le_of_ble_eq_true rfl) (new_set _ _ _) dX0_init_11 rfl ?_
  refine g_aload_n (t := 15) X dX0_init_14 0 rfl rfl ?_
  refine g_iload_n (t := 16) X dX0_init_15 3 rfl rfl ?_
  refine g_putF (t := 19) (ws1 := (ws ++ [(q, .inr (5, [vi i, .null, vi x, vi 0, vi 0, vi 0, vi 0]))])) X hni inX0 tyX0 tyX0_ok nmX0 ws.length (new_at _ _) rfl 2 (by decide) q1_105 rfl rfl rfl rfl rfl rfl (Nat.le_of_ble_eq_true rfl) (new_set _ _ _) dX0_init_16 rfl ?_
  refine g_aload_n (t := 20) X dX0_init_19 0 rfl rfl ?_
  refine g_iload (t := 22) X dX0_init_20 4 rfl rfl ?_
  refine g_putF (t := 25) (ws1 := (ws ++ [(q, .inr (5, [vi i, .null, vi x, vi y, vi 0, vi 0, vi 0]))])) X hni inX0 tyX0 tyX0_ok nmX0 ws.length (new_at _ _) rfl 3 (by decide) q1_106 rfl rfl rfl rfl rfl rfl (Nat.le_of_ble_eq_true rfl) (new_set _ _ _) dX0_init_22 rfl ?_
  exact g_vret X r rn_i (Nat.le_of_ble_eq_true rfl) (Nat.le_of_ble_eq_true rfl) dX0_init_25

set_option maxHeartbeats 4000000 in
set_option maxRecDepth 100000 in
/-- Fold(..) -/
theorem c_X0_init_r {C : WC} {l : Launch} (hfl : l.stackTraces = false) {ws : va_W} {q : Nat} {i x y : Int} {a : Nat}  : MM C l yX0_init cX0_init 5 none 0 0 0 [.ref q, vi i, .ref a, vi x, vi y] (ws ++ [(q, .inr (5, [vi 0, .null, vi 0, vi 0, vi 0, vi 0, vi 0]))]) (rn (ws ++ [(q, .inr (5, [vi i, .ref a, vi x, vi y, vi 0, vi 0, vi 0]))])) := by
  refine mi_of (by decide +kernel) (Nat.le_of_ble_eq_true rfl) hfl rfl (fun K Q X hni r => ?_)
  have X : Cx C l "Springleaf$Fold" cX0_init 5 0 0 0 K := X
  show G C K Q 0 0 0 [(0, .ref q), (1, vi i), (2, .ref a), (3, vi x), (4, vi y)] [] (ws ++ [(q, .inr (5, [vi 0, .null, vi 0, vi 0, vi 0, vi 0, vi 0]))])
  refine g_aload_n (t := 1) X dX0_init_0 0 rfl rfl ?_
  refine g_oinit (t := 4) X q1_101 (Nat.le_of_ble_eq_true rfl) dX0_init_1 rfl ?_
  refine g_aload_n (t := 5) X dX0_init_4 0 rfl rfl ?_
  refine g_iload_n (t := 6) X dX0_init_5 1 rfl rfl ?_
  refine g_putF (t := 9) (ws1 := (ws ++ [(q, .inr (5, [vi i, .null, vi 0, vi 0, vi 0, vi 0, vi 0]))])) X hni inX0 tyX0 tyX0_ok nmX0 ws.length (new_at _ _) rfl 0 (by decide) q1_102 rfl rfl rfl rfl rfl rfl (Nat.le_of_ble_eq_true rfl) (new_set _ _ _) dX0_init_6 rfl ?_
  refine g_aload_n (t := 10) X dX0_init_9 0 rfl rfl ?_
  refine g_aload_n (t := 11) X dX0_init_10 2 rfl rfl ?_
  refine g_putF (t := 14) (ws1 := (ws ++ [(q, .inr (5, [vi i, .ref a, vi 0, vi 0, vi 0, vi 0, vi 0]))])) X hni inX0 tyX0 tyX0_ok nmX0 ws.length (new_at _ _) rfl 1 (by decide) q1_103 rfl rfl rfl rfl rfl rfl (Nat.le_of_ble_eq_true rfl) (new_set _ _ _) dX0_init_11 rfl ?_
  refine g_aload_n (t := 15) X dX0_init_14 0 rfl rfl ?_
  refine g_iload_n (t := 16) X dX0_init_15 3 rfl rfl ?_
  refine g_putF (t := 19) (ws1 := (ws ++ [(q, .inr (5, [vi i, .ref a, vi x, vi 0, vi 0, vi 0, vi 0]))])) X hni inX0 tyX0 tyX0_ok nmX0 ws.length (new_at _ _) rfl 2 (by decide) q1_105 rfl rfl rfl rfl rfl rfl (Nat.le_of_ble_eq_true rfl) (new_set _ _ _) dX0_init_16 rfl ?_
  refine g_aload_n (t := 20) X dX0_init_19 0 rfl rfl ?_
  refine g_iload (t := 22) X dX0_init_20 4 rfl rfl ?_
  refine g_putF (t := 25) (ws1 := (ws ++ [(q, .inr (5, [vi i, .ref a, vi x, vi y, vi 0, vi 0, vi 0]))])) X hni inX0 tyX0 tyX0_ok nmX0 ws.length (new_at _ _) rfl 3 (by decide) q1_106 rfl rfl rfl rfl rfl rfl (Nat.le_of_ble_eq_true rfl) (new_set _ _ _) dX0_init_22 rfl ?_
  exact g_vret X r rn_i (Nat.le_of_ble_eq_true rfl) (Nat.le_of_ble_eq_true rfl) dX0_init_25

set_option maxHeartbeats 4000000 in
set_option maxRecDepth 100000 in
/-- Part(..) -/
theorem c_X3_init {C : WC} {l : Launch} (hfl : l.stackTraces = false) {ws : va_W} {q : Nat} {a : Nat} {x y z u e : Int} (he : e = 0 ∨ e = 1) : MM C l yX3_init cX3_init 7 none 0 0 0 [.ref q, .ref a, vi x, vi y, vi z, vi u, vi e] (ws ++ [(q, .inr (6, [.null, vi 0, vi 0, vi 0, vi 0, vi 0, vi 0, vi 0, vi 0, vi 0, vi 0, vi 0]))]) (rn (ws ++ [(q, .inr (6, [.ref a, vi x, vi z, vi u, vi e, vi y, vi (-1), vi 0, vi 0, vi 0, vi 0, vi 0]))])) := by
  refine mi_of (by decide +kernel) (Nat.le_of_ble_eq_true rfl) hfl rfl (fun K Q X hni r => ?_)
  have X : Cx C l "Springleaf$Part" cX3_init 7 0 0 0 K := X
  have hen : narrow .boolean (vi e) = vi e := by rcases he with rfl | rfl <;> rfl
  have hef : fits .boolean (vi e) = true := by rcases he with rfl | rfl <;> rfl
  show G C K Q 0 0 0 [(0, .ref q), (1, .ref a), (2, vi x), (3, vi y), (4, vi z), (5, vi u), (6, vi e)] [] (ws ++ [(q, .inr (6, [.null, vi 0, vi 0, vi 0, vi 0, vi 0, vi 0, vi 0, vi 0, vi 0, vi 0, vi 0]))])
  refine g_aload_n (t := 1) X dX3_init_0 0 rfl rfl ?_
  refine g_oinit (t := 4) X q2_216 (Nat.le_of_ble_eq_true rfl) dX3_init_1 rfl ?_
  refine g_aload_n (t := 5) X dX3_init_4 0 rfl rfl ?_
  refine g_iconst (t := 6) X dX3_init_5 rfl ?_
  refine g_putf (t := 9) (ws1 := (ws ++ [(q, .inr (6, [.null, vi 0, vi 0, vi 0, vi 0, vi 0, vi (-1), vi 0, vi 0, vi 0, vi 0, vi 0]))])) X inX3 tyX3 tyX3_ok nmX3 ws.length (new_at _ _) rfl 6 (by decide) q2_225 rfl rfl rfl rfl rfl (Nat.le_of_ble_eq_true rfl) (new_set _ _ _) dX3_init_6 rfl ?_
  refine g_aload_n (t := 10) X dX3_init_9 0 rfl rfl ?_
  refine g_aload_n (t := 11) X dX3_init_10 1 rfl rfl ?_
  refine g_putF (t := 14) (ws1 := (ws ++ [(q, .inr (6, [.ref a, vi 0, vi 0, vi 0, vi 0, vi 0, vi (-1), vi 0, vi 0, vi 0, vi 0, vi 0]))])) X hni inX3 tyX3 tyX3_ok nmX3 ws.length (new_at _ _) rfl 0 (by decide) q2_217 rfl rfl rfl rfl rfl rfl (Nat.le_of_ble_eq_true rfl) (new_set _ _ _) dX3_init_11 rfl ?_
  refine g_aload_n (t := 15) X dX3_init_14 0 rfl rfl ?_
  refine g_iload_n (t := 16) X dX3_init_15 2 rfl rfl ?_
  refine g_putF (t := 19) (ws1 := (ws ++ [(q, .inr (6, [.ref a, vi x, vi 0, vi 0, vi 0, vi 0, vi (-1), vi 0, vi 0, vi 0, vi 0, vi 0]))])) X hni inX3 tyX3 tyX3_ok nmX3 ws.length (new_at _ _) rfl 1 (by decide) q2_219 rfl rfl rfl rfl rfl rfl (Nat.le_of_ble_eq_true rfl) (new_set _ _ _) dX3_init_16 rfl ?_
  refine g_aload_n (t := 20) X dX3_init_19 0 rfl rfl ?_
  refine g_iload_n (t := 21) X dX3_init_20 3 rfl rfl ?_
  refine g_putf (t := 24) (ws1 := (ws ++ [(q, .inr (6, [.ref a, vi x, vi 0, vi 0, vi 0, vi y, vi (-1), vi 0, vi 0, vi 0, vi 0, vi 0]))])) X inX3 tyX3 tyX3_ok nmX3 ws.length (new_at _ _) rfl 5 (by decide) q2_223 rfl rfl rfl rfl rfl (Nat.le_of_ble_eq_true rfl) (new_set _ _ _) dX3_init_21 rfl ?_
  refine g_aload_n (t := 25) X dX3_init_24 0 rfl rfl ?_
  refine g_iload (t := 27) X dX3_init_25 4 rfl rfl ?_
  refine g_putF (t := 30) (ws1 := (ws ++ [(q, .inr (6, [.ref a, vi x, vi z, vi 0, vi 0, vi y, vi (-1), vi 0, vi 0, vi 0, vi 0, vi 0]))])) X hni inX3 tyX3 tyX3_ok nmX3 ws.length (new_at _ _) rfl 2 (by decide) q2_220 rfl rfl rfl rfl rfl rfl (Nat.le_of_ble_eq_true rfl) (new_set _ _ _) dX3_init_27 rfl ?_
  refine g_aload_n (t := 31) X dX3_init_30 0 rfl rfl ?_
  refine g_iload (t := 33) X dX3_init_31 5 rfl rfl ?_
  refine g_putF (t := 36) (ws1 := (ws ++ [(q, .inr (6, [.ref a, vi x, vi z, vi u, vi 0, vi y, vi (-1), vi 0, vi 0, vi 0, vi 0, vi 0]))])) X hni inX3 tyX3 tyX3_ok nmX3 ws.length (new_at _ _) rfl 3 (by decide) q2_221 rfl rfl rfl rfl rfl rfl (Nat.le_of_ble_eq_true rfl) (new_set _ _ _) dX3_init_33 rfl ?_
  refine g_aload_n (t := 37) X dX3_init_36 0 rfl rfl ?_
  refine g_iload (t := 39) X dX3_init_37 6 rfl rfl ?_
  refine g_putF (t := 42) (ws1 := (ws ++ [(q, .inr (6, [.ref a, vi x, vi z, vi u, vi e, vi y, vi (-1), vi 0, vi 0, vi 0, vi 0, vi 0]))])) X hni inX3 tyX3 tyX3_ok nmX3 ws.length (new_at _ _) rfl 4 (by decide) q2_222 rfl rfl rfl rfl hen hef (Nat.le_of_ble_eq_true rfl) (new_set _ _ _) dX3_init_39 rfl ?_
  exact g_vret X r rn_i (Nat.le_of_ble_eq_true rfl) (Nat.le_of_ble_eq_true rfl) dX3_init_42

set_option maxHeartbeats 4000000 in
set_option maxRecDepth 100000 in
/-- fold(..) -/
theorem c_X4_fold {C : WC} {l : Launch} (hfl : l.stackTraces = false) {ad : Nat → Nat} {B : BT} {E : Int × Nat} {F : Int × Nat × Nat} {S Y : Nat → Int → Int} {g : Int → Int} {R : va_W} {f x y : Int} (hI : MI Y) (hF : FC F Y) (hR : LT ad C E Y R) (hG : SI Y g) (hf : Rg f) (hx : Rg x) (hy : Rg y) : MX C l yX4_fold cX4_fold 4 (some .int) 6 10 80 [.ref (ad 4), vi f, vi x, vi y] (WW C ad B E F S Y g R) (fun v w => ((0 ≤ f ∧ f < Y 3 0) ∧ ((1 ≤ x ∧ x ≤ 8) ∧ -90 ≤ y ∧ y ≤ 90) ∧ (Y 3 0 ≠ 12 ∧ ¬ boundF Y)) ∧ ∃ (ad' : Nat → Nat) (F' : Int × Nat × Nat) (Z : Nat → Int → Int) (h : Int → Int), (ad' 4 = ad 4 ∧ FC F' (YF Y f x y) ∧ SI (YF Y f x y) h ∧ ∀ {E0 : Int × Nat} {cap : Nat} (n : Int), elW C ad' E0 cap n = elW C ad E0 cap n) ∧ v = some (vi (Y 3 0)) ∧ w = WW C ad' B E F' Z (YF Y f x y) h R) (px3 (0 ≤ f ∧ f < Y 3 0) ((1 ≤ x ∧ x ≤ 8) ∧ -90 ≤ y ∧ y ≤ 90) (Y 3 0 ≠ 12 ∧ ¬ boundF Y) "java/lang/IndexOutOfBoundsException" "java/lang/IllegalArgumentException" "java/lang/IllegalStateException" (fun Z => WW C ad B E F Z Y g R)) := by
  refine mx_of (by decide +kernel) (Nat.le_of_ble_eq_true rfl) hfl (fun K Q X r rx => ?_)
  have X : Cx C l "Springleaf" cX4_fold 4 6 10 80 K := X
  have I3 := hI.1
  have I10 := hI.2.2.1
  have I12 := hI.2.2.2.2.1
  obtain ⟨⟨F1, F2⟩, F3⟩ := id hF
  obtain ⟨f1, f2⟩ := hf
  obtain ⟨x1, x2⟩ := hx
  obtain ⟨y1, y2⟩ := hy
  show G C K Q 0 0 0 [(0, .ref (ad 4)), (1, vi f), (2, vi x), (3, vi y)] [] (WW C ad B E F S Y g R)
  refine g_aload_n (t := 1) X dX4_fold_0 0 rfl rfl ?_
  refine g_iload_n (t := 2) X dX4_fold_1 1 rfl rfl ?_
  refine gx_callV (t := 5) (mc := 1) (ms := 6) (rest := []) X mt_X4_requireFold q2_90 q2_92 qs_11 4 WW_4 rfl (c_X4_requireFold hfl hI ⟨by omega, by omega⟩) (by decide) (Nat.le_of_ble_eq_true rfl) (Nat.le_of_ble_eq_true rfl) (Nat.le_of_ble_eq_true rfl) rfl rfl dX4_fold_2 rfl (k_ck (fun h_2 => ?_)) (k_cx (fun h_2 => g_prop X rx (Nat.le_of_ble_eq_true rfl) (Nat.le_of_ble_eq_true rfl) ⟨⟨S, rfl⟩, Or.inl ⟨rfl, by omega⟩⟩))
  refine g_iload_n (t := 6) X dX4_fold_5 2 rfl rfl ?_
  refine g_iconst (t := 7) X dX4_fold_6 rfl ?_
  refine g_bipush (t := 9) (z := 8) X dX4_fold_7 (by decide +kernel) rfl ?_
  refine g_callS (t := 12) (mc := 0) (ms := 0) (rest := []) X mt_X4_isOutside q2_94 q2_95 (c_X4_isOutside hfl ⟨by omega, by omega⟩ ⟨by omega, by omega⟩ ⟨by omega, by omega⟩) (by decide) (Nat.le_of_ble_eq_true rfl) (Nat.le_of_ble_eq_true rfl) (Nat.le_of_ble_eq_true rfl) rfl rfl dX4_fold_9 rfl (k_rb (fun b_9 => ?_) (fun b_9 => ?_))
  · refine g_if_ne (t := 26) (u := 15) X dX4_fold_12 (by decide) rfl ⟨by omega, by omega⟩ (fun _ => ?_) (fun c => absurd c (by decide))
    exact g_throw X rx (is := 45) (text := "pull is 1 to 8, lean -90 to 90") rfl (by decide +kernel) q2_166 q1_19 (List.mem_of_getElem? (i := 1) rfl) tx_A dX4_fold_26 dX4_fold_29 dX4_fold_30 dX4_fold_32 dX4_fold_35 (Nat.le_of_ble_eq_true rfl) (by decide) (Nat.le_of_ble_eq_true rfl) (Nat.le_of_ble_eq_true rfl) (Nat.le_of_ble_eq_true rfl) (Nat.le_of_ble_eq_true rfl) ⟨⟨S, rfl⟩, Or.inr (Or.inl ⟨rfl, by omega, by omega⟩)⟩
  · refine g_if_ne (t := 26) (u := 15) X dX4_fold_12 (by decide) rfl ⟨by omega, by omega⟩ (fun c => absurd c (by decide)) (fun _ => ?_)
    refine g_iload_n (t := 16) X dX4_fold_15 3 rfl rfl ?_
    refine g_bipush (t := 18) (z := (-90)) X dX4_fold_16 (by decide +kernel) rfl ?_
    refine g_bipush (t := 20) (z := 90) X dX4_fold_18 (by decide +kernel) rfl ?_
    refine g_callS (t := 23) (mc := 0) (ms := 0) (rest := []) X mt_X4_isOutside q2_94 q2_95 (c_X4_isOutside hfl ⟨by omega, by omega⟩ ⟨by omega, by omega⟩ ⟨by omega, by omega⟩) (by decide) (Nat.le_of_ble_eq_true rfl) (Nat.le_of_ble_eq_true rfl) (Nat.le_of_ble_eq_true rfl) rfl rfl dX4_fold_20 rfl (k_rb (fun b_20 => ?_) (fun b_20 => ?_))
    · refine g_if_eq (t := 36) (u := 26) X dX4_fold_23 (by decide) rfl ⟨by omega, by omega⟩ (fun c => absurd c (by decide)) (fun _ => ?_)
      exact g_throw X rx (is := 45) (text := "pull is 1 to 8, lean -90 to 90") rfl (by decide +kernel) q2_166 q1_19 (List.mem_of_getElem? (i := 1) rfl) tx_A dX4_fold_26 dX4_fold_29 dX4_fold_30 dX4_fold_32 dX4_fold_35 (Nat.le_of_ble_eq_true rfl) (by decide) (Nat.le_of_ble_eq_true rfl) (Nat.le_of_ble_eq_true rfl) (Nat.le_of_ble_eq_true rfl) (Nat.le_of_ble_eq_true rfl) ⟨⟨S, rfl⟩, Or.inr (Or.inl ⟨rfl, by omega, by omega⟩)⟩
    · refine g_if_eq (t := 36) (u := 26) X dX4_fold_23 (by decide) rfl ⟨by omega, by omega⟩ (fun _ => ?_) (fun c => absurd c (by decide))
      refine g_aload_n (t := 37) X dX4_fold_36 0 rfl rfl ?_
      refine getf_X4 (t := 40) X 0 (by decide) q1_186 rfl rfl dX4_fold_37 rfl ?_
      refine g_callV (t := 43) (mc := 0) (ms := 0) (rest := []) X mt_Jx4a65c_size_8abf5 q1_210 q1_211 q1_212 3 WW_3 rfl (c_Jx4a65c_size_8abf5 (E := (F.1, F.2.1)) hfl 3 WW_3) (by decide) (Nat.le_of_ble_eq_true rfl) (Nat.le_of_ble_eq_true rfl) (Nat.le_of_ble_eq_true rfl) rfl rfl dX4_fold_40 rfl (k_rv ?_)
      refine g_bipush (t := 45) (z := 12) X dX4_fold_43 (by decide +kernel) rfl ?_
      refine g_icmp_ge (t := 55) (u := 48) X dX4_fold_45 (by decide) rfl ⟨by omega, by omega⟩ ⟨by omega, by omega⟩ (fun c_45 => ?_) (fun c_45 => ?_)
      · exact g_throw X rx (is := 60) (text := "there are 12 folds, or the page is bound") rfl (by decide +kernel) q2_183 q1_22 (List.mem_of_getElem? (i := 2) rfl) tx_S dX4_fold_55 dX4_fold_58 dX4_fold_59 dX4_fold_61 dX4_fold_64 (Nat.le_of_ble_eq_true rfl) (by decide) (Nat.le_of_ble_eq_true rfl) (Nat.le_of_ble_eq_true rfl) (Nat.le_of_ble_eq_true rfl) (Nat.le_of_ble_eq_true rfl) ⟨⟨S, rfl⟩, Or.inr (Or.inr ⟨rfl, by omega, by omega, fun h => by first | exact h.2 b_49 | omega⟩)⟩
      · refine g_aload_n (t := 49) X dX4_fold_48 0 rfl rfl ?_
        refine g_callV (t := 52) (mc := 0) (ms := 0) (rest := []) X mt_X4_isBound q2_182 q2_72 q2_73 4 WW_4 rfl (c_X4_isBound hfl hI hF hR) (by decide) (Nat.le_of_ble_eq_true rfl) (Nat.le_of_ble_eq_true rfl) (Nat.le_of_ble_eq_true rfl) rfl rfl dX4_fold_49 rfl (k_rbz (fun Z49 b_49 => ?_) (fun Z49 b_49 => ?_))
        · refine g_if_eq (t := 65) (u := 55) X dX4_fold_52 (by decide) rfl ⟨by omega, by omega⟩ (fun c => absurd c (by decide)) (fun _ => ?_)
          exact g_throw X rx (is := 60) (text := "there are 12 folds, or the page is bound") rfl (by decide +kernel) q2_183 q1_22 (List.mem_of_getElem? (i := 2) rfl) tx_S dX4_fold_55 dX4_fold_58 dX4_fold_59 dX4_fold_61 dX4_fold_64 (Nat.le_of_ble_eq_true rfl) (by decide) (Nat.le_of_ble_eq_true rfl) (Nat.le_of_ble_eq_true rfl) (Nat.le_of_ble_eq_true rfl) (Nat.le_of_ble_eq_true rfl) ⟨⟨Z49, rfl⟩, Or.inr (Or.inr ⟨rfl, by omega, by omega, fun h => by first | exact h.2 b_49 | omega⟩)⟩
        · refine g_if_eq (t := 65) (u := 55) X dX4_fold_52 (by decide) rfl ⟨by omega, by omega⟩ (fun _ => ?_) (fun c => absurd c (by decide))
          refine g_aload_n (t := 66) X dX4_fold_65 0 rfl rfl ?_
          refine getf_X4 (t := 69) X 0 (by decide) q1_186 rfl rfl dX4_fold_66 rfl ?_
          refine g_new (t := 72) (ci := 5) (fs := [vi 0, .null, vi 0, vi 0, vi 0, vi 0, vi 0]) X inX0 tyX0 tyX0_ok q1_96 q1_97 q1_9 rfl (by decide +kernel) (Nat.le_of_ble_eq_true rfl) (Nat.le_of_ble_eq_true rfl) dX4_fold_69 rfl (fun q => ?_)
          rw [WW_app]
          refine g_dup (t := 73) X dX4_fold_72 rfl rfl ?_
          refine g_aload_n (t := 74) X dX4_fold_73 0 rfl rfl ?_
          refine getf_X4 (t := 77) X 0 (by decide) q1_186 rfl rfl dX4_fold_74 rfl ?_
          refine g_callV (t := 80) (mc := 0) (ms := 0) (rest := [.ref q, .ref q, .ref (ad 3)]) X mt_Jx4a65c_size_8abf5 q1_210 q1_211 q1_212 3 WW_3 rfl (c_Jx4a65c_size_8abf5 (E := (F.1, F.2.1)) hfl 3 WW_3) (by decide) (Nat.le_of_ble_eq_true rfl) (Nat.le_of_ble_eq_true rfl) (Nat.le_of_ble_eq_true rfl) rfl rfl dX4_fold_77 rfl (k_rv ?_)
          refine g_aload_n (t := 81) X dX4_fold_80 0 rfl rfl ?_
          refine getf_X4 (t := 84) X 0 (by decide) q1_186 rfl rfl dX4_fold_81 rfl ?_
          refine g_iload_n (t := 85) X dX4_fold_84 1 rfl rfl ?_
          refine g_callV (t := 88) (mc := 0) (ms := 0) (rest := [vi (Y 3 0), .ref q, .ref q, .ref (ad 3)]) X mt_Jx4a65c_get_915e3 q1_214 q1_215 q1_216 3 WW_3 rfl (c_Jx4a65c_get_915e3 (E := (F.1, F.2.1)) hfl 3 WW_3 5 WW_5 (by omega) (by omega) (by omega) (flF_at (i := f) (by omega) (by omega)) (by omega) (by omega)) (by decide) (Nat.le_of_ble_eq_true rfl) (Nat.le_of_ble_eq_true rfl) (Nat.le_of_ble_eq_true rfl) rfl rfl dX4_fold_85 rfl (k_rv ?_)
          refine g_castS (t := 91) X _ (WW_f (i := f) (by omega) (by omega)) rfl q1_96 dX4_fold_88 rfl ?_
          refine g_iload_n (t := 92) X dX4_fold_91 2 rfl rfl ?_
          refine g_iload_n (t := 93) X dX4_fold_92 3 rfl rfl ?_
          rw [← WW_app]
          refine g_callI (t := 96) (mc := 0) (ms := 0) (rest := [.ref q, .ref (ad 3)]) X mt_X0_init q1_98 q1_99 (by decide +kernel) (c_X0_init_r hfl) (by decide) (Nat.le_of_ble_eq_true rfl) (Nat.le_of_ble_eq_true rfl) (Nat.le_of_ble_eq_true rfl) rfl rfl dX4_fold_93 rfl (k_rn ?_)
          refine g_pm (ws2 := (ad 3, (.inr (4, fAL (F.1, F.2.1) (Y 3 0)) : va_E)) :: (F.2.1, aO C F.2.2 (flF ad (Y 3 0))) :: rF C ad B E Z49 Y g R (q, (.inr (5, [vi (Y 3 0), .ref (fA ad f), vi x, vi y, vi 0, vi 0, vi 0]) : va_E))) pf_in ?_
          refine g_callV (t := 99) (mc := 1) (ms := 22) (rest := []) X mt_Jx4a65c_add_9ea2d q1_127 q1_128 q1_129 0 rfl rfl (c_Jx4a65c_add_9ea2d_1 (E := (F.1, F.2.1)) (n := Y 3 0) (cap := F.2.2) (f := flF ad (Y 3 0)) hfl CI_5 rF_new (by omega) (by omega) (by omega) (by omega) (by omega) (fun i hi => flF_none hi) (fun i hi y9 hy9 => by rw [flF_some hi hy9]; exact rF_at hi)) (by decide) (Nat.le_of_ble_eq_true rfl) (Nat.le_of_ble_eq_true rfl) (Nat.le_of_ble_eq_true rfl) rfl rfl dX4_fold_96 rfl (k_ex (fun x9 hA => ?_))
          have eL := flF_push (by omega) hA
          obtain ⟨el9, cap9, f9⟩ := x9
          have eL : f9 = flF (adF ad (Y 3 0).toNat q) (Y 3 0 + 1) := eL
          subst eL
          refine g_pm (ws2 := WW C (adF ad (Y 3 0).toNat q) B E (F.1 + 1, el9, cap9) (SF Z49 (Y 3 0)) (YF Y f x y) g R) (by rw [WW_fnew hI h_2]; exact pf_out) ?_
          have hC9 : FC (F.1 + 1, el9, cap9) (YF Y f x y) := ⟨⟨hA.1.2.1, hA.1.2.2⟩, show Y 3 0 + 1 ≤ (cap9 : Int) by have h9 : Y 3 0 < (cap9 : Int) := hA.1.1; omega⟩
          have a4 : adF ad (Y 3 0).toNat q 4 = ad 4 := adF_0 (by omega)
          have a3 : adF ad (Y 3 0).toNat q 3 = ad 3 := adF_0 (by omega)
          rw [← a4]
          refine g_pop (t := 100) X dX4_fold_99 rfl rfl ?_
          refine g_aload_n (t := 101) X dX4_fold_100 0 rfl rfl ?_
          refine getf_X4 (t := 104) X 0 (by decide) q1_186 rfl rfl dX4_fold_101 rfl ?_
          refine g_callV (t := 107) (mc := 0) (ms := 0) (rest := []) X mt_Jx4a65c_size_8abf5 q1_210 q1_211 q1_212 3 WW_3 rfl (c_Jx4a65c_size_8abf5 (E := (F.1 + 1, el9)) (n := Y 3 0 + 1) hfl 3 WW_3) (by decide) (Nat.le_of_ble_eq_true rfl) (Nat.le_of_ble_eq_true rfl) (Nat.le_of_ble_eq_true rfl) rfl rfl dX4_fold_104 rfl (k_rv ?_)
          refine g_iconst (t := 108) X dX4_fold_107 rfl ?_
          refine g_isub (t := 109) X dX4_fold_108 rfl ?_
          exact g_iret X r ⟨⟨h_2, by omega, by omega, b_49⟩, adF ad (Y 3 0).toNat q, (F.1 + 1, el9, cap9), SF Z49 (Y 3 0), g, ⟨a4, hC9, hG.fold, fun n => elW_F⟩, by rw [show Y 3 0 + 1 - 1 = Y 3 0 by omega], rfl⟩ (Nat.le_of_ble_eq_true rfl) (Nat.le_of_ble_eq_true rfl) dX4_fold_109

set_option maxHeartbeats 4000000 in
set_option maxRecDepth 100000 in
/-- part(..) -/
theorem c_X4_part {C : WC} {l : Launch} (hfl : l.stackTraces = false) {ad : Nat → Nat} {B : BT} {E : Int × Nat} {F : Int × Nat × Nat} {S Y : Nat → Int → Int} {g : Int → Int} {cap : Nat} {R0 : va_W} {f x y z u e : Int} (hI : MI Y) (hF : FC F Y) (hP : PLF C E cap Y) (hG : SI Y g) (he : e = 0 ∨ e = 1) (hf : Rg f) (hx : Rg x) (hy : Rg y) (hz : Rg z) (hu : Rg u) : MX C l yX4_part cX4_part 7 (some .int) 6 10 80 [.ref (ad 4), vi f, vi x, vi y, vi z, vi u, vi e] (WW C ad B E F S Y g (elW C ad E cap (Y 10 0) ++ R0)) (fun v w => ((0 ≤ f ∧ f < Y 3 0) ∧ ((0 ≤ x ∧ x ≤ 60) ∧ (1 ≤ y ∧ y ≤ 30) ∧ (0 ≤ z ∧ z ≤ 20) ∧ 1 ≤ u ∧ u ≤ 10) ∧ (Y 10 0 ≠ 16 ∧ ¬ boundF Y)) ∧ ∃ (ad' : Nat → Nat) (E' : Int × Nat) (cap' : Nat) (Z : Nat → Int → Int) (h : Int → Int), (ad' 4 = ad 4 ∧ PLF C E' cap' (YP Y f x y z u e) ∧ SI (YP Y f x y z u e) h ∧ FC F (YP Y f x y z u e)) ∧ v = some (vi (Y 10 0)) ∧ w = WW C ad' B E' F Z (YP Y f x y z u e) h (elW C ad' E' cap' ((YP Y f x y z u e) 10 0) ++ R0)) (px3 (0 ≤ f ∧ f < Y 3 0) ((0 ≤ x ∧ x ≤ 60) ∧ (1 ≤ y ∧ y ≤ 30) ∧ (0 ≤ z ∧ z ≤ 20) ∧ 1 ≤ u ∧ u ≤ 10) (Y 10 0 ≠ 16 ∧ ¬ boundF Y) "java/lang/IndexOutOfBoundsException" "java/lang/IllegalArgumentException" "java/lang/IllegalStateException" (fun Z => (WW C ad B E F Z Y g (elW C ad E cap (Y 10 0) ++ R0)))) := by
  refine mx_of (by decide +kernel) (Nat.le_of_ble_eq_true rfl) hfl (fun K Q X r rx => ?_)
  have X : Cx C l "Springleaf" cX4_part 7 6 10 80 K := X
  have I3 := hI.1
  have I10 := hI.2.2.1
  have I12 := hI.2.2.2.2.1
  obtain ⟨⟨F1, F2⟩, F3⟩ := id hF
  obtain ⟨f1, f2⟩ := hf
  obtain ⟨x1, x2⟩ := hx
  obtain ⟨y1, y2⟩ := hy
  obtain ⟨z1, z2⟩ := hz
  obtain ⟨u1, u2⟩ := hu
  have hR : LT ad C E Y (elW C ad E cap (Y 10 0) ++ R0) := hP.lt
  show G C K Q 0 0 0 [(0, .ref (ad 4)), (1, vi f), (2, vi x), (3, vi y), (4, vi z), (5, vi u), (6, vi e)] [] (WW C ad B E F S Y g (elW C ad E cap (Y 10 0) ++ R0))
  refine g_aload_n (t := 1) X dX4_part_0 0 rfl rfl ?_
  refine g_iload_n (t := 2) X dX4_part_1 1 rfl rfl ?_
  refine gx_callV (t := 5) (mc := 1) (ms := 6) (rest := []) X mt_X4_requireFold q2_90 q2_92 qs_11 4 WW_4 rfl (c_X4_requireFold hfl hI ⟨by omega, by omega⟩) (by decide) (Nat.le_of_ble_eq_true rfl) (Nat.le_of_ble_eq_true rfl) (Nat.le_of_ble_eq_true rfl) rfl rfl dX4_part_2 rfl (k_ck (fun h_2 => ?_)) (k_cx (fun h_2 => g_prop X rx (Nat.le_of_ble_eq_true rfl) (Nat.le_of_ble_eq_true rfl) ⟨⟨S, rfl⟩, Or.inl ⟨rfl, by omega⟩⟩))
  refine g_iload_n (t := 6) X dX4_part_5 2 rfl rfl ?_
  refine g_iconst (t := 7) X dX4_part_6 rfl ?_
  refine g_bipush (t := 9) (z := 60) X dX4_part_7 (by decide +kernel) rfl ?_
  refine g_callS (t := 12) (mc := 0) (ms := 0) (rest := []) X mt_X4_isOutside q2_94 q2_95 (c_X4_isOutside hfl ⟨by omega, by omega⟩ ⟨by omega, by omega⟩ ⟨by omega, by omega⟩) (by decide) (Nat.le_of_ble_eq_true rfl) (Nat.le_of_ble_eq_true rfl) (Nat.le_of_ble_eq_true rfl) rfl rfl dX4_part_9 rfl (k_rb (fun b_9 => ?_) (fun b_9 => ?_))
  · refine g_if_ne (t := 37) (u := 15) X dX4_part_12 (by decide) rfl ⟨by omega, by omega⟩ (fun _ => ?_) (fun c => absurd c (by decide))
    exact g_throw X rx (is := 67) (text := "place is 0 to 60, line 0 to 20, lines 1 to 10") rfl (by decide +kernel) q2_166 q1_19 (List.mem_of_getElem? (i := 3) rfl) tx_A dX4_part_37 dX4_part_40 dX4_part_41 dX4_part_43 dX4_part_46 (Nat.le_of_ble_eq_true rfl) (by decide) (Nat.le_of_ble_eq_true rfl) (Nat.le_of_ble_eq_true rfl) (Nat.le_of_ble_eq_true rfl) (Nat.le_of_ble_eq_true rfl) ⟨⟨S, rfl⟩, Or.inr (Or.inl ⟨rfl, by omega, by omega⟩)⟩
  · refine g_if_ne (t := 37) (u := 15) X dX4_part_12 (by decide) rfl ⟨by omega, by omega⟩ (fun c => absurd c (by decide)) (fun _ => ?_)
    refine g_iload (t := 17) X dX4_part_15 4 rfl rfl ?_
    refine g_iconst (t := 18) X dX4_part_17 rfl ?_
    refine g_bipush (t := 20) (z := 20) X dX4_part_18 (by decide +kernel) rfl ?_
    refine g_callS (t := 23) (mc := 0) (ms := 0) (rest := []) X mt_X4_isOutside q2_94 q2_95 (c_X4_isOutside hfl ⟨by omega, by omega⟩ ⟨by omega, by omega⟩ ⟨by omega, by omega⟩) (by decide) (Nat.le_of_ble_eq_true rfl) (Nat.le_of_ble_eq_true rfl) (Nat.le_of_ble_eq_true rfl) rfl rfl dX4_part_20 rfl (k_rb (fun b_20 => ?_) (fun b_20 => ?_))
    · refine g_if_ne (t := 37) (u := 26) X dX4_part_23 (by decide) rfl ⟨by omega, by omega⟩ (fun _ => ?_) (fun c => absurd c (by decide))
      exact g_throw X rx (is := 67) (text := "place is 0 to 60, line 0 to 20, lines 1 to 10") rfl (by decide +kernel) q2_166 q1_19 (List.mem_of_getElem? (i := 3) rfl) tx_A dX4_part_37 dX4_part_40 dX4_part_41 dX4_part_43 dX4_part_46 (Nat.le_of_ble_eq_true rfl) (by decide) (Nat.le_of_ble_eq_true rfl) (Nat.le_of_ble_eq_true rfl) (Nat.le_of_ble_eq_true rfl) (Nat.le_of_ble_eq_true rfl) ⟨⟨S, rfl⟩, Or.inr (Or.inl ⟨rfl, by omega, by omega⟩)⟩
    · refine g_if_ne (t := 37) (u := 26) X dX4_part_23 (by decide) rfl ⟨by omega, by omega⟩ (fun c => absurd c (by decide)) (fun _ => ?_)
      refine g_iload (t := 28) X dX4_part_26 5 rfl rfl ?_
      refine g_iconst (t := 29) X dX4_part_28 rfl ?_
      refine g_bipush (t := 31) (z := 10) X dX4_part_29 (by decide +kernel) rfl ?_
      refine g_callS (t := 34) (mc := 0) (ms := 0) (rest := []) X mt_X4_isOutside q2_94 q2_95 (c_X4_isOutside hfl ⟨by omega, by omega⟩ ⟨by omega, by omega⟩ ⟨by omega, by omega⟩) (by decide) (Nat.le_of_ble_eq_true rfl) (Nat.le_of_ble_eq_true rfl) (Nat.le_of_ble_eq_true rfl) rfl rfl dX4_part_31 rfl (k_rb (fun b_31 => ?_) (fun b_31 => ?_))
      · refine g_if_eq (t := 47) (u := 37) X dX4_part_34 (by decide) rfl ⟨by omega, by omega⟩ (fun c => absurd c (by decide)) (fun _ => ?_)
        exact g_throw X rx (is := 67) (text := "place is 0 to 60, line 0 to 20, lines 1 to 10") rfl (by decide +kernel) q2_166 q1_19 (List.mem_of_getElem? (i := 3) rfl) tx_A dX4_part_37 dX4_part_40 dX4_part_41 dX4_part_43 dX4_part_46 (Nat.le_of_ble_eq_true rfl) (by decide) (Nat.le_of_ble_eq_true rfl) (Nat.le_of_ble_eq_true rfl) (Nat.le_of_ble_eq_true rfl) (Nat.le_of_ble_eq_true rfl) ⟨⟨S, rfl⟩, Or.inr (Or.inl ⟨rfl, by omega, by omega⟩)⟩
      · refine g_if_eq (t := 47) (u := 37) X dX4_part_34 (by decide) rfl ⟨by omega, by omega⟩ (fun _ => ?_) (fun c => absurd c (by decide))
        refine g_iload_n (t := 48) X dX4_part_47 3 rfl rfl ?_
        refine gx_callS (t := 51) (mc := 1) (ms := 6) (rest := []) X mt_X4_requireLength q2_207 q2_208 (c_X4_requireLength hfl ⟨by omega, by omega⟩) (by decide) (Nat.le_of_ble_eq_true rfl) (Nat.le_of_ble_eq_true rfl) (Nat.le_of_ble_eq_true rfl) rfl rfl dX4_part_48 rfl (k_ck (fun h_48 => ?_)) (k_cx (fun h_48 => g_prop X rx (Nat.le_of_ble_eq_true rfl) (Nat.le_of_ble_eq_true rfl) ⟨⟨S, rfl⟩, Or.inr (Or.inl ⟨rfl, by omega, by omega⟩)⟩))
        refine g_aload_n (t := 52) X dX4_part_51 0 rfl rfl ?_
        refine getf_X4 (t := 55) X 1 (by decide) q1_187 rfl rfl dX4_part_52 rfl ?_
        refine g_callV (t := 58) (mc := 0) (ms := 0) (rest := []) X mt_Jx4a65c_size_8abf5 q1_210 q1_211 q1_212 2 WW_2 rfl (c_Jx4a65c_size_8abf5 (E := E) hfl 2 WW_2) (by decide) (Nat.le_of_ble_eq_true rfl) (Nat.le_of_ble_eq_true rfl) (Nat.le_of_ble_eq_true rfl) rfl rfl dX4_part_55 rfl (k_rv ?_)
        refine g_bipush (t := 60) (z := 16) X dX4_part_58 (by decide +kernel) rfl ?_
        refine g_icmp_ge (t := 70) (u := 63) X dX4_part_60 (by decide) rfl ⟨by omega, by omega⟩ ⟨by omega, by omega⟩ (fun c_60 => ?_) (fun c_60 => ?_)
        · exact g_throw X rx (is := 72) (text := "there are 16 parts, or the page is bound") rfl (by decide +kernel) q2_183 q1_22 (List.mem_of_getElem? (i := 5) rfl) tx_S dX4_part_70 dX4_part_73 dX4_part_74 dX4_part_76 dX4_part_79 (Nat.le_of_ble_eq_true rfl) (by decide) (Nat.le_of_ble_eq_true rfl) (Nat.le_of_ble_eq_true rfl) (Nat.le_of_ble_eq_true rfl) (Nat.le_of_ble_eq_true rfl) ⟨⟨S, rfl⟩, Or.inr (Or.inr ⟨rfl, by omega, by omega, fun h => by first | exact h.2 b_64 | omega⟩)⟩
        · refine g_aload_n (t := 64) X dX4_part_63 0 rfl rfl ?_
          refine g_callV (t := 67) (mc := 0) (ms := 0) (rest := []) X mt_X4_isBound q2_182 q2_72 q2_73 4 WW_4 rfl (c_X4_isBound hfl hI hF hR) (by decide) (Nat.le_of_ble_eq_true rfl) (Nat.le_of_ble_eq_true rfl) (Nat.le_of_ble_eq_true rfl) rfl rfl dX4_part_64 rfl (k_rbz (fun Z64 b_64 => ?_) (fun Z64 b_64 => ?_))
          · refine g_if_eq (t := 80) (u := 70) X dX4_part_67 (by decide) rfl ⟨by omega, by omega⟩ (fun c => absurd c (by decide)) (fun _ => ?_)
            exact g_throw X rx (is := 72) (text := "there are 16 parts, or the page is bound") rfl (by decide +kernel) q2_183 q1_22 (List.mem_of_getElem? (i := 5) rfl) tx_S dX4_part_70 dX4_part_73 dX4_part_74 dX4_part_76 dX4_part_79 (Nat.le_of_ble_eq_true rfl) (by decide) (Nat.le_of_ble_eq_true rfl) (Nat.le_of_ble_eq_true rfl) (Nat.le_of_ble_eq_true rfl) (Nat.le_of_ble_eq_true rfl) ⟨⟨Z64, rfl⟩, Or.inr (Or.inr ⟨rfl, by omega, by omega, fun h => by first | exact h.2 b_64 | omega⟩)⟩
          · refine g_if_eq (t := 80) (u := 70) X dX4_part_67 (by decide) rfl ⟨by omega, by omega⟩ (fun _ => ?_) (fun c => absurd c (by decide))
            refine g_aload_n (t := 81) X dX4_part_80 0 rfl rfl ?_
            refine getf_X4 (t := 84) X 1 (by decide) q1_187 rfl rfl dX4_part_81 rfl ?_
            refine g_new (t := 87) (ci := 6) (fs := [.null, vi 0, vi 0, vi 0, vi 0, vi 0, vi 0, vi 0, vi 0, vi 0, vi 0, vi 0]) X inX3 tyX3 tyX3_ok q2_5 q2_212 q1_23 rfl (by decide +kernel) (Nat.le_of_ble_eq_true rfl) (Nat.le_of_ble_eq_true rfl) dX4_part_84 rfl (fun q => ?_)
            rw [WW_app]
            refine g_dup (t := 88) X dX4_part_87 rfl rfl ?_
            refine g_aload_n (t := 89) X dX4_part_88 0 rfl rfl ?_
            refine getf_X4 (t := 92) X 0 (by decide) q1_186 rfl rfl dX4_part_89 rfl ?_
            refine g_iload_n (t := 93) X dX4_part_92 1 rfl rfl ?_
            refine g_callV (t := 96) (mc := 0) (ms := 0) (rest := [.ref q, .ref q, .ref (ad 2)]) X mt_Jx4a65c_get_915e3 q1_214 q1_215 q1_216 3 WW_3 rfl (c_Jx4a65c_get_915e3 (E := (F.1, F.2.1)) hfl 3 WW_3 5 WW_5 (by omega) (by omega) (by omega) (flF_at (i := f) (by omega) (by omega)) (by omega) (by omega)) (by decide) (Nat.le_of_ble_eq_true rfl) (Nat.le_of_ble_eq_true rfl) (Nat.le_of_ble_eq_true rfl) rfl rfl dX4_part_93 rfl (k_rv ?_)
            refine g_castS (t := 99) X _ (WW_f (i := f) (by omega) (by omega)) rfl q1_96 dX4_part_96 rfl ?_
            refine g_iload_n (t := 100) X dX4_part_99 2 rfl rfl ?_
            refine g_iload_n (t := 101) X dX4_part_100 3 rfl rfl ?_
            refine g_iload (t := 103) X dX4_part_101 4 rfl rfl ?_
            refine g_iload (t := 105) X dX4_part_103 5 rfl rfl ?_
            refine g_iload (t := 107) X dX4_part_105 6 rfl rfl ?_
            rw [← WW_app]
            refine g_callI (t := 110) (mc := 0) (ms := 0) (rest := [.ref q, .ref (ad 2)]) X mt_X3_init q2_213 q2_214 (by decide +kernel) (c_X3_init hfl he) (by decide) (Nat.le_of_ble_eq_true rfl) (Nat.le_of_ble_eq_true rfl) (Nat.le_of_ble_eq_true rfl) rfl rfl dX4_part_107 rfl (k_rn ?_)
            rcases Int.lt_or_eq_of_le I10.1 with hn | hn
            · obtain ⟨⟨g1, g2⟩, g3⟩ := hP.2 hn
              have eE : elW C ad E cap (Y 10 0) = [(E.2, aO C cap (plF ad (Y 10 0)))] := if_neg (by omega)
              rw [eE]
              refine g_pm (ws2 := (ad 2, (.inr (4, fAL E (Y 10 0)) : va_E)) :: (E.2, aO C cap (plF ad (Y 10 0))) :: rP C ad B F Z64 Y g R0 (q, (.inr (6, [.ref (fA ad f), vi x, vi z, vi u, vi e, vi y, vi (-1), vi 0, vi 0, vi 0, vi 0, vi 0]) : va_E))) pp_in ?_
              refine g_callV (t := 113) (mc := 1) (ms := 22) (rest := []) X mt_Jx4a65c_add_9ea2d q1_127 q1_128 q1_129 0 rfl rfl (c_Jx4a65c_add_9ea2d_1 (E := E) (n := Y 10 0) (cap := cap) (f := plF ad (Y 10 0)) hfl CI_6 rP_new (by omega) (by omega) (by omega) (by omega) (by omega) (fun i hi => plF_none hi) (fun i hi y9 hy9 => by rw [plF_some hi hy9]; exact rP_at hi)) (by decide) (Nat.le_of_ble_eq_true rfl) (Nat.le_of_ble_eq_true rfl) (Nat.le_of_ble_eq_true rfl) rfl rfl dX4_part_110 rfl (k_ex (fun x9 hA => ?_))
              have eL := plF_push (by omega) hA
              obtain ⟨el9, cap9, f9⟩ := x9
              have eL : f9 = plF (adP ad (Y 10 0).toNat q) (Y 10 0 + 1) := eL
              subst eL
              have eE2 : elW C (adP ad (Y 10 0).toNat q) (E.1 + 1, el9) cap9 ((YP Y f x y z u e) 10 0) = [(el9, aO C cap9 (plF (adP ad (Y 10 0).toNat q) (Y 10 0 + 1)))] := if_neg (by rw [YP_10]; omega)
              refine g_pm (ws2 := WW C (adP ad (Y 10 0).toNat q) B (E.1 + 1, el9) F (SP Z64 (Y 10 0)) (YP Y f x y z u e) (uI g (Y 10 0) (-1)) (elW C (adP ad (Y 10 0).toNat q) (E.1 + 1, el9) cap9 ((YP Y f x y z u e) 10 0) ++ R0)) (by rw [WW_pnew hI, eE2]; exact pp_out) ?_
              have hP9 : PLF C (E.1 + 1, el9) cap9 (YP Y f x y z u e) := ⟨fun h => by rw [YP_10] at h; omega, fun _ => ⟨⟨hA.1.2.1, hA.1.2.2⟩, show Y 10 0 + 1 ≤ (cap9 : Int) by have h9 : Y 10 0 < (cap9 : Int) := hA.1.1; omega⟩⟩
              have a4 : adP ad (Y 10 0).toNat q 4 = ad 4 := adP_0 (by omega)
              rw [← a4]
              refine g_pop (t := 114) X dX4_part_113 rfl rfl ?_
              refine g_aload_n (t := 115) X dX4_part_114 0 rfl rfl ?_
              refine getf_X4 (t := 118) X 1 (by decide) q1_187 rfl rfl dX4_part_115 rfl ?_
              refine g_callV (t := 121) (mc := 0) (ms := 0) (rest := []) X mt_Jx4a65c_size_8abf5 q1_210 q1_211 q1_212 2 WW_2 rfl (c_Jx4a65c_size_8abf5 (E := (E.1 + 1, el9)) (n := Y 10 0 + 1) hfl 2 WW_2) (by decide) (Nat.le_of_ble_eq_true rfl) (Nat.le_of_ble_eq_true rfl) (Nat.le_of_ble_eq_true rfl) rfl rfl dX4_part_118 rfl (k_rv ?_)
              refine g_iconst (t := 122) X dX4_part_121 rfl ?_
              refine g_isub (t := 123) X dX4_part_122 rfl ?_
              exact g_iret X r ⟨⟨h_2, by omega, by omega, b_64⟩, adP ad (Y 10 0).toNat q, (E.1 + 1, el9), cap9, SP Z64 (Y 10 0), uI g (Y 10 0) (-1), ⟨a4, hP9, hG.part hI, hF⟩, by rw [show Y 10 0 + 1 - 1 = Y 10 0 by omega], rfl⟩ (Nat.le_of_ble_eq_true rfl) (Nat.le_of_ble_eq_true rfl) dX4_part_123
            · have eE : elW C ad E cap (Y 10 0) = [] := if_pos (by omega)
              rw [eE]
              have e10 : fAL E (Y 10 0) = fAL E 0 := by rw [← hn]
              refine g_pm (ws2 := (ad 2, (.inr (4, fAL E 0) : va_E)) :: rP C ad B F Z64 Y g R0 (q, (.inr (6, [.ref (fA ad f), vi x, vi z, vi u, vi e, vi y, vi (-1), vi 0, vi 0, vi 0, vi 0, vi 0]) : va_E))) (by rw [← e10]; exact pp_in0) ?_
              refine g_callV (t := 113) (mc := 1) (ms := 22) (rest := []) X mt_Jx4a65c_add_9ea2d q1_127 q1_128 q1_129 0 rfl rfl (c_Jx4a65c_add_9ea2d_0 (E := E) (f := plF ad (Y 10 0)) hfl CI_6 rP_new (hP.1 hn.symm)) (by decide) (Nat.le_of_ble_eq_true rfl) (Nat.le_of_ble_eq_true rfl) (Nat.le_of_ble_eq_true rfl) rfl rfl dX4_part_110 rfl (k_ex (fun x9 hA => ?_))
              have hA : AddP (plF ad (Y 10 0)) (Y 10 0) q x9 := hn ▸ hA
              have eL := plF_push (by omega) hA
              obtain ⟨el9, cap9, f9⟩ := x9
              have eL : f9 = plF (adP ad (Y 10 0).toNat q) (Y 10 0 + 1) := eL
              subst eL
              have eE2 : elW C (adP ad (Y 10 0).toNat q) (E.1 + 1, el9) cap9 ((YP Y f x y z u e) 10 0) = [(el9, aO C cap9 (plF (adP ad (Y 10 0).toNat q) (Y 10 0 + 1)))] := if_neg (by rw [YP_10]; omega)
              have e9 : fAL (E.1 + 1, el9) (0 + 1) = fAL (E.1 + 1, el9) (Y 10 0 + 1) := by rw [← hn]
              refine g_pm (ws2 := WW C (adP ad (Y 10 0).toNat q) B (E.1 + 1, el9) F (SP Z64 (Y 10 0)) (YP Y f x y z u e) (uI g (Y 10 0) (-1)) (elW C (adP ad (Y 10 0).toNat q) (E.1 + 1, el9) cap9 ((YP Y f x y z u e) 10 0) ++ R0)) (by rw [WW_pnew hI, eE2]; show List.Perm _ ((ad 2, (.inr (4, fAL (E.1 + 1, el9) (0 + 1)) : va_E)) :: _); rw [e9]; exact pp_out) ?_
              have hP9 : PLF C (E.1 + 1, el9) cap9 (YP Y f x y z u e) := ⟨fun h => by rw [YP_10] at h; omega, fun _ => ⟨⟨hA.1.2.1, hA.1.2.2⟩, show Y 10 0 + 1 ≤ (cap9 : Int) by have h9 : Y 10 0 < (cap9 : Int) := hA.1.1; omega⟩⟩
              have a4 : adP ad (Y 10 0).toNat q 4 = ad 4 := adP_0 (by omega)
              rw [← a4]
              refine g_pop (t := 114) X dX4_part_113 rfl rfl ?_
              refine g_aload_n (t := 115) X dX4_part_114 0 rfl rfl ?_
              refine getf_X4 (t := 118) X 1 (by decide) q1_187 rfl rfl dX4_part_115 rfl ?_
              refine g_callV (t := 121) (mc := 0) (ms := 0) (rest := []) X mt_Jx4a65c_size_8abf5 q1_210 q1_211 q1_212 2 WW_2 rfl (c_Jx4a65c_size_8abf5 (E := (E.1 + 1, el9)) (n := Y 10 0 + 1) hfl 2 WW_2) (by decide) (Nat.le_of_ble_eq_true rfl) (Nat.le_of_ble_eq_true rfl) (Nat.le_of_ble_eq_true rfl) rfl rfl dX4_part_118 rfl (k_rv ?_)
              refine g_iconst (t := 122) X dX4_part_121 rfl ?_
              refine g_isub (t := 123) X dX4_part_122 rfl ?_
              exact g_iret X r ⟨⟨h_2, by omega, by omega, b_64⟩, adP ad (Y 10 0).toNat q, (E.1 + 1, el9), cap9, SP Z64 (Y 10 0), uI g (Y 10 0) (-1), ⟨a4, hP9, hG.part hI, hF⟩, by rw [show Y 10 0 + 1 - 1 = Y 10 0 by omega], rfl⟩ (Nat.le_of_ble_eq_true rfl) (Nat.le_of_ble_eq_true rfl) dX4_part_123

