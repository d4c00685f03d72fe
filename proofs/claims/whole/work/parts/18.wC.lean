/-! the component: 0 its builder of text and 1 the bytes, 2 the list of parts, 3 the list of folds, 4 itself, 5 the elements of the list of folds; then the folds, the parts, the rest. B: the bytes' address, their number, the bytes, how many count, a mark; E: the list of parts' count of changes and its elements' address; F: the same of the folds, and how many elements; S: what folds and parts hold for a while (0 angle, 1 pulled, 2 growth; 4 sheet, 5 left, 6 top, 7 shelf's height, 8 filled; 9 sheets' number); g the parts' steps; ad (2 i + 101) a fold's address, (2 p + 100) a part's -/
abbrev BT : Type := Nat × Nat × (Int → Int) × Int × Int
def fSB (B : BT) : List Value := [.ref B.1, vi 0, vi B.2.2.2.2, vi B.2.2.2.1]
def fAL (E : Int × Nat) (n : Int) : List Value := [vi E.1, .ref E.2, vi n]
def fA (ad : Nat → Nat) (i : Int) : Nat := ad (2 * i.toNat + 101)
def pA (ad : Nat → Nat) (p : Int) : Nat := ad (2 * p.toNat + 100)
def onV (ad : Nat → Nat) (Y : Nat → Int → Int) (i : Int) : Value := if i ≤ 0 then .null else .ref (fA ad (Y 0 i))
theorem on_0 {ad : Nat → Nat} {Y : Nat → Int → Int} {i : Int} (h : i ≤ 0) : onV ad Y i = .null := if_pos h
theorem on_p {ad : Nat → Nat} {Y : Nat → Int → Int} {i : Int} (h : 1 ≤ i) : onV ad Y i = .ref (fA ad (Y 0 i)) := if_neg (by omega)
def fFd (ad : Nat → Nat) (S Y : Nat → Int → Int) (i : Int) : List Value := [vi i, onV ad Y i, vi (Y 1 i), vi (Y 2 i), vi (S 0 i), vi (S 1 i), vi (S 2 i)]
def fPa (ad : Nat → Nat) (S Y : Nat → Int → Int) (g : Int → Int) (p : Int) : List Value := [.ref (fA ad (Y 4 p)), vi (Y 5 p), vi (Y 7 p), vi (Y 8 p), vi (Y 9 p), vi (Y 6 p), vi (g p), vi (S 4 p), vi (S 5 p), vi (S 6 p), vi (S 7 p), vi (S 8 p)]
def fSp (ad : Nat → Nat) (S Y : Nat → Int → Int) : List Value := [.ref (ad 3), .ref (ad 2), .ref (ad 0), vi (Y 12 0), vi (S 9 0)]
def flF (ad : Nat → Nat) (n : Int) : Nat → Option Nat := fun j => if (j : Int) < n then some (fA ad (j : Int)) else none
theorem flF_at {ad : Nat → Nat} {n i : Int} (i0 : 0 ≤ i) (i1 : i < n) : flF ad n i.toNat = some (fA ad i) := by
  unfold flF
  rw [Int.toNat_of_nonneg i0, if_pos i1]
def cF (ad : Nat → Nat) (S Y : Nat → Int → Int) (i : Int) : Nat × va_E := (fA ad i, .inr (5, fFd ad S Y i))
def cP (ad : Nat → Nat) (S Y : Nat → Int → Int) (g : Int → Int) (p : Int) : Nat × va_E := (pA ad p, .inr (6, fPa ad S Y g p))
def mpW (f : Int → Nat × va_E) (n : Nat) : va_W := (List.range n).map (fun j : Nat => f (j : Int))
theorem mp_len (f : Int → Nat × va_E) (n : Nat) : (mpW f n).length = n := by simp [mpW]
theorem mp_at {f : Int → Nat × va_E} {n : Nat} {i : Int} (i0 : 0 ≤ i) (i1 : i < n) (T : va_W) : (mpW f n ++ T)[i.toNat]? = some (f i) := by
  have h : i.toNat < n := by omega
  rw [List.getElem?_append_left (by rw [mp_len]; exact h)]
  simp only [mpW, List.getElem?_map, List.getElem?_range h, Option.map_some, Int.toNat_of_nonneg i0]
theorem mp_after (f : Int → Nat × va_E) (n k : Nat) (T : va_W) : (mpW f n ++ T)[k + n]? = T[k]? := by
  rw [List.getElem?_append_right (by rw [mp_len]; exact Nat.le_add_left _ _), mp_len, Nat.add_sub_cancel]
theorem mp_sets (f : Int → Nat × va_E) (n k : Nat) (T : va_W) (x : Nat × va_E) : (mpW f n ++ T).set (k + n) x = mpW f n ++ T.set k x := by
  rw [List.set_append_right _ _ (by rw [mp_len]; exact Nat.le_add_left _ _), mp_len, Nat.add_sub_cancel]
theorem mp_set {f f' : Int → Nat × va_E} {n : Nat} {i : Int} {x : Nat × va_E} (i0 : 0 ≤ i) (i1 : i < n) (hx : f' i = x) (ho : ∀ j, j ≠ i → f' j = f j) (T : va_W) : (mpW f n ++ T).set i.toNat x = mpW f' n ++ T := by
  have h : i.toNat < n := by omega
  rw [List.set_append_left _ _ (by rw [mp_len]; exact h)]
  congr 1
  apply List.ext_getElem?
  intro j
  by_cases e : j = i.toNat
  · subst e
    rw [List.getElem?_set_self (by rw [mp_len]; exact h)]
    simp only [mpW, List.getElem?_map, List.getElem?_range h, Option.map_some, Int.toNat_of_nonneg i0, hx]
  · rw [List.getElem?_set_ne (Ne.symm e)]
    by_cases hj : j < n
    · simp only [mpW, List.getElem?_map, List.getElem?_range hj, Option.map_some]
      rw [ho _ (by omega)]
    · simp only [mpW, List.getElem?_map, List.getElem?_eq_none (show (List.range n).length ≤ j by rw [List.length_range]; omega), Option.map_none]
theorem mp_push {f f' : Int → Nat × va_E} (n : Nat) (h : ∀ i : Int, 0 ≤ i → i < n → f' i = f i) : mpW f' (n + 1) = mpW f n ++ [f' (n : Int)] := by
  unfold mpW
  rw [List.range_succ, List.map_append]
  congr 1
  apply List.map_congr_left
  intro i hi
  have hi2 := List.mem_range.mp hi
  exact h _ (by omega) (by omega)
def wC (C : WC) (ad : Nat → Nat) (B : BT) (E : Int × Nat) (F : Int × Nat × Nat) (S Y : Nat → Int → Int) : va_W := [(ad 0, .inr (1, fSB B)), (B.1, aB C B.2.1 B.2.2.1), (ad 2, .inr (4, fAL E (Y 10 0))), (ad 3, .inr (4, fAL (F.1, F.2.1) (Y 3 0))), (ad 4, .inr (7, fSp ad S Y)), (F.2.1, aO C F.2.2 (flF ad (Y 3 0)))]
def WW (C : WC) (ad : Nat → Nat) (B : BT) (E : Int × Nat) (F : Int × Nat × Nat) (S Y : Nat → Int → Int) (g : Int → Int) (R : va_W) : va_W := wC C ad B E F S Y ++ (mpW (cF ad S Y) (Y 3 0).toNat ++ (mpW (cP ad S Y g) (Y 10 0).toNat ++ R))
section WCs
variable {C : WC} {ad : Nat → Nat} {B : BT} {E : Int × Nat} {F : Int × Nat × Nat} {S Y : Nat → Int → Int} {g : Int → Int} {R : va_W}
theorem WW_0 : (WW C ad B E F S Y g R)[0]? = some (ad 0, .inr (1, fSB B)) := rfl
theorem WW_1 : (WW C ad B E F S Y g R)[1]? = some (B.1, aB C B.2.1 B.2.2.1) := rfl
theorem WW_2 : (WW C ad B E F S Y g R)[2]? = some (ad 2, .inr (4, fAL E (Y 10 0))) := rfl
theorem WW_3 : (WW C ad B E F S Y g R)[3]? = some (ad 3, .inr (4, fAL (F.1, F.2.1) (Y 3 0))) := rfl
theorem WW_4 : (WW C ad B E F S Y g R)[4]? = some (ad 4, .inr (7, fSp ad S Y)) := rfl
theorem WW_5 : (WW C ad B E F S Y g R)[5]? = some (F.2.1, aO C F.2.2 (flF ad (Y 3 0))) := rfl
theorem WW_R6 {k : Nat} {T : va_W} : (wC C ad B E F S Y ++ T)[k + 6]? = T[k]? := rfl
theorem WW_f {i : Int} (i0 : 0 ≤ i) (i1 : i < Y 3 0) : (WW C ad B E F S Y g R)[i.toNat + 6]? = some (fA ad i, .inr (5, fFd ad S Y i)) := WW_R6.trans (mp_at (f := cF ad S Y) i0 (by omega) _)
theorem WW_p {p : Int} (p0 : 0 ≤ p) (p1 : p < Y 10 0) : (WW C ad B E F S Y g R)[p.toNat + (Y 3 0).toNat + 6]? = some (pA ad p, .inr (6, fPa ad S Y g p)) := WW_R6.trans ((mp_after _ _ _ _).trans (mp_at (f := cP ad S Y g) p0 (by omega) _))
theorem WW_t {k : Nat} {x : Nat × va_E} (h : R[k]? = some x) : (WW C ad B E F S Y g R)[k + (Y 10 0).toNat + (Y 3 0).toNat + 6]? = some x := WW_R6.trans ((mp_after _ _ _ _).trans ((mp_after _ _ _ _).trans h))
theorem WW_f_3 {v : Int} : (WW C ad B E F S Y g R).set 4 (ad 4, .inr (7, (fSp ad S Y).set 3 (vi v))) = WW C ad B E F S (u2 Y 12 0 v) g R := rfl
theorem WW_f_4 {v : Int} : (WW C ad B E F S Y g R).set 4 (ad 4, .inr (7, (fSp ad S Y).set 4 (vi v))) = WW C ad B E F (u2 S 9 0 v) Y g R := rfl
theorem WW_sf0 {i v : Int} (i0 : 0 ≤ i) (i1 : i < Y 3 0) : (WW C ad B E F S Y g R).set (i.toNat + 6) (fA ad i, .inr (5, (fFd ad S Y i).set 4 (vi v))) = WW C ad B E F (u2 S 0 i v) Y g R := by
  show wC C ad B E F S Y ++ (mpW (cF ad S Y) (Y 3 0).toNat ++ _).set i.toNat _ = _
  rw [mp_set (f' := cF ad (u2 S 0 i v) Y) i0 (by omega) (by
    show (fA ad i, (.inr (5, [vi i, onV ad Y i, vi (Y 1 i), vi (Y 2 i), vi (uI (S 0) i v i), vi (S 1 i), vi (S 2 i)]) : va_E)) = _
    rw [uI_s]; rfl) (fun j hj => by
    show (fA ad j, (.inr (5, [vi j, onV ad Y j, vi (Y 1 j), vi (Y 2 j), vi (uI (S 0) i v j), vi (S 1 j), vi (S 2 j)]) : va_E)) = _
    rw [uI_n _ _ hj]; rfl)]
  rfl
theorem WW_sf1 {i v : Int} (i0 : 0 ≤ i) (i1 : i < Y 3 0) : (WW C ad B E F S Y g R).set (i.toNat + 6) (fA ad i, .inr (5, (fFd ad S Y i).set 5 (vi v))) = WW C ad B E F (u2 S 1 i v) Y g R := by
  show wC C ad B E F S Y ++ (mpW (cF ad S Y) (Y 3 0).toNat ++ _).set i.toNat _ = _
  rw [mp_set (f' := cF ad (u2 S 1 i v) Y) i0 (by omega) (by
    show (fA ad i, (.inr (5, [vi i, onV ad Y i, vi (Y 1 i), vi (Y 2 i), vi (S 0 i), vi (uI (S 1) i v i), vi (S 2 i)]) : va_E)) = _
    rw [uI_s]; rfl) (fun j hj => by
    show (fA ad j, (.inr (5, [vi j, onV ad Y j, vi (Y 1 j), vi (Y 2 j), vi (S 0 j), vi (uI (S 1) i v j), vi (S 2 j)]) : va_E)) = _
    rw [uI_n _ _ hj]; rfl)]
  rfl
theorem WW_sf2 {i v : Int} (i0 : 0 ≤ i) (i1 : i < Y 3 0) : (WW C ad B E F S Y g R).set (i.toNat + 6) (fA ad i, .inr (5, (fFd ad S Y i).set 6 (vi v))) = WW C ad B E F (u2 S 2 i v) Y g R := by
  show wC C ad B E F S Y ++ (mpW (cF ad S Y) (Y 3 0).toNat ++ _).set i.toNat _ = _
  rw [mp_set (f' := cF ad (u2 S 2 i v) Y) i0 (by omega) (by
    show (fA ad i, (.inr (5, [vi i, onV ad Y i, vi (Y 1 i), vi (Y 2 i), vi (S 0 i), vi (S 1 i), vi (uI (S 2) i v i)]) : va_E)) = _
    rw [uI_s]; rfl) (fun j hj => by
    show (fA ad j, (.inr (5, [vi j, onV ad Y j, vi (Y 1 j), vi (Y 2 j), vi (S 0 j), vi (S 1 j), vi (uI (S 2) i v j)]) : va_E)) = _
    rw [uI_n _ _ hj]; rfl)]
  rfl
theorem WW_sp5 {p v : Int} (p0 : 0 ≤ p) (p1 : p < Y 10 0) : (WW C ad B E F S Y g R).set (p.toNat + (Y 3 0).toNat + 6) (pA ad p, .inr (6, (fPa ad S Y g p).set 5 (vi v))) = WW C ad B E F S (u2 Y 6 p v) g R := by
  show wC C ad B E F S Y ++ (mpW (cF ad S Y) (Y 3 0).toNat ++ _).set (p.toNat + (Y 3 0).toNat) _ = _
  rw [mp_sets, mp_set (f' := cP ad S (u2 Y 6 p v) g) p0 (by omega) (by
    show (pA ad p, (.inr (6, [.ref (fA ad (Y 4 p)), vi (Y 5 p), vi (Y 7 p), vi (Y 8 p), vi (Y 9 p), vi (uI (Y 6) p v p), vi (g p), vi (S 4 p), vi (S 5 p), vi (S 6 p), vi (S 7 p), vi (S 8 p)]) : va_E)) = _
    rw [uI_s]; rfl) (fun j hj => by
    show (pA ad j, (.inr (6, [.ref (fA ad (Y 4 j)), vi (Y 5 j), vi (Y 7 j), vi (Y 8 j), vi (Y 9 j), vi (uI (Y 6) p v j), vi (g j), vi (S 4 j), vi (S 5 j), vi (S 6 j), vi (S 7 j), vi (S 8 j)]) : va_E)) = _
    rw [uI_n _ _ hj]; rfl)]
  rfl
theorem WW_sp6 {p v : Int} (p0 : 0 ≤ p) (p1 : p < Y 10 0) : (WW C ad B E F S Y g R).set (p.toNat + (Y 3 0).toNat + 6) (pA ad p, .inr (6, (fPa ad S Y g p).set 6 (vi v))) = WW C ad B E F S Y (uI g p v) R := by
  show wC C ad B E F S Y ++ (mpW (cF ad S Y) (Y 3 0).toNat ++ _).set (p.toNat + (Y 3 0).toNat) _ = _
  rw [mp_sets, mp_set (f' := cP ad S Y (uI g p v)) p0 (by omega) (by
    show (pA ad p, (.inr (6, [.ref (fA ad (Y 4 p)), vi (Y 5 p), vi (Y 7 p), vi (Y 8 p), vi (Y 9 p), vi (Y 6 p), vi (uI g p v p), vi (S 4 p), vi (S 5 p), vi (S 6 p), vi (S 7 p), vi (S 8 p)]) : va_E)) = _
    rw [uI_s]; rfl) (fun j hj => by
    show (pA ad j, (.inr (6, [.ref (fA ad (Y 4 j)), vi (Y 5 j), vi (Y 7 j), vi (Y 8 j), vi (Y 9 j), vi (Y 6 j), vi (uI g p v j), vi (S 4 j), vi (S 5 j), vi (S 6 j), vi (S 7 j), vi (S 8 j)]) : va_E)) = _
    rw [uI_n _ _ hj]; rfl)]
  rfl
theorem WW_sp7 {p v : Int} (p0 : 0 ≤ p) (p1 : p < Y 10 0) : (WW C ad B E F S Y g R).set (p.toNat + (Y 3 0).toNat + 6) (pA ad p, .inr (6, (fPa ad S Y g p).set 7 (vi v))) = WW C ad B E F (u2 S 4 p v) Y g R := by
  show wC C ad B E F S Y ++ (mpW (cF ad S Y) (Y 3 0).toNat ++ _).set (p.toNat + (Y 3 0).toNat) _ = _
  rw [mp_sets, mp_set (f' := cP ad (u2 S 4 p v) Y g) p0 (by omega) (by
    show (pA ad p, (.inr (6, [.ref (fA ad (Y 4 p)), vi (Y 5 p), vi (Y 7 p), vi (Y 8 p), vi (Y 9 p), vi (Y 6 p), vi (g p), vi (uI (S 4) p v p), vi (S 5 p), vi (S 6 p), vi (S 7 p), vi (S 8 p)]) : va_E)) = _
    rw [uI_s]; rfl) (fun j hj => by
    show (pA ad j, (.inr (6, [.ref (fA ad (Y 4 j)), vi (Y 5 j), vi (Y 7 j), vi (Y 8 j), vi (Y 9 j), vi (Y 6 j), vi (g j), vi (uI (S 4) p v j), vi (S 5 j), vi (S 6 j), vi (S 7 j), vi (S 8 j)]) : va_E)) = _
    rw [uI_n _ _ hj]; rfl)]
  rfl
theorem WW_sp8 {p v : Int} (p0 : 0 ≤ p) (p1 : p < Y 10 0) : (WW C ad B E F S Y g R).set (p.toNat + (Y 3 0).toNat + 6) (pA ad p, .inr (6, (fPa ad S Y g p).set 8 (vi v))) = WW C ad B E F (u2 S 5 p v) Y g R := by
  show wC C ad B E F S Y ++ (mpW (cF ad S Y) (Y 3 0).toNat ++ _).set (p.toNat + (Y 3 0).toNat) _ = _
  rw [mp_sets, mp_set (f' := cP ad (u2 S 5 p v) Y g) p0 (by omega) (by
    show (pA ad p, (.inr (6, [.ref (fA ad (Y 4 p)), vi (Y 5 p), vi (Y 7 p), vi (Y 8 p), vi (Y 9 p), vi (Y 6 p), vi (g p), vi (S 4 p), vi (uI (S 5) p v p), vi (S 6 p), vi (S 7 p), vi (S 8 p)]) : va_E)) = _
    rw [uI_s]; rfl) (fun j hj => by
    show (pA ad j, (.inr (6, [.ref (fA ad (Y 4 j)), vi (Y 5 j), vi (Y 7 j), vi (Y 8 j), vi (Y 9 j), vi (Y 6 j), vi (g j), vi (S 4 j), vi (uI (S 5) p v j), vi (S 6 j), vi (S 7 j), vi (S 8 j)]) : va_E)) = _
    rw [uI_n _ _ hj]; rfl)]
  rfl
theorem WW_sp9 {p v : Int} (p0 : 0 ≤ p) (p1 : p < Y 10 0) : (WW C ad B E F S Y g R).set (p.toNat + (Y 3 0).toNat + 6) (pA ad p, .inr (6, (fPa ad S Y g p).set 9 (vi v))) = WW C ad B E F (u2 S 6 p v) Y g R := by
  show wC C ad B E F S Y ++ (mpW (cF ad S Y) (Y 3 0).toNat ++ _).set (p.toNat + (Y 3 0).toNat) _ = _
  rw [mp_sets, mp_set (f' := cP ad (u2 S 6 p v) Y g) p0 (by omega) (by
    show (pA ad p, (.inr (6, [.ref (fA ad (Y 4 p)), vi (Y 5 p), vi (Y 7 p), vi (Y 8 p), vi (Y 9 p), vi (Y 6 p), vi (g p), vi (S 4 p), vi (S 5 p), vi (uI (S 6) p v p), vi (S 7 p), vi (S 8 p)]) : va_E)) = _
    rw [uI_s]; rfl) (fun j hj => by
    show (pA ad j, (.inr (6, [.ref (fA ad (Y 4 j)), vi (Y 5 j), vi (Y 7 j), vi (Y 8 j), vi (Y 9 j), vi (Y 6 j), vi (g j), vi (S 4 j), vi (S 5 j), vi (uI (S 6) p v j), vi (S 7 j), vi (S 8 j)]) : va_E)) = _
    rw [uI_n _ _ hj]; rfl)]
  rfl
theorem WW_sp10 {p v : Int} (p0 : 0 ≤ p) (p1 : p < Y 10 0) : (WW C ad B E F S Y g R).set (p.toNat + (Y 3 0).toNat + 6) (pA ad p, .inr (6, (fPa ad S Y g p).set 10 (vi v))) = WW C ad B E F (u2 S 7 p v) Y g R := by
  show wC C ad B E F S Y ++ (mpW (cF ad S Y) (Y 3 0).toNat ++ _).set (p.toNat + (Y 3 0).toNat) _ = _
  rw [mp_sets, mp_set (f' := cP ad (u2 S 7 p v) Y g) p0 (by omega) (by
    show (pA ad p, (.inr (6, [.ref (fA ad (Y 4 p)), vi (Y 5 p), vi (Y 7 p), vi (Y 8 p), vi (Y 9 p), vi (Y 6 p), vi (g p), vi (S 4 p), vi (S 5 p), vi (S 6 p), vi (uI (S 7) p v p), vi (S 8 p)]) : va_E)) = _
    rw [uI_s]; rfl) (fun j hj => by
    show (pA ad j, (.inr (6, [.ref (fA ad (Y 4 j)), vi (Y 5 j), vi (Y 7 j), vi (Y 8 j), vi (Y 9 j), vi (Y 6 j), vi (g j), vi (S 4 j), vi (S 5 j), vi (S 6 j), vi (uI (S 7) p v j), vi (S 8 j)]) : va_E)) = _
    rw [uI_n _ _ hj]; rfl)]
  rfl
theorem WW_sp11 {p v : Int} (p0 : 0 ≤ p) (p1 : p < Y 10 0) : (WW C ad B E F S Y g R).set (p.toNat + (Y 3 0).toNat + 6) (pA ad p, .inr (6, (fPa ad S Y g p).set 11 (vi v))) = WW C ad B E F (u2 S 8 p v) Y g R := by
  show wC C ad B E F S Y ++ (mpW (cF ad S Y) (Y 3 0).toNat ++ _).set (p.toNat + (Y 3 0).toNat) _ = _
  rw [mp_sets, mp_set (f' := cP ad (u2 S 8 p v) Y g) p0 (by omega) (by
    show (pA ad p, (.inr (6, [.ref (fA ad (Y 4 p)), vi (Y 5 p), vi (Y 7 p), vi (Y 8 p), vi (Y 9 p), vi (Y 6 p), vi (g p), vi (S 4 p), vi (S 5 p), vi (S 6 p), vi (S 7 p), vi (uI (S 8) p v p)]) : va_E)) = _
    rw [uI_s]; rfl) (fun j hj => by
    show (pA ad j, (.inr (6, [.ref (fA ad (Y 4 j)), vi (Y 5 j), vi (Y 7 j), vi (Y 8 j), vi (Y 9 j), vi (Y 6 j), vi (g j), vi (S 4 j), vi (S 5 j), vi (S 6 j), vi (S 7 j), vi (uI (S 8) p v j)]) : va_E)) = _
    rw [uI_n _ _ hj]; rfl)]
  rfl
theorem nd_at {l : List Nat} (h : l.Nodup) {i j a : Nat} (hi : l[i]? = some a) (hj : l[j]? = some a) : i = j := by
  have h1 := List.pairwise_iff_getElem.mp h
  obtain ⟨gi, ei⟩ := List.getElem?_eq_some_iff.mp hi
  obtain ⟨gj, ej⟩ := List.getElem?_eq_some_iff.mp hj
  rcases Nat.lt_trichotomy i j with q | q | q
  · exact absurd (ei.trans ej.symm) (h1 i j gi gj q)
  · exact q
  · exact absurd (ej.trans ei.symm) (h1 j i gj gi q)
theorem WW_inj (h : ((WW C ad B E F S Y g R).map Prod.fst).Nodup) {i j : Int} (i0 : 0 ≤ i) (i1 : i < Y 3 0) (j0 : 0 ≤ j) (j1 : j < Y 3 0) (e : fA ad i = fA ad j) : i = j := by
  have a := nd_at h (i := i.toNat + 6) (j := j.toNat + 6) (a := fA ad i) (by rw [List.getElem?_map, WW_f i0 i1]; rfl) (by rw [List.getElem?_map, WW_f j0 j1, e]; rfl)
  omega
/-- the elements of the list of parts; the list of folds -/
def LT (ad : Nat → Nat) (C : WC) (E : Int × Nat) (Y : Nat → Int → Int) (R : va_W) : Prop := 0 < Y 10 0 → ∃ (cap : Nat) (f : Nat → Option Nat), (Y 10 0 ≤ cap ∧ cap ≤ 100) ∧ R[0]? = some (E.2, aO C cap f) ∧ ∀ p : Int, 0 ≤ p → p < Y 10 0 → f p.toNat = some (pA ad p)
def FC (F : Int × Nat × Nat) (Y : Nat → Int → Int) : Prop := (10 ≤ F.2.2 ∧ F.2.2 ≤ 22) ∧ Y 3 0 ≤ F.2.2
end WCs
theorem inX0 : ∀ w ∈ u_ws "Springleaf$Fold" TX0 7, w ∈ TW := List.forall_mem_cons.mpr ⟨q1_112, List.forall_mem_cons.mpr ⟨q1_114, List.forall_mem_cons.mpr ⟨q1_116, List.forall_mem_cons.mpr ⟨q1_118, List.forall_mem_cons.mpr ⟨q1_120, List.forall_mem_cons.mpr ⟨q1_122, List.forall_mem_cons.mpr ⟨q1_124, fun _ h => nomatch h⟩⟩⟩⟩⟩⟩⟩
theorem inX3 : ∀ w ∈ u_ws "Springleaf$Part" TX3 12, w ∈ TW := List.forall_mem_cons.mpr ⟨q2_232, List.forall_mem_cons.mpr ⟨q2_234, List.forall_mem_cons.mpr ⟨q2_236, List.forall_mem_cons.mpr ⟨q2_238, List.forall_mem_cons.mpr ⟨q3_0, List.forall_mem_cons.mpr ⟨q3_2, List.forall_mem_cons.mpr ⟨q3_4, List.forall_mem_cons.mpr ⟨q3_6, List.forall_mem_cons.mpr ⟨q3_8, List.forall_mem_cons.mpr ⟨q3_10, List.forall_mem_cons.mpr ⟨q3_12, List.forall_mem_cons.mpr ⟨q3_14, fun _ h => nomatch h⟩⟩⟩⟩⟩⟩⟩⟩⟩⟩⟩⟩
theorem inX4 : ∀ w ∈ u_ws "Springleaf" TX4 5, w ∈ TW := List.forall_mem_cons.mpr ⟨q1_191, List.forall_mem_cons.mpr ⟨q1_193, List.forall_mem_cons.mpr ⟨q1_195, List.forall_mem_cons.mpr ⟨q1_197, List.forall_mem_cons.mpr ⟨q1_199, fun _ h => nomatch h⟩⟩⟩⟩⟩
theorem inJ4 : ∀ w ∈ u_ws "java/lang/StringBuilder" TJ4 4, w ∈ TW := List.forall_mem_cons.mpr ⟨q1_86, List.forall_mem_cons.mpr ⟨q1_88, List.forall_mem_cons.mpr ⟨q1_90, List.forall_mem_cons.mpr ⟨q1_92, fun _ h => nomatch h⟩⟩⟩⟩
theorem inJx4a65c : ∀ w ∈ u_ws "java/util/ArrayList" TJx4a65c 3, w ∈ TW := List.forall_mem_cons.mpr ⟨q1_60, List.forall_mem_cons.mpr ⟨q1_56, List.forall_mem_cons.mpr ⟨q1_58, fun _ h => nomatch h⟩⟩⟩
section CR
variable {C : WC} {l0 : Launch} {own : String} {cc : ByteArray} {nL d Mc Ms : Nat} {K : GK} {Q : State → Prop} {cells slots pc t : Nat} {lv lv1 : List (Nat × Value)} {st : List Value} {ad : Nat → Nat} {B : BT} {E : Int × Nat} {F : Int × Nat × Nat} {S Y : Nat → Int → Int} {g : Int → Int} {R ws ws1 : va_W}
theorem getf_X4 (X : Cx C l0 own cc nL d Mc Ms K) {index : Nat} {v : Value} (k9 : Nat) (hk : k9 < 5) (hlink : Cond.fieldLink own index "Springleaf" (TX4 k9).2.1 (TX4 k9).2.2.1 ∈ TW) (href : (TX4 k9).1 = "Springleaf") (hv : (fSp ad S Y)[k9]? = some v) (hd : decode cc pc = .ok (.getfield index, 3)) (hpc : pc + 3 = t) (k : G C K Q cells slots t lv (v :: st) (WW C ad B E F S Y g R)) : G C K Q cells slots pc lv (.ref (ad 4) :: st) (WW C ad B E F S Y g R) :=
  g_getf X inX4 4 WW_4 rfl k9 hk hlink href hv hd hpc k
theorem putf_X4 (X : Cx C l0 own cc nL d Mc Ms K) {index : Nat} {v : Int} (k9 : Nat) (hk : k9 < 5) (hlink : Cond.fieldLink own index "Springleaf" (TX4 k9).2.1 (TX4 k9).2.2.1 ∈ TW) (href : (TX4 k9).1 = "Springleaf") (hfin : (TX4 k9).2.2.2 = false) (hd2 : parseFieldDescriptor (TX4 k9).2.2.1 = some .int) (hw : (WW C ad B E F S Y g R).set 4 (ad 4, .inr (7, (fSp ad S Y).set k9 (vi v))) = ws1) (hd : decode cc pc = .ok (.putfield index, 3)) (hpc : pc + 3 = t) (k : G C K Q cells slots t lv st ws1) : G C K Q cells slots pc lv (vi v :: .ref (ad 4) :: st) (WW C ad B E F S Y g R) :=
  g_putf X inX4 tyX4 tyX4_ok nmX4 4 WW_4 rfl k9 hk hlink href hfin hd2 rfl rfl (by show k9 < 5; exact hk) hw hd hpc k
theorem g_ifnull (X : Cx C l0 own cc nL d Mc Ms K) {a : Nat} {off : Int} (hd : decode cc pc = .ok (.ifnull off, 3)) (hpc : pc + 3 = t) (k : G C K Q cells slots t lv st ws) : G C K Q cells slots pc lv (.ref a :: st) ws := by
  obtain ⟨p, l, e, R, s, m, args, below, meth, c, nL⟩ := K
  obtain ⟨rfl, rfl, hx, hb, hml, hown, hT, hK, hN, hE, hlk, hfl, hfr, hlo, hmc, hms⟩ := X
  intro H locs ls hP hD hS hl
  subst hpc
  exact lv_ifnull hx hb hd (k H locs ls hP hD hS hl)
theorem g_ifnullN (X : Cx C l0 own cc nL d Mc Ms K) {off : Int} (hd : decode cc pc = .ok (.ifnull off, 3)) (ht : (pc : Int) + off = (t : Int)) (k : G C K Q cells slots t lv st ws) : G C K Q cells slots pc lv (.null :: st) ws := by
  obtain ⟨p, l, e, R, s, m, args, below, meth, c, nL⟩ := K
  obtain ⟨rfl, rfl, hx, hb, hml, hown, hT, hK, hN, hE, hlk, hfl, hfr, hlo, hmc, hms⟩ := X
  intro H locs ls hP hD hS hl
  exact lv_ifnullN hx hb hd ht (k H locs ls hP hD hS hl)
theorem g_ifnonnullN (X : Cx C l0 own cc nL d Mc Ms K) {off : Int} (hd : decode cc pc = .ok (.ifnonnull off, 3)) (hpc : pc + 3 = t) (k : G C K Q cells slots t lv st ws) : G C K Q cells slots pc lv (.null :: st) ws := by
  obtain ⟨p, l, e, R, s, m, args, below, meth, c, nL⟩ := K
  obtain ⟨rfl, rfl, hx, hb, hml, hown, hT, hK, hN, hE, hlk, hfl, hfr, hlo, hmc, hms⟩ := X
  intro H locs ls hP hD hS hl
  subst hpc
  exact lv_ifnonnullN hx hb hd (k H locs ls hP hD hS hl)
theorem g_aload_nN (X : Cx C l0 own cc nL d Mc Ms K) {k9 : Fin 4} (hd : decode cc pc = .ok (.aload_n k9, 1)) (i : Nat) (hi : lv[i]? = some ((k9 : Nat), .null)) (hpc : pc + 1 = t) (k : G C K Q cells slots t lv (.null :: st) ws) : G C K Q cells slots pc lv st ws := by
  obtain ⟨p, l, e, R, s, m, args, below, meth, c, nL⟩ := K
  obtain ⟨rfl, rfl, hx, hb, hml, hown, hT, hK, hN, hE, hlk, hfl, hfr, hlo, hmc, hms⟩ := X
  intro H locs ls hP hD hS hl
  subst hpc
  exact lv_aload_nN hx hb hd rfl (lv_at hl i hi) (k H locs ls hP hD hS hl)
theorem g_astore_nN (X : Cx C l0 own cc nL d Mc Ms K) {k9 : Fin 4} (hd : decode cc pc = .ok (.astore_n k9, 1)) (hn : (k9 : Nat) < nL) (hl1 : ((k9 : Nat), Value.null) :: lv.filter (fun q => !(q.1 == (k9 : Nat)) && !(q.1 + 1 == (k9 : Nat) && q.2.category == 2)) = lv1) (hpc : pc + 1 = t) (k : G C K Q cells slots t lv1 st ws) : G C K Q cells slots pc lv (.null :: st) ws := by
  obtain ⟨p, l, e, R, s, m, args, below, meth, c, nL⟩ := K
  obtain ⟨rfl, rfl, hx, hb, hml, hown, hT, hK, hN, hE, hlk, hfl, hfr, hlo, hmc, hms⟩ := X
  intro H locs ls hP hD hS hl
  subst hpc
  exact lv_astore_nN hx hb hd rfl hl hn hl1 (fun ls1 hl => k H locs ls1 hP hD hS hl)
theorem g_aretN (X : Cx C l0 own cc nL d Mc Ms K) {post : Option Value → va_W → Prop} {rt : FieldType} {mc ms : Nat} (r : Rt C (some rt) post mc ms Q K) (hrt : (∃ n, rt = .object n) ∨ ∃ t, rt = .array t) (hp : post (some .null) ws) (hc : cells ≤ mc) (hs : slots ≤ ms) (hd : decode cc pc = .ok (.areturn, 1)) : G C K Q cells slots pc lv [.null] ws := by
  obtain ⟨p, l, e, R, s, m, args, below, meth, c, nL⟩ := K
  obtain ⟨rfl, rfl, hx, hb, hml, hown, hT, hK, hN, hE, hlk, hfl, hfr, hlo, hmc, hms⟩ := X
  obtain ⟨hr, hlift⟩ := r
  intro H locs ls hP hD hS hl
  refine W.widen hc hs ?_
  refine hlift _ _ _ ?_
  exact W.aret hx hb hr hrt (Or.inl rfl) (fun t ht hW => ⟨⟨_, _, rfl, hp, by rw [ht]; exact hP, hD⟩, hS.F ht⟩) hS.2.2 hd
end CR
