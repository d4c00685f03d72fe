theorem LRb.mid {Y V S : Nat → Int → Int} {b : Int → Int} {p : Int} (h : LRb Y V S b p p) (hL : LI V) (h16 : V 19 0 ≤ 16) (p0 : 0 ≤ p) (p1 : p < Y 10 0) (x : Int) : (∀ r, 0 ≤ r → r < Y 10 0 → 0 ≤ u2 (sh9 V S x) 4 p (shF V x) 7 r ∧ u2 (sh9 V S x) 4 p (shF V x) 7 r ≤ 30) ∧ (∀ r, 0 ≤ r → r < Y 10 0 → Rg (u2 (sh9 V S x) 4 p (shF V x) 4 r)) ∧ fh (u2 (sh9 V S x) 4 p (shF V x)) (shF V x) (Y 10 0).toNat = topF V x := by
  have hs := shF_rng hL x
  have h7 := h.none p0 p1
  have e7 : u2 (sh9 V S x) 4 p (shF V x) 7 = S 7 := sh9_n (k := 7) (by decide)
  have e4 : u2 (sh9 V S x) 4 p (shF V x) 4 = uI (S 4) p (shF V x) := by
    show uI (sh9 V S x 4) p (shF V x) = _
    rw [sh9_n (by decide)]
  refine ⟨fun r r0 r1 => by rw [e7]; exact (h.2.2.1 r r0 r1).1, fun r r0 r1 => ?_, ?_⟩
  · rw [e4]
    by_cases c : r = p
    · subst c; rw [uI_s]; exact ⟨by omega, by omega⟩
    · rw [uI_n _ _ c]; exact (h.2.2.1 r r0 r1).2.1
  · rw [fh_same (S := S) _ _ (fun r r0 r1 => ⟨by rw [e7], fun c => by rw [e4]; exact uI_n _ _ (fun e => c (by rw [e]; exact h7))⟩)]
    exact h.fill hL x
theorem LRb.fl {Y V S : Nat → Int → Int} {b : Int → Int} {n m : Int} (h : LRb Y V S b n m) (hL : LI V) {p : Int} (p0 : 0 ≤ p) (p1 : p < Y 10 0) (h7 : 1 ≤ S 7 p) : 0 ≤ S 8 p ∧ S 8 p ≤ 40 := by
  obtain ⟨k, k0, k1, ek⟩ := (h.2.2.1 p p0 p1).2.2 h7
  subst ek
  rw [(h.1 k k0 k1).2.2.2.2]
  exact (hL.2.2.1 k k0 k1).2.2.2.1
/-- all is laid, as L says -/
def LD (Y L Z : Nat → Int → Int) : Prop := Z 9 0 = L 19 0 ∧ ∀ p, 0 ≤ p → p < Y 10 0 → Z 4 p = L 20 p ∧ Z 5 p = L 21 p ∧ Z 6 p = L 22 p
set_option maxHeartbeats 4000000 in
set_option maxRecDepth 100000 in
/-- filledHeight(sheet) -/
theorem c_X4_filledHeight {C : WC} {l : Launch} (hfl : l.stackTraces = false) {ad : Nat → Nat} {B : BT} {E : Int × Nat} {F : Int × Nat × Nat} {S Y : Nat → Int → Int} {g : Int → Int} {R : va_W} {s : Int} (hI : MI Y) (hF : FC F Y) (hR : LT ad C E Y R) (h7 : ∀ r, 0 ≤ r → r < Y 10 0 → 0 ≤ S 7 r ∧ S 7 r ≤ 30) (h4 : ∀ r, 0 ≤ r → r < Y 10 0 → Rg (S 4 r)) (hs : Rg s) : MM C l yX4_filledHeight cX4_filledHeight 4 (some .int) 3 0 0 [.ref (ad 4), vi s] (WW C ad B E F S Y g R) (rv (vi (fh S s (Y 10 0).toNat)) (WW C ad B E F S Y g R)) := by
  refine mm_of (by decide +kernel) (Nat.le_of_ble_eq_true rfl) hfl (fun K Q X r => ?_)
  have X : Cx C l "Springleaf" cX4_filledHeight 4 3 0 0 K := X
  have I3 := hI.1
  have I10 := hI.2.2.1
  have I12 := hI.2.2.2.2.1
  obtain ⟨s1, s2⟩ := hs
  have loop : ∀ (n : Nat) (k f : Int), 0 ≤ k → k ≤ Y 10 0 → Y 10 0 - k < n → f = fh S s k.toNat → G C K Q 0 0 4 [(0, .ref (ad 4)), (1, vi s), (2, vi f), (3, vi k)] [] (WW C ad B E F S Y g R) := by
    intro n
    induction n with
    | zero => intro k f h0 h1 h2; exact absurd h2 (by omega)
    | succ n ih =>
      intro k f k0 h1 h2 ef
      refine g_iload_n (t := 5) X dX4_filledHeight_4 3 rfl rfl ?_
      refine g_aload_n (t := 6) X dX4_filledHeight_5 0 rfl rfl ?_
      refine getf_X4 (t := 9) X 1 (by decide) q1_187 rfl rfl dX4_filledHeight_6 rfl ?_
      refine g_callV (t := 12) (mc := 0) (ms := 0) (rest := [vi k]) X mt_Jx4a65c_size_8abf5 q1_210 q1_211 q1_212 2 WW_2 rfl (c_Jx4a65c_size_8abf5 (E := E) hfl 2 WW_2) (by decide) (Nat.le_of_ble_eq_true rfl) (Nat.le_of_ble_eq_true rfl) (Nat.le_of_ble_eq_true rfl) rfl rfl dX4_filledHeight_9 rfl (k_rv ?_)
      refine g_icmp_ge (t := 56) (u := 15) X dX4_filledHeight_12 (by decide) rfl ⟨by omega, by omega⟩ ⟨by omega, by omega⟩ (fun c_12 => ?_) (fun c_12 => ?_)
      · refine g_iload_n (t := 57) X dX4_filledHeight_56 2 rfl rfl ?_
        exact g_iret X r (rv_i (by rw [ef]; congr 1; omega)) (Nat.le_of_ble_eq_true rfl) (Nat.le_of_ble_eq_true rfl) dX4_filledHeight_57
      · refine g_aload_n (t := 16) X dX4_filledHeight_15 0 rfl rfl ?_
        refine getf_X4 (t := 19) X 1 (by decide) q1_187 rfl rfl dX4_filledHeight_16 rfl ?_
        refine g_iload_n (t := 20) X dX4_filledHeight_19 3 rfl rfl ?_
        obtain ⟨cap_20, f_20, hc_20, ht_20, hf_20⟩ := hR (by omega)
        refine g_callV (t := 23) (mc := 0) (ms := 0) (rest := []) X mt_Jx4a65c_get_915e3 q1_214 q1_215 q1_216 2 WW_2 rfl (c_Jx4a65c_get_915e3 (E := E) hfl 2 WW_2 _ (WW_t ht_20) (by omega) (by omega) (by omega) (hf_20 k (by omega) (by omega)) (by omega) (by omega)) (by decide) (Nat.le_of_ble_eq_true rfl) (Nat.le_of_ble_eq_true rfl) (Nat.le_of_ble_eq_true rfl) rfl rfl dX4_filledHeight_20 rfl (k_rv ?_)
        refine g_castS (t := 26) X _ (WW_p (p := k) (by omega) (by omega)) rfl q2_5 dX4_filledHeight_23 rfl ?_
        refine g_getf (t := 29) (v := vi (S 4 k)) X inX3 _ (WW_p (p := k) (by omega) (by omega)) rfl 7 (by decide) q2_227 rfl rfl dX4_filledHeight_26 rfl ?_
        refine g_iload_n (t := 30) X dX4_filledHeight_29 1 rfl rfl ?_
        obtain ⟨r1, r2⟩ := h4 k k0 (by omega)
        refine g_icmp_ne (t := 50) (u := 33) X dX4_filledHeight_30 (by decide) rfl ⟨by omega, by omega⟩ ⟨by omega, by omega⟩ (fun c_30 => ?_) (fun c_30 => ?_)
        · refine g_iinc (t := 53) (lv1 := [(3, vi (k + 1)), (0, .ref (ad 4)), (1, vi s), (2, vi f)]) X dX4_filledHeight_50 3 rfl (by decide) rfl rfl ?_
          refine g_goto (t := 4) X dX4_filledHeight_53 (by decide) ?_
          exact g_lv (ih (k + 1) (f) (by omega) (by omega) (by omega) (by rw [fh_succ k0, ← ef]; first | rw [if_pos c_30] | (rw [if_neg c_30]; omega))) [1, 2, 3, 0] rfl
        · refine g_iload_n (t := 34) X dX4_filledHeight_33 2 rfl rfl ?_
          refine g_aload_n (t := 35) X dX4_filledHeight_34 0 rfl rfl ?_
          refine getf_X4 (t := 38) X 1 (by decide) q1_187 rfl rfl dX4_filledHeight_35 rfl ?_
          refine g_iload_n (t := 39) X dX4_filledHeight_38 3 rfl rfl ?_
          obtain ⟨cap_39, f_39, hc_39, ht_39, hf_39⟩ := hR (by omega)
          refine g_callV (t := 42) (mc := 0) (ms := 0) (rest := [vi f]) X mt_Jx4a65c_get_915e3 q1_214 q1_215 q1_216 2 WW_2 rfl (c_Jx4a65c_get_915e3 (E := E) hfl 2 WW_2 _ (WW_t ht_39) (by omega) (by omega) (by omega) (hf_39 k (by omega) (by omega)) (by omega) (by omega)) (by decide) (Nat.le_of_ble_eq_true rfl) (Nat.le_of_ble_eq_true rfl) (Nat.le_of_ble_eq_true rfl) rfl rfl dX4_filledHeight_39 rfl (k_rv ?_)
          refine g_castS (t := 45) X _ (WW_p (p := k) (by omega) (by omega)) rfl q2_5 dX4_filledHeight_42 rfl ?_
          refine g_getf (t := 48) (v := vi (S 7 k)) X inX3 _ (WW_p (p := k) (by omega) (by omega)) rfl 10 (by decide) q2_230 rfl rfl dX4_filledHeight_45 rfl ?_
          refine g_iadd (t := 49) X dX4_filledHeight_48 rfl ?_
          refine g_istore_n (t := 50) (lv1 := [(2, vi (f + (S 7 k))), (0, .ref (ad 4)), (1, vi s), (3, vi k)]) X dX4_filledHeight_49 (by decide) rfl rfl ?_
          refine g_iinc (t := 53) (lv1 := [(3, vi (k + 1)), (2, vi (f + (S 7 k))), (0, .ref (ad 4)), (1, vi s)]) X dX4_filledHeight_50 3 rfl (by decide) rfl rfl ?_
          refine g_goto (t := 4) X dX4_filledHeight_53 (by decide) ?_
          exact g_lv (ih (k + 1) (f + (S 7 k)) (by omega) (by omega) (by omega) (by rw [fh_succ k0, ← ef]; first | rw [if_pos c_30] | (rw [if_neg c_30]; omega))) [2, 3, 1, 0] rfl
  show G C K Q 0 0 0 [(0, .ref (ad 4)), (1, vi s)] [] (WW C ad B E F S Y g R)
  refine g_iconst (t := 1) X dX4_filledHeight_0 rfl ?_
  refine g_istore_n (t := 2) (lv1 := [(2, vi 0), (0, .ref (ad 4)), (1, vi s)]) X dX4_filledHeight_1 (by decide) rfl rfl ?_
  refine g_iconst (t := 3) X dX4_filledHeight_2 rfl ?_
  refine g_istore_n (t := 4) (lv1 := [(3, vi 0), (2, vi 0), (0, .ref (ad 4)), (1, vi s)]) X dX4_filledHeight_3 (by decide) rfl rfl ?_
  exact g_lv (loop ((Y 10 0).toNat + 1) 0 0 (by omega) (by omega) (by omega) rfl) [2, 3, 1, 0] rfl

set_option maxHeartbeats 4000000 in
set_option maxRecDepth 100000 in
/-- sheetForShelf(height) -/
theorem c_X4_sheetForShelf {C : WC} {l : Launch} (hfl : l.stackTraces = false) {ad : Nat → Nat} {B : BT} {E : Int × Nat} {F : Int × Nat × Nat} {S Y : Nat → Int → Int} {g : Int → Int} {R : va_W} {V : Nat → Int → Int} {b : Int → Int} {p x : Int} (hI : MI Y) (hF : FC F Y) (hR : LT ad C E Y R) (hS : LRb Y V S b p p) (hL : LI V) (h16 : V 19 0 ≤ 16) (x0 : 1 ≤ x) (x1 : x ≤ 30) : MM C l yX4_sheetForShelf cX4_sheetForShelf 3 (some .int) 4 0 0 [.ref (ad 4), vi x] (WW C ad B E F S Y g R) (rv (vi (shF V x)) (WW C ad B E F (sh9 V S x) Y g R)) := by
  refine mm_of (by decide +kernel) (Nat.le_of_ble_eq_true rfl) hfl (fun K Q X r => ?_)
  have X : Cx C l "Springleaf" cX4_sheetForShelf 3 4 0 0 K := X
  have I3 := hI.1
  have I10 := hI.2.2.1
  have I12 := hI.2.2.2.2.1
  have l1 := hL.1
  have l2 := hL.2.1
  have h9 := hS.2.2.2.2.1
  have loop : ∀ (n : Nat) (s : Int), 0 ≤ s → s ≤ V 19 0 → V 19 0 - s < n → (∀ i, 0 ≤ i → i < s → 30 < V 18 i + x) → G C K Q 0 0 2 [(0, .ref (ad 4)), (1, vi x), (2, vi s)] [] (WW C ad B E F S Y g R) := by
    intro n
    induction n with
    | zero => intro s h0 h1 h2; exact absurd h2 (by omega)
    | succ n ih =>
      intro s s0 h1 h2 hj
      refine g_iload_n (t := 3) X dX4_sheetForShelf_2 2 rfl rfl ?_
      refine g_aload_n (t := 4) X dX4_sheetForShelf_3 0 rfl rfl ?_
      refine getf_X4 (t := 7) (v := vi (S 9 0)) X 4 (by decide) q1_190 rfl rfl dX4_sheetForShelf_4 rfl ?_
      rw [h9]
      refine g_icmp_ge (t := 30) (u := 10) X dX4_sheetForShelf_7 (by decide) rfl ⟨by omega, by omega⟩ ⟨by omega, by omega⟩ (fun c_7 => ?_) (fun c_7 => ?_)
      · refine g_aload_n (t := 31) X dX4_sheetForShelf_30 0 rfl rfl ?_
        refine g_dup (t := 32) X dX4_sheetForShelf_31 rfl rfl ?_
        refine getf_X4 (t := 35) (v := vi (S 9 0)) X 4 (by decide) q1_190 rfl rfl dX4_sheetForShelf_32 rfl ?_
        rw [h9]
        refine g_iconst (t := 36) X dX4_sheetForShelf_35 rfl ?_
        refine g_iadd (t := 37) X dX4_sheetForShelf_36 rfl ?_
        refine putf_X4 (t := 40) X 4 (by decide) q1_190 rfl rfl rfl WW_f_4 dX4_sheetForShelf_37 rfl ?_
        refine g_aload_n (t := 41) X dX4_sheetForShelf_40 0 rfl rfl ?_
        refine getf_X4 (t := 44) (v := vi ((V 19 0) + 1)) X 4 (by decide) q1_190 rfl rfl dX4_sheetForShelf_41 rfl ?_
        refine g_iconst (t := 45) X dX4_sheetForShelf_44 rfl ?_
        refine g_isub (t := 46) X dX4_sheetForShelf_45 rfl ?_
        exact g_iret X r (by
                have e := shF_is (h := x) l2.1 s0 (by omega) hj (fun _ => by omega)
                rw [show sh9 V S x = u2 S 9 0 (V 19 0 + 1) from if_pos (by omega)]
                exact rv_i (by omega)) (Nat.le_of_ble_eq_true rfl) (Nat.le_of_ble_eq_true rfl) dX4_sheetForShelf_46
      · refine g_bipush (t := 12) (z := 30) X dX4_sheetForShelf_10 (by decide +kernel) rfl ?_
        refine g_aload_n (t := 13) X dX4_sheetForShelf_12 0 rfl rfl ?_
        refine g_iload_n (t := 14) X dX4_sheetForShelf_13 2 rfl rfl ?_
        refine g_callV (t := 17) (mc := 0) (ms := 0) (rest := [vi 30]) X mt_X4_filledHeight q2_67 q2_69 qs_10 4 WW_4 rfl (c_X4_filledHeight hfl hI hF hR (fun r r0 r1 => (hS.2.2.1 r r0 r1).1) (fun r r0 r1 => (hS.2.2.1 r r0 r1).2.1) ⟨by omega, by omega⟩) (by decide) (Nat.le_of_ble_eq_true rfl) (Nat.le_of_ble_eq_true rfl) (Nat.le_of_ble_eq_true rfl) rfl rfl dX4_sheetForShelf_14 rfl (k_rv ?_)
        rw [hS.2.2.2.2.2 s s0 (by omega)]
        refine g_isub (t := 18) X dX4_sheetForShelf_17 rfl ?_
        refine g_iload_n (t := 19) X dX4_sheetForShelf_18 1 rfl rfl ?_
        have hs := hL.2.2.2.1 s s0 (by omega)
        refine g_icmp_lt (t := 24) (u := 22) X dX4_sheetForShelf_19 (by decide) rfl ⟨by omega, by omega⟩ ⟨by omega, by omega⟩ (fun c_19 => ?_) (fun c_19 => ?_)
        · refine g_iinc (t := 27) (lv1 := [(2, vi (s + 1)), (0, .ref (ad 4)), (1, vi x)]) X dX4_sheetForShelf_24 2 rfl (by decide) rfl rfl ?_
          refine g_goto (t := 2) X dX4_sheetForShelf_27 (by decide) ?_
          exact g_lv (ih (s + 1) (by omega) (by omega) (by omega) (fun i i0 i1 => by
                  rcases Int.lt_or_eq_of_le (show i ≤ s by omega) with c | c
                  · exact hj i i0 c
                  · subst c; omega)) [1, 2, 0] rfl
        · refine g_iload_n (t := 23) X dX4_sheetForShelf_22 2 rfl rfl ?_
          exact g_iret X r (by
                  have e := shF_is (h := x) l2.1 s0 (by omega) hj (fun _ => by omega)
                  rw [show sh9 V S x = S from if_neg (by omega)]
                  exact rv_i e) (Nat.le_of_ble_eq_true rfl) (Nat.le_of_ble_eq_true rfl) dX4_sheetForShelf_23
  show G C K Q 0 0 0 [(0, .ref (ad 4)), (1, vi x)] [] (WW C ad B E F S Y g R)
  refine g_iconst (t := 1) X dX4_sheetForShelf_0 rfl ?_
  refine g_istore_n (t := 2) (lv1 := [(2, vi 0), (0, .ref (ad 4)), (1, vi x)]) X dX4_sheetForShelf_1 (by decide) rfl rfl ?_
  exact g_lv (loop ((V 19 0).toNat + 1) 0 (by omega) (by omega) (by omega) (fun i i0 i1 => absurd i1 (by omega))) [1, 2, 0] rfl

set_option maxHeartbeats 4000000 in
set_option maxRecDepth 100000 in
/-- beginShelf(part) -/
theorem c_X4_beginShelf {C : WC} {l : Launch} (hfl : l.stackTraces = false) {ad : Nat → Nat} {B : BT} {E : Int × Nat} {F : Int × Nat × Nat} {S Y : Nat → Int → Int} {g : Int → Int} {R : va_W} {V : Nat → Int → Int} {b : Int → Int} {p : Int} (hI : MI Y) (hF : FC F Y) (hR : LT ad C E Y R) (hS : LRb Y V S b p p) (hL : LI V) (h16 : V 19 0 ≤ 16) (p0 : 0 ≤ p) (p1 : p < Y 10 0) : MM C l yX4_beginShelf cX4_beginShelf 2 none 5 0 0 [.ref (ad 4), .ref (pA ad p)] (WW C ad B E F S Y g R) (rn (WW C ad B E F (begS V S p (tallF Y p) (topF V (tallF Y p))) Y g R)) := by
  refine mm_of (by decide +kernel) (Nat.le_of_ble_eq_true rfl) hfl (fun K Q X r => ?_)
  have X : Cx C l "Springleaf" cX4_beginShelf 2 5 0 0 K := X
  have I3 := hI.1
  have I10 := hI.2.2.1
  have I12 := hI.2.2.2.2.1
  have ht := tw_rng hI p0 p1
  have hs := shF_rng hL (tallF Y p)
  obtain ⟨hm1, hm2, hm3⟩ := hS.mid hL h16 p0 p1 (tallF Y p)
  show G C K Q 0 0 0 [(0, .ref (ad 4)), (1, .ref (pA ad p))] [] (WW C ad B E F S Y g R)
  refine g_aload_n (t := 1) X dX4_beginShelf_0 1 rfl rfl ?_
  refine g_aload_n (t := 2) X dX4_beginShelf_1 0 rfl rfl ?_
  refine g_aload_n (t := 3) X dX4_beginShelf_2 1 rfl rfl ?_
  refine g_callV (t := 6) (mc := 0) (ms := 0) (rest := [.ref (ad 4), .ref (pA ad p)]) X mt_X3_pieceHeight q2_51 q2_52 q2_53 _ (WW_p (p := p) (by omega) (by omega)) rfl (c_X3_pieceHeight (p := p) hfl hI (by omega) (by omega)) (by decide) (Nat.le_of_ble_eq_true rfl) (Nat.le_of_ble_eq_true rfl) (Nat.le_of_ble_eq_true rfl) rfl rfl dX4_beginShelf_3 rfl (k_rv ?_)
  refine g_callV (t := 9) (mc := 0) (ms := 0) (rest := [.ref (pA ad p)]) X mt_X4_sheetForShelf q2_63 q2_65 qs_9 4 WW_4 rfl (c_X4_sheetForShelf hfl hI hF hR hS hL h16 ht.1.1 ht.1.2) (by decide) (Nat.le_of_ble_eq_true rfl) (Nat.le_of_ble_eq_true rfl) (Nat.le_of_ble_eq_true rfl) rfl rfl dX4_beginShelf_6 rfl (k_rv ?_)
  refine g_putf (t := 12) X inX3 tyX3 tyX3_ok nmX3 _ (WW_p (p := p) (by omega) (by omega)) rfl 7 (by decide) q2_227 rfl rfl rfl rfl rfl (Nat.le_of_ble_eq_true rfl) (WW_sp7 (p := p) (by omega) (by omega)) dX4_beginShelf_9 rfl ?_
  refine g_aload_n (t := 13) X dX4_beginShelf_12 1 rfl rfl ?_
  refine g_aload_n (t := 14) X dX4_beginShelf_13 0 rfl rfl ?_
  refine g_aload_n (t := 15) X dX4_beginShelf_14 1 rfl rfl ?_
  refine g_getf (t := 18) (v := vi ((uI ((sh9 V S (tallF Y p)) 4) p (shF V (tallF Y p))) p)) X inX3 _ (WW_p (p := p) (by omega) (by omega)) rfl 7 (by decide) q2_227 rfl rfl dX4_beginShelf_15 rfl ?_
  rw [uI_s]
  refine g_callV (t := 21) (mc := 0) (ms := 0) (rest := [.ref (pA ad p)]) X mt_X4_filledHeight q2_67 q2_69 qs_10 4 WW_4 rfl (c_X4_filledHeight hfl hI hF hR hm1 hm2 ⟨by omega, by omega⟩) (by decide) (Nat.le_of_ble_eq_true rfl) (Nat.le_of_ble_eq_true rfl) (Nat.le_of_ble_eq_true rfl) rfl rfl dX4_beginShelf_18 rfl (k_rv ?_)
  rw [hm3]
  refine g_putf (t := 24) X inX3 tyX3 tyX3_ok nmX3 _ (WW_p (p := p) (by omega) (by omega)) rfl 9 (by decide) q2_229 rfl rfl rfl rfl rfl (Nat.le_of_ble_eq_true rfl) (WW_sp9 (p := p) (by omega) (by omega)) dX4_beginShelf_21 rfl ?_
  refine g_aload_n (t := 25) X dX4_beginShelf_24 1 rfl rfl ?_
  refine g_aload_n (t := 26) X dX4_beginShelf_25 1 rfl rfl ?_
  refine g_callV (t := 29) (mc := 0) (ms := 0) (rest := [.ref (pA ad p)]) X mt_X3_pieceHeight q2_51 q2_52 q2_53 _ (WW_p (p := p) (by omega) (by omega)) rfl (c_X3_pieceHeight (p := p) hfl hI (by omega) (by omega)) (by decide) (Nat.le_of_ble_eq_true rfl) (Nat.le_of_ble_eq_true rfl) (Nat.le_of_ble_eq_true rfl) rfl rfl dX4_beginShelf_26 rfl (k_rv ?_)
  refine g_putf (t := 32) X inX3 tyX3 tyX3_ok nmX3 _ (WW_p (p := p) (by omega) (by omega)) rfl 10 (by decide) q2_230 rfl rfl rfl rfl rfl (Nat.le_of_ble_eq_true rfl) (WW_sp10 (p := p) (by omega) (by omega)) dX4_beginShelf_29 rfl ?_
  refine g_aload_n (t := 33) X dX4_beginShelf_32 1 rfl rfl ?_
  refine g_iconst (t := 34) X dX4_beginShelf_33 rfl ?_
  refine g_putf (t := 37) X inX3 tyX3 tyX3_ok nmX3 _ (WW_p (p := p) (by omega) (by omega)) rfl 11 (by decide) q2_231 rfl rfl rfl rfl rfl (Nat.le_of_ble_eq_true rfl) (WW_sp11 (p := p) (by omega) (by omega)) dX4_beginShelf_34 rfl ?_
  exact g_vret X r rn_i (Nat.le_of_ble_eq_true rfl) (Nat.le_of_ble_eq_true rfl) dX4_beginShelf_37

set_option maxHeartbeats 4000000 in
set_option maxRecDepth 100000 in
/-- firstOfShelfFor(part) -/
theorem c_X4_firstOfShelfFor {C : WC} {l : Launch} (hfl : l.stackTraces = false) {ad : Nat → Nat} {B : BT} {E : Int × Nat} {F : Int × Nat × Nat} {S Y : Nat → Int → Int} {g : Int → Int} {R : va_W} {V : Nat → Int → Int} {b : Int → Int} {p : Int} (hI : MI Y) (hF : FC F Y) (hR : LT ad C E Y R) (hS : LRb Y V S b p p) (hL : LI V) (h16 : V 19 0 ≤ 16) (p0 : 0 ≤ p) (p1 : p < Y 10 0) : MM C l yX4_firstOfShelfFor cX4_firstOfShelfFor 5 (some (.object "Springleaf$Part")) 3 0 0 [.ref (ad 4), .ref (pA ad p)] (WW C ad B E F S Y g R) (fun v w => ((selF V (tallF Y p) (wideF Y p) = -1 ∧ v = some .null) ∨ (0 ≤ selF V (tallF Y p) (wideF Y p) ∧ selF V (tallF Y p) (wideF Y p) < V 17 0 ∧ v = some (.ref (pA ad (b (selF V (tallF Y p) (wideF Y p))))))) ∧ w = (WW C ad B E F S Y g R)) := by
  refine mm_of (by decide +kernel) (Nat.le_of_ble_eq_true rfl) hfl (fun K Q X r => ?_)
  have X : Cx C l "Springleaf" cX4_firstOfShelfFor 5 3 0 0 K := X
  have I3 := hI.1
  have I10 := hI.2.2.1
  have I12 := hI.2.2.2.2.1
  have l1 := hL.1
  have l2 := hL.2.1
  have h9 := hS.2.2.2.2.1
  have ht := tw_rng hI p0 p1
  have loop : ∀ (n : Nat) (s : Int), 0 ≤ s → s ≤ V 19 0 → V 19 0 - s < n → (∀ i, 0 ≤ i → i < Y 10 0 → 0 ≤ S 4 i → S 4 i < s → ¬ canP S (tallF Y p) (wideF Y p) i) → G C K Q 0 0 2 [(0, .ref (ad 4)), (1, .ref (pA ad p)), (2, vi s)] [] (WW C ad B E F S Y g R) := by
    intro n
    induction n with
    | zero => intro s h0 h1 h2; exact absurd h2 (by omega)
    | succ n ih =>
      intro s s0 h1 h2 hO
      have inner : s < V 19 0 → ∀ (m : Nat) (k : Int), 0 ≤ k → k ≤ Y 10 0 → Y 10 0 - k < m → (∀ i, 0 ≤ i → i < k → S 4 i = s → ¬ canP S (tallF Y p) (wideF Y p) i) → G C K Q 0 0 12 [(0, .ref (ad 4)), (1, .ref (pA ad p)), (2, vi s), (3, vi k)] [] (WW C ad B E F S Y g R) := by
        intro s9 m
        induction m with
        | zero => intro k g0 g1 g2; exact absurd g2 (by omega)
        | succ m ihi =>
          intro k k0 g3 g4 hK
          refine g_iload_n (t := 13) X dX4_firstOfShelfFor_12 3 rfl rfl ?_
          refine g_aload_n (t := 14) X dX4_firstOfShelfFor_13 0 rfl rfl ?_
          refine getf_X4 (t := 17) X 1 (by decide) q1_187 rfl rfl dX4_firstOfShelfFor_14 rfl ?_
          refine g_callV (t := 20) (mc := 0) (ms := 0) (rest := [vi k]) X mt_Jx4a65c_size_8abf5 q1_210 q1_211 q1_212 2 WW_2 rfl (c_Jx4a65c_size_8abf5 (E := E) hfl 2 WW_2) (by decide) (Nat.le_of_ble_eq_true rfl) (Nat.le_of_ble_eq_true rfl) (Nat.le_of_ble_eq_true rfl) rfl rfl dX4_firstOfShelfFor_17 rfl (k_rv ?_)
          refine g_icmp_ge (t := 81) (u := 23) X dX4_firstOfShelfFor_20 (by decide) rfl ⟨by omega, by omega⟩ ⟨by omega, by omega⟩ (fun c_20 => ?_) (fun c_20 => ?_)
          · refine g_iinc (t := 84) (lv1 := [(2, vi (s + 1)), (0, .ref (ad 4)), (1, .ref (pA ad p)), (3, vi k)]) X dX4_firstOfShelfFor_81 2 rfl (by decide) rfl rfl ?_
            refine g_goto (t := 2) X dX4_firstOfShelfFor_84 (by decide) ?_
            exact g_lv (ih (s + 1) (by omega) (by omega) (by omega) (fun i i0 i1 e0 e1 => by
                        rcases Int.lt_or_eq_of_le (show S 4 i ≤ s by omega) with c | c
                        · exact hO i i0 i1 e0 c
                        · exact hK i i0 (by omega) c)) [1, 2, 0] rfl
          · refine g_aload_n (t := 24) X dX4_firstOfShelfFor_23 0 rfl rfl ?_
            refine getf_X4 (t := 27) X 1 (by decide) q1_187 rfl rfl dX4_firstOfShelfFor_24 rfl ?_
            refine g_iload_n (t := 28) X dX4_firstOfShelfFor_27 3 rfl rfl ?_
            obtain ⟨cap_28, f_28, hc_28, ht_28, hf_28⟩ := hR (by omega)
            refine g_callV (t := 31) (mc := 0) (ms := 0) (rest := []) X mt_Jx4a65c_get_915e3 q1_214 q1_215 q1_216 2 WW_2 rfl (c_Jx4a65c_get_915e3 (E := E) hfl 2 WW_2 _ (WW_t ht_28) (by omega) (by omega) (by omega) (hf_28 k (by omega) (by omega)) (by omega) (by omega)) (by decide) (Nat.le_of_ble_eq_true rfl) (Nat.le_of_ble_eq_true rfl) (Nat.le_of_ble_eq_true rfl) rfl rfl dX4_firstOfShelfFor_28 rfl (k_rv ?_)
            refine g_castS (t := 34) X _ (WW_p (p := k) (by omega) (by omega)) rfl q2_5 dX4_firstOfShelfFor_31 rfl ?_
            refine g_astore (t := 36) (lv1 := [(4, .ref (pA ad k)), (0, .ref (ad 4)), (1, .ref (pA ad p)), (2, vi s), (3, vi k)]) X dX4_firstOfShelfFor_34 (by decide) rfl rfl ?_
            refine g_aload (t := 38) X dX4_firstOfShelfFor_36 0 rfl rfl ?_
            refine g_getf (t := 41) (v := vi (S 4 k)) X inX3 _ (WW_p (p := k) (by omega) (by omega)) rfl 7 (by decide) q2_227 rfl rfl dX4_firstOfShelfFor_38 rfl ?_
            refine g_iload_n (t := 42) X dX4_firstOfShelfFor_41 3 rfl rfl ?_
            have hr := hS.2.2.1 k k0 (by omega)
            obtain ⟨r1, r2⟩ := hr.2.1
            refine g_icmp_ne (t := 75) (u := 45) X dX4_firstOfShelfFor_42 (by decide) rfl ⟨by omega, by omega⟩ ⟨by omega, by omega⟩ (fun c_42 => ?_) (fun c_42 => ?_)
            · refine g_iinc (t := 78) (lv1 := [(3, vi (k + 1)), (4, .ref (pA ad k)), (0, .ref (ad 4)), (1, .ref (pA ad p)), (2, vi s)]) X dX4_firstOfShelfFor_75 4 rfl (by decide) rfl rfl ?_
              refine g_goto (t := 12) X dX4_firstOfShelfFor_78 (by decide) ?_
              exact g_lv (ihi (k + 1) (by omega) (by omega) (by omega) (fun i i0 i1 ei hc => by
                          rcases Int.lt_or_eq_of_le (show i ≤ k by omega) with c | c
                          · exact hK i i0 c ei hc
                          · subst c; unfold canP at hc; first | omega | exact c_42 ei)) [2, 3, 4, 0] rfl
            · refine g_aload (t := 47) X dX4_firstOfShelfFor_45 0 rfl rfl ?_
              refine g_getf (t := 50) (v := vi (S 7 k)) X inX3 _ (WW_p (p := k) (by omega) (by omega)) rfl 10 (by decide) q2_230 rfl rfl dX4_firstOfShelfFor_47 rfl ?_
              refine g_aload_n (t := 51) X dX4_firstOfShelfFor_50 2 rfl rfl ?_
              refine g_callV (t := 54) (mc := 0) (ms := 0) (rest := [vi (S 7 k)]) X mt_X3_pieceHeight q2_51 q2_52 q2_53 _ (WW_p (p := p) (by omega) (by omega)) rfl (c_X3_pieceHeight (p := p) hfl hI (by omega) (by omega)) (by decide) (Nat.le_of_ble_eq_true rfl) (Nat.le_of_ble_eq_true rfl) (Nat.le_of_ble_eq_true rfl) rfl rfl dX4_firstOfShelfFor_51 rfl (k_rv ?_)
              refine g_icmp_lt (t := 75) (u := 57) X dX4_firstOfShelfFor_54 (by decide) rfl ⟨by omega, by omega⟩ ⟨by omega, by omega⟩ (fun c_54 => ?_) (fun c_54 => ?_)
              · refine g_iinc (t := 78) (lv1 := [(3, vi (k + 1)), (4, .ref (pA ad k)), (0, .ref (ad 4)), (1, .ref (pA ad p)), (2, vi s)]) X dX4_firstOfShelfFor_75 4 rfl (by decide) rfl rfl ?_
                refine g_goto (t := 12) X dX4_firstOfShelfFor_78 (by decide) ?_
                exact g_lv (ihi (k + 1) (by omega) (by omega) (by omega) (fun i i0 i1 ei hc => by
                            rcases Int.lt_or_eq_of_le (show i ≤ k by omega) with c | c
                            · exact hK i i0 c ei hc
                            · subst c; unfold canP at hc; first | omega | exact c_42 ei)) [2, 3, 4, 0] rfl
              · refine g_bipush (t := 59) (z := 40) X dX4_firstOfShelfFor_57 (by decide +kernel) rfl ?_
                refine g_aload (t := 61) X dX4_firstOfShelfFor_59 0 rfl rfl ?_
                refine g_getf (t := 64) (v := vi (S 8 k)) X inX3 _ (WW_p (p := k) (by omega) (by omega)) rfl 11 (by decide) q2_231 rfl rfl dX4_firstOfShelfFor_61 rfl ?_
                refine g_isub (t := 65) X dX4_firstOfShelfFor_64 rfl ?_
                refine g_aload_n (t := 66) X dX4_firstOfShelfFor_65 2 rfl rfl ?_
                refine g_callV (t := 69) (mc := 0) (ms := 0) (rest := [vi (40 - (S 8 k))]) X mt_X3_pieceWidth q2_55 q2_56 q2_57 _ (WW_p (p := p) (by omega) (by omega)) rfl (c_X3_pieceWidth (p := p) hfl hI (by omega) (by omega)) (by decide) (Nat.le_of_ble_eq_true rfl) (Nat.le_of_ble_eq_true rfl) (Nat.le_of_ble_eq_true rfl) rfl rfl dX4_firstOfShelfFor_66 rfl (k_rv ?_)
                have h8 := hS.fl hL k0 (by omega) (by omega)
                refine g_icmp_lt (t := 75) (u := 72) X dX4_firstOfShelfFor_69 (by decide) rfl ⟨by omega, by omega⟩ ⟨by omega, by omega⟩ (fun c_69 => ?_) (fun c_69 => ?_)
                · refine g_iinc (t := 78) (lv1 := [(3, vi (k + 1)), (4, .ref (pA ad k)), (0, .ref (ad 4)), (1, .ref (pA ad p)), (2, vi s)]) X dX4_firstOfShelfFor_75 4 rfl (by decide) rfl rfl ?_
                  refine g_goto (t := 12) X dX4_firstOfShelfFor_78 (by decide) ?_
                  exact g_lv (ihi (k + 1) (by omega) (by omega) (by omega) (fun i i0 i1 ei hc => by
                              rcases Int.lt_or_eq_of_le (show i ≤ k by omega) with c | c
                              · exact hK i i0 c ei hc
                              · subst c; unfold canP at hc; first | omega | exact c_42 ei)) [2, 3, 4, 0] rfl
                · refine g_aload (t := 74) X dX4_firstOfShelfFor_72 0 rfl rfl ?_
                  exact g_aret X r (Or.inl ⟨_, rfl⟩) ⟨Or.inr (by
                              have e := hS.found hL (x := tallF Y p) (w := wideF Y p) (s := s) (by omega) ht.1.1 k0 (by omega) c_42 ⟨by omega, by omega⟩ hO hK
                              exact ⟨e.1, e.2.1, by rw [e.2.2]⟩), rfl⟩ (Nat.le_of_ble_eq_true rfl) (Nat.le_of_ble_eq_true rfl) dX4_firstOfShelfFor_74
      refine g_iload_n (t := 3) X dX4_firstOfShelfFor_2 2 rfl rfl ?_
      refine g_aload_n (t := 4) X dX4_firstOfShelfFor_3 0 rfl rfl ?_
      refine getf_X4 (t := 7) (v := vi (S 9 0)) X 4 (by decide) q1_190 rfl rfl dX4_firstOfShelfFor_4 rfl ?_
      rw [h9]
      refine g_icmp_ge (t := 87) (u := 10) X dX4_firstOfShelfFor_7 (by decide) rfl ⟨by omega, by omega⟩ ⟨by omega, by omega⟩ (fun c_7 => ?_) (fun c_7 => ?_)
      · refine g_null (t := 88) X dX4_firstOfShelfFor_87 rfl ?_
        exact g_aretN X r (Or.inl ⟨_, rfl⟩) ⟨Or.inl ⟨hS.nofound hL (x := tallF Y p) (w := wideF Y p) (by omega) (fun i i0 i1 e0 e1 => hO i i0 i1 e0 (by omega)), rfl⟩, rfl⟩ (Nat.le_of_ble_eq_true rfl) (Nat.le_of_ble_eq_true rfl) dX4_firstOfShelfFor_88
      · refine g_iconst (t := 11) X dX4_firstOfShelfFor_10 rfl ?_
        refine g_istore_n (t := 12) (lv1 := [(3, vi 0), (0, .ref (ad 4)), (1, .ref (pA ad p)), (2, vi s)]) X dX4_firstOfShelfFor_11 (by decide) rfl rfl ?_
        exact g_lv (inner (by omega) ((Y 10 0).toNat + 1) 0 (by omega) (by omega) (by omega) (fun i i0 i1 => absurd i1 (by omega))) [1, 2, 3, 0] rfl
  show G C K Q 0 0 0 [(0, .ref (ad 4)), (1, .ref (pA ad p))] [] (WW C ad B E F S Y g R)
  refine g_iconst (t := 1) X dX4_firstOfShelfFor_0 rfl ?_
  refine g_istore_n (t := 2) (lv1 := [(2, vi 0), (0, .ref (ad 4)), (1, .ref (pA ad p))]) X dX4_firstOfShelfFor_1 (by decide) rfl rfl ?_
  exact g_lv (loop ((V 19 0).toNat + 1) 0 (by omega) (by omega) (by omega) (fun i i0 i1 e0 e1 => by omega)) [1, 2, 0] rfl

theorem k_fs {C : WC} {K : GK} {Q : State → Prop} {cells slots t : Nat} {lv : List (Nat × Value)} {rest : List Value} {w0 : va_W} {P1 P2 P3 : Prop} {x : Nat} (h1 : P1 → G C K Q cells slots t lv (.null :: rest) w0) (h2 : P2 → P3 → G C K Q cells slots t lv (.ref x :: rest) w0) : ∀ (v : Option Value) (ws1 : va_W), (((P1 ∧ v = some .null) ∨ (P2 ∧ P3 ∧ v = some (.ref x))) ∧ ws1 = w0) → G C K Q cells slots t lv (v.toList ++ rest) ws1 := by
  rintro _ _ ⟨⟨hp, rfl⟩ | ⟨hp, hq, rfl⟩, rfl⟩
  · exact h1 hp
  · exact h2 hp hq
set_option maxHeartbeats 4000000 in
set_option maxRecDepth 100000 in
/-- lay(part) -/
theorem c_X4_lay {C : WC} {l : Launch} (hfl : l.stackTraces = false) {ad : Nat → Nat} {B : BT} {E : Int × Nat} {F : Int × Nat × Nat} {S Y : Nat → Int → Int} {g : Int → Int} {R : va_W} {V : Nat → Int → Int} {b : Int → Int} {p : Int} (hI : MI Y) (hF : FC F Y) (hR : LT ad C E Y R) (hS : LRb Y V S b p p) (hL : LI V) (h17 : V 17 0 ≤ p) (p0 : 0 ≤ p) (p1 : p < Y 10 0) : MM C l yX4_lay cX4_lay 3 none 6 0 0 [.ref (ad 4), .ref (pA ad p)] (WW C ad B E F S Y g R) (fun v w => ∃ x : (Nat → Int → Int) × (Int → Int), LRb Y (layP Y V p) x.1 x.2 (p + 1) (p + 1) ∧ v = none ∧ w = WW C ad B E F x.1 Y g R) := by
  refine mm_of (by decide +kernel) (Nat.le_of_ble_eq_true rfl) hfl (fun K Q X r => ?_)
  have X : Cx C l "Springleaf" cX4_lay 3 6 0 0 K := X
  have I3 := hI.1
  have I10 := hI.2.2.1
  have I12 := hI.2.2.2.2.1
  have l1 := hL.1
  have l2 := hL.2.1
  have h9 := hS.2.2.2.2.1
  have ht := tw_rng hI p0 p1
  show G C K Q 0 0 0 [(0, .ref (ad 4)), (1, .ref (pA ad p))] [] (WW C ad B E F S Y g R)
  refine g_aload_n (t := 1) X dX4_lay_0 0 rfl rfl ?_
  refine g_aload_n (t := 2) X dX4_lay_1 1 rfl rfl ?_
  refine g_callV (t := 5) (mc := 0) (ms := 0) (rest := []) X mt_X4_firstOfShelfFor q2_47 q2_49 qs_7 4 WW_4 rfl (c_X4_firstOfShelfFor hfl hI hF hR hS hL (by omega) p0 p1) (by decide) (Nat.le_of_ble_eq_true rfl) (Nat.le_of_ble_eq_true rfl) (Nat.le_of_ble_eq_true rfl) rfl rfl dX4_lay_2 rfl (k_fs (fun e9 => ?_) (fun e9 e8 => ?_))
  · refine g_astore_nN (t := 6) (lv1 := [(2, .null), (0, .ref (ad 4)), (1, .ref (pA ad p))]) X dX4_lay_5 (by decide) rfl rfl ?_
    refine g_aload_nN (t := 7) X dX4_lay_6 0 rfl rfl ?_
    refine g_ifnonnullN (t := 10) X dX4_lay_7 rfl ?_
    refine g_aload_n (t := 11) X dX4_lay_10 1 rfl rfl ?_
    refine g_aload_n (t := 12) X dX4_lay_11 2 rfl rfl ?_
    refine g_callV (t := 15) (mc := 0) (ms := 0) (rest := []) X mt_X4_beginShelf q2_59 q2_61 qs_8 4 WW_4 rfl (c_X4_beginShelf hfl hI hF hR hS hL (by omega) p0 p1) (by decide) (Nat.le_of_ble_eq_true rfl) (Nat.le_of_ble_eq_true rfl) (Nat.le_of_ble_eq_true rfl) rfl rfl dX4_lay_12 rfl (k_rn ?_)
    have hB := hS.beg hL (by omega) p0 p1 ht.1.1 ht.1.2
    obtain ⟨v1, _⟩ := (newV_f V (tallF Y p)).1
    have hres := hB.lay (k := V 17 0) (w := wideF Y p) (q := p) p0 p1 l1 (by omega) (uI_s _ _ _).symm (fun _ _ _ _ => rfl)
    have eL : layP Y V p = plc (newV V (tallF Y p)) p (V 17 0) (wideF Y p) := by unfold layP; rw [if_pos (by omega)]
    rw [← eL] at hres
    generalize begS V S p (tallF Y p) (topF V (tallF Y p)) = U at hres ⊢
    refine g_aload_n (t := 16) X dX4_lay_15 2 rfl rfl ?_
    refine g_astore_n (t := 17) (lv1 := [(2, .ref (pA ad p)), (0, .ref (ad 4)), (1, .ref (pA ad p))]) X dX4_lay_16 (by decide) rfl rfl ?_
    refine g_aload_n (t := 18) X dX4_lay_17 2 rfl rfl ?_
    refine g_aload_n (t := 19) X dX4_lay_18 0 rfl rfl ?_
    refine g_getf (t := 22) (v := vi (U 4 p)) X inX3 _ (WW_p (p := p) (by omega) (by omega)) rfl 7 (by decide) q2_227 rfl rfl dX4_lay_19 rfl ?_
    refine g_putf (t := 25) X inX3 tyX3 tyX3_ok nmX3 _ (WW_p (p := p) (by omega) (by omega)) rfl 7 (by decide) q2_227 rfl rfl rfl rfl rfl (Nat.le_of_ble_eq_true rfl) (WW_sp7 (p := p) (by omega) (by omega)) dX4_lay_22 rfl ?_
    refine g_aload_n (t := 26) X dX4_lay_25 2 rfl rfl ?_
    refine g_aload_n (t := 27) X dX4_lay_26 0 rfl rfl ?_
    refine g_getf (t := 30) (v := vi (U 8 p)) X inX3 _ (WW_p (p := p) (by omega) (by omega)) rfl 11 (by decide) q2_231 rfl rfl dX4_lay_27 rfl ?_
    refine g_putf (t := 33) X inX3 tyX3 tyX3_ok nmX3 _ (WW_p (p := p) (by omega) (by omega)) rfl 8 (by decide) q2_228 rfl rfl rfl rfl rfl (Nat.le_of_ble_eq_true rfl) (WW_sp8 (p := p) (by omega) (by omega)) dX4_lay_30 rfl ?_
    refine g_aload_n (t := 34) X dX4_lay_33 2 rfl rfl ?_
    refine g_aload_n (t := 35) X dX4_lay_34 0 rfl rfl ?_
    refine g_getf (t := 38) (v := vi (U 6 p)) X inX3 _ (WW_p (p := p) (by omega) (by omega)) rfl 9 (by decide) q2_229 rfl rfl dX4_lay_35 rfl ?_
    refine g_putf (t := 41) X inX3 tyX3 tyX3_ok nmX3 _ (WW_p (p := p) (by omega) (by omega)) rfl 9 (by decide) q2_229 rfl rfl rfl rfl rfl (Nat.le_of_ble_eq_true rfl) (WW_sp9 (p := p) (by omega) (by omega)) dX4_lay_38 rfl ?_
    refine g_aload_n (t := 42) X dX4_lay_41 0 rfl rfl ?_
    refine g_dup (t := 43) X dX4_lay_42 rfl rfl ?_
    refine g_getf (t := 46) (v := vi (U 8 p)) X inX3 _ (WW_p (p := p) (by omega) (by omega)) rfl 11 (by decide) q2_231 rfl rfl dX4_lay_43 rfl ?_
    refine g_aload_n (t := 47) X dX4_lay_46 2 rfl rfl ?_
    refine g_callV (t := 50) (mc := 0) (ms := 0) (rest := [vi (U 8 p), .ref (pA ad p)]) X mt_X3_pieceWidth q2_55 q2_56 q2_57 _ (WW_p (p := p) (by omega) (by omega)) rfl (c_X3_pieceWidth (p := p) hfl hI (by omega) (by omega)) (by decide) (Nat.le_of_ble_eq_true rfl) (Nat.le_of_ble_eq_true rfl) (Nat.le_of_ble_eq_true rfl) rfl rfl dX4_lay_47 rfl (k_rv ?_)
    refine g_iadd (t := 51) X dX4_lay_50 rfl ?_
    refine g_putf (t := 54) X inX3 tyX3 tyX3_ok nmX3 _ (WW_p (p := p) (by omega) (by omega)) rfl 11 (by decide) q2_231 rfl rfl rfl rfl rfl (Nat.le_of_ble_eq_true rfl) (WW_sp11 (p := p) (by omega) (by omega)) dX4_lay_51 rfl ?_
    exact g_vret X r ⟨(u2 (u2 (u2 (u2 U 4 p (U 4 p)) 5 p (U 8 p)) 6 p (U 6 p)) 8 p ((U 8 p) + (wideF Y p)), (uI b (V 17 0) p)), hres, rfl, rfl⟩ (Nat.le_of_ble_eq_true rfl) (Nat.le_of_ble_eq_true rfl) dX4_lay_54
  · have hq := hS.1 _ e9 e8
    obtain ⟨q, eq⟩ : ∃ q : Int, q = b (selF V (tallF Y p) (wideF Y p)) := ⟨_, rfl⟩
    rw [← eq]
    rw [← eq] at hq
    have hres := (hS.up (show p ≤ p + 1 by omega)).lay (w := wideF Y p) p0 p1 e9 e8 eq (fun j j0 j1 e => by have := (hS.1 j j0 j1).1; omega)
    have eL : layP Y V p = plc V p (selF V (tallF Y p) (wideF Y p)) (wideF Y p) := by unfold layP; rw [if_neg (by omega)]
    rw [← eL] at hres
    refine g_astore_n (t := 6) (lv1 := [(2, .ref (pA ad q)), (0, .ref (ad 4)), (1, .ref (pA ad p))]) X dX4_lay_5 (by decide) rfl rfl ?_
    refine g_aload_n (t := 7) X dX4_lay_6 0 rfl rfl ?_
    refine g_ifnonnull (t := 17) X dX4_lay_7 (by decide) ?_
    refine g_aload_n (t := 18) X dX4_lay_17 2 rfl rfl ?_
    refine g_aload_n (t := 19) X dX4_lay_18 0 rfl rfl ?_
    refine g_getf (t := 22) (v := vi (S 4 q)) X inX3 _ (WW_p (p := q) (by omega) (by omega)) rfl 7 (by decide) q2_227 rfl rfl dX4_lay_19 rfl ?_
    refine g_putf (t := 25) X inX3 tyX3 tyX3_ok nmX3 _ (WW_p (p := p) (by omega) (by omega)) rfl 7 (by decide) q2_227 rfl rfl rfl rfl rfl (Nat.le_of_ble_eq_true rfl) (WW_sp7 (p := p) (by omega) (by omega)) dX4_lay_22 rfl ?_
    refine g_aload_n (t := 26) X dX4_lay_25 2 rfl rfl ?_
    refine g_aload_n (t := 27) X dX4_lay_26 0 rfl rfl ?_
    refine g_getf (t := 30) (v := vi (S 8 q)) X inX3 _ (WW_p (p := q) (by omega) (by omega)) rfl 11 (by decide) q2_231 rfl rfl dX4_lay_27 rfl ?_
    refine g_putf (t := 33) X inX3 tyX3 tyX3_ok nmX3 _ (WW_p (p := p) (by omega) (by omega)) rfl 8 (by decide) q2_228 rfl rfl rfl rfl rfl (Nat.le_of_ble_eq_true rfl) (WW_sp8 (p := p) (by omega) (by omega)) dX4_lay_30 rfl ?_
    refine g_aload_n (t := 34) X dX4_lay_33 2 rfl rfl ?_
    refine g_aload_n (t := 35) X dX4_lay_34 0 rfl rfl ?_
    refine g_getf (t := 38) (v := vi (S 6 q)) X inX3 _ (WW_p (p := q) (by omega) (by omega)) rfl 9 (by decide) q2_229 rfl rfl dX4_lay_35 rfl ?_
    refine g_putf (t := 41) X inX3 tyX3 tyX3_ok nmX3 _ (WW_p (p := p) (by omega) (by omega)) rfl 9 (by decide) q2_229 rfl rfl rfl rfl rfl (Nat.le_of_ble_eq_true rfl) (WW_sp9 (p := p) (by omega) (by omega)) dX4_lay_38 rfl ?_
    refine g_aload_n (t := 42) X dX4_lay_41 0 rfl rfl ?_
    refine g_dup (t := 43) X dX4_lay_42 rfl rfl ?_
    refine g_getf (t := 46) (v := vi (S 8 q)) X inX3 _ (WW_p (p := q) (by omega) (by omega)) rfl 11 (by decide) q2_231 rfl rfl dX4_lay_43 rfl ?_
    refine g_aload_n (t := 47) X dX4_lay_46 2 rfl rfl ?_
    refine g_callV (t := 50) (mc := 0) (ms := 0) (rest := [vi (S 8 q), .ref (pA ad q)]) X mt_X3_pieceWidth q2_55 q2_56 q2_57 _ (WW_p (p := p) (by omega) (by omega)) rfl (c_X3_pieceWidth (p := p) hfl hI (by omega) (by omega)) (by decide) (Nat.le_of_ble_eq_true rfl) (Nat.le_of_ble_eq_true rfl) (Nat.le_of_ble_eq_true rfl) rfl rfl dX4_lay_47 rfl (k_rv ?_)
    refine g_iadd (t := 51) X dX4_lay_50 rfl ?_
    refine g_putf (t := 54) X inX3 tyX3 tyX3_ok nmX3 _ (WW_p (p := q) (by omega) (by omega)) rfl 11 (by decide) q2_231 rfl rfl rfl rfl rfl (Nat.le_of_ble_eq_true rfl) (WW_sp11 (p := q) (by omega) (by omega)) dX4_lay_51 rfl ?_
    exact g_vret X r ⟨(u2 (u2 (u2 (u2 S 4 p (S 4 q)) 5 p (S 8 q)) 6 p (S 6 q)) 8 q ((S 8 q) + (wideF Y p)), b), hres, rfl, rfl⟩ (Nat.le_of_ble_eq_true rfl) (Nat.le_of_ble_eq_true rfl) dX4_lay_54

set_option maxHeartbeats 4000000 in
set_option maxRecDepth 100000 in
/-- layAllParts() -/
theorem c_X4_layAllParts {C : WC} {l : Launch} (hfl : l.stackTraces = false) {ad : Nat → Nat} {B : BT} {E : Int × Nat} {F : Int × Nat × Nat} {S Y : Nat → Int → Int} {g : Int → Int} {R : va_W} (V : Nat → Int → Int) (hI : MI Y) (hF : FC F Y) (hR : LT ad C E Y R) : MM C l yX4_layAllParts cX4_layAllParts 2 none 7 0 0 [.ref (ad 4)] (WW C ad B E F S Y g R) (fun v w => ∃ Z, LD Y (layF Y V) Z ∧ v = none ∧ w = WW C ad B E F Z Y g R) := by
  refine mm_of (by decide +kernel) (Nat.le_of_ble_eq_true rfl) hfl (fun K Q X r => ?_)
  have X : Cx C l "Springleaf" cX4_layAllParts 2 7 0 0 K := X
  have I3 := hI.1
  have I10 := hI.2.2.1
  have I12 := hI.2.2.2.2.1
  have loop2 : ∀ (n : Nat) (p : Int) (U : Nat → Int → Int) (b : Int → Int), 0 ≤ p → p ≤ Y 10 0 → Y 10 0 - p < n → LRb Y (layN Y V p.toNat) U b p p → G C K Q 0 0 41 [(0, .ref (ad 4)), (1, vi p)] [] (WW C ad B E F U Y g R) := by
    intro n
    induction n with
    | zero => intro p U b h0 h1 h2; exact absurd h2 (by omega)
    | succ n ih =>
      intro p U b p0 h1 h2 hU
      have hLn := LI_layN (V := V) hI p.toNat (by omega)
      refine g_iload_n (t := 42) X dX4_layAllParts_41 1 rfl rfl ?_
      refine g_aload_n (t := 43) X dX4_layAllParts_42 0 rfl rfl ?_
      refine getf_X4 (t := 46) X 1 (by decide) q1_187 rfl rfl dX4_layAllParts_43 rfl ?_
      refine g_callV (t := 49) (mc := 0) (ms := 0) (rest := [vi p]) X mt_Jx4a65c_size_8abf5 q1_210 q1_211 q1_212 2 WW_2 rfl (c_Jx4a65c_size_8abf5 (E := E) hfl 2 WW_2) (by decide) (Nat.le_of_ble_eq_true rfl) (Nat.le_of_ble_eq_true rfl) (Nat.le_of_ble_eq_true rfl) rfl rfl dX4_layAllParts_46 rfl (k_rv ?_)
      refine g_icmp_ge (t := 73) (u := 52) X dX4_layAllParts_49 (by decide) rfl ⟨by omega, by omega⟩ ⟨by omega, by omega⟩ (fun c_49 => ?_) (fun c_49 => ?_)
      · exact g_vret X r ⟨U, ⟨hU.2.2.2.2.1.trans (by unfold layF; rw [show p.toNat = (Y 10 0).toNat by omega]), fun q q0 q1 => by
                have h8 := hU.2.2.2.1 q q0 (by omega)
                unfold layF
                rw [show (Y 10 0).toNat = p.toNat by omega]
                exact h8⟩, rfl, rfl⟩ (Nat.le_of_ble_eq_true rfl) (Nat.le_of_ble_eq_true rfl) dX4_layAllParts_73
      · refine g_aload_n (t := 53) X dX4_layAllParts_52 0 rfl rfl ?_
        refine g_aload_n (t := 54) X dX4_layAllParts_53 0 rfl rfl ?_
        refine getf_X4 (t := 57) X 1 (by decide) q1_187 rfl rfl dX4_layAllParts_54 rfl ?_
        refine g_iload_n (t := 58) X dX4_layAllParts_57 1 rfl rfl ?_
        obtain ⟨cap_58, f_58, hc_58, ht_58, hf_58⟩ := hR (by omega)
        refine g_callV (t := 61) (mc := 0) (ms := 0) (rest := [.ref (ad 4)]) X mt_Jx4a65c_get_915e3 q1_214 q1_215 q1_216 2 WW_2 rfl (c_Jx4a65c_get_915e3 (E := E) hfl 2 WW_2 _ (WW_t ht_58) (by omega) (by omega) (by omega) (hf_58 p (by omega) (by omega)) (by omega) (by omega)) (by decide) (Nat.le_of_ble_eq_true rfl) (Nat.le_of_ble_eq_true rfl) (Nat.le_of_ble_eq_true rfl) rfl rfl dX4_layAllParts_58 rfl (k_rv ?_)
        refine g_castS (t := 64) X _ (WW_p (p := p) (by omega) (by omega)) rfl q2_5 dX4_layAllParts_61 rfl ?_
        refine g_callV (t := 67) (mc := 0) (ms := 0) (rest := []) X mt_X4_lay q2_43 q2_45 qs_6 4 WW_4 rfl (c_X4_lay hfl hI hF hR hU hLn.1 (by omega) p0 (by omega)) (by decide) (Nat.le_of_ble_eq_true rfl) (Nat.le_of_ble_eq_true rfl) (Nat.le_of_ble_eq_true rfl) rfl rfl dX4_layAllParts_64 rfl (k_exn (fun x9 h9 => ?_))
        refine g_iinc (t := 70) (lv1 := [(1, vi (p + 1)), (0, .ref (ad 4))]) X dX4_layAllParts_67 1 rfl (by decide) rfl rfl ?_
        refine g_goto (t := 41) X dX4_layAllParts_70 (by decide) ?_
        exact g_lv (ih (p + 1) x9.1 x9.2 (by omega) (by omega) (by omega) (by rw [layN_succ Y V p0]; exact h9)) [1, 0] rfl
  have loop1 : ∀ (n : Nat) (p : Int) (U : Nat → Int → Int), 0 ≤ p → p ≤ Y 10 0 → Y 10 0 - p < n → (∀ q, 0 ≤ q → q < p → U 7 q = 0) → (∀ q, Rg (U 4 q)) → U 9 0 = 0 → G C K Q 0 0 7 [(0, .ref (ad 4)), (1, vi p)] [] (WW C ad B E F U Y g R) := by
    intro n
    induction n with
    | zero => intro p U h0 h1 h2; exact absurd h2 (by omega)
    | succ n ih =>
      intro p U p0 h1 h2 h7 h4 h9
      refine g_iload_n (t := 8) X dX4_layAllParts_7 1 rfl rfl ?_
      refine g_aload_n (t := 9) X dX4_layAllParts_8 0 rfl rfl ?_
      refine getf_X4 (t := 12) X 1 (by decide) q1_187 rfl rfl dX4_layAllParts_9 rfl ?_
      refine g_callV (t := 15) (mc := 0) (ms := 0) (rest := [vi p]) X mt_Jx4a65c_size_8abf5 q1_210 q1_211 q1_212 2 WW_2 rfl (c_Jx4a65c_size_8abf5 (E := E) hfl 2 WW_2) (by decide) (Nat.le_of_ble_eq_true rfl) (Nat.le_of_ble_eq_true rfl) (Nat.le_of_ble_eq_true rfl) rfl rfl dX4_layAllParts_12 rfl (k_rv ?_)
      refine g_icmp_ge (t := 39) (u := 18) X dX4_layAllParts_15 (by decide) rfl ⟨by omega, by omega⟩ ⟨by omega, by omega⟩ (fun c_15 => ?_) (fun c_15 => ?_)
      · refine g_iconst (t := 40) X dX4_layAllParts_39 rfl ?_
        refine g_istore_n (t := 41) (lv1 := [(1, vi 0), (0, .ref (ad 4))]) X dX4_layAllParts_40 (by decide) rfl rfl ?_
        exact g_lv (loop2 ((Y 10 0).toNat + 1) 0 U id (by omega) (by omega) (by omega) (LRb.zero (fun q q0 q1 => h7 q q0 (by omega)) h4 h9)) [1, 0] rfl
      · refine g_aload_n (t := 19) X dX4_layAllParts_18 0 rfl rfl ?_
        refine getf_X4 (t := 22) X 1 (by decide) q1_187 rfl rfl dX4_layAllParts_19 rfl ?_
        refine g_iload_n (t := 23) X dX4_layAllParts_22 1 rfl rfl ?_
        obtain ⟨cap_23, f_23, hc_23, ht_23, hf_23⟩ := hR (by omega)
        refine g_callV (t := 26) (mc := 0) (ms := 0) (rest := []) X mt_Jx4a65c_get_915e3 q1_214 q1_215 q1_216 2 WW_2 rfl (c_Jx4a65c_get_915e3 (E := E) hfl 2 WW_2 _ (WW_t ht_23) (by omega) (by omega) (by omega) (hf_23 p (by omega) (by omega)) (by omega) (by omega)) (by decide) (Nat.le_of_ble_eq_true rfl) (Nat.le_of_ble_eq_true rfl) (Nat.le_of_ble_eq_true rfl) rfl rfl dX4_layAllParts_23 rfl (k_rv ?_)
        refine g_castS (t := 29) X _ (WW_p (p := p) (by omega) (by omega)) rfl q2_5 dX4_layAllParts_26 rfl ?_
        refine g_iconst (t := 30) X dX4_layAllParts_29 rfl ?_
        refine g_putf (t := 33) X inX3 tyX3 tyX3_ok nmX3 _ (WW_p (p := p) (by omega) (by omega)) rfl 10 (by decide) q2_230 rfl rfl rfl rfl rfl (Nat.le_of_ble_eq_true rfl) (WW_sp10 (p := p) (by omega) (by omega)) dX4_layAllParts_30 rfl ?_
        refine g_iinc (t := 36) (lv1 := [(1, vi (p + 1)), (0, .ref (ad 4))]) X dX4_layAllParts_33 1 rfl (by decide) rfl rfl ?_
        refine g_goto (t := 7) X dX4_layAllParts_36 (by decide) ?_
        exact g_lv (ih (p + 1) (u2 U 7 p 0) (by omega) (by omega) (by omega) (fun q q0 q1 => by
                show uI (U 7) p 0 q = 0
                by_cases c : q = p
                · rw [c, uI_s]
                · rw [uI_n _ _ c]; exact h7 q q0 (by omega)) h4 h9) [1, 0] rfl
  show G C K Q 0 0 0 [(0, .ref (ad 4))] [] (WW C ad B E F S Y g R)
  rw [← WW_nrm (S := S)]
  have hN : ∀ q, Rg (nrm S 4 q) := fun q => nrm_rg S 4 q
  refine g_aload_n (t := 1) X dX4_layAllParts_0 0 rfl rfl ?_
  refine g_iconst (t := 2) X dX4_layAllParts_1 rfl ?_
  refine putf_X4 (t := 5) X 4 (by decide) q1_190 rfl rfl rfl WW_f_4 dX4_layAllParts_2 rfl ?_
  refine g_iconst (t := 6) X dX4_layAllParts_5 rfl ?_
  refine g_istore_n (t := 7) (lv1 := [(1, vi 0), (0, .ref (ad 4))]) X dX4_layAllParts_6 (by decide) rfl rfl ?_
  exact g_lv (loop1 ((Y 10 0).toNat + 1) 0 (u2 (nrm S) 9 0 0) (by omega) (by omega) (by omega) (fun q q0 q1 => absurd q1 (by omega)) (fun q => hN q) rfl) [1, 0] rfl

