/-- the row of one long -/
def aL (C : WC) (g : Nat → Int64) : va_E := .inl (C.2.1 3, 1, .inr (.inl g))
theorem out_at {C : WC} {ad : Nat → Nat} {B : BT} {E : Int × Nat} {F : Int × Nat × Nat} {S Y : Nat → Int → Int} {gs : Int → Int} {cap : Nat} {n : Int} {x : Nat × va_E} {R1 : va_W} : (WW C ad B E F S Y gs (elW C ad E cap n ++ (x :: R1)))[(WW C ad B E F S Y gs (elW C ad E cap n)).length]? = some x := by
  rw [← WW_app, List.getElem?_append_right (Nat.le_refl _), Nat.sub_self]; rfl
theorem out_set {C : WC} {ad : Nat → Nat} {B : BT} {E : Int × Nat} {F : Int × Nat × Nat} {S Y : Nat → Int → Int} {gs : Int → Int} {cap : Nat} {n : Int} {x y : Nat × va_E} {R1 : va_W} : (WW C ad B E F S Y gs (elW C ad E cap n ++ (x :: R1))).set (WW C ad B E F S Y gs (elW C ad E cap n)).length y = WW C ad B E F S Y gs (elW C ad E cap n ++ (y :: R1)) := by
  rw [← WW_app, ← WW_app, List.set_append_right _ _ (Nat.le_refl _), Nat.sub_self]; rfl
def up0 (g : Nat → Int64) (v : Int64) : Nat → Int64 := vp_updL g (iZ 0).toNatClampNeg v
theorem up0_0 (g : Nat → Int64) (v : Int64) : up0 g v 0 = v := by
  unfold up0
  rw [iZ_clamp (Int.le_refl 0) (by omega)]
  exact pk_uLs
theorem bF_01 (P : Prop) : bF P = 0 ∨ bF P = 1 := by
  by_cases h : P
  · exact Or.inr (bF_t h).symm
  · exact Or.inl (bF_f h).symm
section GL
variable {C : WC} {l0 : Launch} {own : String} {cc : ByteArray} {nL d Mc Ms : Nat} {K : GK} {Q : State → Prop} {cells slots pc t : Nat} {lv lv1 : List (Nat × Value)} {st : List Value} {ws ws1 : va_W}
theorem g_i2l (X : Cx C l0 own cc nL d Mc Ms K) {x : Int32} (hd : decode cc pc = .ok (.i2l, 1)) (hpc : pc + 1 = t) (k : G C K Q cells slots t lv (.long x.toInt64 :: st) ws) : G C K Q cells slots pc lv (.int x :: st) ws := by
  obtain ⟨p, l, e, R, s, m, args, below, meth, c, nL⟩ := K
  obtain ⟨rfl, rfl, hx, hb, hml, hown, hT, hK, hN, hE, hlk, hfl, hfr, hlo, hmc, hms⟩ := X
  subst hpc
  intro H locs ls hP hD hS hl
  exact lv_i2l hx hb hd rfl (k H locs ls hP hD hS hl)
theorem g_lconst (X : Cx C l0 own cc nL d Mc Ms K) {n : Fin 2} (hd : decode cc pc = .ok (.lconst n, 1)) (hpc : pc + 1 = t) (k : G C K Q cells slots t lv (.long (Int64.ofNat (n : Nat)) :: st) ws) : G C K Q cells slots pc lv st ws := by
  obtain ⟨p, l, e, R, s, m, args, below, meth, c, nL⟩ := K
  obtain ⟨rfl, rfl, hx, hb, hml, hown, hT, hK, hN, hE, hlk, hfl, hfr, hlo, hmc, hms⟩ := X
  subst hpc
  intro H locs ls hP hD hS hl
  exact lv_lconst hx hb hd rfl (k H locs ls hP hD hS hl)
theorem g_last (X : Cx C l0 own cc nL d Mc Ms K) {q0 ao : Nat} {g : Nat → Int64} {v : Int64} (he : ws[q0]? = some (ao, aL C g)) (hw : ws.set q0 (ao, aL C (up0 g v)) = ws1) (hd : decode cc pc = .ok (.lastore, 1)) (hpc : pc + 1 = t) (k : G C K Q cells slots t lv st ws1) : G C K Q cells slots pc lv (.long v :: vi 0 :: .ref ao :: st) ws := by
  obtain ⟨p, l, e, R, s, m, args, below, meth, c, nL⟩ := K
  obtain ⟨rfl, rfl, hx, hb, hml, hown, hT, hK, hN, hE, hlk, hfl, hfr, hlo, hmc, hms⟩ := X
  subst hpc
  intro H locs ls hP hD hS hl
  exact va_last hx hb hK hP hD hS q0 3 he rfl (iZ_in (Int.le_refl 0) (by omega) (by omega)) hd (fun H1 locs1 hP hD hS => k H1 locs1 ls (by rw [← hw]; exact hP) (by rw [← hw]; exact hD) hS hl)
theorem g_lald (X : Cx C l0 own cc nL d Mc Ms K) {q0 ao : Nat} {g : Nat → Int64} (he : ws[q0]? = some (ao, aL C g)) (hd : decode cc pc = .ok (.laload, 1)) (hpc : pc + 1 = t) (k : G C K Q cells slots t lv (.long (g 0) :: st) ws) : G C K Q cells slots pc lv (vi 0 :: .ref ao :: st) ws := by
  obtain ⟨p, l, e, R, s, m, args, below, meth, c, nL⟩ := K
  obtain ⟨rfl, rfl, hx, hb, hml, hown, hT, hK, hN, hE, hlk, hfl, hfr, hlo, hmc, hms⟩ := X
  subst hpc
  intro H locs ls hP hD hS hl
  exact va_lald hx hb hK hP q0 3 he rfl (iZ_in (Int.le_refl 0) (by omega) (by omega)) hd (by rw [iZ_clamp (Int.le_refl 0) (by omega)]; exact k H locs ls hP hD hS hl)
/-- an exception that the method catches -/
theorem g_catch (X : Cx C l0 own cc nL d Mc Ms K) {hh : List (Nat × Nat × Nat × Nat)} (ht : Ht hh K) {E name : String} (pre : List (Nat × Nat × Nat × Nat)) (x : Nat × Nat × Nat × Nat) (suf : List (Nat × Nat × Nat × Nat)) (hsplit : hh = pre ++ x :: suf) (hpass : ∀ z ∈ pre, z.2.2.2 ≠ 0 ∧ ∃ nm : String, Cond.classLink own z.2.2.2 nm ∈ TW ∧ (E, nm) ∈ NCL) (hx9 : covers ⟨x.1, x.2.1, x.2.2.1, x.2.2.2⟩ pc = true) (h0 : x.2.2.2 ≠ 0) (hlink : Cond.classLink own x.2.2.2 name ∈ TW) (hcast : Cond.castable E name ∈ TW) (hpc : x.2.2.1 = t) (k : ∀ q : Nat, G C K Q cells slots t lv [.ref q] ws) : GX C K Q cells slots pc lv E ws := by
  obtain ⟨p, l, e, R, s, m, args, below, meth, c, nL⟩ := K
  obtain ⟨rfl, rfl, hx, hb, hml, hown, hT, hK, hN, hE, hlk, hfl, hfr, hlo, hmc, hms⟩ := X
  subst hpc
  intro H locs ls st ce q hP hD hS hl hce hv hcl
  have ht : c.exceptionTable.toList = tableOf hh := ht
  refine vx_catch hown (tableOf pre) ⟨x.1, x.2.1, x.2.2.1, x.2.2.2⟩ (tableOf suf) (by rw [ht, hsplit]; simp [tableOf]) (fun z hz => ?_) hx9 h0 (hT.at args _ hlink) (hT.at args _ hcast) hce hv hcl (k q H locs ls hP hD hS hl)
  obtain ⟨y, hy, rfl⟩ := List.mem_map.mp hz
  obtain ⟨h1, nm, h2, h3⟩ := hpass y hy
  exact Or.inr ⟨h1, nm, hT.at args _ h2, hE.2.2.2.2.2.2.2.2.2.2.2.2 _ h3⟩
theorem k_po {A : Prop} {res : Int} {Y' : Nat → Int → Int} {wg : (Nat → Int → Int) → (Int → Int) → va_W} {rest : List Value} (h : ∀ Z h9, SI Y' h9 → A → G C K Q cells slots t lv (vi res :: rest) (wg Z h9)) : ∀ (v : Option Value) (ws1 : va_W), po A res Y' wg v ws1 → G C K Q cells slots t lv (v.toList ++ rest) ws1 := by
  rintro _ _ ⟨hA, Z, h9, hS, rfl, rfl⟩; exact h Z h9 hS hA
theorem k_fold {A : Prop} {res : Int} {rest : List Value} {P : (Nat → Nat) → (Int × Nat × Nat) → (Int → Int) → Prop} {wg : (Nat → Nat) → (Int × Nat × Nat) → (Nat → Int → Int) → (Int → Int) → va_W} (h : ∀ ad' F' Z h', A → P ad' F' h' → G C K Q cells slots t lv (vi res :: rest) (wg ad' F' Z h')) : ∀ (v : Option Value) (ws1 : va_W), (A ∧ ∃ (ad' : Nat → Nat) (F' : Int × Nat × Nat) (Z : Nat → Int → Int) (h' : Int → Int), P ad' F' h' ∧ v = some (vi res) ∧ ws1 = wg ad' F' Z h') → G C K Q cells slots t lv (v.toList ++ rest) ws1 := by
  rintro _ _ ⟨hA, a1, F1, Z, h1, hP, rfl, rfl⟩; exact h a1 F1 Z h1 hA hP
theorem k_px3 {A B D : Prop} {EA EB ED : String} {w0 : (Nat → Int → Int) → va_W} (hA : ∀ Z, ¬ A → GX C K Q cells slots pc lv EA (w0 Z)) (hB : ∀ Z, A → ¬ B → GX C K Q cells slots pc lv EB (w0 Z)) (hD : ∀ Z, A → B → ¬ D → GX C K Q cells slots pc lv ED (w0 Z)) : ∀ (e : String) (ws1 : va_W), px3 A B D EA EB ED w0 e ws1 → GX C K Q cells slots pc lv e ws1 := by
  rintro _ _ ⟨⟨Z, rfl⟩, ⟨rfl, h⟩ | ⟨rfl, h1, h2⟩ | ⟨rfl, h1, h2, h3⟩⟩
  · exact hA Z h
  · exact hB Z h1 h2
  · exact hD Z h1 h2 h3
theorem k_part {A : Prop} {res : Int} {rest : List Value} {P : (Nat → Nat) → (Int × Nat) → Nat → (Int → Int) → Prop} {wg : (Nat → Nat) → (Int × Nat) → Nat → (Nat → Int → Int) → (Int → Int) → va_W} (h : ∀ ad' E' cap' Z h', A → P ad' E' cap' h' → G C K Q cells slots t lv (vi res :: rest) (wg ad' E' cap' Z h')) : ∀ (v : Option Value) (ws1 : va_W), (A ∧ ∃ (ad' : Nat → Nat) (E' : Int × Nat) (cap' : Nat) (Z : Nat → Int → Int) (h' : Int → Int), P ad' E' cap' h' ∧ v = some (vi res) ∧ ws1 = wg ad' E' cap' Z h') → G C K Q cells slots t lv (v.toList ++ rest) ws1 := by
  rintro _ _ ⟨hA, a1, E1, c1, Z, h1, hP, rfl, rfl⟩; exact h a1 E1 c1 Z h1 hA hP
theorem k_tel {A : Prop} {res : Int} {rest : List Value} {P : BT → Prop} {wg : BT → va_W} (h : ∀ B, A → P B → G C K Q cells slots t lv (vi res :: rest) (wg B)) : ∀ (v : Option Value) (ws1 : va_W), (A ∧ ∃ B : BT, P B ∧ v = some (vi res) ∧ ws1 = wg B) → G C K Q cells slots t lv (v.toList ++ rest) ws1 := by
  rintro _ _ ⟨hA, B, hP, rfl, rfl⟩; exact h B hA hP
end GL
/-- a wrapper's code, and what it leaves -/
def lwP (A B D : Prop) (res : Int) (w0 : (Nat → Int → Int) → va_W) (Wg : (Nat → Int64) → va_W → Prop) : Option Value → va_W → Prop := fun v w => ∃ z : Int, v = some (vi z) ∧ ((z = 1 ∧ ¬ A ∧ ∃ Z, w = w0 Z) ∨ (z = 2 ∧ A ∧ ¬ B ∧ ∃ Z, w = w0 Z) ∨ (z = 3 ∧ A ∧ B ∧ ¬ D ∧ ∃ Z, w = w0 Z) ∨ (z = 0 ∧ A ∧ B ∧ D ∧ ∃ g' : Nat → Int64, g' 0 = (iZ res).toInt64 ∧ Wg g' w))
set_option maxHeartbeats 4000000 in
set_option maxRecDepth 100000 in
/-- the law's fold -/
theorem c_L_fold {C : WC} {l : Launch} (hfl : l.stackTraces = false) {ad : Nat → Nat} {B : BT} {E : Int × Nat} {F : Int × Nat × Nat} {S Y : Nat → Int → Int} {gs : Int → Int} {cap : Nat} {ao : Nat} {g : Nat → Int64} {R1 : va_W} {f x y : Int} (hI : MI Y) (hF : FC F Y) (hP : PLF C E cap Y) (hG : SI Y gs) (hf : Rg f) (hx : Rg x) (hy : Rg y)  : MH C l yL_fold cL_fold 6 (some .int) [(0, 12, 15, 13), (0, 12, 19, 15), (0, 12, 23, 17)] 7 10 80 [.ref (ad 4), vi f, vi x, vi y, .ref ao] (WW C ad B E F S Y gs (elW C ad E cap (Y 10 0) ++ ((ao, aL C g) :: R1))) (lwP (0 ≤ f ∧ f < Y 3 0) ((1 ≤ x ∧ x ≤ 8) ∧ -90 ≤ y ∧ y ≤ 90) (Y 3 0 ≠ 12 ∧ ¬ boundF Y) (Y 3 0) (fun Z => (WW C ad B E F Z Y gs (elW C ad E cap (Y 10 0) ++ ((ao, aL C g) :: R1)))) (fun g' w => ∃ (ad' : Nat → Nat) (F' : Int × Nat × Nat) (Z : Nat → Int → Int) (h : Int → Int), (ad' 4 = ad 4 ∧ FC F' (YF Y f x y) ∧ SI (YF Y f x y) h) ∧ w = (WW C ad' B E F' Z (YF Y f x y) h (elW C ad' E cap ((YF Y f x y) 10 0) ++ ((ao, aL C (g')) :: R1))))) := by
  refine mh_of (by decide +kernel) (Nat.le_of_ble_eq_true rfl) hfl (fun K Q X r ht => ?_)
  have X : Cx C l "SpringleafLaw" cL_fold 6 7 10 80 K := X
  show G C K Q 0 0 0 [(0, .ref (ad 4)), (1, vi f), (2, vi x), (3, vi y), (4, .ref ao)] [] (WW C ad B E F S Y gs (elW C ad E cap (Y 10 0) ++ ((ao, aL C g) :: R1)))
  refine g_aload (t := 2) X dL_fold_0 4 rfl rfl ?_
  refine g_iconst (t := 3) X dL_fold_2 rfl ?_
  refine g_aload_n (t := 4) X dL_fold_3 0 rfl rfl ?_
  refine g_iload_n (t := 5) X dL_fold_4 1 rfl rfl ?_
  refine g_iload_n (t := 6) X dL_fold_5 2 rfl rfl ?_
  refine g_iload_n (t := 7) X dL_fold_6 3 rfl rfl ?_
  refine gx_callV (t := 10) (mc := 10) (ms := 80) (rest := [vi 0, .ref ao]) X mt_X4_fold q2_86 q2_87 q2_88 4 WW_4 rfl (c_X4_fold hfl hI hF hP.lt hG hf hx hy) (by decide) (Nat.le_of_ble_eq_true rfl) (Nat.le_of_ble_eq_true rfl) (Nat.le_of_ble_eq_true rfl) rfl rfl dL_fold_7 rfl (k_fold (fun ad1 F1 Z h9 hA hQ9 => ?_)) (k_px3 (fun Z9 hx0 => (g_catch X ht [] (0, 12, 15, 13) [(0, 12, 19, 15), (0, 12, 23, 17)] rfl (fun z hz => absurd hz List.not_mem_nil) (by decide) (by decide) q2_83 q2_99 rfl (fun q9 => ?_))) (fun Z9 hx0 hx1 => (g_catch X ht [(0, 12, 15, 13)] (0, 12, 19, 15) [(0, 12, 23, 17)] rfl (List.forall_mem_cons.mpr ⟨⟨by decide, "java/lang/IndexOutOfBoundsException", q2_83, List.mem_of_getElem? (i := 0) rfl⟩, fun _ h => nomatch h⟩) (by decide) (by decide) q2_84 q2_168 rfl (fun q9 => ?_))) (fun Z9 hx0 hx1 hx2 => (g_catch X ht [(0, 12, 15, 13), (0, 12, 19, 15)] (0, 12, 23, 17) [] rfl (List.forall_mem_cons.mpr ⟨⟨by decide, "java/lang/IndexOutOfBoundsException", q2_83, List.mem_of_getElem? (i := 1) rfl⟩, List.forall_mem_cons.mpr ⟨⟨by decide, "java/lang/IllegalArgumentException", q2_84, List.mem_of_getElem? (i := 2) rfl⟩, fun _ h => nomatch h⟩⟩) (by decide) (by decide) q2_85 q2_185 rfl (fun q9 => ?_))))
  · rw [← hQ9.2.2.2 (Y 10 0)]
    refine g_i2l (t := 11) X dL_fold_10 rfl ?_
    refine g_last (t := 12) X out_at out_set dL_fold_11 rfl ?_
    refine g_goto (t := 27) X dL_fold_12 (by decide) ?_
    refine g_iconst (t := 28) X dL_fold_27 rfl ?_
    exact g_iret X r ⟨0, rfl, Or.inr (Or.inr (Or.inr ⟨rfl, hA.1, hA.2.1, hA.2.2, up0 g (iZ (Y 3 0)).toInt64, up0_0 _ _, ad1, F1, Z, h9, ⟨hQ9.1, hQ9.2.1, hQ9.2.2.1⟩, rfl⟩))⟩ (Nat.le_of_ble_eq_true rfl) (Nat.le_of_ble_eq_true rfl) dL_fold_28
  · refine g_astore (t := 17) (lv1 := [(5, .ref q9), (0, .ref (ad 4)), (1, vi f), (2, vi x), (3, vi y), (4, .ref ao)]) X dL_fold_15 (by decide) rfl rfl ?_
    refine g_iconst (t := 18) X dL_fold_17 rfl ?_
    exact g_iret X r ⟨1, rfl, Or.inl ⟨rfl, hx0, Z9, rfl⟩⟩ (Nat.le_of_ble_eq_true rfl) (Nat.le_of_ble_eq_true rfl) dL_fold_18
  · refine g_astore (t := 21) (lv1 := [(5, .ref q9), (0, .ref (ad 4)), (1, vi f), (2, vi x), (3, vi y), (4, .ref ao)]) X dL_fold_19 (by decide) rfl rfl ?_
    refine g_iconst (t := 22) X dL_fold_21 rfl ?_
    exact g_iret X r ⟨2, rfl, Or.inr (Or.inl ⟨rfl, hx0, hx1, Z9, rfl⟩)⟩ (Nat.le_of_ble_eq_true rfl) (Nat.le_of_ble_eq_true rfl) dL_fold_22
  · refine g_astore (t := 25) (lv1 := [(5, .ref q9), (0, .ref (ad 4)), (1, vi f), (2, vi x), (3, vi y), (4, .ref ao)]) X dL_fold_23 (by decide) rfl rfl ?_
    refine g_iconst (t := 26) X dL_fold_25 rfl ?_
    exact g_iret X r ⟨3, rfl, Or.inr (Or.inr (Or.inl ⟨rfl, hx0, hx1, hx2, Z9, rfl⟩))⟩ (Nat.le_of_ble_eq_true rfl) (Nat.le_of_ble_eq_true rfl) dL_fold_26

set_option maxHeartbeats 4000000 in
set_option maxRecDepth 100000 in
/-- the law's angle -/
theorem c_L_angle {C : WC} {l : Launch} (hfl : l.stackTraces = false) {ad : Nat → Nat} {B : BT} {E : Int × Nat} {F : Int × Nat × Nat} {S Y : Nat → Int → Int} {gs : Int → Int} {cap : Nat} {ao : Nat} {g : Nat → Int64} {R1 : va_W} {f o : Int} (hI : MI Y) (hF : FC F Y) (hP : PLF C E cap Y) (hG : SI Y gs) (hf : Rg f) (ho : Rg o)  : MH C l yL_angle cL_angle 5 (some .int) [(0, 10, 13, 13), (0, 10, 17, 15)] 5 6 40 [.ref (ad 4), vi f, vi o, .ref ao] (WW C ad B E F S Y gs (elW C ad E cap (Y 10 0) ++ ((ao, aL C g) :: R1))) (lwP (0 ≤ f ∧ f < Y 3 0) (0 ≤ o ∧ o ≤ 180) True (angF Y f o) (fun Z => (WW C ad B E F Z Y gs (elW C ad E cap (Y 10 0) ++ ((ao, aL C g) :: R1)))) (fun g' w => ∃ (Z : Nat → Int → Int) (h : Int → Int), SI Y h ∧ w = (WW C ad B E F Z Y h (elW C ad E cap (Y 10 0) ++ ((ao, aL C (g')) :: R1))))) := by
  refine mh_of (by decide +kernel) (Nat.le_of_ble_eq_true rfl) hfl (fun K Q X r ht => ?_)
  have X : Cx C l "SpringleafLaw" cL_angle 5 5 6 40 K := X
  show G C K Q 0 0 0 [(0, .ref (ad 4)), (1, vi f), (2, vi o), (3, .ref ao)] [] (WW C ad B E F S Y gs (elW C ad E cap (Y 10 0) ++ ((ao, aL C g) :: R1)))
  refine g_aload_n (t := 1) X dL_angle_0 3 rfl rfl ?_
  refine g_iconst (t := 2) X dL_angle_1 rfl ?_
  refine g_aload_n (t := 3) X dL_angle_2 0 rfl rfl ?_
  refine g_iload_n (t := 4) X dL_angle_3 1 rfl rfl ?_
  refine g_iload_n (t := 5) X dL_angle_4 2 rfl rfl ?_
  refine gx_callV (t := 8) (mc := 6) (ms := 40) (rest := [vi 0, .ref ao]) X mt_X4_angle q3_20 q3_21 q3_22 4 WW_4 rfl (c_X4_angle hfl hI hF hP.lt hG hf ho) (by decide) (Nat.le_of_ble_eq_true rfl) (Nat.le_of_ble_eq_true rfl) (Nat.le_of_ble_eq_true rfl) rfl rfl dL_angle_5 rfl (k_po (fun Z h9 hS9 hA => ?_)) (k_px3 (fun Z9 hx0 => (g_catch X ht [] (0, 10, 13, 13) [(0, 10, 17, 15)] rfl (fun z hz => absurd hz List.not_mem_nil) (by decide) (by decide) q2_83 q2_99 rfl (fun q9 => ?_))) (fun Z9 hx0 hx1 => (g_catch X ht [(0, 10, 13, 13)] (0, 10, 17, 15) [] rfl (List.forall_mem_cons.mpr ⟨⟨by decide, "java/lang/IndexOutOfBoundsException", q2_83, List.mem_of_getElem? (i := 0) rfl⟩, fun _ h => nomatch h⟩) (by decide) (by decide) q2_84 q2_168 rfl (fun q9 => ?_))) (fun Z9 hx0 hx1 hx2 => absurd trivial hx2))
  · refine g_i2l (t := 9) X dL_angle_8 rfl ?_
    refine g_last (t := 10) X out_at out_set dL_angle_9 rfl ?_
    refine g_goto (t := 21) X dL_angle_10 (by decide) ?_
    refine g_iconst (t := 22) X dL_angle_21 rfl ?_
    exact g_iret X r ⟨0, rfl, Or.inr (Or.inr (Or.inr ⟨rfl, hA.1, hA.2, trivial, up0 g (iZ (angF Y f o)).toInt64, up0_0 _ _, Z, h9, hS9, rfl⟩))⟩ (Nat.le_of_ble_eq_true rfl) (Nat.le_of_ble_eq_true rfl) dL_angle_22
  · refine g_astore (t := 15) (lv1 := [(4, .ref q9), (0, .ref (ad 4)), (1, vi f), (2, vi o), (3, .ref ao)]) X dL_angle_13 (by decide) rfl rfl ?_
    refine g_iconst (t := 16) X dL_angle_15 rfl ?_
    exact g_iret X r ⟨1, rfl, Or.inl ⟨rfl, hx0, Z9, rfl⟩⟩ (Nat.le_of_ble_eq_true rfl) (Nat.le_of_ble_eq_true rfl) dL_angle_16
  · refine g_astore (t := 19) (lv1 := [(4, .ref q9), (0, .ref (ad 4)), (1, vi f), (2, vi o), (3, .ref ao)]) X dL_angle_17 (by decide) rfl rfl ?_
    refine g_iconst (t := 20) X dL_angle_19 rfl ?_
    exact g_iret X r ⟨2, rfl, Or.inr (Or.inl ⟨rfl, hx0, hx1, Z9, rfl⟩)⟩ (Nat.le_of_ble_eq_true rfl) (Nat.le_of_ble_eq_true rfl) dL_angle_20

set_option maxHeartbeats 4000000 in
set_option maxRecDepth 100000 in
/-- the law's angleAnew -/
theorem c_L_angleAnew {C : WC} {l : Launch} (hfl : l.stackTraces = false) {ad : Nat → Nat} {B : BT} {E : Int × Nat} {F : Int × Nat × Nat} {S Y : Nat → Int → Int} {gs : Int → Int} {cap : Nat} {ao : Nat} {g : Nat → Int64} {R1 : va_W} {f o : Int} (hI : MI Y) (hF : FC F Y) (hP : PLF C E cap Y) (hG : SI Y gs) (hf : Rg f) (ho : Rg o)  : MH C l yL_angleAnew cL_angleAnew 5 (some .int) [(0, 10, 13, 13), (0, 10, 17, 15)] 6 6 40 [.ref (ad 4), vi f, vi o, .ref ao] (WW C ad B E F S Y gs (elW C ad E cap (Y 10 0) ++ ((ao, aL C g) :: R1))) (lwP (0 ≤ f ∧ f < Y 3 0) (0 ≤ o ∧ o ≤ 180) True (angF Y f o) (fun Z => (WW C ad B E F Z Y gs (elW C ad E cap (Y 10 0) ++ ((ao, aL C g) :: R1)))) (fun g' w => ∃ (Z : Nat → Int → Int) (h : Int → Int), SI Y h ∧ w = (WW C ad B E F Z Y h (elW C ad E cap (Y 10 0) ++ ((ao, aL C (g')) :: R1))))) := by
  refine mh_of (by decide +kernel) (Nat.le_of_ble_eq_true rfl) hfl (fun K Q X r ht => ?_)
  have X : Cx C l "SpringleafLaw" cL_angleAnew 5 6 6 40 K := X
  show G C K Q 0 0 0 [(0, .ref (ad 4)), (1, vi f), (2, vi o), (3, .ref ao)] [] (WW C ad B E F S Y gs (elW C ad E cap (Y 10 0) ++ ((ao, aL C g) :: R1)))
  refine g_aload_n (t := 1) X dL_angleAnew_0 3 rfl rfl ?_
  refine g_iconst (t := 2) X dL_angleAnew_1 rfl ?_
  refine g_aload_n (t := 3) X dL_angleAnew_2 0 rfl rfl ?_
  refine g_iload_n (t := 4) X dL_angleAnew_3 1 rfl rfl ?_
  refine g_iload_n (t := 5) X dL_angleAnew_4 2 rfl rfl ?_
  refine gx_callV (t := 8) (mc := 6) (ms := 40) (rest := [vi 0, .ref ao]) X mt_X4_angleAnew q3_31 q3_32 q3_33 4 WW_4 rfl (c_X4_angleAnew hfl hI hF hP.lt hG hf ho) (by decide) (Nat.le_of_ble_eq_true rfl) (Nat.le_of_ble_eq_true rfl) (Nat.le_of_ble_eq_true rfl) rfl rfl dL_angleAnew_5 rfl (k_po (fun Z h9 hS9 hA => ?_)) (k_px3 (fun Z9 hx0 => (g_catch X ht [] (0, 10, 13, 13) [(0, 10, 17, 15)] rfl (fun z hz => absurd hz List.not_mem_nil) (by decide) (by decide) q2_83 q2_99 rfl (fun q9 => ?_))) (fun Z9 hx0 hx1 => (g_catch X ht [(0, 10, 13, 13)] (0, 10, 17, 15) [] rfl (List.forall_mem_cons.mpr ⟨⟨by decide, "java/lang/IndexOutOfBoundsException", q2_83, List.mem_of_getElem? (i := 0) rfl⟩, fun _ h => nomatch h⟩) (by decide) (by decide) q2_84 q2_168 rfl (fun q9 => ?_))) (fun Z9 hx0 hx1 hx2 => absurd trivial hx2))
  · refine g_i2l (t := 9) X dL_angleAnew_8 rfl ?_
    refine g_last (t := 10) X out_at out_set dL_angleAnew_9 rfl ?_
    refine g_goto (t := 21) X dL_angleAnew_10 (by decide) ?_
    refine g_iconst (t := 22) X dL_angleAnew_21 rfl ?_
    exact g_iret X r ⟨0, rfl, Or.inr (Or.inr (Or.inr ⟨rfl, hA.1, hA.2, trivial, up0 g (iZ (angF Y f o)).toInt64, up0_0 _ _, Z, h9, hS9, rfl⟩))⟩ (Nat.le_of_ble_eq_true rfl) (Nat.le_of_ble_eq_true rfl) dL_angleAnew_22
  · refine g_astore (t := 15) (lv1 := [(4, .ref q9), (0, .ref (ad 4)), (1, vi f), (2, vi o), (3, .ref ao)]) X dL_angleAnew_13 (by decide) rfl rfl ?_
    refine g_iconst (t := 16) X dL_angleAnew_15 rfl ?_
    exact g_iret X r ⟨1, rfl, Or.inl ⟨rfl, hx0, Z9, rfl⟩⟩ (Nat.le_of_ble_eq_true rfl) (Nat.le_of_ble_eq_true rfl) dL_angleAnew_16
  · refine g_astore (t := 19) (lv1 := [(4, .ref q9), (0, .ref (ad 4)), (1, vi f), (2, vi o), (3, .ref ao)]) X dL_angleAnew_17 (by decide) rfl rfl ?_
    refine g_iconst (t := 20) X dL_angleAnew_19 rfl ?_
    exact g_iret X r ⟨2, rfl, Or.inr (Or.inl ⟨rfl, hx0, hx1, Z9, rfl⟩)⟩ (Nat.le_of_ble_eq_true rfl) (Nat.le_of_ble_eq_true rfl) dL_angleAnew_20

set_option maxHeartbeats 4000000 in
set_option maxRecDepth 100000 in
/-- the law's where -/
theorem c_L_where {C : WC} {l : Launch} (hfl : l.stackTraces = false) {ad : Nat → Nat} {B : BT} {E : Int × Nat} {F : Int × Nat × Nat} {S Y : Nat → Int → Int} {gs : Int → Int} {cap : Nat} {ao : Nat} {g : Nat → Int64} {R1 : va_W} {p o x : Int} (hI : MI Y) (hF : FC F Y) (hP : PLF C E cap Y) (hG : SI Y gs) (hp : Rg p) (ho : Rg o) (hx : Rg x)  : MH C l yL_where cL_where 6 (some .int) [(0, 12, 15, 13), (0, 12, 19, 15)] 5 6 40 [.ref (ad 4), vi p, vi o, vi x, .ref ao] (WW C ad B E F S Y gs (elW C ad E cap (Y 10 0) ++ ((ao, aL C g) :: R1))) (lwP (0 ≤ p ∧ p < Y 10 0) ((0 ≤ o ∧ o ≤ 180) ∧ 0 ≤ x ∧ x ≤ 2) True (if x = 0 then riseF Y p o else if x = 1 then lowF Y p o else highF Y p o) (fun Z => (WW C ad B E F Z Y gs (elW C ad E cap (Y 10 0) ++ ((ao, aL C g) :: R1)))) (fun g' w => ∃ (Z : Nat → Int → Int) (h : Int → Int), SI Y h ∧ w = (WW C ad B E F Z Y h (elW C ad E cap (Y 10 0) ++ ((ao, aL C (g')) :: R1))))) := by
  refine mh_of (by decide +kernel) (Nat.le_of_ble_eq_true rfl) hfl (fun K Q X r ht => ?_)
  have X : Cx C l "SpringleafLaw" cL_where 6 5 6 40 K := X
  show G C K Q 0 0 0 [(0, .ref (ad 4)), (1, vi p), (2, vi o), (3, vi x), (4, .ref ao)] [] (WW C ad B E F S Y gs (elW C ad E cap (Y 10 0) ++ ((ao, aL C g) :: R1)))
  refine g_aload (t := 2) X dL_where_0 4 rfl rfl ?_
  refine g_iconst (t := 3) X dL_where_2 rfl ?_
  refine g_aload_n (t := 4) X dL_where_3 0 rfl rfl ?_
  refine g_iload_n (t := 5) X dL_where_4 1 rfl rfl ?_
  refine g_iload_n (t := 6) X dL_where_5 2 rfl rfl ?_
  refine g_iload_n (t := 7) X dL_where_6 3 rfl rfl ?_
  refine gx_callV (t := 10) (mc := 6) (ms := 40) (rest := [vi 0, .ref ao]) X mt_X4_where q3_46 q3_47 q3_48 4 WW_4 rfl (c_X4_where hfl hI hF hP.lt hG hp ho hx) (by decide) (Nat.le_of_ble_eq_true rfl) (Nat.le_of_ble_eq_true rfl) (Nat.le_of_ble_eq_true rfl) rfl rfl dL_where_7 rfl (k_po (fun Z h9 hS9 hA => ?_)) (k_px3 (fun Z9 hx0 => (g_catch X ht [] (0, 12, 15, 13) [(0, 12, 19, 15)] rfl (fun z hz => absurd hz List.not_mem_nil) (by decide) (by decide) q2_83 q2_99 rfl (fun q9 => ?_))) (fun Z9 hx0 hx1 => (g_catch X ht [(0, 12, 15, 13)] (0, 12, 19, 15) [] rfl (List.forall_mem_cons.mpr ⟨⟨by decide, "java/lang/IndexOutOfBoundsException", q2_83, List.mem_of_getElem? (i := 0) rfl⟩, fun _ h => nomatch h⟩) (by decide) (by decide) q2_84 q2_168 rfl (fun q9 => ?_))) (fun Z9 hx0 hx1 hx2 => absurd trivial hx2))
  · refine g_i2l (t := 11) X dL_where_10 rfl ?_
    refine g_last (t := 12) X out_at out_set dL_where_11 rfl ?_
    refine g_goto (t := 23) X dL_where_12 (by decide) ?_
    refine g_iconst (t := 24) X dL_where_23 rfl ?_
    exact g_iret X r ⟨0, rfl, Or.inr (Or.inr (Or.inr ⟨rfl, hA.1, hA.2, trivial, up0 g (iZ (if x = 0 then riseF Y p o else if x = 1 then lowF Y p o else highF Y p o)).toInt64, up0_0 _ _, Z, h9, hS9, rfl⟩))⟩ (Nat.le_of_ble_eq_true rfl) (Nat.le_of_ble_eq_true rfl) dL_where_24
  · refine g_astore (t := 17) (lv1 := [(5, .ref q9), (0, .ref (ad 4)), (1, vi p), (2, vi o), (3, vi x), (4, .ref ao)]) X dL_where_15 (by decide) rfl rfl ?_
    refine g_iconst (t := 18) X dL_where_17 rfl ?_
    exact g_iret X r ⟨1, rfl, Or.inl ⟨rfl, hx0, Z9, rfl⟩⟩ (Nat.le_of_ble_eq_true rfl) (Nat.le_of_ble_eq_true rfl) dL_where_18
  · refine g_astore (t := 21) (lv1 := [(5, .ref q9), (0, .ref (ad 4)), (1, vi p), (2, vi o), (3, vi x), (4, .ref ao)]) X dL_where_19 (by decide) rfl rfl ?_
    refine g_iconst (t := 22) X dL_where_21 rfl ?_
    exact g_iret X r ⟨2, rfl, Or.inr (Or.inl ⟨rfl, hx0, hx1, Z9, rfl⟩)⟩ (Nat.le_of_ble_eq_true rfl) (Nat.le_of_ble_eq_true rfl) dL_where_22

set_option maxHeartbeats 4000000 in
set_option maxRecDepth 100000 in
/-- the law's meet -/
theorem c_L_meet {C : WC} {l : Launch} (hfl : l.stackTraces = false) {ad : Nat → Nat} {B : BT} {E : Int × Nat} {F : Int × Nat × Nat} {S Y : Nat → Int → Int} {gs : Int → Int} {cap : Nat} {ao : Nat} {g : Nat → Int64} {R1 : va_W} {p q o : Int} (hI : MI Y) (hF : FC F Y) (hP : PLF C E cap Y) (hG : SI Y gs) (hp : Rg p) (hq : Rg q) (ho : Rg o)  : MH C l yL_meet cL_meet 6 (some .int) [(0, 19, 22, 13), (0, 19, 26, 15)] 5 6 40 [.ref (ad 4), vi p, vi q, vi o, .ref ao] (WW C ad B E F S Y gs (elW C ad E cap (Y 10 0) ++ ((ao, aL C g) :: R1))) (lwP ((0 ≤ p ∧ p < Y 10 0) ∧ 0 ≤ q ∧ q < Y 10 0) (0 ≤ o ∧ o ≤ 180) True (bF (meetF Y p q o)) (fun Z => (WW C ad B E F Z Y gs (elW C ad E cap (Y 10 0) ++ ((ao, aL C g) :: R1)))) (fun g' w => ∃ (Z : Nat → Int → Int) (h : Int → Int), SI Y h ∧ w = (WW C ad B E F Z Y h (elW C ad E cap (Y 10 0) ++ ((ao, aL C (g')) :: R1))))) := by
  refine mh_of (by decide +kernel) (Nat.le_of_ble_eq_true rfl) hfl (fun K Q X r ht => ?_)
  have X : Cx C l "SpringleafLaw" cL_meet 6 5 6 40 K := X
  have hb01 := bF_01 (meetF Y p q o)
  show G C K Q 0 0 0 [(0, .ref (ad 4)), (1, vi p), (2, vi q), (3, vi o), (4, .ref ao)] [] (WW C ad B E F S Y gs (elW C ad E cap (Y 10 0) ++ ((ao, aL C g) :: R1)))
  refine g_aload (t := 2) X dL_meet_0 4 rfl rfl ?_
  refine g_iconst (t := 3) X dL_meet_2 rfl ?_
  refine g_aload_n (t := 4) X dL_meet_3 0 rfl rfl ?_
  refine g_iload_n (t := 5) X dL_meet_4 1 rfl rfl ?_
  refine g_iload_n (t := 6) X dL_meet_5 2 rfl rfl ?_
  refine g_iload_n (t := 7) X dL_meet_6 3 rfl rfl ?_
  refine gx_callV (t := 10) (mc := 6) (ms := 40) (rest := [vi 0, .ref ao]) X mt_X4_meet q3_65 q3_66 q3_67 4 WW_4 rfl (c_X4_meet hfl hI hF hP.lt hG hp hq ho) (by decide) (Nat.le_of_ble_eq_true rfl) (Nat.le_of_ble_eq_true rfl) (Nat.le_of_ble_eq_true rfl) rfl rfl dL_meet_7 rfl (k_po (fun Z h9 hS9 hA => ?_)) (k_px3 (fun Z9 hx0 => (g_catch X ht [] (0, 19, 22, 13) [(0, 19, 26, 15)] rfl (fun z hz => absurd hz List.not_mem_nil) (by decide) (by decide) q2_83 q2_99 rfl (fun q9 => ?_))) (fun Z9 hx0 hx1 => (g_catch X ht [(0, 19, 22, 13)] (0, 19, 26, 15) [] rfl (List.forall_mem_cons.mpr ⟨⟨by decide, "java/lang/IndexOutOfBoundsException", q2_83, List.mem_of_getElem? (i := 0) rfl⟩, fun _ h => nomatch h⟩) (by decide) (by decide) q2_84 q2_168 rfl (fun q9 => ?_))) (fun Z9 hx0 hx1 hx2 => absurd trivial hx2))
  · refine g_if_eq (t := 17) (u := 13) X dL_meet_10 (by decide) rfl ⟨by omega, by omega⟩ (fun c_10 => ?_) (fun c_10 => ?_)
    · refine g_lconst (t := 18) (n := 0) X dL_meet_17 rfl ?_
      refine g_last (t := 19) X out_at out_set dL_meet_18 rfl ?_
      refine g_goto (t := 30) X dL_meet_19 (by decide) ?_
      refine g_iconst (t := 31) X dL_meet_30 rfl ?_
      exact g_iret X r ⟨0, rfl, Or.inr (Or.inr (Or.inr ⟨rfl, hA.1, hA.2, trivial, up0 g (Int64.ofNat ((0 : Fin 2) : Nat)), (by rw [up0_0]; rcases hb01 with h | h <;> first | omega | (rw [h]; decide)), Z, h9, hS9, rfl⟩))⟩ (Nat.le_of_ble_eq_true rfl) (Nat.le_of_ble_eq_true rfl) dL_meet_31
    · refine g_lconst (t := 14) (n := 1) X dL_meet_13 rfl ?_
      refine g_goto (t := 18) X dL_meet_14 (by decide) ?_
      refine g_last (t := 19) X out_at out_set dL_meet_18 rfl ?_
      refine g_goto (t := 30) X dL_meet_19 (by decide) ?_
      refine g_iconst (t := 31) X dL_meet_30 rfl ?_
      exact g_iret X r ⟨0, rfl, Or.inr (Or.inr (Or.inr ⟨rfl, hA.1, hA.2, trivial, up0 g (Int64.ofNat ((1 : Fin 2) : Nat)), (by rw [up0_0]; rcases hb01 with h | h <;> first | omega | (rw [h]; decide)), Z, h9, hS9, rfl⟩))⟩ (Nat.le_of_ble_eq_true rfl) (Nat.le_of_ble_eq_true rfl) dL_meet_31
  · refine g_astore (t := 24) (lv1 := [(5, .ref q9), (0, .ref (ad 4)), (1, vi p), (2, vi q), (3, vi o), (4, .ref ao)]) X dL_meet_22 (by decide) rfl rfl ?_
    refine g_iconst (t := 25) X dL_meet_24 rfl ?_
    exact g_iret X r ⟨1, rfl, Or.inl ⟨rfl, hx0, Z9, rfl⟩⟩ (Nat.le_of_ble_eq_true rfl) (Nat.le_of_ble_eq_true rfl) dL_meet_25
  · refine g_astore (t := 28) (lv1 := [(5, .ref q9), (0, .ref (ad 4)), (1, vi p), (2, vi q), (3, vi o), (4, .ref ao)]) X dL_meet_26 (by decide) rfl rfl ?_
    refine g_iconst (t := 29) X dL_meet_28 rfl ?_
    exact g_iret X r ⟨2, rfl, Or.inr (Or.inl ⟨rfl, hx0, hx1, Z9, rfl⟩)⟩ (Nat.le_of_ble_eq_true rfl) (Nat.le_of_ble_eq_true rfl) dL_meet_29

set_option maxHeartbeats 4000000 in
set_option maxRecDepth 100000 in
/-- the law's laid -/
theorem c_L_laid {C : WC} {l : Launch} (hfl : l.stackTraces = false) {ad : Nat → Nat} {B : BT} {E : Int × Nat} {F : Int × Nat × Nat} {S Y : Nat → Int → Int} {gs : Int → Int} {cap : Nat} {ao : Nat} {g : Nat → Int64} {R1 : va_W} {p x : Int} (V : Nat → Int → Int) (hI : MI Y) (hF : FC F Y) (hP : PLF C E cap Y) (hG : SI Y gs) (hp : Rg p) (hx : Rg x)  : MH C l yL_laid cL_laid 5 (some .int) [(0, 10, 13, 13), (0, 10, 17, 15)] 9 6 40 [.ref (ad 4), vi p, vi x, .ref ao] (WW C ad B E F S Y gs (elW C ad E cap (Y 10 0) ++ ((ao, aL C g) :: R1))) (lwP (0 ≤ p ∧ p < Y 10 0) (0 ≤ x ∧ x ≤ 2) True (if x = 0 then layF Y V 20 p else if x = 1 then layF Y V 21 p else layF Y V 22 p) (fun Z => (WW C ad B E F Z Y gs (elW C ad E cap (Y 10 0) ++ ((ao, aL C g) :: R1)))) (fun g' w => ∃ (Z : Nat → Int → Int) (h : Int → Int), SI Y h ∧ w = (WW C ad B E F Z Y h (elW C ad E cap (Y 10 0) ++ ((ao, aL C (g')) :: R1))))) := by
  refine mh_of (by decide +kernel) (Nat.le_of_ble_eq_true rfl) hfl (fun K Q X r ht => ?_)
  have X : Cx C l "SpringleafLaw" cL_laid 5 9 6 40 K := X
  show G C K Q 0 0 0 [(0, .ref (ad 4)), (1, vi p), (2, vi x), (3, .ref ao)] [] (WW C ad B E F S Y gs (elW C ad E cap (Y 10 0) ++ ((ao, aL C g) :: R1)))
  refine g_aload_n (t := 1) X dL_laid_0 3 rfl rfl ?_
  refine g_iconst (t := 2) X dL_laid_1 rfl ?_
  refine g_aload_n (t := 3) X dL_laid_2 0 rfl rfl ?_
  refine g_iload_n (t := 4) X dL_laid_3 1 rfl rfl ?_
  refine g_iload_n (t := 5) X dL_laid_4 2 rfl rfl ?_
  refine gx_callV (t := 8) (mc := 6) (ms := 40) (rest := [vi 0, .ref ao]) X mt_X4_laid q3_72 q3_73 q3_74 4 WW_4 rfl (c_X4_laid hfl V hI hF hP.lt hG hp hx) (by decide) (Nat.le_of_ble_eq_true rfl) (Nat.le_of_ble_eq_true rfl) (Nat.le_of_ble_eq_true rfl) rfl rfl dL_laid_5 rfl (k_po (fun Z h9 hS9 hA => ?_)) (k_px3 (fun Z9 hx0 => (g_catch X ht [] (0, 10, 13, 13) [(0, 10, 17, 15)] rfl (fun z hz => absurd hz List.not_mem_nil) (by decide) (by decide) q2_83 q2_99 rfl (fun q9 => ?_))) (fun Z9 hx0 hx1 => (g_catch X ht [(0, 10, 13, 13)] (0, 10, 17, 15) [] rfl (List.forall_mem_cons.mpr ⟨⟨by decide, "java/lang/IndexOutOfBoundsException", q2_83, List.mem_of_getElem? (i := 0) rfl⟩, fun _ h => nomatch h⟩) (by decide) (by decide) q2_84 q2_168 rfl (fun q9 => ?_))) (fun Z9 hx0 hx1 hx2 => absurd trivial hx2))
  · refine g_i2l (t := 9) X dL_laid_8 rfl ?_
    refine g_last (t := 10) X out_at out_set dL_laid_9 rfl ?_
    refine g_goto (t := 21) X dL_laid_10 (by decide) ?_
    refine g_iconst (t := 22) X dL_laid_21 rfl ?_
    exact g_iret X r ⟨0, rfl, Or.inr (Or.inr (Or.inr ⟨rfl, hA.1, hA.2, trivial, up0 g (iZ (if x = 0 then layF Y V 20 p else if x = 1 then layF Y V 21 p else layF Y V 22 p)).toInt64, up0_0 _ _, Z, h9, hS9, rfl⟩))⟩ (Nat.le_of_ble_eq_true rfl) (Nat.le_of_ble_eq_true rfl) dL_laid_22
  · refine g_astore (t := 15) (lv1 := [(4, .ref q9), (0, .ref (ad 4)), (1, vi p), (2, vi x), (3, .ref ao)]) X dL_laid_13 (by decide) rfl rfl ?_
    refine g_iconst (t := 16) X dL_laid_15 rfl ?_
    exact g_iret X r ⟨1, rfl, Or.inl ⟨rfl, hx0, Z9, rfl⟩⟩ (Nat.le_of_ble_eq_true rfl) (Nat.le_of_ble_eq_true rfl) dL_laid_16
  · refine g_astore (t := 19) (lv1 := [(4, .ref q9), (0, .ref (ad 4)), (1, vi p), (2, vi x), (3, .ref ao)]) X dL_laid_17 (by decide) rfl rfl ?_
    refine g_iconst (t := 20) X dL_laid_19 rfl ?_
    exact g_iret X r ⟨2, rfl, Or.inr (Or.inl ⟨rfl, hx0, hx1, Z9, rfl⟩)⟩ (Nat.le_of_ble_eq_true rfl) (Nat.le_of_ble_eq_true rfl) dL_laid_20

set_option maxHeartbeats 4000000 in
set_option maxRecDepth 100000 in
/-- the law's glue -/
theorem c_L_glue {C : WC} {l : Launch} (hfl : l.stackTraces = false) {ad : Nat → Nat} {B : BT} {E : Int × Nat} {F : Int × Nat × Nat} {S Y : Nat → Int → Int} {gs : Int → Int} {cap : Nat} {ao : Nat} {g : Nat → Int64} {R1 : va_W} {p : Int} (hI : MI Y) (hF : FC F Y) (hP : PLF C E cap Y) (hG : SI Y gs) (hp : Rg p)  : MH C l yL_glue cL_glue 4 (some .int) [(0, 9, 12, 13), (0, 9, 15, 17)] 7 6 40 [.ref (ad 4), vi p, .ref ao] (WW C ad B E F S Y gs (elW C ad E cap (Y 10 0) ++ ((ao, aL C g) :: R1))) (lwP (0 ≤ p ∧ p < Y 10 0) (canF Y p) True (Y 12 0 + 1) (fun Z => (WW C ad B E F Z Y gs (elW C ad E cap (Y 10 0) ++ ((ao, aL C g) :: R1)))) (fun g' w => ∃ (Z : Nat → Int → Int) (h : Int → Int), SI (u2 (u2 Y 11 (Y 12 0) p) 12 0 (Y 12 0 + 1)) h ∧ w = (WW C ad B E F Z (u2 (u2 Y 11 (Y 12 0) p) 12 0 (Y 12 0 + 1)) h (elW C ad E cap ((u2 (u2 Y 11 (Y 12 0) p) 12 0 (Y 12 0 + 1)) 10 0) ++ ((ao, aL C (g')) :: R1))))) := by
  refine mh_of (by decide +kernel) (Nat.le_of_ble_eq_true rfl) hfl (fun K Q X r ht => ?_)
  have X : Cx C l "SpringleafLaw" cL_glue 4 7 6 40 K := X
  show G C K Q 0 0 0 [(0, .ref (ad 4)), (1, vi p), (2, .ref ao)] [] (WW C ad B E F S Y gs (elW C ad E cap (Y 10 0) ++ ((ao, aL C g) :: R1)))
  refine g_aload_n (t := 1) X dL_glue_0 2 rfl rfl ?_
  refine g_iconst (t := 2) X dL_glue_1 rfl ?_
  refine g_aload_n (t := 3) X dL_glue_2 0 rfl rfl ?_
  refine g_iload_n (t := 4) X dL_glue_3 1 rfl rfl ?_
  refine gx_callV (t := 7) (mc := 6) (ms := 40) (rest := [vi 0, .ref ao]) X mt_X4_glue q3_79 q3_80 q3_81 4 WW_4 rfl (c_X4_glue hfl hI hF hP.lt hG hp) (by decide) (Nat.le_of_ble_eq_true rfl) (Nat.le_of_ble_eq_true rfl) (Nat.le_of_ble_eq_true rfl) rfl rfl dL_glue_4 rfl (k_po (fun Z h9 hS9 hA => ?_)) (k_px3 (fun Z9 hx0 => (g_catch X ht [] (0, 9, 12, 13) [(0, 9, 15, 17)] rfl (fun z hz => absurd hz List.not_mem_nil) (by decide) (by decide) q2_83 q2_99 rfl (fun q9 => ?_))) (fun Z9 hx0 hx1 => (g_catch X ht [(0, 9, 12, 13)] (0, 9, 15, 17) [] rfl (List.forall_mem_cons.mpr ⟨⟨by decide, "java/lang/IndexOutOfBoundsException", q2_83, List.mem_of_getElem? (i := 1) rfl⟩, fun _ h => nomatch h⟩) (by decide) (by decide) q2_85 q2_185 rfl (fun q9 => ?_))) (fun Z9 hx0 hx1 hx2 => absurd trivial hx2))
  · refine g_i2l (t := 8) X dL_glue_7 rfl ?_
    refine g_last (t := 9) X out_at out_set dL_glue_8 rfl ?_
    refine g_goto (t := 18) X dL_glue_9 (by decide) ?_
    refine g_iconst (t := 19) X dL_glue_18 rfl ?_
    exact g_iret X r ⟨0, rfl, Or.inr (Or.inr (Or.inr ⟨rfl, hA.1, hA.2, trivial, up0 g (iZ (Y 12 0 + 1)).toInt64, up0_0 _ _, Z, h9, hS9, rfl⟩))⟩ (Nat.le_of_ble_eq_true rfl) (Nat.le_of_ble_eq_true rfl) dL_glue_19
  · refine g_astore_n (t := 13) (lv1 := [(3, .ref q9), (0, .ref (ad 4)), (1, vi p), (2, .ref ao)]) X dL_glue_12 (by decide) rfl rfl ?_
    refine g_iconst (t := 14) X dL_glue_13 rfl ?_
    exact g_iret X r ⟨1, rfl, Or.inl ⟨rfl, hx0, Z9, rfl⟩⟩ (Nat.le_of_ble_eq_true rfl) (Nat.le_of_ble_eq_true rfl) dL_glue_14
  · refine g_astore_n (t := 16) (lv1 := [(3, .ref q9), (0, .ref (ad 4)), (1, vi p), (2, .ref ao)]) X dL_glue_15 (by decide) rfl rfl ?_
    refine g_iconst (t := 17) X dL_glue_16 rfl ?_
    exact g_iret X r ⟨2, rfl, Or.inr (Or.inl ⟨rfl, hx0, hx1, Z9, rfl⟩)⟩ (Nat.le_of_ble_eq_true rfl) (Nat.le_of_ble_eq_true rfl) dL_glue_17

set_option maxHeartbeats 4000000 in
set_option maxRecDepth 100000 in
/-- the law's unglue -/
theorem c_L_unglue {C : WC} {l : Launch} (hfl : l.stackTraces = false) {ad : Nat → Nat} {B : BT} {E : Int × Nat} {F : Int × Nat × Nat} {S Y : Nat → Int → Int} {gs : Int → Int} {cap : Nat} {ao : Nat} {g : Nat → Int64} {R1 : va_W} (hI : MI Y) (hF : FC F Y) (hP : PLF C E cap Y) (hG : SI Y gs)   : MH C l yL_unglue cL_unglue 3 (some .int) [(0, 8, 11, 17)] 5 6 40 [.ref (ad 4), .ref ao] (WW C ad B E F S Y gs (elW C ad E cap (Y 10 0) ++ ((ao, aL C g) :: R1))) (lwP (Y 12 0 ≠ 0) True True (Y 11 (Y 12 0 - 1)) (fun Z => (WW C ad B E F Z Y gs (elW C ad E cap (Y 10 0) ++ ((ao, aL C g) :: R1)))) (fun g' w => ∃ (Z : Nat → Int → Int) (h : Int → Int), SI (u2 Y 12 0 (Y 12 0 - 1)) h ∧ w = (WW C ad B E F Z (u2 Y 12 0 (Y 12 0 - 1)) h (elW C ad E cap ((u2 Y 12 0 (Y 12 0 - 1)) 10 0) ++ ((ao, aL C (g')) :: R1))))) := by
  refine mh_of (by decide +kernel) (Nat.le_of_ble_eq_true rfl) hfl (fun K Q X r ht => ?_)
  have X : Cx C l "SpringleafLaw" cL_unglue 3 5 6 40 K := X
  show G C K Q 0 0 0 [(0, .ref (ad 4)), (1, .ref ao)] [] (WW C ad B E F S Y gs (elW C ad E cap (Y 10 0) ++ ((ao, aL C g) :: R1)))
  refine g_aload_n (t := 1) X dL_unglue_0 1 rfl rfl ?_
  refine g_iconst (t := 2) X dL_unglue_1 rfl ?_
  refine g_aload_n (t := 3) X dL_unglue_2 0 rfl rfl ?_
  refine gx_callV (t := 6) (mc := 6) (ms := 40) (rest := [vi 0, .ref ao]) X mt_X4_unglue q3_104 q3_105 q3_106 4 WW_4 rfl (c_X4_unglue hfl hI hF hP.lt hG ) (by decide) (Nat.le_of_ble_eq_true rfl) (Nat.le_of_ble_eq_true rfl) (Nat.le_of_ble_eq_true rfl) rfl rfl dL_unglue_3 rfl (k_po (fun Z h9 hS9 hA => ?_)) (k_px3 (fun Z9 hx0 => (g_catch X ht [] (0, 8, 11, 17) [] rfl (fun z hz => absurd hz List.not_mem_nil) (by decide) (by decide) q2_85 q2_185 rfl (fun q9 => ?_))) (fun Z9 hx0 hx1 => absurd trivial hx1) (fun Z9 hx0 hx1 hx2 => absurd trivial hx2))
  · refine g_i2l (t := 7) X dL_unglue_6 rfl ?_
    refine g_last (t := 8) X out_at out_set dL_unglue_7 rfl ?_
    refine g_goto (t := 14) X dL_unglue_8 (by decide) ?_
    refine g_iconst (t := 15) X dL_unglue_14 rfl ?_
    exact g_iret X r ⟨0, rfl, Or.inr (Or.inr (Or.inr ⟨rfl, hA, trivial, trivial, up0 g (iZ (Y 11 (Y 12 0 - 1))).toInt64, up0_0 _ _, Z, h9, hS9, rfl⟩))⟩ (Nat.le_of_ble_eq_true rfl) (Nat.le_of_ble_eq_true rfl) dL_unglue_15
  · refine g_astore_n (t := 12) (lv1 := [(2, .ref q9), (0, .ref (ad 4)), (1, .ref ao)]) X dL_unglue_11 (by decide) rfl rfl ?_
    refine g_iconst (t := 13) X dL_unglue_12 rfl ?_
    exact g_iret X r ⟨1, rfl, Or.inl ⟨rfl, hx0, Z9, rfl⟩⟩ (Nat.le_of_ble_eq_true rfl) (Nat.le_of_ble_eq_true rfl) dL_unglue_13

set_option maxHeartbeats 4000000 in
set_option maxRecDepth 100000 in
/-- the law's glued -/
theorem c_L_glued {C : WC} {l : Launch} (hfl : l.stackTraces = false) {ad : Nat → Nat} {B : BT} {E : Int × Nat} {F : Int × Nat × Nat} {S Y : Nat → Int → Int} {gs : Int → Int} {cap : Nat} {ao : Nat} {g : Nat → Int64} {R1 : va_W} {x : Int} (hI : MI Y) (hF : FC F Y) (hP : PLF C E cap Y) (hG : SI Y gs) (hx : Rg x)  : MH C l yL_glued cL_glued 4 (some .int) [(0, 9, 12, 13)] 5 6 40 [.ref (ad 4), vi x, .ref ao] (WW C ad B E F S Y gs (elW C ad E cap (Y 10 0) ++ ((ao, aL C g) :: R1))) (lwP (0 ≤ x) True True (if x < Y 12 0 then Y 11 x else -1) (fun Z => (WW C ad B E F Z Y gs (elW C ad E cap (Y 10 0) ++ ((ao, aL C g) :: R1)))) (fun g' w => ∃ (Z : Nat → Int → Int) (h : Int → Int), SI Y h ∧ w = (WW C ad B E F Z Y h (elW C ad E cap (Y 10 0) ++ ((ao, aL C (g')) :: R1))))) := by
  refine mh_of (by decide +kernel) (Nat.le_of_ble_eq_true rfl) hfl (fun K Q X r ht => ?_)
  have X : Cx C l "SpringleafLaw" cL_glued 4 5 6 40 K := X
  show G C K Q 0 0 0 [(0, .ref (ad 4)), (1, vi x), (2, .ref ao)] [] (WW C ad B E F S Y gs (elW C ad E cap (Y 10 0) ++ ((ao, aL C g) :: R1)))
  refine g_aload_n (t := 1) X dL_glued_0 2 rfl rfl ?_
  refine g_iconst (t := 2) X dL_glued_1 rfl ?_
  refine g_aload_n (t := 3) X dL_glued_2 0 rfl rfl ?_
  refine g_iload_n (t := 4) X dL_glued_3 1 rfl rfl ?_
  refine gx_callV (t := 7) (mc := 6) (ms := 40) (rest := [vi 0, .ref ao]) X mt_X4_glued q3_120 q3_121 q3_122 4 WW_4 rfl (c_X4_glued hfl hI hF hP.lt hG hx) (by decide) (Nat.le_of_ble_eq_true rfl) (Nat.le_of_ble_eq_true rfl) (Nat.le_of_ble_eq_true rfl) rfl rfl dL_glued_4 rfl (k_po (fun Z h9 hS9 hA => ?_)) (k_px3 (fun Z9 hx0 => (g_catch X ht [] (0, 9, 12, 13) [] rfl (fun z hz => absurd hz List.not_mem_nil) (by decide) (by decide) q2_83 q2_99 rfl (fun q9 => ?_))) (fun Z9 hx0 hx1 => absurd trivial hx1) (fun Z9 hx0 hx1 hx2 => absurd trivial hx2))
  · refine g_i2l (t := 8) X dL_glued_7 rfl ?_
    refine g_last (t := 9) X out_at out_set dL_glued_8 rfl ?_
    refine g_goto (t := 15) X dL_glued_9 (by decide) ?_
    refine g_iconst (t := 16) X dL_glued_15 rfl ?_
    exact g_iret X r ⟨0, rfl, Or.inr (Or.inr (Or.inr ⟨rfl, hA, trivial, trivial, up0 g (iZ (if x < Y 12 0 then Y 11 x else -1)).toInt64, up0_0 _ _, Z, h9, hS9, rfl⟩))⟩ (Nat.le_of_ble_eq_true rfl) (Nat.le_of_ble_eq_true rfl) dL_glued_16
  · refine g_astore_n (t := 13) (lv1 := [(3, .ref q9), (0, .ref (ad 4)), (1, vi x), (2, .ref ao)]) X dL_glued_12 (by decide) rfl rfl ?_
    refine g_iconst (t := 14) X dL_glued_13 rfl ?_
    exact g_iret X r ⟨1, rfl, Or.inl ⟨rfl, hx0, Z9, rfl⟩⟩ (Nat.le_of_ble_eq_true rfl) (Nat.le_of_ble_eq_true rfl) dL_glued_14

set_option maxHeartbeats 4000000 in
set_option maxRecDepth 100000 in
/-- the law's resize -/
theorem c_L_resize {C : WC} {l : Launch} (hfl : l.stackTraces = false) {ad : Nat → Nat} {B : BT} {E : Int × Nat} {F : Int × Nat × Nat} {S Y : Nat → Int → Int} {gs : Int → Int} {cap : Nat} {ao : Nat} {g : Nat → Int64} {R1 : va_W} {p x : Int} (hI : MI Y) (hF : FC F Y) (hP : PLF C E cap Y) (hG : SI Y gs) (hp : Rg p) (hx : Rg x)  : MH C l yL_resize cL_resize 5 (some .int) [(0, 10, 13, 13), (0, 10, 17, 15)] 5 6 40 [.ref (ad 4), vi p, vi x, .ref ao] (WW C ad B E F S Y gs (elW C ad E cap (Y 10 0) ++ ((ao, aL C g) :: R1))) (lwP (0 ≤ p ∧ p < Y 10 0) (1 ≤ x ∧ x ≤ 30) True (cutN Y p) (fun Z => (WW C ad B E F Z Y gs (elW C ad E cap (Y 10 0) ++ ((ao, aL C g) :: R1)))) (fun g' w => ∃ (Z : Nat → Int → Int) (h : Int → Int), SI (u2 (u2 Y 6 p x) 12 0 (Y 12 0 - cutN Y p)) h ∧ w = (WW C ad B E F Z (u2 (u2 Y 6 p x) 12 0 (Y 12 0 - cutN Y p)) h (elW C ad E cap ((u2 (u2 Y 6 p x) 12 0 (Y 12 0 - cutN Y p)) 10 0) ++ ((ao, aL C (g')) :: R1))))) := by
  refine mh_of (by decide +kernel) (Nat.le_of_ble_eq_true rfl) hfl (fun K Q X r ht => ?_)
  have X : Cx C l "SpringleafLaw" cL_resize 5 5 6 40 K := X
  show G C K Q 0 0 0 [(0, .ref (ad 4)), (1, vi p), (2, vi x), (3, .ref ao)] [] (WW C ad B E F S Y gs (elW C ad E cap (Y 10 0) ++ ((ao, aL C g) :: R1)))
  refine g_aload_n (t := 1) X dL_resize_0 3 rfl rfl ?_
  refine g_iconst (t := 2) X dL_resize_1 rfl ?_
  refine g_aload_n (t := 3) X dL_resize_2 0 rfl rfl ?_
  refine g_iload_n (t := 4) X dL_resize_3 1 rfl rfl ?_
  refine g_iload_n (t := 5) X dL_resize_4 2 rfl rfl ?_
  refine gx_callV (t := 8) (mc := 6) (ms := 40) (rest := [vi 0, .ref ao]) X mt_X4_resize q3_128 q3_129 q3_130 4 WW_4 rfl (c_X4_resize hfl hI hF hP.lt hG hp hx) (by decide) (Nat.le_of_ble_eq_true rfl) (Nat.le_of_ble_eq_true rfl) (Nat.le_of_ble_eq_true rfl) rfl rfl dL_resize_5 rfl (k_po (fun Z h9 hS9 hA => ?_)) (k_px3 (fun Z9 hx0 => (g_catch X ht [] (0, 10, 13, 13) [(0, 10, 17, 15)] rfl (fun z hz => absurd hz List.not_mem_nil) (by decide) (by decide) q2_83 q2_99 rfl (fun q9 => ?_))) (fun Z9 hx0 hx1 => (g_catch X ht [(0, 10, 13, 13)] (0, 10, 17, 15) [] rfl (List.forall_mem_cons.mpr ⟨⟨by decide, "java/lang/IndexOutOfBoundsException", q2_83, List.mem_of_getElem? (i := 0) rfl⟩, fun _ h => nomatch h⟩) (by decide) (by decide) q2_84 q2_168 rfl (fun q9 => ?_))) (fun Z9 hx0 hx1 hx2 => absurd trivial hx2))
  · refine g_i2l (t := 9) X dL_resize_8 rfl ?_
    refine g_last (t := 10) X out_at out_set dL_resize_9 rfl ?_
    refine g_goto (t := 21) X dL_resize_10 (by decide) ?_
    refine g_iconst (t := 22) X dL_resize_21 rfl ?_
    exact g_iret X r ⟨0, rfl, Or.inr (Or.inr (Or.inr ⟨rfl, hA.1, hA.2, trivial, up0 g (iZ (cutN Y p)).toInt64, up0_0 _ _, Z, h9, hS9, rfl⟩))⟩ (Nat.le_of_ble_eq_true rfl) (Nat.le_of_ble_eq_true rfl) dL_resize_22
  · refine g_astore (t := 15) (lv1 := [(4, .ref q9), (0, .ref (ad 4)), (1, vi p), (2, vi x), (3, .ref ao)]) X dL_resize_13 (by decide) rfl rfl ?_
    refine g_iconst (t := 16) X dL_resize_15 rfl ?_
    exact g_iret X r ⟨1, rfl, Or.inl ⟨rfl, hx0, Z9, rfl⟩⟩ (Nat.le_of_ble_eq_true rfl) (Nat.le_of_ble_eq_true rfl) dL_resize_16
  · refine g_astore (t := 19) (lv1 := [(4, .ref q9), (0, .ref (ad 4)), (1, vi p), (2, vi x), (3, .ref ao)]) X dL_resize_17 (by decide) rfl rfl ?_
    refine g_iconst (t := 20) X dL_resize_19 rfl ?_
    exact g_iret X r ⟨2, rfl, Or.inr (Or.inl ⟨rfl, hx0, hx1, Z9, rfl⟩)⟩ (Nat.le_of_ble_eq_true rfl) (Nat.le_of_ble_eq_true rfl) dL_resize_20

set_option maxHeartbeats 4000000 in
set_option maxRecDepth 100000 in
/-- the law's part -/
theorem c_L_part {C : WC} {l : Launch} (hfl : l.stackTraces = false) {ad : Nat → Nat} {B : BT} {E : Int × Nat} {F : Int × Nat × Nat} {S Y : Nat → Int → Int} {gs : Int → Int} {cap : Nat} {ao : Nat} {g : Nat → Int64} {R1 : va_W} {f x y z u e : Int} (hI : MI Y) (hF : FC F Y) (hP : PLF C E cap Y) (hG : SI Y gs) (hf : Rg f) (hx : Rg x) (hy : Rg y) (hz : Rg z) (hu : Rg u) (he : e = 0 ∨ e = 1) : MH C l yL_part cL_part 9 (some .int) [(0, 18, 21, 13), (0, 18, 25, 15), (0, 18, 29, 17)] 7 10 80 [.ref (ad 4), vi f, vi x, vi y, vi z, vi u, vi e, .ref ao] (WW C ad B E F S Y gs (elW C ad E cap (Y 10 0) ++ ((ao, aL C g) :: R1))) (lwP (0 ≤ f ∧ f < Y 3 0) ((0 ≤ x ∧ x ≤ 60) ∧ (1 ≤ y ∧ y ≤ 30) ∧ (0 ≤ z ∧ z ≤ 20) ∧ 1 ≤ u ∧ u ≤ 10) (Y 10 0 ≠ 16 ∧ ¬ boundF Y) (Y 10 0) (fun Z => (WW C ad B E F Z Y gs (elW C ad E cap (Y 10 0) ++ ((ao, aL C g) :: R1)))) (fun g' w => ∃ (ad' : Nat → Nat) (E' : Int × Nat) (cap' : Nat) (Z : Nat → Int → Int) (h : Int → Int), (ad' 4 = ad 4 ∧ PLF C E' cap' (YP Y f x y z u e) ∧ SI (YP Y f x y z u e) h ∧ FC F (YP Y f x y z u e)) ∧ w = (WW C ad' B E' F Z (YP Y f x y z u e) h (elW C ad' E' cap' ((YP Y f x y z u e) 10 0) ++ ((ao, aL C (g')) :: R1))))) := by
  refine mh_of (by decide +kernel) (Nat.le_of_ble_eq_true rfl) hfl (fun K Q X r ht => ?_)
  have X : Cx C l "SpringleafLaw" cL_part 9 7 10 80 K := X
  show G C K Q 0 0 0 [(0, .ref (ad 4)), (1, vi f), (2, vi x), (3, vi y), (4, vi z), (5, vi u), (6, vi e), (7, .ref ao)] [] (WW C ad B E F S Y gs (elW C ad E cap (Y 10 0) ++ ((ao, aL C g) :: R1)))
  refine g_aload (t := 2) X dL_part_0 7 rfl rfl ?_
  refine g_iconst (t := 3) X dL_part_2 rfl ?_
  refine g_aload_n (t := 4) X dL_part_3 0 rfl rfl ?_
  refine g_iload_n (t := 5) X dL_part_4 1 rfl rfl ?_
  refine g_iload_n (t := 6) X dL_part_5 2 rfl rfl ?_
  refine g_iload_n (t := 7) X dL_part_6 3 rfl rfl ?_
  refine g_iload (t := 9) X dL_part_7 4 rfl rfl ?_
  refine g_iload (t := 11) X dL_part_9 5 rfl rfl ?_
  refine g_iload (t := 13) X dL_part_11 6 rfl rfl ?_
  refine gx_callV (t := 16) (mc := 10) (ms := 80) (rest := [vi 0, .ref ao]) X mt_X4_part q2_202 q2_203 q2_204 4 WW_4 rfl (c_X4_part hfl hI hF hP hG he hf hx hy hz hu) (by decide) (Nat.le_of_ble_eq_true rfl) (Nat.le_of_ble_eq_true rfl) (Nat.le_of_ble_eq_true rfl) rfl rfl dL_part_13 rfl (k_part (fun ad1 E1 cap1 Z h9 hA hQ9 => ?_)) (k_px3 (fun Z9 hx0 => (g_catch X ht [] (0, 18, 21, 13) [(0, 18, 25, 15), (0, 18, 29, 17)] rfl (fun z hz => absurd hz List.not_mem_nil) (by decide) (by decide) q2_83 q2_99 rfl (fun q9 => ?_))) (fun Z9 hx0 hx1 => (g_catch X ht [(0, 18, 21, 13)] (0, 18, 25, 15) [(0, 18, 29, 17)] rfl (List.forall_mem_cons.mpr ⟨⟨by decide, "java/lang/IndexOutOfBoundsException", q2_83, List.mem_of_getElem? (i := 0) rfl⟩, fun _ h => nomatch h⟩) (by decide) (by decide) q2_84 q2_168 rfl (fun q9 => ?_))) (fun Z9 hx0 hx1 hx2 => (g_catch X ht [(0, 18, 21, 13), (0, 18, 25, 15)] (0, 18, 29, 17) [] rfl (List.forall_mem_cons.mpr ⟨⟨by decide, "java/lang/IndexOutOfBoundsException", q2_83, List.mem_of_getElem? (i := 1) rfl⟩, List.forall_mem_cons.mpr ⟨⟨by decide, "java/lang/IllegalArgumentException", q2_84, List.mem_of_getElem? (i := 2) rfl⟩, fun _ h => nomatch h⟩⟩) (by decide) (by decide) q2_85 q2_185 rfl (fun q9 => ?_))))
  · refine g_i2l (t := 17) X dL_part_16 rfl ?_
    refine g_last (t := 18) X out_at out_set dL_part_17 rfl ?_
    refine g_goto (t := 33) X dL_part_18 (by decide) ?_
    refine g_iconst (t := 34) X dL_part_33 rfl ?_
    exact g_iret X r ⟨0, rfl, Or.inr (Or.inr (Or.inr ⟨rfl, hA.1, hA.2.1, hA.2.2, up0 g (iZ (Y 10 0)).toInt64, up0_0 _ _, ad1, E1, cap1, Z, h9, hQ9, rfl⟩))⟩ (Nat.le_of_ble_eq_true rfl) (Nat.le_of_ble_eq_true rfl) dL_part_34
  · refine g_astore (t := 23) (lv1 := [(8, .ref q9), (0, .ref (ad 4)), (1, vi f), (2, vi x), (3, vi y), (4, vi z), (5, vi u), (6, vi e), (7, .ref ao)]) X dL_part_21 (by decide) rfl rfl ?_
    refine g_iconst (t := 24) X dL_part_23 rfl ?_
    exact g_iret X r ⟨1, rfl, Or.inl ⟨rfl, hx0, Z9, rfl⟩⟩ (Nat.le_of_ble_eq_true rfl) (Nat.le_of_ble_eq_true rfl) dL_part_24
  · refine g_astore (t := 27) (lv1 := [(8, .ref q9), (0, .ref (ad 4)), (1, vi f), (2, vi x), (3, vi y), (4, vi z), (5, vi u), (6, vi e), (7, .ref ao)]) X dL_part_25 (by decide) rfl rfl ?_
    refine g_iconst (t := 28) X dL_part_27 rfl ?_
    exact g_iret X r ⟨2, rfl, Or.inr (Or.inl ⟨rfl, hx0, hx1, Z9, rfl⟩)⟩ (Nat.le_of_ble_eq_true rfl) (Nat.le_of_ble_eq_true rfl) dL_part_28
  · refine g_astore (t := 31) (lv1 := [(8, .ref q9), (0, .ref (ad 4)), (1, vi f), (2, vi x), (3, vi y), (4, vi z), (5, vi u), (6, vi e), (7, .ref ao)]) X dL_part_29 (by decide) rfl rfl ?_
    refine g_iconst (t := 32) X dL_part_31 rfl ?_
    exact g_iret X r ⟨3, rfl, Or.inr (Or.inr (Or.inl ⟨rfl, hx0, hx1, hx2, Z9, rfl⟩))⟩ (Nat.le_of_ble_eq_true rfl) (Nat.le_of_ble_eq_true rfl) dL_part_32

set_option maxHeartbeats 4000000 in
set_option maxRecDepth 100000 in
/-- the law's tells -/
theorem c_L_tells {C : WC} {l : Launch} (hfl : l.stackTraces = false) {ad : Nat → Nat} {bv cp : Nat} {bt : Int → Int} {cnt ml : Int} {E : Int × Nat} {F : Int × Nat × Nat} {S Y : Nat → Int → Int} {gs : Int → Int} {cap : Nat} {ao : Nat} {g : Nat → Int64} {R1 : va_W} {f x : Int} (hI : MI Y) (hF : FC F Y) (c16 : 16 ≤ cp) (c3 : cp ≤ 300) (k0 : 0 ≤ cnt) (k1 : cnt ≤ cp) (hb : Lat cp bt) (hf : Rg f) (hx : Rg x)  : MH C l yL_tells cL_tells 5 (some .int) [(0, 10, 13, 13)] 8 310 640 [.ref (ad 4), vi f, vi x, .ref ao] (WW C ad (bv, cp, bt, cnt, ml) E F S Y gs (elW C ad E cap (Y 10 0) ++ ((ao, aL C g) :: R1))) (lwP ((0 ≤ f ∧ f < Y 3 0) ∧ 0 ≤ x) True True (tellF Y f x) (fun Z => (WW C ad (bv, cp, bt, cnt, ml) E F Z Y gs (elW C ad E cap (Y 10 0) ++ ((ao, aL C g) :: R1)))) (fun g' w => ∃ B : BT, BI B ∧ w = (WW C ad B E F S Y gs (elW C ad E cap (Y 10 0) ++ ((ao, aL C (g')) :: R1))))) := by
  refine mh_of (by decide +kernel) (Nat.le_of_ble_eq_true rfl) hfl (fun K Q X r ht => ?_)
  have X : Cx C l "SpringleafLaw" cL_tells 5 8 310 640 K := X
  show G C K Q 0 0 0 [(0, .ref (ad 4)), (1, vi f), (2, vi x), (3, .ref ao)] [] (WW C ad (bv, cp, bt, cnt, ml) E F S Y gs (elW C ad E cap (Y 10 0) ++ ((ao, aL C g) :: R1)))
  refine g_aload_n (t := 1) X dL_tells_0 3 rfl rfl ?_
  refine g_iconst (t := 2) X dL_tells_1 rfl ?_
  refine g_aload_n (t := 3) X dL_tells_2 0 rfl rfl ?_
  refine g_iload_n (t := 4) X dL_tells_3 1 rfl rfl ?_
  refine g_iload_n (t := 5) X dL_tells_4 2 rfl rfl ?_
  refine gx_callV (t := 8) (mc := 310) (ms := 640) (rest := [vi 0, .ref ao]) X mt_X4_tells q3_135 q3_136 q3_137 4 WW_4 rfl (c_X4_tells hfl hI hF hf hx c16 c3 k0 k1 hb) (by decide) (Nat.le_of_ble_eq_true rfl) (Nat.le_of_ble_eq_true rfl) (Nat.le_of_ble_eq_true rfl) rfl rfl dL_tells_5 rfl (k_tel (fun B9 hA hB9 => ?_)) (k_px3 (fun Z9 hx0 => (g_catch X ht [] (0, 10, 13, 13) [] rfl (fun z hz => absurd hz List.not_mem_nil) (by decide) (by decide) q2_83 q2_99 rfl (fun q9 => ?_))) (fun Z9 hx0 hx1 => absurd trivial hx1) (fun Z9 hx0 hx1 hx2 => absurd trivial hx2))
  · refine g_i2l (t := 9) X dL_tells_8 rfl ?_
    refine g_last (t := 10) X out_at out_set dL_tells_9 rfl ?_
    refine g_goto (t := 17) X dL_tells_10 (by decide) ?_
    refine g_iconst (t := 18) X dL_tells_17 rfl ?_
    exact g_iret X r ⟨0, rfl, Or.inr (Or.inr (Or.inr ⟨rfl, hA, trivial, trivial, up0 g (iZ (tellF Y f x)).toInt64, up0_0 _ _, B9, hB9, rfl⟩))⟩ (Nat.le_of_ble_eq_true rfl) (Nat.le_of_ble_eq_true rfl) dL_tells_18
  · refine g_astore (t := 15) (lv1 := [(4, .ref q9), (0, .ref (ad 4)), (1, vi f), (2, vi x), (3, .ref ao)]) X dL_tells_13 (by decide) rfl rfl ?_
    refine g_iconst (t := 16) X dL_tells_15 rfl ?_
    exact g_iret X r ⟨1, rfl, Or.inl ⟨rfl, hx0, Z9, rfl⟩⟩ (Nat.le_of_ble_eq_true rfl) (Nat.le_of_ble_eq_true rfl) dL_tells_16

