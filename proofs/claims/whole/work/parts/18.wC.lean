/-! the component: 0 its builder of text and 1 the bytes, 2 its list, 3 itself, 4 Folds, 5 to 10 the rows of Folds, 11 Gluing, 12 its row, 13 Layout, 14 to 21 its rows. B: the bytes' address, their number, the bytes, how many count, a mark; E: the list's count of changes and the address of its elements; S: the rows used again -/
abbrev BT : Type := Nat × Nat × (Int → Int) × Int × Int
def fSB (B : BT) : List Value := [.ref B.1, vi 0, vi B.2.2.2.2, vi B.2.2.2.1]
def fAL (E : Int × Nat) (n : Int) : List Value := [vi E.1, .ref E.2, vi n]
def fFo (ad : Nat → Nat) (Y : Nat → Int → Int) : List Value := [.ref (ad 5), .ref (ad 6), .ref (ad 7), vi (Y 3 0), .ref (ad 8), .ref (ad 9), .ref (ad 10), .ref (ad 0)]
def fGl (ad : Nat → Nat) (Y : Nat → Int → Int) : List Value := [.ref (ad 12), vi (Y 12 0)]
def fLa (ad : Nat → Nat) (V : Nat → Int → Int) : List Value := [.ref (ad 14), .ref (ad 15), .ref (ad 16), .ref (ad 17), .ref (ad 18), .ref (ad 19), .ref (ad 20), .ref (ad 21), vi (V 17 0), vi (V 19 0)]
def fSp (ad : Nat → Nat) : List Value := [.ref (ad 4), .ref (ad 2), .ref (ad 11), .ref (ad 13)]
def wC (C : WC) (ad : Nat → Nat) (B : BT) (E : Int × Nat) (S Y V : Nat → Int → Int) : va_W := [(ad 0, .inr (1, fSB B)), (B.1, aB C B.2.1 B.2.2.1), (ad 2, .inr (4, fAL E (Y 10 0))), (ad 3, .inr (9, fSp ad)), (ad 4, .inr (5, fFo ad Y)), (ad 5, aI C 12 (Y 0)), (ad 6, aI C 12 (Y 1)), (ad 7, aI C 12 (Y 2)), (ad 8, aI C 12 (S 0)), (ad 9, aI C 12 (S 1)), (ad 10, aI C 12 (S 2)), (ad 11, .inr (6, fGl ad Y)), (ad 12, aI C 16 (Y 11)), (ad 13, .inr (7, fLa ad V)), (ad 14, aI C 16 (V 20)), (ad 15, aI C 16 (V 21)), (ad 16, aI C 16 (V 22)), (ad 17, aI C 16 (V 13)), (ad 18, aI C 16 (V 14)), (ad 19, aI C 16 (V 15)), (ad 20, aI C 16 (V 16)), (ad 21, aI C 16 (V 18))]
section WCs
variable {C : WC} {ad : Nat → Nat} {B : BT} {E : Int × Nat} {S Y V : Nat → Int → Int} {R : va_W}
theorem wC_0 : (wC C ad B E S Y V ++ R)[0]? = some (ad 0, .inr (1, fSB B)) := rfl
theorem wC_1 : (wC C ad B E S Y V ++ R)[1]? = some (B.1, aB C B.2.1 B.2.2.1) := rfl
theorem wC_2 : (wC C ad B E S Y V ++ R)[2]? = some (ad 2, .inr (4, fAL E (Y 10 0))) := rfl
theorem wC_3 : (wC C ad B E S Y V ++ R)[3]? = some (ad 3, .inr (9, fSp ad)) := rfl
theorem wC_4 : (wC C ad B E S Y V ++ R)[4]? = some (ad 4, .inr (5, fFo ad Y)) := rfl
theorem wC_5 : (wC C ad B E S Y V ++ R)[5]? = some (ad 5, aI C 12 (Y 0)) := rfl
theorem wC_6 : (wC C ad B E S Y V ++ R)[6]? = some (ad 6, aI C 12 (Y 1)) := rfl
theorem wC_7 : (wC C ad B E S Y V ++ R)[7]? = some (ad 7, aI C 12 (Y 2)) := rfl
theorem wC_8 : (wC C ad B E S Y V ++ R)[8]? = some (ad 8, aI C 12 (S 0)) := rfl
theorem wC_9 : (wC C ad B E S Y V ++ R)[9]? = some (ad 9, aI C 12 (S 1)) := rfl
theorem wC_10 : (wC C ad B E S Y V ++ R)[10]? = some (ad 10, aI C 12 (S 2)) := rfl
theorem wC_11 : (wC C ad B E S Y V ++ R)[11]? = some (ad 11, .inr (6, fGl ad Y)) := rfl
theorem wC_12 : (wC C ad B E S Y V ++ R)[12]? = some (ad 12, aI C 16 (Y 11)) := rfl
theorem wC_13 : (wC C ad B E S Y V ++ R)[13]? = some (ad 13, .inr (7, fLa ad V)) := rfl
theorem wC_14 : (wC C ad B E S Y V ++ R)[14]? = some (ad 14, aI C 16 (V 20)) := rfl
theorem wC_15 : (wC C ad B E S Y V ++ R)[15]? = some (ad 15, aI C 16 (V 21)) := rfl
theorem wC_16 : (wC C ad B E S Y V ++ R)[16]? = some (ad 16, aI C 16 (V 22)) := rfl
theorem wC_17 : (wC C ad B E S Y V ++ R)[17]? = some (ad 17, aI C 16 (V 13)) := rfl
theorem wC_18 : (wC C ad B E S Y V ++ R)[18]? = some (ad 18, aI C 16 (V 14)) := rfl
theorem wC_19 : (wC C ad B E S Y V ++ R)[19]? = some (ad 19, aI C 16 (V 15)) := rfl
theorem wC_20 : (wC C ad B E S Y V ++ R)[20]? = some (ad 20, aI C 16 (V 16)) := rfl
theorem wC_21 : (wC C ad B E S Y V ++ R)[21]? = some (ad 21, aI C 16 (V 18)) := rfl
theorem wC_s_5 {z v : Int} : (wC C ad B E S Y V ++ R).set 5 (ad 5, aI C 12 (uI (Y 0) z v)) = wC C ad B E S (u2 Y 0 z v) V ++ R := rfl
theorem wC_s_6 {z v : Int} : (wC C ad B E S Y V ++ R).set 6 (ad 6, aI C 12 (uI (Y 1) z v)) = wC C ad B E S (u2 Y 1 z v) V ++ R := rfl
theorem wC_s_7 {z v : Int} : (wC C ad B E S Y V ++ R).set 7 (ad 7, aI C 12 (uI (Y 2) z v)) = wC C ad B E S (u2 Y 2 z v) V ++ R := rfl
theorem wC_s_8 {z v : Int} : (wC C ad B E S Y V ++ R).set 8 (ad 8, aI C 12 (uI (S 0) z v)) = wC C ad B E (u2 S 0 z v) Y V ++ R := rfl
theorem wC_s_9 {z v : Int} : (wC C ad B E S Y V ++ R).set 9 (ad 9, aI C 12 (uI (S 1) z v)) = wC C ad B E (u2 S 1 z v) Y V ++ R := rfl
theorem wC_s_10 {z v : Int} : (wC C ad B E S Y V ++ R).set 10 (ad 10, aI C 12 (uI (S 2) z v)) = wC C ad B E (u2 S 2 z v) Y V ++ R := rfl
theorem wC_s_12 {z v : Int} : (wC C ad B E S Y V ++ R).set 12 (ad 12, aI C 16 (uI (Y 11) z v)) = wC C ad B E S (u2 Y 11 z v) V ++ R := rfl
theorem wC_s_14 {z v : Int} : (wC C ad B E S Y V ++ R).set 14 (ad 14, aI C 16 (uI (V 20) z v)) = wC C ad B E S Y (u2 V 20 z v) ++ R := rfl
theorem wC_s_15 {z v : Int} : (wC C ad B E S Y V ++ R).set 15 (ad 15, aI C 16 (uI (V 21) z v)) = wC C ad B E S Y (u2 V 21 z v) ++ R := rfl
theorem wC_s_16 {z v : Int} : (wC C ad B E S Y V ++ R).set 16 (ad 16, aI C 16 (uI (V 22) z v)) = wC C ad B E S Y (u2 V 22 z v) ++ R := rfl
theorem wC_s_17 {z v : Int} : (wC C ad B E S Y V ++ R).set 17 (ad 17, aI C 16 (uI (V 13) z v)) = wC C ad B E S Y (u2 V 13 z v) ++ R := rfl
theorem wC_s_18 {z v : Int} : (wC C ad B E S Y V ++ R).set 18 (ad 18, aI C 16 (uI (V 14) z v)) = wC C ad B E S Y (u2 V 14 z v) ++ R := rfl
theorem wC_s_19 {z v : Int} : (wC C ad B E S Y V ++ R).set 19 (ad 19, aI C 16 (uI (V 15) z v)) = wC C ad B E S Y (u2 V 15 z v) ++ R := rfl
theorem wC_s_20 {z v : Int} : (wC C ad B E S Y V ++ R).set 20 (ad 20, aI C 16 (uI (V 16) z v)) = wC C ad B E S Y (u2 V 16 z v) ++ R := rfl
theorem wC_s_21 {z v : Int} : (wC C ad B E S Y V ++ R).set 21 (ad 21, aI C 16 (uI (V 18) z v)) = wC C ad B E S Y (u2 V 18 z v) ++ R := rfl
theorem wC_f_X0_3 {v : Int} : (wC C ad B E S Y V ++ R).set 4 (ad 4, .inr (5, (fFo ad Y).set 3 (vi v))) = wC C ad B E S (u2 Y 3 0 v) V ++ R := rfl
theorem wC_f_X1_1 {v : Int} : (wC C ad B E S Y V ++ R).set 11 (ad 11, .inr (6, (fGl ad Y).set 1 (vi v))) = wC C ad B E S (u2 Y 12 0 v) V ++ R := rfl
theorem wC_f_X2_8 {v : Int} : (wC C ad B E S Y V ++ R).set 13 (ad 13, .inr (7, (fLa ad V).set 8 (vi v))) = wC C ad B E S Y (u2 V 17 0 v) ++ R := rfl
theorem wC_f_X2_9 {v : Int} : (wC C ad B E S Y V ++ R).set 13 (ad 13, .inr (7, (fLa ad V).set 9 (vi v))) = wC C ad B E S Y (u2 V 19 0 v) ++ R := rfl
end WCs
theorem inX0 : ∀ w ∈ u_ws "Springleaf$Folds" TX0 8, w ∈ TW := List.forall_mem_cons.mpr ⟨q1_89, List.forall_mem_cons.mpr ⟨q1_91, List.forall_mem_cons.mpr ⟨q1_93, List.forall_mem_cons.mpr ⟨q1_95, List.forall_mem_cons.mpr ⟨q1_97, List.forall_mem_cons.mpr ⟨q1_99, List.forall_mem_cons.mpr ⟨q1_101, List.forall_mem_cons.mpr ⟨q1_103, fun _ h => nomatch h⟩⟩⟩⟩⟩⟩⟩⟩
theorem inX1 : ∀ w ∈ u_ws "Springleaf$Gluing" TX1 2, w ∈ TW := List.forall_mem_cons.mpr ⟨q1_141, List.forall_mem_cons.mpr ⟨q1_143, fun _ h => nomatch h⟩⟩
theorem inX2 : ∀ w ∈ u_ws "Springleaf$Layout" TX2 10, w ∈ TW := List.forall_mem_cons.mpr ⟨q1_166, List.forall_mem_cons.mpr ⟨q1_168, List.forall_mem_cons.mpr ⟨q1_170, List.forall_mem_cons.mpr ⟨q1_172, List.forall_mem_cons.mpr ⟨q1_174, List.forall_mem_cons.mpr ⟨q1_176, List.forall_mem_cons.mpr ⟨q1_178, List.forall_mem_cons.mpr ⟨q1_180, List.forall_mem_cons.mpr ⟨q1_182, List.forall_mem_cons.mpr ⟨q1_184, fun _ h => nomatch h⟩⟩⟩⟩⟩⟩⟩⟩⟩⟩
theorem inX3 : ∀ w ∈ u_ws "Springleaf$Part" TX3 6, w ∈ TW := List.forall_mem_cons.mpr ⟨q2_231, List.forall_mem_cons.mpr ⟨q2_233, List.forall_mem_cons.mpr ⟨q2_235, List.forall_mem_cons.mpr ⟨q2_237, List.forall_mem_cons.mpr ⟨q2_239, List.forall_mem_cons.mpr ⟨q3_1, fun _ h => nomatch h⟩⟩⟩⟩⟩⟩
theorem inX4 : ∀ w ∈ u_ws "Springleaf" TX4 4, w ∈ TW := List.forall_mem_cons.mpr ⟨q1_191, List.forall_mem_cons.mpr ⟨q1_193, List.forall_mem_cons.mpr ⟨q1_195, List.forall_mem_cons.mpr ⟨q1_197, fun _ h => nomatch h⟩⟩⟩⟩
theorem inJ4 : ∀ w ∈ u_ws "java/lang/StringBuilder" TJ4 4, w ∈ TW := List.forall_mem_cons.mpr ⟨q1_68, List.forall_mem_cons.mpr ⟨q1_70, List.forall_mem_cons.mpr ⟨q1_72, List.forall_mem_cons.mpr ⟨q1_74, fun _ h => nomatch h⟩⟩⟩⟩
theorem inJx4a65c : ∀ w ∈ u_ws "java/util/ArrayList" TJx4a65c 3, w ∈ TW := List.forall_mem_cons.mpr ⟨q1_129, List.forall_mem_cons.mpr ⟨q1_125, List.forall_mem_cons.mpr ⟨q1_127, fun _ h => nomatch h⟩⟩⟩
section CR
variable {C : WC} {l0 : Launch} {own : String} {cc : ByteArray} {nL d Mc Ms : Nat} {K : GK} {Q : State → Prop} {cells slots pc t : Nat} {lv lv1 : List (Nat × Value)} {st : List Value} {ad : Nat → Nat} {B : BT} {E : Int × Nat} {S Y V : Nat → Int → Int} {R ws1 : va_W}
theorem getf_X0 (X : Cx C l0 own cc nL d Mc Ms K) {index : Nat} {v : Value} (k9 : Nat) (hk : k9 < 8) (hlink : Cond.fieldLink own index "Springleaf$Folds" (TX0 k9).2.1 (TX0 k9).2.2.1 ∈ TW) (href : (TX0 k9).1 = "Springleaf$Folds") (hv : (fFo ad Y)[k9]? = some v) (hd : decode cc pc = .ok (.getfield index, 3)) (hpc : pc + 3 = t) (k : G C K Q cells slots t lv (v :: st) (wC C ad B E S Y V ++ R)) : G C K Q cells slots pc lv (.ref (ad 4) :: st) (wC C ad B E S Y V ++ R) :=
  g_getf X inX0 4 wC_4 rfl k9 hk hlink href hv hd hpc k
theorem putf_X0 (X : Cx C l0 own cc nL d Mc Ms K) {index : Nat} {v : Int} (k9 : Nat) (hk : k9 < 8) (hlink : Cond.fieldLink own index "Springleaf$Folds" (TX0 k9).2.1 (TX0 k9).2.2.1 ∈ TW) (href : (TX0 k9).1 = "Springleaf$Folds") (hfin : (TX0 k9).2.2.2 = false) (hd2 : parseFieldDescriptor (TX0 k9).2.2.1 = some .int) (hw : (wC C ad B E S Y V ++ R).set 4 (ad 4, .inr (5, (fFo ad Y).set k9 (vi v))) = ws1) (hd : decode cc pc = .ok (.putfield index, 3)) (hpc : pc + 3 = t) (k : G C K Q cells slots t lv st ws1) : G C K Q cells slots pc lv (vi v :: .ref (ad 4) :: st) (wC C ad B E S Y V ++ R) :=
  g_putf X inX0 tyX0 tyX0_ok nmX0 4 wC_4 rfl k9 hk hlink href hfin hd2 rfl rfl (by show k9 < 8; exact hk) hw hd hpc k
theorem getf_X1 (X : Cx C l0 own cc nL d Mc Ms K) {index : Nat} {v : Value} (k9 : Nat) (hk : k9 < 2) (hlink : Cond.fieldLink own index "Springleaf$Gluing" (TX1 k9).2.1 (TX1 k9).2.2.1 ∈ TW) (href : (TX1 k9).1 = "Springleaf$Gluing") (hv : (fGl ad Y)[k9]? = some v) (hd : decode cc pc = .ok (.getfield index, 3)) (hpc : pc + 3 = t) (k : G C K Q cells slots t lv (v :: st) (wC C ad B E S Y V ++ R)) : G C K Q cells slots pc lv (.ref (ad 11) :: st) (wC C ad B E S Y V ++ R) :=
  g_getf X inX1 11 wC_11 rfl k9 hk hlink href hv hd hpc k
theorem putf_X1 (X : Cx C l0 own cc nL d Mc Ms K) {index : Nat} {v : Int} (k9 : Nat) (hk : k9 < 2) (hlink : Cond.fieldLink own index "Springleaf$Gluing" (TX1 k9).2.1 (TX1 k9).2.2.1 ∈ TW) (href : (TX1 k9).1 = "Springleaf$Gluing") (hfin : (TX1 k9).2.2.2 = false) (hd2 : parseFieldDescriptor (TX1 k9).2.2.1 = some .int) (hw : (wC C ad B E S Y V ++ R).set 11 (ad 11, .inr (6, (fGl ad Y).set k9 (vi v))) = ws1) (hd : decode cc pc = .ok (.putfield index, 3)) (hpc : pc + 3 = t) (k : G C K Q cells slots t lv st ws1) : G C K Q cells slots pc lv (vi v :: .ref (ad 11) :: st) (wC C ad B E S Y V ++ R) :=
  g_putf X inX1 tyX1 tyX1_ok nmX1 11 wC_11 rfl k9 hk hlink href hfin hd2 rfl rfl (by show k9 < 2; exact hk) hw hd hpc k
theorem getf_X2 (X : Cx C l0 own cc nL d Mc Ms K) {index : Nat} {v : Value} (k9 : Nat) (hk : k9 < 10) (hlink : Cond.fieldLink own index "Springleaf$Layout" (TX2 k9).2.1 (TX2 k9).2.2.1 ∈ TW) (href : (TX2 k9).1 = "Springleaf$Layout") (hv : (fLa ad V)[k9]? = some v) (hd : decode cc pc = .ok (.getfield index, 3)) (hpc : pc + 3 = t) (k : G C K Q cells slots t lv (v :: st) (wC C ad B E S Y V ++ R)) : G C K Q cells slots pc lv (.ref (ad 13) :: st) (wC C ad B E S Y V ++ R) :=
  g_getf X inX2 13 wC_13 rfl k9 hk hlink href hv hd hpc k
theorem putf_X2 (X : Cx C l0 own cc nL d Mc Ms K) {index : Nat} {v : Int} (k9 : Nat) (hk : k9 < 10) (hlink : Cond.fieldLink own index "Springleaf$Layout" (TX2 k9).2.1 (TX2 k9).2.2.1 ∈ TW) (href : (TX2 k9).1 = "Springleaf$Layout") (hfin : (TX2 k9).2.2.2 = false) (hd2 : parseFieldDescriptor (TX2 k9).2.2.1 = some .int) (hw : (wC C ad B E S Y V ++ R).set 13 (ad 13, .inr (7, (fLa ad V).set k9 (vi v))) = ws1) (hd : decode cc pc = .ok (.putfield index, 3)) (hpc : pc + 3 = t) (k : G C K Q cells slots t lv st ws1) : G C K Q cells slots pc lv (vi v :: .ref (ad 13) :: st) (wC C ad B E S Y V ++ R) :=
  g_putf X inX2 tyX2 tyX2_ok nmX2 13 wC_13 rfl k9 hk hlink href hfin hd2 rfl rfl (by show k9 < 10; exact hk) hw hd hpc k
theorem getf_X4 (X : Cx C l0 own cc nL d Mc Ms K) {index : Nat} {v : Value} (k9 : Nat) (hk : k9 < 4) (hlink : Cond.fieldLink own index "Springleaf" (TX4 k9).2.1 (TX4 k9).2.2.1 ∈ TW) (href : (TX4 k9).1 = "Springleaf") (hv : (fSp ad)[k9]? = some v) (hd : decode cc pc = .ok (.getfield index, 3)) (hpc : pc + 3 = t) (k : G C K Q cells slots t lv (v :: st) (wC C ad B E S Y V ++ R)) : G C K Q cells slots pc lv (.ref (ad 3) :: st) (wC C ad B E S Y V ++ R) :=
  g_getf X inX4 3 wC_3 rfl k9 hk hlink href hv hd hpc k
end CR
