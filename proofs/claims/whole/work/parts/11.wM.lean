/-! the reference: its object and its nineteen rows; Y the page, V what is laid, W the way, th what is thrown -/
def fM (ad : Nat → Nat) (Y V : Nat → Int → Int) (th : Int) : List Value := [.ref (ad 1), .ref (ad 2), .ref (ad 3), vi (Y 3 0), .ref (ad 4), .ref (ad 5), .ref (ad 6), .ref (ad 7), .ref (ad 8), .ref (ad 9), vi (Y 10 0), .ref (ad 10), vi (Y 12 0), .ref (ad 11), .ref (ad 12), .ref (ad 13), .ref (ad 14), vi (V 17 0), .ref (ad 15), vi (V 19 0), .ref (ad 16), .ref (ad 17), .ref (ad 18), .ref (ad 19), vi th]
def wM (C : WC) (ad : Nat → Nat) (Y V : Nat → Int → Int) (W : Int → Int) (th : Int) : va_W := [(ad 0, .inr (8, fM ad Y V th)), (ad 1, aI C 12 (Y 0)), (ad 2, aI C 12 (Y 1)), (ad 3, aI C 12 (Y 2)), (ad 4, aI C 16 (Y 4)), (ad 5, aI C 16 (Y 5)), (ad 6, aI C 16 (Y 6)), (ad 7, aI C 16 (Y 7)), (ad 8, aI C 16 (Y 8)), (ad 9, aI C 16 (Y 9)), (ad 10, aI C 16 (Y 11)), (ad 11, aI C 16 (V 13)), (ad 12, aI C 16 (V 14)), (ad 13, aI C 16 (V 15)), (ad 14, aI C 16 (V 16)), (ad 15, aI C 16 (V 18)), (ad 16, aI C 16 (V 20)), (ad 17, aI C 16 (V 21)), (ad 18, aI C 16 (V 22)), (ad 19, aI C 12 W)]
section WMs
variable {C : WC} {ad : Nat → Nat} {Y V : Nat → Int → Int} {W : Int → Int} {th : Int} {R : va_W}
theorem wM_0 : (wM C ad Y V W th ++ R)[0]? = some (ad 0, .inr (8, fM ad Y V th)) := rfl
theorem wM_fo : (wM C ad Y V W th ++ R)[1]? = some (ad 1, aI C 12 (Y 0)) := rfl
theorem wM_s_fo {z v : Int} : (wM C ad Y V W th ++ R).set 1 (ad 1, aI C 12 (uI (Y 0) z v)) = wM C ad (u2 Y 0 z v) V W th ++ R := rfl
theorem wM_fl : (wM C ad Y V W th ++ R)[2]? = some (ad 2, aI C 12 (Y 1)) := rfl
theorem wM_s_fl {z v : Int} : (wM C ad Y V W th ++ R).set 2 (ad 2, aI C 12 (uI (Y 1) z v)) = wM C ad (u2 Y 1 z v) V W th ++ R := rfl
theorem wM_fn : (wM C ad Y V W th ++ R)[3]? = some (ad 3, aI C 12 (Y 2)) := rfl
theorem wM_s_fn {z v : Int} : (wM C ad Y V W th ++ R).set 3 (ad 3, aI C 12 (uI (Y 2) z v)) = wM C ad (u2 Y 2 z v) V W th ++ R := rfl
theorem wM_pf : (wM C ad Y V W th ++ R)[4]? = some (ad 4, aI C 16 (Y 4)) := rfl
theorem wM_s_pf {z v : Int} : (wM C ad Y V W th ++ R).set 4 (ad 4, aI C 16 (uI (Y 4) z v)) = wM C ad (u2 Y 4 z v) V W th ++ R := rfl
theorem wM_pp : (wM C ad Y V W th ++ R)[5]? = some (ad 5, aI C 16 (Y 5)) := rfl
theorem wM_s_pp {z v : Int} : (wM C ad Y V W th ++ R).set 5 (ad 5, aI C 16 (uI (Y 5) z v)) = wM C ad (u2 Y 5 z v) V W th ++ R := rfl
theorem wM_pl : (wM C ad Y V W th ++ R)[6]? = some (ad 6, aI C 16 (Y 6)) := rfl
theorem wM_s_pl {z v : Int} : (wM C ad Y V W th ++ R).set 6 (ad 6, aI C 16 (uI (Y 6) z v)) = wM C ad (u2 Y 6 z v) V W th ++ R := rfl
theorem wM_pb : (wM C ad Y V W th ++ R)[7]? = some (ad 7, aI C 16 (Y 7)) := rfl
theorem wM_s_pb {z v : Int} : (wM C ad Y V W th ++ R).set 7 (ad 7, aI C 16 (uI (Y 7) z v)) = wM C ad (u2 Y 7 z v) V W th ++ R := rfl
theorem wM_pn : (wM C ad Y V W th ++ R)[8]? = some (ad 8, aI C 16 (Y 8)) := rfl
theorem wM_s_pn {z v : Int} : (wM C ad Y V W th ++ R).set 8 (ad 8, aI C 16 (uI (Y 8) z v)) = wM C ad (u2 Y 8 z v) V W th ++ R := rfl
theorem wM_pe : (wM C ad Y V W th ++ R)[9]? = some (ad 9, aI C 16 (Y 9)) := rfl
theorem wM_s_pe {z v : Int} : (wM C ad Y V W th ++ R).set 9 (ad 9, aI C 16 (uI (Y 9) z v)) = wM C ad (u2 Y 9 z v) V W th ++ R := rfl
theorem wM_order : (wM C ad Y V W th ++ R)[10]? = some (ad 10, aI C 16 (Y 11)) := rfl
theorem wM_s_order {z v : Int} : (wM C ad Y V W th ++ R).set 10 (ad 10, aI C 16 (uI (Y 11) z v)) = wM C ad (u2 Y 11 z v) V W th ++ R := rfl
theorem wM_ss : (wM C ad Y V W th ++ R)[11]? = some (ad 11, aI C 16 (V 13)) := rfl
theorem wM_s_ss {z v : Int} : (wM C ad Y V W th ++ R).set 11 (ad 11, aI C 16 (uI (V 13) z v)) = wM C ad Y (u2 V 13 z v) W th ++ R := rfl
theorem wM_st : (wM C ad Y V W th ++ R)[12]? = some (ad 12, aI C 16 (V 14)) := rfl
theorem wM_s_st {z v : Int} : (wM C ad Y V W th ++ R).set 12 (ad 12, aI C 16 (uI (V 14) z v)) = wM C ad Y (u2 V 14 z v) W th ++ R := rfl
theorem wM_sh : (wM C ad Y V W th ++ R)[13]? = some (ad 13, aI C 16 (V 15)) := rfl
theorem wM_s_sh {z v : Int} : (wM C ad Y V W th ++ R).set 13 (ad 13, aI C 16 (uI (V 15) z v)) = wM C ad Y (u2 V 15 z v) W th ++ R := rfl
theorem wM_su : (wM C ad Y V W th ++ R)[14]? = some (ad 14, aI C 16 (V 16)) := rfl
theorem wM_s_su {z v : Int} : (wM C ad Y V W th ++ R).set 14 (ad 14, aI C 16 (uI (V 16) z v)) = wM C ad Y (u2 V 16 z v) W th ++ R := rfl
theorem wM_used : (wM C ad Y V W th ++ R)[15]? = some (ad 15, aI C 16 (V 18)) := rfl
theorem wM_s_used {z v : Int} : (wM C ad Y V W th ++ R).set 15 (ad 15, aI C 16 (uI (V 18) z v)) = wM C ad Y (u2 V 18 z v) W th ++ R := rfl
theorem wM_ps : (wM C ad Y V W th ++ R)[16]? = some (ad 16, aI C 16 (V 20)) := rfl
theorem wM_s_ps {z v : Int} : (wM C ad Y V W th ++ R).set 16 (ad 16, aI C 16 (uI (V 20) z v)) = wM C ad Y (u2 V 20 z v) W th ++ R := rfl
theorem wM_px : (wM C ad Y V W th ++ R)[17]? = some (ad 17, aI C 16 (V 21)) := rfl
theorem wM_s_px {z v : Int} : (wM C ad Y V W th ++ R).set 17 (ad 17, aI C 16 (uI (V 21) z v)) = wM C ad Y (u2 V 21 z v) W th ++ R := rfl
theorem wM_py : (wM C ad Y V W th ++ R)[18]? = some (ad 18, aI C 16 (V 22)) := rfl
theorem wM_s_py {z v : Int} : (wM C ad Y V W th ++ R).set 18 (ad 18, aI C 16 (uI (V 22) z v)) = wM C ad Y (u2 V 22 z v) W th ++ R := rfl
theorem wM_way : (wM C ad Y V W th ++ R)[19]? = some (ad 19, aI C 12 W) := rfl
theorem wM_s_way {z v : Int} : (wM C ad Y V W th ++ R).set 19 (ad 19, aI C 12 (uI W z v)) = wM C ad Y V (uI W z v) th ++ R := rfl
theorem wM_f_folds {v : Int} : (wM C ad Y V W th ++ R).set 0 (ad 0, .inr (8, (fM ad Y V th).set 3 (vi v))) = wM C ad (u2 Y 3 0 v) V W th ++ R := rfl
theorem wM_f_parts {v : Int} : (wM C ad Y V W th ++ R).set 0 (ad 0, .inr (8, (fM ad Y V th).set 10 (vi v))) = wM C ad (u2 Y 10 0 v) V W th ++ R := rfl
theorem wM_f_glued {v : Int} : (wM C ad Y V W th ++ R).set 0 (ad 0, .inr (8, (fM ad Y V th).set 12 (vi v))) = wM C ad (u2 Y 12 0 v) V W th ++ R := rfl
theorem wM_f_shelves {v : Int} : (wM C ad Y V W th ++ R).set 0 (ad 0, .inr (8, (fM ad Y V th).set 17 (vi v))) = wM C ad Y (u2 V 17 0 v) W th ++ R := rfl
theorem wM_f_sheets {v : Int} : (wM C ad Y V W th ++ R).set 0 (ad 0, .inr (8, (fM ad Y V th).set 19 (vi v))) = wM C ad Y (u2 V 19 0 v) W th ++ R := rfl
theorem wM_f_thrown {v : Int} : (wM C ad Y V W th ++ R).set 0 (ad 0, .inr (8, (fM ad Y V th).set 24 (vi v))) = wM C ad Y V W v ++ R := rfl
end WMs
theorem inM : ∀ w ∈ u_ws "SpringleafModel" TX5 25, w ∈ TW := List.forall_mem_cons.mpr ⟨q4_234, List.forall_mem_cons.mpr ⟨q4_236, List.forall_mem_cons.mpr ⟨q4_238, List.forall_mem_cons.mpr ⟨q5_0, List.forall_mem_cons.mpr ⟨q5_2, List.forall_mem_cons.mpr ⟨q5_4, List.forall_mem_cons.mpr ⟨q5_6, List.forall_mem_cons.mpr ⟨q5_8, List.forall_mem_cons.mpr ⟨q5_10, List.forall_mem_cons.mpr ⟨q5_12, List.forall_mem_cons.mpr ⟨q5_14, List.forall_mem_cons.mpr ⟨q5_16, List.forall_mem_cons.mpr ⟨q5_18, List.forall_mem_cons.mpr ⟨q5_20, List.forall_mem_cons.mpr ⟨q5_22, List.forall_mem_cons.mpr ⟨q5_24, List.forall_mem_cons.mpr ⟨q5_26, List.forall_mem_cons.mpr ⟨q5_28, List.forall_mem_cons.mpr ⟨q5_30, List.forall_mem_cons.mpr ⟨q5_32, List.forall_mem_cons.mpr ⟨q5_34, List.forall_mem_cons.mpr ⟨q5_36, List.forall_mem_cons.mpr ⟨q5_38, List.forall_mem_cons.mpr ⟨q5_40, List.forall_mem_cons.mpr ⟨q5_42, fun _ h => nomatch h⟩⟩⟩⟩⟩⟩⟩⟩⟩⟩⟩⟩⟩⟩⟩⟩⟩⟩⟩⟩⟩⟩⟩⟩⟩
section MR
variable {C : WC} {l0 : Launch} {cc : ByteArray} {nL d Mc Ms : Nat} {K : GK} {Q : State → Prop} {cells slots pc t : Nat} {lv lv1 : List (Nat × Value)} {st : List Value} {ad : Nat → Nat} {Y V : Nat → Int → Int} {W : Int → Int} {th : Int} {R ws1 : va_W}
theorem m_getf (X : Cx C l0 "SpringleafModel" cc nL d Mc Ms K) {index : Nat} {v : Value} (k9 : Nat) (hk : k9 < 25) (hlink : Cond.fieldLink "SpringleafModel" index "SpringleafModel" (TX5 k9).2.1 (TX5 k9).2.2.1 ∈ TW) (href : (TX5 k9).1 = "SpringleafModel") (hv : (fM ad Y V th)[k9]? = some v) (hd : decode cc pc = .ok (.getfield index, 3)) (hpc : pc + 3 = t) (k : G C K Q cells slots t lv (v :: st) (wM C ad Y V W th ++ R)) : G C K Q cells slots pc lv (.ref (ad 0) :: st) (wM C ad Y V W th ++ R) :=
  g_getf X inM 0 wM_0 rfl k9 hk hlink href hv hd hpc k
theorem m_putf (X : Cx C l0 "SpringleafModel" cc nL d Mc Ms K) {index : Nat} {v : Int} (k9 : Nat) (hk : k9 < 25) (hlink : Cond.fieldLink "SpringleafModel" index "SpringleafModel" (TX5 k9).2.1 (TX5 k9).2.2.1 ∈ TW) (href : (TX5 k9).1 = "SpringleafModel") (hfin : (TX5 k9).2.2.2 = false) (hd2 : parseFieldDescriptor (TX5 k9).2.2.1 = some .int) (hw : (wM C ad Y V W th ++ R).set 0 (ad 0, .inr (8, (fM ad Y V th).set k9 (vi v))) = ws1) (hd : decode cc pc = .ok (.putfield index, 3)) (hpc : pc + 3 = t) (k : G C K Q cells slots t lv st ws1) : G C K Q cells slots pc lv (vi v :: .ref (ad 0) :: st) (wM C ad Y V W th ++ R) :=
  g_putf X inM tyX5 tyX5_ok nmX5 0 wM_0 rfl k9 hk hlink href hfin hd2 rfl rfl (by show k9 < 25; exact hk) hw hd hpc k
end MR
