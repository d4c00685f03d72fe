/-! more rows -/
theorem i2c_ok : ∀ n : Fin 256, ((iZ ((n : Nat) : Int)).toUInt32 % 65536).toInt32 = iZ ((n : Nat) : Int) := by decide +kernel
theorem i2b_ok : ∀ n : Fin 128, (iZ ((n : Nat) : Int)).toInt8.toInt32 = iZ ((n : Nat) : Int) := by decide +kernel
theorem a255_ok : ∀ n : Fin 256, iZ ((n : Nat) : Int) &&& iZ 255 = iZ ((n : Nat) : Int) := by decide +kernel
theorem shr1_ok : ∀ n : Fin 64, iZ ((n : Nat) : Int) >>> (iZ 1 &&& 31) = iZ (((n : Nat) : Int) / 2) := by decide +kernel
theorem xor4_ok : ∀ n : Fin 2048, iZ ((n : Nat) : Int) ^^^ iZ 4 = iZ (((((n : Nat) ^^^ 4) % 2048 : Nat)) : Int) := by decide +kernel
theorem narb_ok : ∀ n : Fin 128, vp_nar .byte (iZ ((n : Nat) : Int)) = iZ ((n : Nat) : Int) := by decide +kernel
theorem fitb_ok : ∀ n : Fin 128, fits .byte (.int (iZ ((n : Nat) : Int))) = true := by decide +kernel
theorem nat_of {a : Int} {b : Nat} (h0 : 0 ≤ a) (h1 : a < b) : ∃ n : Fin b, a = ((n : Nat) : Int) := ⟨⟨a.toNat, by omega⟩, by show a = ((a.toNat : Nat) : Int); omega⟩
/-- rows of bytes, of objects -/
def aB (C : WC) (n : Nat) (f : Int → Int) : va_E := .inl (C.2.1 1, n, .inl (fun j : Nat => iZ (f (j : Int))))
def aO (C : WC) (n : Nat) (f : Nat → Option Nat) : va_E := .inl (C.2.1 2, n, .inr (.inr (.inr (.inr f))))
theorem aB_upd (C : WC) (n : Nat) (f : Int → Int) {z : Int} (h0 : 0 ≤ z) (h1 : z < 2147483648) {v : Int} (v0 : 0 ≤ v) (v1 : v < 128) : (.inl (C.2.1 1, n, .inl (upd (fun j : Nat => iZ (f (j : Int))) (iZ z).toNatClampNeg (vp_nar .byte (iZ v)))) : va_E) = aB C n (uI f z v) := by
  obtain ⟨k, rfl⟩ := nat_of (b := 128) v0 v1
  rw [narb_ok k]
  unfold aB
  rw [iZ_clamp h0 h1]
  congr 4
  funext j
  unfold upd uI
  by_cases hj : j = z.toNat
  · rw [if_pos hj, if_pos (by omega)]
  · rw [if_neg hj, if_neg (by omega)]
/-- a copied piece -/
def cpI (f g : Int → Int) (sp dp n : Int) : Int → Int := fun k => if dp ≤ k ∧ k < dp + n then f (sp + (k - dp)) else g k
theorem cpI_ok (f g : Int → Int) {sp dp n : Int} (h1 : 0 ≤ sp) (h2 : 0 ≤ dp) (h3 : 0 ≤ n) (h4 : sp < 2147483648) (h5 : dp < 2147483648) (h6 : n < 2147483648) : va_cpy (fun j : Nat => iZ (f (j : Int))) (fun j : Nat => iZ (g (j : Int))) (iZ sp).toNatClampNeg (iZ dp).toNatClampNeg (iZ n).toNatClampNeg = fun j : Nat => iZ (cpI f g sp dp n (j : Int)) := by
  rw [iZ_clamp h1 h4, iZ_clamp h2 h5, iZ_clamp h3 h6]
  funext j
  unfold va_cpy cpI
  by_cases hj : dp.toNat ≤ j ∧ j < dp.toNat + n.toNat
  · rw [if_pos hj, if_pos (by omega)]
    show iZ (f ((sp.toNat + (j - dp.toNat) : Nat) : Int)) = _
    rw [show ((sp.toNat + (j - dp.toNat) : Nat) : Int) = sp + ((j : Int) - dp) by omega]
  · rw [if_neg hj, if_neg (by omega)]
theorem cpO_ok (f g : Nat → Option Nat) {n : Int} (h3 : 0 ≤ n) (h6 : n < 2147483648) : va_cpy f g (iZ 0).toNatClampNeg (iZ 0).toNatClampNeg (iZ n).toNatClampNeg = fun j : Nat => if j < n.toNat then f j else g j := by
  rw [iZ_clamp h3 h6, iZ_clamp (Int.le_refl 0) (by omega)]
  funext j
  unfold va_cpy
  by_cases hj : j < n.toNat
  · rw [if_pos hj, if_pos (by show (0 : Int).toNat ≤ j ∧ j < (0 : Int).toNat + n.toNat; simp; omega)]
    congr 1
    show (0 : Int).toNat + (j - (0 : Int).toNat) = j
    simp
  · rw [if_neg hj, if_neg (by show ¬ ((0 : Int).toNat ≤ j ∧ j < (0 : Int).toNat + n.toNat); simp; omega)]
theorem iZ_nn {z : Int} (h0 : 0 ≤ z) (h1 : z < 2147483648) : ¬ iZ z < 0 := by
  intro h
  rw [Int32.lt_iff_toInt_lt, iZ_to (by omega) h1] at h
  have h2 : (0 : Int32).toInt = 0 := by decide
  omega
theorem iZ_ofNat (n : Nat) : Int32.ofNat n = iZ (n : Int) := (Int32.ofInt_eq_ofNat).symm
/-! worlds that only differ in their order -/
theorem va_P_pm {D : va_G} {cl : List vw_C} {ws ws2 : va_W} {H : Heap} (h : va_P D cl ws H) (hp : List.Perm ws2 ws) : va_P D cl ws2 H := by
  intro k q hk
  obtain ⟨i, hi⟩ := List.getElem?_of_mem (hp.mem_iff.mp (List.mem_of_getElem? hk))
  exact h i q hi
theorem va_D_iff {A : Nat → Prop} {ws : va_W} : va_D A ws ↔ (ws.map Prod.fst).Nodup ∧ ∀ q ∈ ws, A q.1 := by
  constructor
  · intro h
    refine ⟨?_, fun q hq => ?_⟩
    · refine List.pairwise_iff_getElem.mpr (fun i j hi hj hij e => ?_)
      rw [List.length_map] at hi hj
      rw [List.getElem_map, List.getElem_map] at e
      have := h.1 i j _ _ (List.getElem?_eq_getElem hi) (List.getElem?_eq_getElem hj) e
      omega
    · obtain ⟨i, hi⟩ := List.getElem?_of_mem hq
      exact h.2 i q hi
  · rintro ⟨h1, h2⟩
    have h1 := List.pairwise_iff_getElem.mp h1
    refine ⟨fun i j p q hp hq e => ?_, fun k q hk => h2 q (List.mem_of_getElem? hk)⟩
    obtain ⟨hi, e1⟩ := List.getElem?_eq_some_iff.mp hp
    obtain ⟨hj, e2⟩ := List.getElem?_eq_some_iff.mp hq
    rcases Nat.lt_trichotomy i j with h | h | h
    · exact absurd (by rw [List.getElem_map, List.getElem_map, e1, e2]; exact e) (h1 i j (by simpa using hi) (by simpa using hj) h)
    · exact h
    · exact absurd (by rw [List.getElem_map, List.getElem_map, e1, e2]; exact e.symm) (h1 j i (by simpa using hj) (by simpa using hi) h)
theorem va_D_pm {A : Nat → Prop} {ws ws2 : va_W} (h : va_D A ws) (hp : List.Perm ws2 ws) : va_D A ws2 := by
  rw [va_D_iff] at h ⊢
  exact ⟨(hp.map Prod.fst).nodup_iff.mpr h.1, fun q hq => h.2 q (hp.mem_iff.mp hq)⟩
theorem va_P_dr {D : va_G} {cl : List vw_C} {ws ws2 : va_W} {H : Heap} (h : va_P D cl ws H) (hp : List.Sublist ws2 ws) : va_P D cl ws2 H := by
  intro k q hk
  obtain ⟨i, hi⟩ := List.getElem?_of_mem (hp.mem (List.mem_of_getElem? hk))
  exact h i q hi
theorem va_D_dr {A : Nat → Prop} {ws ws2 : va_W} (h : va_D A ws) (hp : List.Sublist ws2 ws) : va_D A ws2 := by
  rw [va_D_iff] at h ⊢
  exact ⟨(hp.map Prod.fst).nodup h.1, fun q hq => h.2 q (hp.mem hq)⟩
theorem WP.pm {C : WC} {ws ws2 : va_W} {t : State} (h : WP C ws t) (hp : List.Perm ws2 ws) : WP C ws2 t := ⟨va_P_pm h.1 hp, va_D_pm h.2 hp⟩
theorem WP.dr {C : WC} {ws ws2 : va_W} {t : State} (h : WP C ws t) (hp : List.Sublist ws2 ws) : WP C ws2 t := ⟨va_P_dr h.1 hp, va_D_dr h.2 hp⟩
theorem g_pm {C : WC} {K : GK} {Q : State → Prop} {cells slots pc : Nat} {lv : List (Nat × Value)} {st : List Value} {ws ws2 : va_W} (hp : List.Perm ws2 ws) (k : G C K Q cells slots pc lv st ws2) : G C K Q cells slots pc lv st ws := by
  obtain ⟨p, l, e, R, s, m, args, below, meth, c, nL⟩ := K
  intro H locs ls hP hD hS hl
  exact k H locs ls (va_P_pm hP hp) (va_D_pm hD hp) hS hl
theorem g_dr {C : WC} {K : GK} {Q : State → Prop} {cells slots pc : Nat} {lv : List (Nat × Value)} {st : List Value} {ws ws2 : va_W} (hp : List.Sublist ws2 ws) (k : G C K Q cells slots pc lv st ws2) : G C K Q cells slots pc lv st ws := by
  obtain ⟨p, l, e, R, s, m, args, below, meth, c, nL⟩ := K
  intro H locs ls hP hD hS hl
  exact k H locs ls (va_P_dr hP hp) (va_D_dr hD hp) hS hl
/-- the addresses of a world -/
theorem g_nd {C : WC} {K : GK} {Q : State → Prop} {cells slots pc : Nat} {lv : List (Nat × Value)} {st : List Value} {ws : va_W} (k : (ws.map Prod.fst).Nodup → G C K Q cells slots pc lv st ws) : G C K Q cells slots pc lv st ws := by
  obtain ⟨p, l, e, R, s, m, args, below, meth, c, nL⟩ := K
  intro H locs ls hP hD hS hl
  exact k (va_D_iff.mp hD).1 H locs ls hP hD hS hl
theorem mi_of {C : WC} {l : Launch} {y : MethodName} {cc : ByteArray} {maxL : Nat} {ret : Option FieldType} {d mc ms : Nat} {av : List Value} {ws : va_W} {post : Option Value → va_W → Prop} (hy : plainName y.cls = true) (hlen : (lg_sl av).length ≤ maxL) (hfl : l.stackTraces = false) (hnm : y.name = "<init>")
    (body : ∀ (K : GK) (Q : State → Prop), Cx C l y.cls cc maxL d mc ms K → K.2.2.2.2.2.2.2.2.1.name = "<init>" → Rt C ret post mc ms Q K → G C K Q 0 0 0 (lv_args 0 av) [] ws) : MM C l y cc maxL ret d mc ms av ws post := by
  refine Met.ofW (cc := cc) (maxL := maxL) (ret := ret) hy rfl ?_
  intro p e s m args below meth c s₁ B hml hv
  obtain ⟨rfl, h1, h2, h3, h4, h5, h6⟩ := hv
  have hl := lv_entry av hlen
  rw [lg_entry_eq]
  exact body (p, l, e, _, s, m, av.toArray, below, meth, c, maxL) _ ⟨rfl, rfl, B.exec, B.bytes, hml, findClass_of_methodNamed B.named, h5, h4, h1, h6, B.notSynchronized, hfl, Nat.le_refl _, Nat.le_refl _, Nat.le_refl _, Nat.le_refl _⟩ ((name_of_methodNamed B.named B.method).1.trans hnm) ⟨B.returns, fun _ _ _ h => h⟩ _ _ _ h2 h3 va_S.rf hl
section GR2
variable {C : WC} {l0 : Launch} {own : String} {cc : ByteArray} {nL d Mc Ms : Nat} {K : GK} {Q : State → Prop} {cells slots pc t : Nat} {lv lv1 : List (Nat × Value)} {st : List Value} {ws ws1 : va_W}

theorem g_i2c (X : Cx C l0 own cc nL d Mc Ms K) {a : Int} (hd : decode cc pc = .ok (.i2c, 1)) (h0 : 0 ≤ a) (h1 : a < 256) (hpc : pc + 1 = t) (k : G C K Q cells slots t lv (vi a :: st) ws) : G C K Q cells slots pc lv (vi a :: st) ws := by
  obtain ⟨p, l, e, R, s, m, args, below, meth, c, nL⟩ := K
  obtain ⟨rfl, rfl, hx, hb, hml, hown, hT, hK, hN, hE, hlk, hfl, hfr, hlo, hmc, hms⟩ := X
  subst hpc
  intro H locs ls hP hD hS hl
  obtain ⟨n, rfl⟩ := nat_of (b := 256) h0 h1
  exact lv_i2c hx hb hd (i2c_ok n) (k H locs ls hP hD hS hl)
theorem g_i2b (X : Cx C l0 own cc nL d Mc Ms K) {a : Int} (hd : decode cc pc = .ok (.i2b, 1)) (h0 : 0 ≤ a) (h1 : a < 128) (hpc : pc + 1 = t) (k : G C K Q cells slots t lv (vi a :: st) ws) : G C K Q cells slots pc lv (vi a :: st) ws := by
  obtain ⟨p, l, e, R, s, m, args, below, meth, c, nL⟩ := K
  obtain ⟨rfl, rfl, hx, hb, hml, hown, hT, hK, hN, hE, hlk, hfl, hfr, hlo, hmc, hms⟩ := X
  subst hpc
  intro H locs ls hP hD hS hl
  obtain ⟨n, rfl⟩ := nat_of (b := 128) h0 h1
  exact lv_i2b hx hb hd (i2b_ok n) (k H locs ls hP hD hS hl)
theorem g_iand255 (X : Cx C l0 own cc nL d Mc Ms K) {a : Int} (hd : decode cc pc = .ok (.iand, 1)) (h0 : 0 ≤ a) (h1 : a < 256) (hpc : pc + 1 = t) (k : G C K Q cells slots t lv (vi a :: st) ws) : G C K Q cells slots pc lv (vi 255 :: vi a :: st) ws := by
  obtain ⟨p, l, e, R, s, m, args, below, meth, c, nL⟩ := K
  obtain ⟨rfl, rfl, hx, hb, hml, hown, hT, hK, hN, hE, hlk, hfl, hfr, hlo, hmc, hms⟩ := X
  subst hpc
  intro H locs ls hP hD hS hl
  obtain ⟨n, rfl⟩ := nat_of (b := 256) h0 h1
  exact lv_iand hx hb hd (by rw [a255_ok n]; exact k H locs ls hP hD hS hl)
theorem g_ishr0 (X : Cx C l0 own cc nL d Mc Ms K) {x : Int32} (hd : decode cc pc = .ok (.ishr, 1)) (hpc : pc + 1 = t) (k : G C K Q cells slots t lv (.int x :: st) ws) : G C K Q cells slots pc lv (vi 0 :: .int x :: st) ws := by
  obtain ⟨p, l, e, R, s, m, args, below, meth, c, nL⟩ := K
  obtain ⟨rfl, rfl, hx, hb, hml, hown, hT, hK, hN, hE, hlk, hfl, hfr, hlo, hmc, hms⟩ := X
  subst hpc
  intro H locs ls hP hD hS hl
  exact lv_ishr hx hb hd (by rw [iZ_0, sb_shr0]; exact k H locs ls hP hD hS hl)
theorem g_ishl0 (X : Cx C l0 own cc nL d Mc Ms K) {x : Int32} (hd : decode cc pc = .ok (.ishl, 1)) (hpc : pc + 1 = t) (k : G C K Q cells slots t lv (.int x :: st) ws) : G C K Q cells slots pc lv (vi 0 :: .int x :: st) ws := by
  obtain ⟨p, l, e, R, s, m, args, below, meth, c, nL⟩ := K
  obtain ⟨rfl, rfl, hx, hb, hml, hown, hT, hK, hN, hE, hlk, hfl, hfr, hlo, hmc, hms⟩ := X
  subst hpc
  intro H locs ls hP hD hS hl
  exact lv_ishl hx hb hd (by rw [iZ_0, sb_shl0]; exact k H locs ls hP hD hS hl)
theorem g_ishr1 (X : Cx C l0 own cc nL d Mc Ms K) {a : Int} (hd : decode cc pc = .ok (.ishr, 1)) (h0 : 0 ≤ a) (h1 : a < 64) (hpc : pc + 1 = t) (k : G C K Q cells slots t lv (vi (a / 2) :: st) ws) : G C K Q cells slots pc lv (vi 1 :: vi a :: st) ws := by
  obtain ⟨p, l, e, R, s, m, args, below, meth, c, nL⟩ := K
  obtain ⟨rfl, rfl, hx, hb, hml, hown, hT, hK, hN, hE, hlk, hfl, hfr, hlo, hmc, hms⟩ := X
  subst hpc
  intro H locs ls hP hD hS hl
  obtain ⟨n, rfl⟩ := nat_of (b := 64) h0 h1
  exact lv_ishr hx hb hd (by rw [shr1_ok n]; exact k H locs ls hP hD hS hl)
theorem g_xor4 (X : Cx C l0 own cc nL d Mc Ms K) {a : Int} (hd : decode cc pc = .ok (.ixor, 1)) (h0 : 0 ≤ a) (h1 : a < 2048) (hpc : pc + 1 = t) (k : ∀ b : Int, 0 ≤ b → b < 2048 → G C K Q cells slots t lv (vi b :: st) ws) : G C K Q cells slots pc lv (vi 4 :: vi a :: st) ws := by
  obtain ⟨p, l, e, R, s, m, args, below, meth, c, nL⟩ := K
  obtain ⟨rfl, rfl, hx, hb, hml, hown, hT, hK, hN, hE, hlk, hfl, hfr, hlo, hmc, hms⟩ := X
  subst hpc
  intro H locs ls hP hD hS hl
  obtain ⟨n, rfl⟩ := nat_of (b := 2048) h0 h1
  exact lv_ixor hx hb hd (by rw [xor4_ok n]; exact k _ (by omega) (by omega) H locs ls hP hD hS hl)
theorem g_null (X : Cx C l0 own cc nL d Mc Ms K)  (hd : decode cc pc = .ok (.aconst_null, 1)) (hpc : pc + 1 = t) (k : G C K Q cells slots t lv (.null :: st) ws) : G C K Q cells slots pc lv (st) ws := by
  obtain ⟨p, l, e, R, s, m, args, below, meth, c, nL⟩ := K
  obtain ⟨rfl, rfl, hx, hb, hml, hown, hT, hK, hN, hE, hlk, hfl, hfr, hlo, hmc, hms⟩ := X
  subst hpc
  intro H locs ls hP hD hS hl
  exact lv_null hx hb hd (k H locs ls hP hD hS hl)
theorem g_ldci (X : Cx C l0 own cc nL d Mc Ms K) {index : Nat} {z : Int} (hc : Cond.constant own index (iZ z) ∈ TW) (hd : decode cc pc = .ok (.ldc index, 2)) (hpc : pc + 2 = t) (k : G C K Q cells slots t lv (vi z :: st) ws) : G C K Q cells slots pc lv (st) ws := by
  obtain ⟨p, l, e, R, s, m, args, below, meth, c, nL⟩ := K
  obtain ⟨rfl, rfl, hx, hb, hml, hown, hT, hK, hN, hE, hlk, hfl, hfr, hlo, hmc, hms⟩ := X
  subst hpc
  intro H locs ls hP hD hS hl
  exact lv_ldc hx hb hown (hT.at args _ hc) hd (k H locs ls hP hD hS hl)
theorem g_gets (X : Cx C l0 own cc nL d Mc Ms K) {index : Nat} {Cn nm ds : String} {v : Value} (hlink : Cond.fieldLink own index Cn nm ds ∈ TW) (hz : ∀ (s : State) (H : Heap), EN C.2.2.2 C.2.2.1 s H → va_Z Cn nm ds v (AN C.2.2.1) s H) (hd : decode cc pc = .ok (.getstatic index, 3)) (hpc : pc + 3 = t) (k : G C K Q cells slots t lv (v :: st) ws) : G C K Q cells slots pc lv (st) ws := by
  obtain ⟨p, l, e, R, s, m, args, below, meth, c, nL⟩ := K
  obtain ⟨rfl, rfl, hx, hb, hml, hown, hT, hK, hN, hE, hlk, hfl, hfr, hlo, hmc, hms⟩ := X
  subst hpc
  intro H locs ls hP hD hS hl
  exact va_gets hx hb (hz _ _ hE) hS hown (hT.at args _ hlink) (fun _ h => h) hd (k H locs ls hP hD hS hl)
theorem g_getq (X : Cx C l0 own cc nL d Mc Ms K) {index : Nat} {Cn nm ds : String} (hlink : Cond.fieldLink own index Cn nm ds ∈ TW) (hz : ∀ (s : State) (H : Heap), EN C.2.2.2 C.2.2.1 s H → va_Zq Cn nm ds (AN C.2.2.1) s H) (hd : decode cc pc = .ok (.getstatic index, 3)) (hpc : pc + 3 = t) (k : ∀ o : Option Nat, G C K Q cells slots t lv (va_rf o :: st) ws) : G C K Q cells slots pc lv (st) ws := by
  obtain ⟨p, l, e, R, s, m, args, below, meth, c, nL⟩ := K
  obtain ⟨rfl, rfl, hx, hb, hml, hown, hT, hK, hN, hE, hlk, hfl, hfr, hlo, hmc, hms⟩ := X
  subst hpc
  intro H locs ls hP hD hS hl
  exact by
    rcases hz _ _ hE with h | ⟨q, h⟩
    · exact va_gets hx hb h hS hown (hT.at args _ hlink) (fun _ h => h) hd (k none H locs ls hP hD hS hl)
    · exact va_gets hx hb h hS hown (hT.at args _ hlink) (fun _ h => h) hd (k (some q) H locs ls hP hD hS hl)
theorem g_tlen (X : Cx C l0 own cc nL d Mc Ms K) {ty : FieldType} {a N : Nat} {f : Nat → Value} (hz : ∀ (s : State) (H : Heap), EN C.2.2.2 C.2.2.1 s H → va_T ty a N f (AN C.2.2.1) s H) (hd : decode cc pc = .ok (.arraylength, 1)) (hpc : pc + 1 = t) (k : G C K Q cells slots t lv (vi (N : Int) :: st) ws) : G C K Q cells slots pc lv (.ref a :: st) ws := by
  obtain ⟨p, l, e, R, s, m, args, below, meth, c, nL⟩ := K
  obtain ⟨rfl, rfl, hx, hb, hml, hown, hT, hK, hN, hE, hlk, hfl, hfr, hlo, hmc, hms⟩ := X
  subst hpc
  intro H locs ls hP hD hS hl
  exact va_tlen hx hb (hz _ _ hE) hS (iZ_ofNat N) hd (k H locs ls hP hD hS hl)
theorem g_tb (X : Cx C l0 own cc nL d Mc Ms K) {a N : Nat} {f : Nat → Value} {z : Int} {v : Value} (hz : ∀ (s : State) (H : Heap), EN C.2.2.2 C.2.2.1 s H → va_T .byte a N f (AN C.2.2.1) s H) (h0 : 0 ≤ z) (h1 : z < N) (h2 : z < 2147483648) (hv : f z.toNat = v) (hd : decode cc pc = .ok (.baload, 1)) (hpc : pc + 1 = t) (k : G C K Q cells slots t lv (v :: st) ws) : G C K Q cells slots pc lv (vi z :: .ref a :: st) ws := by
  obtain ⟨p, l, e, R, s, m, args, below, meth, c, nL⟩ := K
  obtain ⟨rfl, rfl, hx, hb, hml, hown, hT, hK, hN, hE, hlk, hfl, hfr, hlo, hmc, hms⟩ := X
  subst hpc
  intro H locs ls hP hD hS hl
  exact va_tb hx hb (hz _ _ hE) hS (iZ_in h0 h1 h2) (by rw [iZ_clamp h0 h2]; exact hv) hd (k H locs ls hP hD hS hl)
theorem g_sfld (X : Cx C l0 own cc nL d Mc Ms K) {index q : Nat} {Cn nm ds : String} {v : Value} (hlink : Cond.fieldLink own index Cn nm ds ∈ TW) (hz : ∀ (s : State) (H : Heap), EN C.2.2.2 C.2.2.1 s H → va_OF Cn nm ds v q (AN C.2.2.1) s H) (hd : decode cc pc = .ok (.getfield index, 3)) (hpc : pc + 3 = t) (k : G C K Q cells slots t lv (v :: st) ws) : G C K Q cells slots pc lv (.ref q :: st) ws := by
  obtain ⟨p, l, e, R, s, m, args, below, meth, c, nL⟩ := K
  obtain ⟨rfl, rfl, hx, hb, hml, hown, hT, hK, hN, hE, hlk, hfl, hfr, hlo, hmc, hms⟩ := X
  subst hpc
  intro H locs ls hP hD hS hl
  exact vk_getf hx hb (hz _ _ hE) hS hown (hT.at args _ hlink) (fun _ h => h) hd (k H locs ls hP hD hS hl)
theorem g_bald (X : Cx C l0 own cc nL d Mc Ms K) {a n : Nat} {f : Int → Int} {z : Int} (q0 : Nat) (he : ws[q0]? = some (a, aB C n f)) (h0 : 0 ≤ z) (h1 : z < n) (h2 : z < 2147483648) (hd : decode cc pc = .ok (.baload, 1)) (hpc : pc + 1 = t) (k : G C K Q cells slots t lv (vi (f z) :: st) ws) : G C K Q cells slots pc lv (vi z :: .ref a :: st) ws := by
  obtain ⟨p, l, e, R, s, m, args, below, meth, c, nL⟩ := K
  obtain ⟨rfl, rfl, hx, hb, hml, hown, hT, hK, hN, hE, hlk, hfl, hfr, hlo, hmc, hms⟩ := X
  subst hpc
  intro H locs ls hP hD hS hl
  exact va_bald hx hb hK hP q0 1 he rfl (iZ_in h0 h1 h2) hd (by rw [iZ_clamp h0 h2, Int.toNat_of_nonneg h0]; exact k H locs ls hP hD hS hl)
theorem g_bast (X : Cx C l0 own cc nL d Mc Ms K) {a n : Nat} {f : Int → Int} {z v : Int} (q0 : Nat) (he : ws[q0]? = some (a, aB C n f)) (h0 : 0 ≤ z) (h1 : z < n) (h2 : z < 2147483648) (v0 : 0 ≤ v) (v1 : v < 128) (hw : ws.set q0 (a, aB C n (uI f z v)) = ws1) (hd : decode cc pc = .ok (.bastore, 1)) (hpc : pc + 1 = t) (k : G C K Q cells slots t lv (st) ws1) : G C K Q cells slots pc lv (vi v :: vi z :: .ref a :: st) ws := by
  obtain ⟨p, l, e, R, s, m, args, below, meth, c, nL⟩ := K
  obtain ⟨rfl, rfl, hx, hb, hml, hown, hT, hK, hN, hE, hlk, hfl, hfr, hlo, hmc, hms⟩ := X
  subst hpc
  intro H locs ls hP hD hS hl
  exact va_bast hx hb hK hP hD hS q0 1 he rfl (iZ_in h0 h1 h2) hd (fun H1 locs1 hP hD hS => by rw [aB_upd C n f h0 h2 v0 v1, hw] at hP hD; exact k H1 locs1 ls hP hD hS hl)
theorem g_blen (X : Cx C l0 own cc nL d Mc Ms K) {a n : Nat} {f : Int → Int} (q0 : Nat) (he : ws[q0]? = some (a, aB C n f)) (hd : decode cc pc = .ok (.arraylength, 1)) (hpc : pc + 1 = t) (k : G C K Q cells slots t lv (vi (n : Int) :: st) ws) : G C K Q cells slots pc lv (.ref a :: st) ws := by
  obtain ⟨p, l, e, R, s, m, args, below, meth, c, nL⟩ := K
  obtain ⟨rfl, rfl, hx, hb, hml, hown, hT, hK, hN, hE, hlk, hfl, hfr, hlo, hmc, hms⟩ := X
  subst hpc
  intro H locs ls hP hD hS hl
  exact va_alen hx hb hK hP q0 1 he rfl (iZ_ofNat n) hd (k H locs ls hP hD hS hl)
theorem g_olen (X : Cx C l0 own cc nL d Mc Ms K) {a n : Nat} {f : Nat → Option Nat} (q0 : Nat) (he : ws[q0]? = some (a, aO C n f)) (hd : decode cc pc = .ok (.arraylength, 1)) (hpc : pc + 1 = t) (k : G C K Q cells slots t lv (vi (n : Int) :: st) ws) : G C K Q cells slots pc lv (.ref a :: st) ws := by
  obtain ⟨p, l, e, R, s, m, args, below, meth, c, nL⟩ := K
  obtain ⟨rfl, rfl, hx, hb, hml, hown, hT, hK, hN, hE, hlk, hfl, hfr, hlo, hmc, hms⟩ := X
  subst hpc
  intro H locs ls hP hD hS hl
  exact va_alen hx hb hK hP q0 2 he rfl (iZ_ofNat n) hd (k H locs ls hP hD hS hl)
theorem g_oald (X : Cx C l0 own cc nL d Mc Ms K) {a n : Nat} {f : Nat → Option Nat} {z : Int} (q0 : Nat) (he : ws[q0]? = some (a, aO C n f)) (h0 : 0 ≤ z) (h1 : z < n) (h2 : z < 2147483648) (hd : decode cc pc = .ok (.aaload, 1)) (hpc : pc + 1 = t) (k : G C K Q cells slots t lv (va_rf (f z.toNat) :: st) ws) : G C K Q cells slots pc lv (vi z :: .ref a :: st) ws := by
  obtain ⟨p, l, e, R, s, m, args, below, meth, c, nL⟩ := K
  obtain ⟨rfl, rfl, hx, hb, hml, hown, hT, hK, hN, hE, hlk, hfl, hfr, hlo, hmc, hms⟩ := X
  subst hpc
  intro H locs ls hP hD hS hl
  exact va_aldq hx hb hK hP q0 2 he rfl (iZ_in h0 h1 h2) hd (by rw [iZ_clamp h0 h2]; exact k H locs ls hP hD hS hl)
theorem g_oast (X : Cx C l0 own cc nL d Mc Ms K) {a n v ci qk : Nat} {f : Nat → Option Nat} {z : Int} {r : vw_C} {vs : List Value} (q0 : Nat) (he : ws[q0]? = some (a, aO C n f)) (hv : ws[qk]? = some (v, .inr (ci, vs))) (hc : vwCl[ci]? = some r) (hca : Cond.castable r.1 "java/lang/Object" ∈ TW) (h0 : 0 ≤ z) (h1 : z < n) (h2 : z < 2147483648) (hw : ws.set q0 (a, aO C n (va_up f z.toNat (some v))) = ws1) (hd : decode cc pc = .ok (.aastore, 1)) (hpc : pc + 1 = t) (k : G C K Q cells slots t lv (st) ws1) : G C K Q cells slots pc lv (.ref v :: vi z :: .ref a :: st) ws := by
  obtain ⟨p, l, e, R, s, m, args, below, meth, c, nL⟩ := K
  obtain ⟨rfl, rfl, hx, hb, hml, hown, hT, hK, hN, hE, hlk, hfl, hfr, hlo, hmc, hms⟩ := X
  subst hpc
  intro H locs ls hP hD hS hl
  have k' := hw ▸ k
  exact va_astqO hx hb hK hP hD hS q0 2 qk ci he rfl (hT.at #[] _ hca) hv hc (iZ_in h0 h1 h2) hd (fun H1 locs1 hP hD hS => by rw [iZ_clamp h0 h2] at hP hD; exact k' H1 locs1 ls hP hD hS hl)
theorem K_int {C : WC} {s : State} {cA : ClassId} (hK : va_K C.1 vwCl (TY C) s) (h : va_K C.1 vwCl (TY C ++ [(cA, .int)]) s) : cA = C.2.1 0 :=
  Option.some.inj (((h.2 4 (cA, .int) rfl).2 : s.vm.findClass _ = some cA).symm.trans ((hK.2 0 (C.2.1 0, .int) rfl).2 : s.vm.findClass _ = some (C.2.1 0)))
theorem K_byte {C : WC} {s : State} {cA : ClassId} (hK : va_K C.1 vwCl (TY C) s) (h : va_K C.1 vwCl (TY C ++ [(cA, .byte)]) s) : cA = C.2.1 1 :=
  Option.some.inj (((h.2 4 (cA, .byte) rfl).2 : s.vm.findClass _ = some cA).symm.trans ((hK.2 1 (C.2.1 1, .byte) rfl).2 : s.vm.findClass _ = some (C.2.1 1)))
theorem K_long {C : WC} {s : State} {cA : ClassId} (hK : va_K C.1 vwCl (TY C) s) (h : va_K C.1 vwCl (TY C ++ [(cA, .long)]) s) : cA = C.2.1 3 :=
  Option.some.inj (((h.2 4 (cA, .long) rfl).2 : s.vm.findClass _ = some cA).symm.trans ((hK.2 3 (C.2.1 3, .long) rfl).2 : s.vm.findClass _ = some (C.2.1 3)))
theorem K_obj {C : WC} {s : State} {cA : ClassId} (hK : va_K C.1 vwCl (TY C) s) (h : va_K C.1 vwCl (TY C ++ [(cA, .object "java/lang/Object")]) s) : cA = C.2.1 2 := by
  obtain ⟨_, _, _, _, _, a⟩ := (h.2 4 (cA, .object "java/lang/Object") rfl).2
  obtain ⟨_, _, _, _, _, b⟩ := (hK.2 2 (C.2.1 2, .object "java/lang/Object") rfl).2
  exact Option.some.inj (a.symm.trans b)
theorem AN_le {N0 n : Nat} (h : N0 ≤ n) : ∀ q, n ≤ q → AN N0 q := fun _ hq => Nat.le_trans h hq
theorem g_newa_i (X : Cx C l0 own cc nL d Mc Ms K) {n : Nat} (hn : n < 65536) (hcl : cells + 1 ≤ Mc) (hsl : slots + n ≤ Ms) (hd : decode cc pc = .ok (.newarray .int, 2)) (hpc : pc + 2 = t) (k : ∀ q : Nat, G C K Q (cells + 1) (slots + n) t lv (.ref q :: st) (ws ++ [(q, aI C n (fun _ => 0))])) : G C K Q cells slots pc lv (vi (n : Int) :: st) ws := by
  obtain ⟨p, l, e, R, s, m, args, below, meth, c, nL⟩ := K
  obtain ⟨rfl, rfl, hx, hb, hml, hown, hT, hK, hN, hE, hlk, hfl, hfr, hlo, hmc, hms⟩ := X
  subst hpc
  intro H locs ls hP hD hS hl
  exact va_newa (atype := .int) (ty := .int) (N' := n) (a0 := (n, .inl (fun _ => 0))) hx hb (hT.at args _ q5_45) rfl hK hP hD hS (AN_le hN) (fun _ => rfl) (iZ_nn (by omega) (by omega)) (by rw [iZ_clamp (by omega) (by omega)]; omega) (by show n * _ ≤ _; simp only [componentBytes]; omega) (Nat.le_trans hcl hmc) (Nat.le_trans hsl hms) hd (fun q cA H1 hK2 hP hD hS => by
    have e := K_int hK hK2
    subst e
    exact k q H1 locs ls hP hD hS hl)
theorem g_newa_b (X : Cx C l0 own cc nL d Mc Ms K) {n : Nat} (hn : n < 65536) (hcl : cells + 1 ≤ Mc) (hsl : slots + n ≤ Ms) (hd : decode cc pc = .ok (.newarray .byte, 2)) (hpc : pc + 2 = t) (k : ∀ q : Nat, G C K Q (cells + 1) (slots + n) t lv (.ref q :: st) (ws ++ [(q, aB C n (fun _ => 0))])) : G C K Q cells slots pc lv (vi (n : Int) :: st) ws := by
  obtain ⟨p, l, e, R, s, m, args, below, meth, c, nL⟩ := K
  obtain ⟨rfl, rfl, hx, hb, hml, hown, hT, hK, hN, hE, hlk, hfl, hfr, hlo, hmc, hms⟩ := X
  subst hpc
  intro H locs ls hP hD hS hl
  exact va_newa (atype := .byte) (ty := .byte) (N' := n) (a0 := (n, .inl (fun _ => 0))) hx hb (hT.at args _ q1_95) rfl hK hP hD hS (AN_le hN) (fun _ => rfl) (iZ_nn (by omega) (by omega)) (by rw [iZ_clamp (by omega) (by omega)]; omega) (by show n * _ ≤ _; simp only [componentBytes]; omega) (Nat.le_trans hcl hmc) (Nat.le_trans hsl hms) hd (fun q cA H1 hK2 hP hD hS => by
    have e := K_byte hK hK2
    subst e
    exact k q H1 locs ls hP hD hS hl)
theorem g_newO (X : Cx C l0 own cc nL d Mc Ms K) {n index : Nat} (hcln : Cond.classLink own index "java/lang/Object" ∈ TW) (hn : n < 65536) (hcl : cells + 1 ≤ Mc) (hsl : slots + n ≤ Ms) (hd : decode cc pc = .ok (.anewarray index, 3)) (hpc : pc + 3 = t) (k : ∀ q : Nat, G C K Q (cells + 1) (slots + n) t lv (.ref q :: st) (ws ++ [(q, aO C n (fun _ => none))])) : G C K Q cells slots pc lv (vi (n : Int) :: st) ws := by
  obtain ⟨p, l, e, R, s, m, args, below, meth, c, nL⟩ := K
  obtain ⟨rfl, rfl, hx, hb, hml, hown, hT, hK, hN, hE, hlk, hfl, hfr, hlo, hmc, hms⟩ := X
  subst hpc
  intro H locs ls hP hD hS hl
  exact va_newq (N' := n) hx hb hown (hT.at args _ hcln) hE.2.2.2.2.2.2.2.2.1 hK hP hD hS (AN_le hN) (iZ_nn (by omega) (by omega)) (by rw [iZ_clamp (by omega) (by omega)]; omega) (by omega) (Nat.le_trans hcl hmc) (Nat.le_trans hsl hms) hd (fun q cA H1 hK2 hP hD hS => by
    have e := K_obj hK hK2
    subst e
    exact k q H1 locs ls hP hD hS hl)
theorem g_new (X : Cx C l0 own cc nL d Mc Ms K) {Cn : String} {T : u_T} {N ci index : Nat} {fs : List Value} (hin : ∀ w ∈ u_ws Cn T N, w ∈ TW) (ty : Nat → FieldType) (hty : ∀ k, k < N → parseFieldDescriptor (T k).2.2.1 = some (ty k)) (hcln : Cond.classLink own index Cn ∈ TW) (hinst : Cond.instantiable Cn N ∈ TW) (hini : Cond.initialized Cn ∈ TW) (hc : vwCl[ci]? = some (Cn, T, N)) (hfs : ∀ j, j < N → defaultValue (ty j) = vp_V fs j) (hcl : cells + 1 ≤ Mc) (hsl : slots + N ≤ Ms) (hd : decode cc pc = .ok (.new index, 3)) (hpc : pc + 3 = t) (k : ∀ q : Nat, G C K Q (cells + 1) (slots + N) t lv (.ref q :: st) (ws ++ [(q, .inr (ci, fs))])) : G C K Q cells slots pc lv (st) ws := by
  obtain ⟨p, l, e, R, s, m, args, below, meth, c, nL⟩ := K
  obtain ⟨rfl, rfl, hx, hb, hml, hown, hT, hK, hN, hE, hlk, hfl, hfr, hlo, hmc, hms⟩ := X
  subst hpc
  intro H locs ls hP hD hS hl
  exact va_new hx hb (hT.at args) hin ty hty hown (hT.at args _ hcln) (hT.at args _ hinst) (hT.at args _ hini) hK hP hD hS (AN_le hN) hc hfs (Nat.le_trans hcl hmc) (Nat.le_trans hsl hms) hd (fun q H1 hP hD hS => k q H1 locs ls hP hD hS hl)
theorem g_ldcS (X : Cx C l0 own cc nL d Mc Ms K) {tx : String} {index q : Nat} (hz : ∀ (s : State) (H : Heap), EN C.2.2.2 C.2.2.1 s H → vk_R own index tx q s) (hd : decode cc pc = .ok (.ldc index, 2)) (hpc : pc + 2 = t) (k : G C K Q cells slots t lv (.ref q :: st) ws) : G C K Q cells slots pc lv (st) ws := by
  obtain ⟨p, l, e, R, s, m, args, below, meth, c, nL⟩ := K
  obtain ⟨rfl, rfl, hx, hb, hml, hown, hT, hK, hN, hE, hlk, hfl, hfr, hlo, hmc, hms⟩ := X
  subst hpc
  intro H locs ls hP hD hS hl
  exact va_ldcS hx hb hown (hz _ _ hE) hd (k H locs ls hP hD hS hl)
theorem g_ldcM (X : Cx C l0 own cc nL d Mc Ms K) {index : Nat} (hlink : Cond.classLink own index "[Ljava/lang/Object;" ∈ TW) (hd : decode cc pc = .ok (.ldc index, 2)) (hpc : pc + 2 = t) (k : G C K Q cells slots t lv (.ref (C.2.2.2 5) :: st) ws) : G C K Q cells slots pc lv (st) ws := by
  obtain ⟨p, l, e, R, s, m, args, below, meth, c, nL⟩ := K
  obtain ⟨rfl, rfl, hx, hb, hml, hown, hT, hK, hN, hE, hlk, hfl, hfr, hlo, hmc, hms⟩ := X
  subst hpc
  intro H locs ls hP hD hS hl
  exact va_ldcM hx hb hown (hT.at args _ hlink) hE.2.2.2.2.2.2.2.2.2.2.1 hd (k H locs ls hP hD hS hl)
theorem g_castS (X : Cx C l0 own cc nL d Mc Ms K) {nm : String} {T : u_T} {N ci index a : Nat} {fs : List Value} (q0 : Nat) (he : ws[q0]? = some (a, .inr (ci, fs))) (hc : vwCl[ci]? = some (nm, T, N)) (hlink : Cond.classLink own index nm ∈ TW) (hd : decode cc pc = .ok (.checkcast index, 3)) (hpc : pc + 3 = t) (k : G C K Q cells slots t lv (.ref a :: st) ws) : G C K Q cells slots pc lv (.ref a :: st) ws := by
  obtain ⟨p, l, e, R, s, m, args, below, meth, c, nL⟩ := K
  obtain ⟨rfl, rfl, hx, hb, hml, hown, hT, hK, hN, hE, hlk, hfl, hfr, hlo, hmc, hms⟩ := X
  subst hpc
  intro H locs ls hP hD hS hl
  exact va_castS hx hb hown (hT.at args _ hlink) (hK.1 ci _ hc).2 (va_recv hK hP hc he) hd (k H locs ls hP hD hS hl)
theorem g_castO (X : Cx C l0 own cc nL d Mc Ms K) {index a n : Nat} {f : Nat → Option Nat} (q0 : Nat) (he : ws[q0]? = some (a, aO C n f)) (hlink : Cond.classLink own index "[Ljava/lang/Object;" ∈ TW) (hd : decode cc pc = .ok (.checkcast index, 3)) (hpc : pc + 3 = t) (k : G C K Q cells slots t lv (.ref a :: st) ws) : G C K Q cells slots pc lv (.ref a :: st) ws := by
  obtain ⟨p, l, e, R, s, m, args, below, meth, c, nL⟩ := K
  obtain ⟨rfl, rfl, hx, hb, hml, hown, hT, hK, hN, hE, hlk, hfl, hfr, hlo, hmc, hms⟩ := X
  subst hpc
  intro H locs ls hP hD hS hl
  exact by
    obtain ⟨_, _, _, _, _, b⟩ := (hK.2 2 (C.2.1 2, .object "java/lang/Object") rfl).2
    exact va_castA hx hb hown (hT.at args _ hlink) hP q0 he b hd (k H locs ls hP hD hS hl)
theorem if_mx {a b : Int} (ha : Rg a) (hb : Rg b) : (if iZ a < iZ b then iZ b else iZ a) = iZ (if a < b then b else a) := by
  by_cases h : a < b
  · rw [if_pos h, if_pos ((iZ_lt ha hb).mpr h)]
  · rw [if_neg h, if_neg (fun q => h ((iZ_lt ha hb).mp q))]
theorem if_mn {a b : Int} (ha : Rg a) (hb : Rg b) : (if iZ b < iZ a then iZ b else iZ a) = iZ (if b < a then b else a) := by
  by_cases h : b < a
  · rw [if_pos h, if_pos ((iZ_lt hb ha).mpr h)]
  · rw [if_neg h, if_neg (fun q => h ((iZ_lt hb ha).mp q))]
theorem if_ab {a : Int} (ha : Rg a) : (if 0 ≤ iZ a then iZ a else 0 - iZ a) = iZ (if 0 ≤ a then a else 0 - a) := by
  have e := iZ_le Rg0 ha
  rw [iZ_0] at e
  by_cases h : 0 ≤ a
  · rw [if_pos h, if_pos (e.mpr h)]
  · rw [if_neg h, if_neg (fun q => h (e.mp q)), ← iZ_sub]; rfl
theorem g_mmax (X : Cx C l0 own cc nL d Mc Ms K) {index : Nat} {a b : Int} (hlink : Cond.methodLink own index Lib.Math.max.name ∈ TW) (hstat : Cond.static Lib.Math.max.name ∈ TW) (hini : Cond.initialized "java/lang/Math" ∈ TW) (hcode : Cond.code Lib.Math.max.name Lib.Math.max.code 2 (some .int) ∈ TW) (hrm : (st.map fun v => v.category).sum ≤ 8) (hcl : cells ≤ Mc) (hsl : slots ≤ Ms) (ha : Rg a) (hb0 : Rg b) (hd : decode cc pc = .ok (.invokestatic index, 3)) (hpc : pc + 3 = t) (k : G C K Q cells slots t lv (vi (if a < b then b else a) :: st) ws) : G C K Q cells slots pc lv (vi b :: vi a :: st) ws := by
  obtain ⟨p, l, e, R, s, m, args, below, meth, c, nL⟩ := K
  obtain ⟨rfl, rfl, hx, hb, hml, hown, hT, hK, hN, hE, hlk, hfl, hfr, hlo, hmc, hms⟩ := X
  subst hpc
  intro H locs ls hP hD hS hl
  exact va_mmax hx hb (hml.trans hl.1.symm) hown (hT.at args _ hlink) (hT.at args _ hstat) (hT.at args _ hini) (hT.at args _ hcode) (by omega) (by omega) (Nat.le_trans hcl hmc) (Nat.le_trans hsl hms) hd (by rw [if_mx ha hb0]; exact k H locs ls hP hD hS hl)
theorem g_mmin (X : Cx C l0 own cc nL d Mc Ms K) {index : Nat} {a b : Int} (hlink : Cond.methodLink own index Lib.Math.min.name ∈ TW) (hstat : Cond.static Lib.Math.min.name ∈ TW) (hini : Cond.initialized "java/lang/Math" ∈ TW) (hcode : Cond.code Lib.Math.min.name Lib.Math.min.code 2 (some .int) ∈ TW) (hrm : (st.map fun v => v.category).sum ≤ 8) (hcl : cells ≤ Mc) (hsl : slots ≤ Ms) (ha : Rg a) (hb0 : Rg b) (hd : decode cc pc = .ok (.invokestatic index, 3)) (hpc : pc + 3 = t) (k : G C K Q cells slots t lv (vi (if b < a then b else a) :: st) ws) : G C K Q cells slots pc lv (vi b :: vi a :: st) ws := by
  obtain ⟨p, l, e, R, s, m, args, below, meth, c, nL⟩ := K
  obtain ⟨rfl, rfl, hx, hb, hml, hown, hT, hK, hN, hE, hlk, hfl, hfr, hlo, hmc, hms⟩ := X
  subst hpc
  intro H locs ls hP hD hS hl
  exact va_mmin hx hb (hml.trans hl.1.symm) hown (hT.at args _ hlink) (hT.at args _ hstat) (hT.at args _ hini) (hT.at args _ hcode) (by omega) (by omega) (Nat.le_trans hcl hmc) (Nat.le_trans hsl hms) hd (by rw [if_mn ha hb0]; exact k H locs ls hP hD hS hl)
theorem g_mabs (X : Cx C l0 own cc nL d Mc Ms K) {index : Nat} {a : Int} (hlink : Cond.methodLink own index Lib.Math.abs.name ∈ TW) (hstat : Cond.static Lib.Math.abs.name ∈ TW) (hini : Cond.initialized "java/lang/Math" ∈ TW) (hcode : Cond.code Lib.Math.abs.name Lib.Math.abs.code 1 (some .int) ∈ TW) (hrm : (st.map fun v => v.category).sum ≤ 8) (hcl : cells ≤ Mc) (hsl : slots ≤ Ms) (ha : Rg a) (hd : decode cc pc = .ok (.invokestatic index, 3)) (hpc : pc + 3 = t) (k : G C K Q cells slots t lv (vi (if 0 ≤ a then a else 0 - a) :: st) ws) : G C K Q cells slots pc lv (vi a :: st) ws := by
  obtain ⟨p, l, e, R, s, m, args, below, meth, c, nL⟩ := K
  obtain ⟨rfl, rfl, hx, hb, hml, hown, hT, hK, hN, hE, hlk, hfl, hfr, hlo, hmc, hms⟩ := X
  subst hpc
  intro H locs ls hP hD hS hl
  exact va_mabs hx hb (hml.trans hl.1.symm) hown (hT.at args _ hlink) (hT.at args _ hstat) (hT.at args _ hini) (hT.at args _ hcode) (by omega) (by omega) (Nat.le_trans hcl hmc) (Nat.le_trans hsl hms) hd (by rw [if_ab ha]; exact k H locs ls hP hD hS hl)
theorem g_copyb (X : Cx C l0 own cc nL d Mc Ms K) {index a a0 n1 n0 : Nat} {f g : Int → Int} {sp dp n : Int} (q0 q1 : Nat) (hlink : Cond.methodLink own index arraycopyName ∈ TW) (hnat : Cond.native arraycopyName ∈ TW) (hstat : Cond.static arraycopyName ∈ TW) (hini : Cond.initialized "java/lang/System" ∈ TW) (ha0 : ws[q0]? = some (a0, aB C n0 f)) (ha1 : ws[q1]? = some (a, aB C n1 g)) (h1 : 0 ≤ sp) (h2 : 0 ≤ dp) (h3 : 0 ≤ n) (h4 : sp + n ≤ n0) (h5 : dp + n ≤ n1) (h6 : (n0 : Int) < 65536) (h7 : (n1 : Int) < 65536) (hfit : ∀ i : Int, sp ≤ i → i < sp + n → 0 ≤ f i ∧ f i < 128) (hrm : (st.map fun v => v.category).sum ≤ 8) (hw : ws.set q1 (a, aB C n1 (cpI f g sp dp n)) = ws1) (hd : decode cc pc = .ok (.invokestatic index, 3)) (hpc : pc + 3 = t) (k : G C K Q cells slots t lv (st) ws1) : G C K Q cells slots pc lv (vi n :: vi dp :: .ref a :: vi sp :: .ref a0 :: st) ws := by
  obtain ⟨p, l, e, R, s, m, args, below, meth, c, nL⟩ := K
  obtain ⟨rfl, rfl, hx, hb, hml, hown, hT, hK, hN, hE, hlk, hfl, hfr, hlo, hmc, hms⟩ := X
  subst hpc
  intro H locs ls hP hD hS hl
  have k' := hw ▸ k
  exact va_copyi hx hb (hml.trans hl.1.symm) hown (hT.at args _ hlink) (hT.at args _ hnat) (hT.at args _ hstat) (hT.at args _ hini) hK hP hD hS q0 q1 1 1 (ty := .byte) ha0 ha1 rfl rfl rfl (iZ_nn h1 (by omega)) (iZ_nn h2 (by omega)) (iZ_nn h3 (by omega)) (by rw [iZ_clamp h1 (by omega), iZ_clamp h3 (by omega)]; omega) (by rw [iZ_clamp h2 (by omega), iZ_clamp h3 (by omega)]; omega) (fun i hi => by
      rw [iZ_clamp h3 (by omega)] at hi
      rw [iZ_clamp h1 (by omega)]
      have := hfit ((sp.toNat + i : Nat) : Int) (by omega) (by omega)
      obtain ⟨w, hw⟩ := nat_of (b := 128) this.1 this.2
      rw [hw]; exact fitb_ok w) (by omega) (by have hw : nativeFrameWords "java/lang/System" "arraycopy" 5 ≤ 100 := (by decide); omega) hd (fun H1 locs1 hP hD hS => by rw [cpI_ok f g h1 h2 h3 (by omega) (by omega) (by omega)] at hP hD; exact k' H1 locs1 ls hP hD hS hl)
theorem g_copyt (X : Cx C l0 own cc nL d Mc Ms K) {index a a0 n1 n0 : Nat} {f g : Int → Int} {sp dp n : Int} (q1 : Nat) (hlink : Cond.methodLink own index arraycopyName ∈ TW) (hnat : Cond.native arraycopyName ∈ TW) (hstat : Cond.static arraycopyName ∈ TW) (hini : Cond.initialized "java/lang/System" ∈ TW) (hz : ∀ (s : State) (H : Heap), EN C.2.2.2 C.2.2.1 s H → va_T .byte a0 n0 (fun j => .int (iZ (f (j : Int)))) (AN C.2.2.1) s H) (ha1 : ws[q1]? = some (a, aB C n1 g)) (h1 : 0 ≤ sp) (h2 : 0 ≤ dp) (h3 : 0 ≤ n) (h4 : sp + n ≤ n0) (h5 : dp + n ≤ n1) (h6 : (n0 : Int) < 65536) (h7 : (n1 : Int) < 65536) (hfit : ∀ i : Int, sp ≤ i → i < sp + n → 0 ≤ f i ∧ f i < 128) (hrm : (st.map fun v => v.category).sum ≤ 8) (hw : ws.set q1 (a, aB C n1 (cpI f g sp dp n)) = ws1) (hd : decode cc pc = .ok (.invokestatic index, 3)) (hpc : pc + 3 = t) (k : G C K Q cells slots t lv (st) ws1) : G C K Q cells slots pc lv (vi n :: vi dp :: .ref a :: vi sp :: .ref a0 :: st) ws := by
  obtain ⟨p, l, e, R, s, m, args, below, meth, c, nL⟩ := K
  obtain ⟨rfl, rfl, hx, hb, hml, hown, hT, hK, hN, hE, hlk, hfl, hfr, hlo, hmc, hms⟩ := X
  subst hpc
  intro H locs ls hP hD hS hl
  have k' := hw ▸ k
  exact vk_copyt hx hb (hml.trans hl.1.symm) hown (hT.at args _ hlink) (hT.at args _ hnat) (hT.at args _ hstat) (hT.at args _ hini) hK hP hD hS (f := fun j : Nat => iZ (f (j : Int))) (hz _ _ hE) q1 1 ha1 rfl (iZ_nn h1 (by omega)) (iZ_nn h2 (by omega)) (iZ_nn h3 (by omega)) (by rw [iZ_clamp h1 (by omega), iZ_clamp h3 (by omega)]; omega) (by rw [iZ_clamp h2 (by omega), iZ_clamp h3 (by omega)]; omega) (fun i hi => by
      rw [iZ_clamp h3 (by omega)] at hi
      rw [iZ_clamp h1 (by omega)]
      have := hfit ((sp.toNat + i : Nat) : Int) (by omega) (by omega)
      obtain ⟨w, hw⟩ := nat_of (b := 128) this.1 this.2
      rw [hw]; exact fitb_ok w) (by omega) (by have hw : nativeFrameWords "java/lang/System" "arraycopy" 5 ≤ 100 := (by decide); omega) hd (fun H1 locs1 hP hD hS => by rw [cpI_ok f g h1 h2 h3 (by omega) (by omega) (by omega)] at hP hD; exact k' H1 locs1 ls hP hD hS hl)
theorem ref_ok {D : va_G} {T : u_T} {N ci : Nat} {Cn : String} {s : State} {tys : List (ClassId × FieldType)} {ws : va_W} {H : Heap} (hK : va_K D vwCl tys s) (hP : va_P D vwCl ws H) (hc : vwCl[ci]? = some (Cn, T, N)) {y : Nat} (h : ∃ (k : Nat) (fs : List Value), ws[k]? = some (y, .inr (ci, fs))) : ∃ cellV : Cell, H[y]? = some cellV ∧ cellV.vm.isStatics = false ∧ s.vm.findClass Cn = some cellV.cls := by
  obtain ⟨k, fs, h⟩ := h
  exact va_recv hK hP hc h
theorem g_copyO (X : Cx C l0 own cc nL d Mc Ms K) {index a a0 n1 n0 ci N : Nat} {Cn : String} {T : u_T} {f g : Nat → Option Nat} {n : Int} (q0 q1 : Nat) (hlink : Cond.methodLink own index arraycopyName ∈ TW) (hnat : Cond.native arraycopyName ∈ TW) (hstat : Cond.static arraycopyName ∈ TW) (hini : Cond.initialized "java/lang/System" ∈ TW) (ha0 : ws[q0]? = some (a0, aO C n0 f)) (ha1 : ws[q1]? = some (a, aO C n1 g)) (h3 : 0 ≤ n) (h4 : n ≤ n0) (h5 : n ≤ n1) (h6 : (n0 : Int) < 65536) (h7 : (n1 : Int) < 65536) (hc : vwCl[ci]? = some (Cn, T, N)) (hca : Cond.castable Cn "java/lang/Object" ∈ TW) (hel : ∀ i : Nat, i < n.toNat → ∀ y : Nat, f i = some y → ∃ (k : Nat) (fs : List Value), ws[k]? = some (y, .inr (ci, fs))) (hrm : (st.map fun v => v.category).sum ≤ 8) (hw : ws.set q1 (a, aO C n1 (fun j => if j < n.toNat then f j else g j)) = ws1) (hd : decode cc pc = .ok (.invokestatic index, 3)) (hpc : pc + 3 = t) (k : G C K Q cells slots t lv (st) ws1) : G C K Q cells slots pc lv (vi n :: vi 0 :: .ref a :: vi 0 :: .ref a0 :: st) ws := by
  obtain ⟨p, l, e, R, s, m, args, below, meth, c, nL⟩ := K
  obtain ⟨rfl, rfl, hx, hb, hml, hown, hT, hK, hN, hE, hlk, hfl, hfr, hlo, hmc, hms⟩ := X
  subst hpc
  intro H locs ls hP hD hS hl
  have k' := hw ▸ k
  exact va_copyq hx hb (hml.trans hl.1.symm) hown (hT.at args _ hlink) (hT.at args _ hnat) (hT.at args _ hstat) (hT.at args _ hini) hK hP hD hS q0 q1 2 2 (E0 := "java/lang/Object") (E1 := "java/lang/Object") (C := Cn) ha0 ha1 rfl rfl (iZ_nn (Int.le_refl 0) (by omega)) (iZ_nn (Int.le_refl 0) (by omega)) (iZ_nn h3 (by omega)) (by rw [iZ_clamp (Int.le_refl 0) (by omega), iZ_clamp h3 (by omega)]; show (0 : Int).toNat + n.toNat ≤ n0; simp; omega) (by rw [iZ_clamp (Int.le_refl 0) (by omega), iZ_clamp h3 (by omega)]; show (0 : Int).toNat + n.toNat ≤ n1; simp; omega) (fun i hi y hy => by
      rw [iZ_clamp h3 (by omega)] at hi
      rw [iZ_clamp (Int.le_refl 0) (by omega)] at hy
      exact ref_ok hK hP hc (hel i hi y (by simpa using hy))) (fun comp c0 e1 e2 => by
      obtain ⟨c9, t9, f1, f2, f3⟩ := Cond.castable_spec (hT.at #[] _ hca)
      cases f1.symm.trans e2
      cases f2.symm.trans e1
      exact f3) (by omega) (by have hw : nativeFrameWords "java/lang/System" "arraycopy" 5 ≤ 100 := (by decide); omega) hd (fun H1 locs1 hP hD hS => by rw [cpO_ok f g h3 (by omega)] at hP hD; exact k' H1 locs1 ls hP hD hS hl)
theorem g_putF (X : Cx C l0 own cc nL d Mc Ms K) {ref Cn : String} {T : u_T} {N ci index a : Nat} {fs : List Value} {v : Value} {ty : FieldType} (hni : K.2.2.2.2.2.2.2.2.1.name = "<init>") (hin : ∀ w ∈ u_ws Cn T N, w ∈ TW) (ty0 : Nat → FieldType) (hty : ∀ k, k < N → parseFieldDescriptor (T k).2.2.1 = some (ty0 k)) (hnm : ∀ a, a < N → ∀ b, b < N → a ≠ b → (T a).2.1 ≠ (T b).2.1) (q0 : Nat) (he : ws[q0]? = some (a, .inr (ci, fs))) (hc : vwCl[ci]? = some (Cn, T, N)) (k9 : Nat) (hk : k9 < N) (hlink : Cond.fieldLink own index ref (T k9).2.1 (T k9).2.2.1 ∈ TW) (href : (T k9).1 = ref) (hfin : (T k9).2.2.2 = true) (hdecl : (T k9).1 = own) (hd2 : parseFieldDescriptor (T k9).2.2.1 = some ty) (hn : narrow ty v = v) (hfit : fits ty v = true) (hl9 : k9 < fs.length) (hw : ws.set q0 (a, .inr (ci, fs.set k9 v)) = ws1) (hd : decode cc pc = .ok (.putfield index, 3)) (hpc : pc + 3 = t) (k : G C K Q cells slots t lv (st) ws1) : G C K Q cells slots pc lv (v :: .ref a :: st) ws := by
  obtain ⟨p, l, e, R, s, m, args, below, meth, c, nL⟩ := K
  obtain ⟨rfl, rfl, hx, hb, hml, hown, hT, hK, hN, hE, hlk, hfl, hfr, hlo, hmc, hms⟩ := X
  subst hpc
  intro H locs ls hP hD hS hl
  exact va_putF hx hb (hT.at args) hin ty0 hty hnm hown hK hP hD hS q0 he hc k9 hk (hT.at args _ hlink) (fun _ h => by rw [href] at h; exact h) hfin hni hdecl hd2 hn hfit hl9 hd (fun H1 locs1 hP hD hS => by rw [hw] at hP hD; exact k H1 locs1 ls hP hD hS hl)
theorem g_ifnonnull (X : Cx C l0 own cc nL d Mc Ms K) {a : Nat} {off : Int} (hd : decode cc pc = .ok (.ifnonnull off, 3)) (ht : (pc : Int) + off = (t : Int)) (k : G C K Q cells slots t lv st ws) : G C K Q cells slots pc lv (.ref a :: st) ws := by
  obtain ⟨p, l, e, R, s, m, args, below, meth, c, nL⟩ := K
  obtain ⟨rfl, rfl, hx, hb, hml, hown, hT, hK, hN, hE, hlk, hfl, hfr, hlo, hmc, hms⟩ := X
  intro H locs ls hP hD hS hl
  exact lv_ifnonnull hx hb hd ht (k H locs ls hP hD hS hl)
theorem g_acmp_eq (X : Cx C l0 own cc nL d Mc Ms K) {a b : Nat} {off : Int} {u : Nat} (hd : decode cc pc = .ok (.if_acmp .eq off, 3)) (ht : (pc : Int) + off = (t : Int)) (hpc : pc + 3 = u) (kt : a = b → G C K Q cells slots t lv st ws) (kf : ¬ (a = b) → G C K Q cells slots u lv st ws) : G C K Q cells slots pc lv (.ref b :: .ref a :: st) ws := by
  obtain ⟨p, l, e, R, s, m, args, below, meth, c, nL⟩ := K
  obtain ⟨rfl, rfl, hx, hb, hml, hown, hT, hK, hN, hE, hlk, hfl, hfr, hlo, hmc, hms⟩ := X
  intro H locs ls hP hD hS hl
  subst hpc
  exact lv_acmp_eq (rx := some a) (ry := some b) hx hb hd ht (fun h => kt (Option.some.inj h) H locs ls hP hD hS hl) (fun h => kf (fun q => h (congrArg some q)) H locs ls hP hD hS hl)
theorem g_acmp_ne (X : Cx C l0 own cc nL d Mc Ms K) {a b : Nat} {off : Int} {u : Nat} (hd : decode cc pc = .ok (.if_acmp .ne off, 3)) (ht : (pc : Int) + off = (t : Int)) (hpc : pc + 3 = u) (kt : ¬ (a = b) → G C K Q cells slots t lv st ws) (kf : a = b → G C K Q cells slots u lv st ws) : G C K Q cells slots pc lv (.ref b :: .ref a :: st) ws := by
  obtain ⟨p, l, e, R, s, m, args, below, meth, c, nL⟩ := K
  obtain ⟨rfl, rfl, hx, hb, hml, hown, hT, hK, hN, hE, hlk, hfl, hfr, hlo, hmc, hms⟩ := X
  intro H locs ls hP hD hS hl
  subst hpc
  exact lv_acmp_ne (rx := some a) (ry := some b) hx hb hd ht (fun h => kt (fun q => h (congrArg some q)) H locs ls hP hD hS hl) (fun h => kf (Option.some.inj h) H locs ls hP hD hS hl)
theorem g_oinit (X : Cx C l0 own cc nL d Mc Ms K) {a index : Nat} (hlink : Cond.methodLink own index Lib.objectInit ∈ TW) (hrm : (st.map fun v => v.category).sum ≤ 8) (hd : decode cc pc = .ok (.invokespecial index, 3)) (hpc : pc + 3 = t) (k : G C K Q cells slots t lv st ws) : G C K Q cells slots pc lv (.ref a :: st) ws := by
  obtain ⟨p, l, e, R, s, m, args, below, meth, c, nL⟩ := K
  obtain ⟨rfl, rfl, hx, hb, hml, hown, hT, hK, hN, hE, hlk, hfl, hfr, hlo, hmc, hms⟩ := X
  intro H locs ls hP hD hS hl
  subst hpc
  exact W.objInit hx hb hown (hT.at args _ hlink) (hT.at args _ q1_35) (hT.at args _ q1_36) (g := F0 m pc ls (.ref a :: st)) rfl (hl.1.trans hml.symm) rfl hd (by omega) (by show 2 * 0 + _ + 12 ≤ _; omega) (k H locs ls hP hD hS hl)
/-- an inherited method, by its own name; its receiver's class Cr -/
theorem g_callU (X : Cx C l0 own cc nL d Mc Ms K) {y : MethodName} {Cr : String} {cy : ByteArray} {ml n9 d1 mc ms index : Nat} {ret : Option FieldType} {post : Option Value → va_W → Prop} {b ci : Nat} {fs : List Value} {T : u_T} {N : Nat} {As rest : List Value} (mt : Mth y cy ml ret n9) (hlink : Cond.methodLink own index y ∈ TW) (hsame : Cond.sameMethod y.cls y.cls y.name y.desc ∈ TW) (hinst : Cond.instanceMethod y ∈ TW) (hsel : ∀ s : State, TWs s → (Cond.selects Cr y y).before #[] s = true) (q0 : Nat) (he : ws[q0]? = some (b, .inr (ci, fs))) (hc : vwCl[ci]? = some (Cr, T, N)) (hM : MM C l0 y cy ml ret d1 mc ms (.ref b :: As) ws post) (hd1 : d1 < d) (hmc9 : cells + mc ≤ Mc) (hms9 : slots + ms ≤ Ms) (hrm : (rest.map fun v => v.category).sum ≤ 8) (hn9 : As.length = n9) (hst : st = As.reverse ++ .ref b :: rest) (hd : decode cc pc = .ok (.invokevirtual index, 3)) (hpc : pc + 3 = t) (k : ∀ (v : Option Value) (ws1 : va_W), post v ws1 → G C K Q (cells + mc) (slots + ms) t lv (v.toList ++ rest) ws1) : G C K Q cells slots pc lv st ws := by
  obtain ⟨p, l, e, R, s, m, args, below, meth, c, nL⟩ := K
  have X9 := X
  obtain ⟨rfl, rfl, hx, hb, hml, hown, hT, hK, hN, hE, hlk, hfl, hfr, hlo, hmc, hms⟩ := X
  intro H locs ls hP hD hS hl
  subst hst
  obtain ⟨b1, b2, b3, b4, b5, b6, b7, b8, b9, b10, b11⟩ := cb_at X9 mt hlink hd1
  refine run_at hS hl (va_runU (x := y) (owner := y.cls) (C := Cr) (As := As) (b := b) (Ts := TW) ⟨hx, hb, hml, hown, hT.at args⟩ hM ⟨⟨b1, b2, b3, b4, b5, b6⟩, b7, b8, b9, b10, b11, hT.at args _ hsame, va_Decl.of (hT.at args _ hinst) b7, va_any rfl (hsel _ hT), hT.at args _ hinst⟩ ⟨wh_blind, va_recv hK hP hc he, fun U hU hW => ⟨rfl, wh_at X9 hP hD hS U hU hW⟩⟩ rfl hn9 hl.1 rfl (lv_room hrm) hd ⟨Nat.le_trans hmc9 hmc, Nat.le_trans hms9 hms⟩) hpc k

theorem g_callSU (X : Cx C l0 own cc nL d Mc Ms K) {y : MethodName} {Cr : String} {cy : ByteArray} {ml n9 d1 mc ms index : Nat} {ret : Option FieldType} {post : Option Value → va_W → Prop} {b ci : Nat} {fs : List Value} {T : u_T} {N : Nat} {As rest : List Value} (mt : Mth y cy ml ret n9) (hlink : Cond.methodLink own index y ∈ TW) (hsame : Cond.sameMethod y.cls y.cls y.name y.desc ∈ TW) (hsup : Cond.superclass own y.cls ∈ TW) (hinst : Cond.instanceMethod y ∈ TW) (hno : y.name ≠ "<init>") (q0 : Nat) (he : ws[q0]? = some (b, .inr (ci, fs))) (hc : vwCl[ci]? = some (Cr, T, N)) (hM : MM C l0 y cy ml ret d1 mc ms (.ref b :: As) ws post) (hd1 : d1 < d) (hmc9 : cells + mc ≤ Mc) (hms9 : slots + ms ≤ Ms) (hrm : (rest.map fun v => v.category).sum ≤ 8) (hn9 : As.length = n9) (hst : st = As.reverse ++ .ref b :: rest) (hd : decode cc pc = .ok (.invokespecial index, 3)) (hpc : pc + 3 = t) (k : ∀ (v : Option Value) (ws1 : va_W), post v ws1 → G C K Q (cells + mc) (slots + ms) t lv (v.toList ++ rest) ws1) : G C K Q cells slots pc lv st ws := by
  obtain ⟨p, l, e, R, s, m, args, below, meth, c, nL⟩ := K
  have X9 := X
  obtain ⟨rfl, rfl, hx, hb, hml, hown, hT, hK, hN, hE, hlk, hfl, hfr, hlo, hmc, hms⟩ := X
  intro H locs ls hP hD hS hl
  subst hst
  obtain ⟨b1, b2, b3, b4, b5, b6, b7, b8, b9, b10, b11⟩ := cb_at X9 mt hlink hd1
  refine run_at hS hl (va_runSU (C := Cr) (As := As) (b := b) (Ts := TW) (hK.1 ci _ hc).2 ⟨hx, hb, hml, hown, hT.at args⟩ hM ⟨⟨b1, b2, b3, b4, b5, b6⟩, b11, hT.at args _ hsame, hT.at args _ hsup, hT.at args _ hinst, b8, b7, hno, b10⟩ ⟨wh_blind, va_recv hK hP hc he, fun U hU hW => ⟨rfl, wh_at X9 hP hD hS U hU hW⟩⟩ rfl hn9 hl.1 rfl (lv_room hrm) hd ⟨Nat.le_trans hmc9 hmc, Nat.le_trans hms9 hms⟩) hpc k

/-- a constructor of a nest mate -/
theorem g_callIN (X : Cx C l0 own cc nL d Mc Ms K) {y : MethodName} {host : String} {cy : ByteArray} {ml n9 d1 mc ms index : Nat} {post : Option Value → va_W → Prop} {b : Nat} {As rest : List Value} (mt : Mth y cy ml none n9) (hnl : (own, index, y, host) ∈ NL) (hinst : Cond.instanceMethod y ∈ TW) (hin : y.name = "<init>") (hM : MM C l0 y cy ml none d1 mc ms (.ref b :: As) ws post) (hd1 : d1 < d) (hmc9 : cells + mc ≤ Mc) (hms9 : slots + ms ≤ Ms) (hrm : (rest.map fun v => v.category).sum ≤ 8) (hn9 : As.length = n9) (hst : st = As.reverse ++ .ref b :: rest) (hd : decode cc pc = .ok (.invokespecial index, 3)) (hpc : pc + 3 = t) (k : ∀ (v : Option Value) (ws1 : va_W), post v ws1 → G C K Q (cells + mc) (slots + ms) t lv (v.toList ++ rest) ws1) : G C K Q cells slots pc lv st ws := by
  obtain ⟨p, l, e, R, s, m, args, below, meth, c, nL⟩ := K
  have X9 := X
  obtain ⟨rfl, rfl, hx, hb, hml, hown, hT, hK, hN, hE, hlk, hfl, hfr, hlo, hmc, hms⟩ := X
  intro H locs ls hP hD hS hl
  subst hst
  obtain ⟨t1, t2, t3, t4, t5⟩ := mt
  refine run_at hS hl (va_runIN (host := host) (As := As) (b := b) (Ts := TW) ⟨hx, hb, hml, hown, hT.at args⟩ hM ⟨⟨⟨rfl, rfl, by show 10 + 2 * d1 + 1 ≤ R.frames; omega, by show 8 + (ml + 11) + (200 + 100 * d1) ≤ R.locals; omega, fun w hw a' U hW => by rw [List.mem_singleton.mp hw]; exact tw_warm (TWs.ok t1) hW (hT _ t1), List.mem_cons_self⟩, hT.at args _ t1, hT.at args _ t2, t3, fun sig h => by rw [h] at t4; exact (Option.some.inj t4).symm, va_Nw.use rfl (hE.2.2.2.2.2.2.2.2.2.1 _ hnl)⟩, hin, hT.at args _ hinst⟩ ⟨wh_blind, fun U hU hW => ⟨rfl, wh_at X9 hP hD hS U hU hW⟩⟩ rfl hn9 hl.1 rfl (lv_room hrm) hd ⟨Nat.le_trans hmc9 hmc, Nat.le_trans hms9 hms⟩) hpc k

end GR2
theorem sel_asb {y : MethodName} (hy : y.cls = "java/lang/AbstractStringBuilder") (hp : Cond.privateMethod y ∈ TW) (hi : Cond.instanceMethod y ∈ TW) : ∀ s : State, TWs s → (Cond.selects "java/lang/StringBuilder" y y).before #[] s = true := by
  intro s hT
  obtain ⟨c, k, hc, hk, -, -, -, -⟩ := Cond.instantiable_spec (hT.at #[] _ q1_64)
  obtain ⟨c2, r2, m2, q1, q2, q3, q4, kP, hkP, hkPi⟩ := Cond.selects_spec (hT.at #[] _ q3_193)
  obtain ⟨mk, methM, hnamed, hmethM, -, -⟩ := Cond.instanceMethod_spec (hT.at #[] _ hi)
  have hfound : s.methodFound? y.cls y.name y.desc = some mk := State.methodFound?_of_named hnamed ⟨by rw [hy]; decide +kernel, by rw [hy]; decide +kernel⟩
  have hcls : mk.cls = m2.cls := by
    have h1 := findClass_of_methodNamed hnamed
    have h2 := findClass_of_methodNamed q3
    rw [hy] at h1
    exact Option.some.inj (h1.symm.trans h2)
  have hsel : selectMethod {} s.vm c mk = .method mk := selectMethod_private hmethM (Cond.privateMethod_at (hT.at #[] _ hp) mk methM hnamed hmethM)
  simp only [Cond.before, Cond.holds, Cond.value, hc, hfound, hnamed, hsel, hcls, hkP]
  simp; exact hkPi
theorem sel_tw {Cr : String} {y : MethodName} (h : Cond.selects Cr y y ∈ TW) : ∀ s : State, TWs s → (Cond.selects Cr y y).before #[] s = true := fun s hT => hT.at #[] _ h
