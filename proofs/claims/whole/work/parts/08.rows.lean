section GR
variable {C : WC} {l0 : Launch} {own : String} {cc : ByteArray} {nL d Mc Ms : Nat} {K : GK} {Q : State → Prop} {cells slots pc t : Nat} {lv lv1 : List (Nat × Value)} {st : List Value} {ws ws1 : va_W}
theorem g_iconst (X : Cx C l0 own cc nL d Mc Ms K) {n : Int} (hd : decode cc pc = .ok (.iconst n, 1)) (hpc : pc + 1 = t) (k : G C K Q cells slots t lv (vi n :: st) ws) : G C K Q cells slots pc lv (st) ws := by
  obtain ⟨p, l, e, R, s, m, args, below, meth, c, nL⟩ := K
  obtain ⟨rfl, rfl, hx, hb, hml, hown, hT, hK, hN, hE, hlk, hfl, hfr, hlo, hmc, hms⟩ := X
  subst hpc
  intro H locs ls hP hD hS hl
  exact lv_iconst hx hb hd rfl (k H locs ls hP hD hS hl)
theorem g_bipush (X : Cx C l0 own cc nL d Mc Ms K) {n z : Int} (hd : decode cc pc = .ok (.bipush n, 2)) (hz : (Int8.ofInt n).toInt32 = iZ z) (hpc : pc + 2 = t) (k : G C K Q cells slots t lv (vi z :: st) ws) : G C K Q cells slots pc lv (st) ws := by
  obtain ⟨p, l, e, R, s, m, args, below, meth, c, nL⟩ := K
  obtain ⟨rfl, rfl, hx, hb, hml, hown, hT, hK, hN, hE, hlk, hfl, hfr, hlo, hmc, hms⟩ := X
  subst hpc
  intro H locs ls hP hD hS hl
  exact lv_bipush hx hb hd hz (k H locs ls hP hD hS hl)
theorem g_sipush (X : Cx C l0 own cc nL d Mc Ms K) {n z : Int} (hd : decode cc pc = .ok (.sipush n, 3)) (hz : (Int16.ofInt n).toInt32 = iZ z) (hpc : pc + 3 = t) (k : G C K Q cells slots t lv (vi z :: st) ws) : G C K Q cells slots pc lv (st) ws := by
  obtain ⟨p, l, e, R, s, m, args, below, meth, c, nL⟩ := K
  obtain ⟨rfl, rfl, hx, hb, hml, hown, hT, hK, hN, hE, hlk, hfl, hfr, hlo, hmc, hms⟩ := X
  subst hpc
  intro H locs ls hP hD hS hl
  exact lv_sipush hx hb hd hz (k H locs ls hP hD hS hl)
theorem g_iload_n (X : Cx C l0 own cc nL d Mc Ms K) {k9 : Fin 4} {x : Int32} (hd : decode cc pc = .ok (.iload_n k9, 1)) (i : Nat) (hi : lv[i]? = some ((k9 : Nat), .int x)) (hpc : pc + 1 = t) (k : G C K Q cells slots t lv (.int x :: st) ws) : G C K Q cells slots pc lv (st) ws := by
  obtain ⟨p, l, e, R, s, m, args, below, meth, c, nL⟩ := K
  obtain ⟨rfl, rfl, hx, hb, hml, hown, hT, hK, hN, hE, hlk, hfl, hfr, hlo, hmc, hms⟩ := X
  subst hpc
  intro H locs ls hP hD hS hl
  exact lv_iload_n hx hb hd rfl (lv_at hl i hi) (k H locs ls hP hD hS hl)
theorem g_iload (X : Cx C l0 own cc nL d Mc Ms K) {k9 : Nat} {x : Int32} (hd : decode cc pc = .ok (.iload k9, 2)) (i : Nat) (hi : lv[i]? = some (k9, .int x)) (hpc : pc + 2 = t) (k : G C K Q cells slots t lv (.int x :: st) ws) : G C K Q cells slots pc lv (st) ws := by
  obtain ⟨p, l, e, R, s, m, args, below, meth, c, nL⟩ := K
  obtain ⟨rfl, rfl, hx, hb, hml, hown, hT, hK, hN, hE, hlk, hfl, hfr, hlo, hmc, hms⟩ := X
  subst hpc
  intro H locs ls hP hD hS hl
  exact lv_iload hx hb hd (lv_at hl i hi) (k H locs ls hP hD hS hl)
theorem g_aload_n (X : Cx C l0 own cc nL d Mc Ms K) {k9 : Fin 4} {x : Nat} (hd : decode cc pc = .ok (.aload_n k9, 1)) (i : Nat) (hi : lv[i]? = some ((k9 : Nat), .ref x)) (hpc : pc + 1 = t) (k : G C K Q cells slots t lv (.ref x :: st) ws) : G C K Q cells slots pc lv (st) ws := by
  obtain ⟨p, l, e, R, s, m, args, below, meth, c, nL⟩ := K
  obtain ⟨rfl, rfl, hx, hb, hml, hown, hT, hK, hN, hE, hlk, hfl, hfr, hlo, hmc, hms⟩ := X
  subst hpc
  intro H locs ls hP hD hS hl
  exact lv_aload_n hx hb hd rfl (lv_at hl i hi) (k H locs ls hP hD hS hl)
theorem g_aload (X : Cx C l0 own cc nL d Mc Ms K) {k9 : Nat} {x : Nat} (hd : decode cc pc = .ok (.aload k9, 2)) (i : Nat) (hi : lv[i]? = some (k9, .ref x)) (hpc : pc + 2 = t) (k : G C K Q cells slots t lv (.ref x :: st) ws) : G C K Q cells slots pc lv (st) ws := by
  obtain ⟨p, l, e, R, s, m, args, below, meth, c, nL⟩ := K
  obtain ⟨rfl, rfl, hx, hb, hml, hown, hT, hK, hN, hE, hlk, hfl, hfr, hlo, hmc, hms⟩ := X
  subst hpc
  intro H locs ls hP hD hS hl
  exact lv_aload hx hb hd (lv_at hl i hi) (k H locs ls hP hD hS hl)
theorem g_istore_n (X : Cx C l0 own cc nL d Mc Ms K) {k9 : Fin 4} {x : Int32} (hd : decode cc pc = .ok (.istore_n k9, 1)) (hn : ((k9 : Nat)) < nL) (hl1 : (((k9 : Nat)), Value.int x) :: lv.filter (fun q => !(q.1 == ((k9 : Nat))) && !(q.1 + 1 == ((k9 : Nat)) && q.2.category == 2)) = lv1) (hpc : pc + 1 = t) (k : G C K Q cells slots t lv1 (st) ws) : G C K Q cells slots pc lv (.int x :: st) ws := by
  obtain ⟨p, l, e, R, s, m, args, below, meth, c, nL⟩ := K
  obtain ⟨rfl, rfl, hx, hb, hml, hown, hT, hK, hN, hE, hlk, hfl, hfr, hlo, hmc, hms⟩ := X
  subst hpc
  intro H locs ls hP hD hS hl
  exact lv_istore_n hx hb hd rfl hl hn hl1 (fun ls1 hl => k H locs ls1 hP hD hS hl)
theorem g_astore_n (X : Cx C l0 own cc nL d Mc Ms K) {k9 : Fin 4} {x : Nat} (hd : decode cc pc = .ok (.astore_n k9, 1)) (hn : ((k9 : Nat)) < nL) (hl1 : (((k9 : Nat)), Value.ref x) :: lv.filter (fun q => !(q.1 == ((k9 : Nat))) && !(q.1 + 1 == ((k9 : Nat)) && q.2.category == 2)) = lv1) (hpc : pc + 1 = t) (k : G C K Q cells slots t lv1 (st) ws) : G C K Q cells slots pc lv (.ref x :: st) ws := by
  obtain ⟨p, l, e, R, s, m, args, below, meth, c, nL⟩ := K
  obtain ⟨rfl, rfl, hx, hb, hml, hown, hT, hK, hN, hE, hlk, hfl, hfr, hlo, hmc, hms⟩ := X
  subst hpc
  intro H locs ls hP hD hS hl
  exact lv_astore_n hx hb hd rfl hl hn hl1 (fun ls1 hl => k H locs ls1 hP hD hS hl)
theorem g_istore (X : Cx C l0 own cc nL d Mc Ms K) {k9 : Nat} {x : Int32} (hd : decode cc pc = .ok (.istore k9, 2)) (hn : k9 < nL) (hl1 : (k9, Value.int x) :: lv.filter (fun q => !(q.1 == k9) && !(q.1 + 1 == k9 && q.2.category == 2)) = lv1) (hpc : pc + 2 = t) (k : G C K Q cells slots t lv1 (st) ws) : G C K Q cells slots pc lv (.int x :: st) ws := by
  obtain ⟨p, l, e, R, s, m, args, below, meth, c, nL⟩ := K
  obtain ⟨rfl, rfl, hx, hb, hml, hown, hT, hK, hN, hE, hlk, hfl, hfr, hlo, hmc, hms⟩ := X
  subst hpc
  intro H locs ls hP hD hS hl
  exact lv_istore hx hb hd hl hn hl1 (fun ls1 hl => k H locs ls1 hP hD hS hl)
theorem g_astore (X : Cx C l0 own cc nL d Mc Ms K) {k9 : Nat} {x : Nat} (hd : decode cc pc = .ok (.astore k9, 2)) (hn : k9 < nL) (hl1 : (k9, Value.ref x) :: lv.filter (fun q => !(q.1 == k9) && !(q.1 + 1 == k9 && q.2.category == 2)) = lv1) (hpc : pc + 2 = t) (k : G C K Q cells slots t lv1 (st) ws) : G C K Q cells slots pc lv (.ref x :: st) ws := by
  obtain ⟨p, l, e, R, s, m, args, below, meth, c, nL⟩ := K
  obtain ⟨rfl, rfl, hx, hb, hml, hown, hT, hK, hN, hE, hlk, hfl, hfr, hlo, hmc, hms⟩ := X
  subst hpc
  intro H locs ls hP hD hS hl
  exact lv_astore hx hb hd hl hn hl1 (fun ls1 hl => k H locs ls1 hP hD hS hl)
theorem g_iinc (X : Cx C l0 own cc nL d Mc Ms K) {k9 : Nat} {n z : Int} (hd : decode cc pc = .ok (.iinc k9 n, 3)) (i : Nat) (hi : lv[i]? = some (k9, vi z)) (hn : k9 < nL) (hl1 : (k9, vi (z + n)) :: lv.filter (fun q => !(q.1 == k9) && !(q.1 + 1 == k9 && q.2.category == 2)) = lv1) (hpc : pc + 3 = t) (k : G C K Q cells slots t lv1 (st) ws) : G C K Q cells slots pc lv (st) ws := by
  obtain ⟨p, l, e, R, s, m, args, below, meth, c, nL⟩ := K
  obtain ⟨rfl, rfl, hx, hb, hml, hown, hT, hK, hN, hE, hlk, hfl, hfr, hlo, hmc, hms⟩ := X
  subst hpc
  intro H locs ls hP hD hS hl
  exact lv_iinc hx hb hd hl hi (iZ_add z n) hn hl1 (fun ls1 hl => k H locs ls1 hP hD hS hl)
theorem g_iadd (X : Cx C l0 own cc nL d Mc Ms K) {a b : Int} (hd : decode cc pc = .ok (.iadd, 1)) (hpc : pc + 1 = t) (k : G C K Q cells slots t lv (vi (a + b) :: st) ws) : G C K Q cells slots pc lv (vi b :: vi a :: st) ws := by
  obtain ⟨p, l, e, R, s, m, args, below, meth, c, nL⟩ := K
  obtain ⟨rfl, rfl, hx, hb, hml, hown, hT, hK, hN, hE, hlk, hfl, hfr, hlo, hmc, hms⟩ := X
  subst hpc
  intro H locs ls hP hD hS hl
  exact lv_iadd hx hb hd (by rw [iZ_add]; exact k H locs ls hP hD hS hl)
theorem g_isub (X : Cx C l0 own cc nL d Mc Ms K) {a b : Int} (hd : decode cc pc = .ok (.isub, 1)) (hpc : pc + 1 = t) (k : G C K Q cells slots t lv (vi (a - b) :: st) ws) : G C K Q cells slots pc lv (vi b :: vi a :: st) ws := by
  obtain ⟨p, l, e, R, s, m, args, below, meth, c, nL⟩ := K
  obtain ⟨rfl, rfl, hx, hb, hml, hown, hT, hK, hN, hE, hlk, hfl, hfr, hlo, hmc, hms⟩ := X
  subst hpc
  intro H locs ls hP hD hS hl
  exact lv_isub hx hb hd (by rw [iZ_sub]; exact k H locs ls hP hD hS hl)
theorem g_imul (X : Cx C l0 own cc nL d Mc Ms K) {a b : Int} (hd : decode cc pc = .ok (.imul, 1)) (hpc : pc + 1 = t) (k : G C K Q cells slots t lv (vi (a * b) :: st) ws) : G C K Q cells slots pc lv (vi b :: vi a :: st) ws := by
  obtain ⟨p, l, e, R, s, m, args, below, meth, c, nL⟩ := K
  obtain ⟨rfl, rfl, hx, hb, hml, hown, hT, hK, hN, hE, hlk, hfl, hfr, hlo, hmc, hms⟩ := X
  subst hpc
  intro H locs ls hP hD hS hl
  exact lv_imul hx hb hd (by rw [iZ_mul]; exact k H locs ls hP hD hS hl)
theorem g_ineg (X : Cx C l0 own cc nL d Mc Ms K) {a : Int} (hd : decode cc pc = .ok (.ineg, 1)) (hpc : pc + 1 = t) (k : G C K Q cells slots t lv (vi (-a) :: st) ws) : G C K Q cells slots pc lv (vi a :: st) ws := by
  obtain ⟨p, l, e, R, s, m, args, below, meth, c, nL⟩ := K
  obtain ⟨rfl, rfl, hx, hb, hml, hown, hT, hK, hN, hE, hlk, hfl, hfr, hlo, hmc, hms⟩ := X
  subst hpc
  intro H locs ls hP hD hS hl
  exact lv_ineg hx hb hd (by rw [iZ_neg]; exact k H locs ls hP hD hS hl)
theorem g_idiv (X : Cx C l0 own cc nL d Mc Ms K) {a b : Int} (hd : decode cc pc = .ok (.idiv, 1)) (ha : Rg a) (hb0 : Rg b) (hne : b ≠ 0) (hr : Rg (a.tdiv b)) (hpc : pc + 1 = t) (k : G C K Q cells slots t lv (vi (a.tdiv b) :: st) ws) : G C K Q cells slots pc lv (vi b :: vi a :: st) ws := by
  obtain ⟨p, l, e, R, s, m, args, below, meth, c, nL⟩ := K
  obtain ⟨rfl, rfl, hx, hb, hml, hown, hT, hK, hN, hE, hlk, hfl, hfr, hlo, hmc, hms⟩ := X
  subst hpc
  intro H locs ls hP hD hS hl
  exact lv_idiv hx hb hd (fun h => hne ((iZ_eq hb0 Rg0).mp h)) (by rw [iZ_div ha hb0 hr]; exact k H locs ls hP hD hS hl)
theorem g_dup (X : Cx C l0 own cc nL d Mc Ms K) {v : Value} (hd : decode cc pc = .ok (.dup, 1)) (hv : v.category = 1) (hpc : pc + 1 = t) (k : G C K Q cells slots t lv (v :: v :: st) ws) : G C K Q cells slots pc lv (v :: st) ws := by
  obtain ⟨p, l, e, R, s, m, args, below, meth, c, nL⟩ := K
  obtain ⟨rfl, rfl, hx, hb, hml, hown, hT, hK, hN, hE, hlk, hfl, hfr, hlo, hmc, hms⟩ := X
  subst hpc
  intro H locs ls hP hD hS hl
  exact lv_dup hx hb hd hv (k H locs ls hP hD hS hl)
theorem g_pop (X : Cx C l0 own cc nL d Mc Ms K) {v : Value} (hd : decode cc pc = .ok (.pop, 1)) (hv : v.category = 1) (hpc : pc + 1 = t) (k : G C K Q cells slots t lv (st) ws) : G C K Q cells slots pc lv (v :: st) ws := by
  obtain ⟨p, l, e, R, s, m, args, below, meth, c, nL⟩ := K
  obtain ⟨rfl, rfl, hx, hb, hml, hown, hT, hK, hN, hE, hlk, hfl, hfr, hlo, hmc, hms⟩ := X
  subst hpc
  intro H locs ls hP hD hS hl
  exact lv_pop hx hb hd hv (k H locs ls hP hD hS hl)
theorem g_dup_x1 (X : Cx C l0 own cc nL d Mc Ms K) {v w : Value} (hd : decode cc pc = .ok (.dup_x1, 1)) (hv : v.category = 1) (hw : w.category = 1) (hpc : pc + 1 = t) (k : G C K Q cells slots t lv (v :: w :: v :: st) ws) : G C K Q cells slots pc lv (v :: w :: st) ws := by
  obtain ⟨p, l, e, R, s, m, args, below, meth, c, nL⟩ := K
  obtain ⟨rfl, rfl, hx, hb, hml, hown, hT, hK, hN, hE, hlk, hfl, hfr, hlo, hmc, hms⟩ := X
  subst hpc
  intro H locs ls hP hD hS hl
  exact lv_dup_x1 hx hb hd hv hw (k H locs ls hP hD hS hl)
theorem g_dup2 (X : Cx C l0 own cc nL d Mc Ms K) {v w : Value} (hd : decode cc pc = .ok (.dup2, 1)) (hv : v.category = 1) (hw : w.category = 1) (hpc : pc + 1 = t) (k : G C K Q cells slots t lv (v :: w :: v :: w :: st) ws) : G C K Q cells slots pc lv (v :: w :: st) ws := by
  obtain ⟨p, l, e, R, s, m, args, below, meth, c, nL⟩ := K
  obtain ⟨rfl, rfl, hx, hb, hml, hown, hT, hK, hN, hE, hlk, hfl, hfr, hlo, hmc, hms⟩ := X
  subst hpc
  intro H locs ls hP hD hS hl
  exact lv_dup2_11 hx hb hd hv hw (k H locs ls hP hD hS hl)
theorem g_goto (X : Cx C l0 own cc nL d Mc Ms K) {off : Int} (hd : decode cc pc = .ok (.goto off, 3)) (ht : (pc : Int) + off = (t : Int)) (k : G C K Q cells slots t lv st ws) : G C K Q cells slots pc lv st ws := by
  obtain ⟨p, l, e, R, s, m, args, below, meth, c, nL⟩ := K
  obtain ⟨rfl, rfl, hx, hb, hml, hown, hT, hK, hN, hE, hlk, hfl, hfr, hlo, hmc, hms⟩ := X
  intro H locs ls hP hD hS hl
  exact lv_goto hx hb hd ht (k H locs ls hP hD hS hl)
theorem g_icmp_eq (X : Cx C l0 own cc nL d Mc Ms K) {a b : Int} {off : Int} {u : Nat} (hd : decode cc pc = .ok (.if_icmp .eq off, 3)) (ht : (pc : Int) + off = (t : Int)) (hpc : pc + 3 = u) (ha : Rg a) (hb1 : Rg b) (kt : a = b → G C K Q cells slots t lv st ws) (kf : ¬ (a = b) → G C K Q cells slots u lv st ws) : G C K Q cells slots pc lv (vi b :: vi a :: st) ws := by
  obtain ⟨p, l, e, R, s, m, args, below, meth, c, nL⟩ := K
  obtain ⟨rfl, rfl, hx, hb, hml, hown, hT, hK, hN, hE, hlk, hfl, hfr, hlo, hmc, hms⟩ := X
  subst hpc
  intro H locs ls hP hD hS hl
  exact lv_icmp_eq hx hb hd ht (fun h => kt ((iZ_eq ha hb1).mp h) H locs ls hP hD hS hl) (fun h => kf (fun q => h ((iZ_eq ha hb1).mpr q)) H locs ls hP hD hS hl)
theorem g_icmp_ne (X : Cx C l0 own cc nL d Mc Ms K) {a b : Int} {off : Int} {u : Nat} (hd : decode cc pc = .ok (.if_icmp .ne off, 3)) (ht : (pc : Int) + off = (t : Int)) (hpc : pc + 3 = u) (ha : Rg a) (hb1 : Rg b) (kt : ¬ a = b → G C K Q cells slots t lv st ws) (kf : a = b → G C K Q cells slots u lv st ws) : G C K Q cells slots pc lv (vi b :: vi a :: st) ws := by
  obtain ⟨p, l, e, R, s, m, args, below, meth, c, nL⟩ := K
  obtain ⟨rfl, rfl, hx, hb, hml, hown, hT, hK, hN, hE, hlk, hfl, hfr, hlo, hmc, hms⟩ := X
  subst hpc
  intro H locs ls hP hD hS hl
  exact lv_icmp_ne hx hb hd ht (fun h => kt (fun q => h ((iZ_eq ha hb1).mpr q)) H locs ls hP hD hS hl) (fun h => kf ((iZ_eq ha hb1).mp h) H locs ls hP hD hS hl)
theorem g_icmp_lt (X : Cx C l0 own cc nL d Mc Ms K) {a b : Int} {off : Int} {u : Nat} (hd : decode cc pc = .ok (.if_icmp .lt off, 3)) (ht : (pc : Int) + off = (t : Int)) (hpc : pc + 3 = u) (ha : Rg a) (hb1 : Rg b) (kt : a < b → G C K Q cells slots t lv st ws) (kf : ¬ (a < b) → G C K Q cells slots u lv st ws) : G C K Q cells slots pc lv (vi b :: vi a :: st) ws := by
  obtain ⟨p, l, e, R, s, m, args, below, meth, c, nL⟩ := K
  obtain ⟨rfl, rfl, hx, hb, hml, hown, hT, hK, hN, hE, hlk, hfl, hfr, hlo, hmc, hms⟩ := X
  subst hpc
  intro H locs ls hP hD hS hl
  exact lv_icmp_lt hx hb hd ht (fun h => kt ((iZ_lt ha hb1).mp h) H locs ls hP hD hS hl) (fun h => kf (fun q => h ((iZ_lt ha hb1).mpr q)) H locs ls hP hD hS hl)
theorem g_icmp_ge (X : Cx C l0 own cc nL d Mc Ms K) {a b : Int} {off : Int} {u : Nat} (hd : decode cc pc = .ok (.if_icmp .ge off, 3)) (ht : (pc : Int) + off = (t : Int)) (hpc : pc + 3 = u) (ha : Rg a) (hb1 : Rg b) (kt : b ≤ a → G C K Q cells slots t lv st ws) (kf : ¬ (b ≤ a) → G C K Q cells slots u lv st ws) : G C K Q cells slots pc lv (vi b :: vi a :: st) ws := by
  obtain ⟨p, l, e, R, s, m, args, below, meth, c, nL⟩ := K
  obtain ⟨rfl, rfl, hx, hb, hml, hown, hT, hK, hN, hE, hlk, hfl, hfr, hlo, hmc, hms⟩ := X
  subst hpc
  intro H locs ls hP hD hS hl
  exact lv_icmp_ge hx hb hd ht (fun h => kt ((iZ_le hb1 ha).mp h) H locs ls hP hD hS hl) (fun h => kf (fun q => h ((iZ_le hb1 ha).mpr q)) H locs ls hP hD hS hl)
theorem g_icmp_gt (X : Cx C l0 own cc nL d Mc Ms K) {a b : Int} {off : Int} {u : Nat} (hd : decode cc pc = .ok (.if_icmp .gt off, 3)) (ht : (pc : Int) + off = (t : Int)) (hpc : pc + 3 = u) (ha : Rg a) (hb1 : Rg b) (kt : b < a → G C K Q cells slots t lv st ws) (kf : ¬ (b < a) → G C K Q cells slots u lv st ws) : G C K Q cells slots pc lv (vi b :: vi a :: st) ws := by
  obtain ⟨p, l, e, R, s, m, args, below, meth, c, nL⟩ := K
  obtain ⟨rfl, rfl, hx, hb, hml, hown, hT, hK, hN, hE, hlk, hfl, hfr, hlo, hmc, hms⟩ := X
  subst hpc
  intro H locs ls hP hD hS hl
  exact lv_icmp_gt hx hb hd ht (fun h => kt ((iZ_lt hb1 ha).mp h) H locs ls hP hD hS hl) (fun h => kf (fun q => h ((iZ_lt hb1 ha).mpr q)) H locs ls hP hD hS hl)
theorem g_icmp_le (X : Cx C l0 own cc nL d Mc Ms K) {a b : Int} {off : Int} {u : Nat} (hd : decode cc pc = .ok (.if_icmp .le off, 3)) (ht : (pc : Int) + off = (t : Int)) (hpc : pc + 3 = u) (ha : Rg a) (hb1 : Rg b) (kt : a ≤ b → G C K Q cells slots t lv st ws) (kf : ¬ (a ≤ b) → G C K Q cells slots u lv st ws) : G C K Q cells slots pc lv (vi b :: vi a :: st) ws := by
  obtain ⟨p, l, e, R, s, m, args, below, meth, c, nL⟩ := K
  obtain ⟨rfl, rfl, hx, hb, hml, hown, hT, hK, hN, hE, hlk, hfl, hfr, hlo, hmc, hms⟩ := X
  subst hpc
  intro H locs ls hP hD hS hl
  exact lv_icmp_le hx hb hd ht (fun h => kt ((iZ_le ha hb1).mp h) H locs ls hP hD hS hl) (fun h => kf (fun q => h ((iZ_le ha hb1).mpr q)) H locs ls hP hD hS hl)
theorem g_if_eq (X : Cx C l0 own cc nL d Mc Ms K) {a : Int} {off : Int} {u : Nat} (hd : decode cc pc = .ok (.ifCond .eq off, 3)) (ht : (pc : Int) + off = (t : Int)) (hpc : pc + 3 = u) (ha : Rg a) (kt : a = 0 → G C K Q cells slots t lv st ws) (kf : ¬ (a = 0) → G C K Q cells slots u lv st ws) : G C K Q cells slots pc lv (vi a :: st) ws := by
  obtain ⟨p, l, e, R, s, m, args, below, meth, c, nL⟩ := K
  obtain ⟨rfl, rfl, hx, hb, hml, hown, hT, hK, hN, hE, hlk, hfl, hfr, hlo, hmc, hms⟩ := X
  subst hpc
  intro H locs ls hP hD hS hl
  exact lv_if_eq hx hb hd ht (fun h => kt ((iZ_eq ha Rg0).mp h) H locs ls hP hD hS hl) (fun h => kf (fun q => h ((iZ_eq ha Rg0).mpr q)) H locs ls hP hD hS hl)
theorem g_if_ne (X : Cx C l0 own cc nL d Mc Ms K) {a : Int} {off : Int} {u : Nat} (hd : decode cc pc = .ok (.ifCond .ne off, 3)) (ht : (pc : Int) + off = (t : Int)) (hpc : pc + 3 = u) (ha : Rg a) (kt : ¬ a = 0 → G C K Q cells slots t lv st ws) (kf : a = 0 → G C K Q cells slots u lv st ws) : G C K Q cells slots pc lv (vi a :: st) ws := by
  obtain ⟨p, l, e, R, s, m, args, below, meth, c, nL⟩ := K
  obtain ⟨rfl, rfl, hx, hb, hml, hown, hT, hK, hN, hE, hlk, hfl, hfr, hlo, hmc, hms⟩ := X
  subst hpc
  intro H locs ls hP hD hS hl
  exact lv_if_ne hx hb hd ht (fun h => kt (fun q => h ((iZ_eq ha Rg0).mpr q)) H locs ls hP hD hS hl) (fun h => kf ((iZ_eq ha Rg0).mp h) H locs ls hP hD hS hl)
theorem g_if_lt (X : Cx C l0 own cc nL d Mc Ms K) {a : Int} {off : Int} {u : Nat} (hd : decode cc pc = .ok (.ifCond .lt off, 3)) (ht : (pc : Int) + off = (t : Int)) (hpc : pc + 3 = u) (ha : Rg a) (kt : a < 0 → G C K Q cells slots t lv st ws) (kf : ¬ (a < 0) → G C K Q cells slots u lv st ws) : G C K Q cells slots pc lv (vi a :: st) ws := by
  obtain ⟨p, l, e, R, s, m, args, below, meth, c, nL⟩ := K
  obtain ⟨rfl, rfl, hx, hb, hml, hown, hT, hK, hN, hE, hlk, hfl, hfr, hlo, hmc, hms⟩ := X
  subst hpc
  intro H locs ls hP hD hS hl
  exact lv_if_lt hx hb hd ht (fun h => kt ((iZ_lt ha Rg0).mp h) H locs ls hP hD hS hl) (fun h => kf (fun q => h ((iZ_lt ha Rg0).mpr q)) H locs ls hP hD hS hl)
theorem g_if_ge (X : Cx C l0 own cc nL d Mc Ms K) {a : Int} {off : Int} {u : Nat} (hd : decode cc pc = .ok (.ifCond .ge off, 3)) (ht : (pc : Int) + off = (t : Int)) (hpc : pc + 3 = u) (ha : Rg a) (kt : 0 ≤ a → G C K Q cells slots t lv st ws) (kf : ¬ (0 ≤ a) → G C K Q cells slots u lv st ws) : G C K Q cells slots pc lv (vi a :: st) ws := by
  obtain ⟨p, l, e, R, s, m, args, below, meth, c, nL⟩ := K
  obtain ⟨rfl, rfl, hx, hb, hml, hown, hT, hK, hN, hE, hlk, hfl, hfr, hlo, hmc, hms⟩ := X
  subst hpc
  intro H locs ls hP hD hS hl
  exact lv_if_ge hx hb hd ht (fun h => kt ((iZ_le Rg0 ha).mp h) H locs ls hP hD hS hl) (fun h => kf (fun q => h ((iZ_le Rg0 ha).mpr q)) H locs ls hP hD hS hl)
theorem g_if_gt (X : Cx C l0 own cc nL d Mc Ms K) {a : Int} {off : Int} {u : Nat} (hd : decode cc pc = .ok (.ifCond .gt off, 3)) (ht : (pc : Int) + off = (t : Int)) (hpc : pc + 3 = u) (ha : Rg a) (kt : 0 < a → G C K Q cells slots t lv st ws) (kf : ¬ (0 < a) → G C K Q cells slots u lv st ws) : G C K Q cells slots pc lv (vi a :: st) ws := by
  obtain ⟨p, l, e, R, s, m, args, below, meth, c, nL⟩ := K
  obtain ⟨rfl, rfl, hx, hb, hml, hown, hT, hK, hN, hE, hlk, hfl, hfr, hlo, hmc, hms⟩ := X
  subst hpc
  intro H locs ls hP hD hS hl
  exact lv_if_gt hx hb hd ht (fun h => kt ((iZ_lt Rg0 ha).mp h) H locs ls hP hD hS hl) (fun h => kf (fun q => h ((iZ_lt Rg0 ha).mpr q)) H locs ls hP hD hS hl)
theorem g_if_le (X : Cx C l0 own cc nL d Mc Ms K) {a : Int} {off : Int} {u : Nat} (hd : decode cc pc = .ok (.ifCond .le off, 3)) (ht : (pc : Int) + off = (t : Int)) (hpc : pc + 3 = u) (ha : Rg a) (kt : a ≤ 0 → G C K Q cells slots t lv st ws) (kf : ¬ (a ≤ 0) → G C K Q cells slots u lv st ws) : G C K Q cells slots pc lv (vi a :: st) ws := by
  obtain ⟨p, l, e, R, s, m, args, below, meth, c, nL⟩ := K
  obtain ⟨rfl, rfl, hx, hb, hml, hown, hT, hK, hN, hE, hlk, hfl, hfr, hlo, hmc, hms⟩ := X
  subst hpc
  intro H locs ls hP hD hS hl
  exact lv_if_le hx hb hd ht (fun h => kt ((iZ_le ha Rg0).mp h) H locs ls hP hD hS hl) (fun h => kf (fun q => h ((iZ_le ha Rg0).mpr q)) H locs ls hP hD hS hl)
/-- a row of n ints -/
def aI (C : WC) (n : Nat) (f : Int → Int) : va_E := .inl (C.2.1 0, n, .inl (fun j : Nat => iZ (f (j : Int))))
theorem aI_upd (C : WC) (n : Nat) (f : Int → Int) {z : Int} (h0 : 0 ≤ z) (h1 : z < 2147483648) (v : Int) : (.inl (C.2.1 0, n, .inl (upd (fun j : Nat => iZ (f (j : Int))) (iZ z).toNatClampNeg (iZ v))) : va_E) = aI C n (uI f z v) := by
  unfold aI
  rw [iZ_clamp h0 h1]
  congr 4
  funext j
  unfold upd uI
  by_cases hj : j = z.toNat
  · rw [if_pos hj, if_pos (by omega)]
  · rw [if_neg hj, if_neg (by omega)]
theorem g_iald (X : Cx C l0 own cc nL d Mc Ms K) {a n : Nat} {f : Int → Int} {z : Int} (q0 : Nat) (he : ws[q0]? = some (a, aI C n f)) (h0 : 0 ≤ z) (h1 : z < n) (h2 : z < 2147483648) (hd : decode cc pc = .ok (.iaload, 1)) (hpc : pc + 1 = t) (k : G C K Q cells slots t lv (vi (f z) :: st) ws) : G C K Q cells slots pc lv (vi z :: .ref a :: st) ws := by
  obtain ⟨p, l, e, R, s, m, args, below, meth, c, nL⟩ := K
  obtain ⟨rfl, rfl, hx, hb, hml, hown, hT, hK, hN, hE, hlk, hfl, hfr, hlo, hmc, hms⟩ := X
  subst hpc
  intro H locs ls hP hD hS hl
  exact va_iald hx hb hK hP q0 0 he rfl (iZ_in h0 h1 h2) hd (by rw [iZ_clamp h0 h2, Int.toNat_of_nonneg h0]; exact k H locs ls hP hD hS hl)
theorem g_iast (X : Cx C l0 own cc nL d Mc Ms K) {a n : Nat} {f : Int → Int} {z v : Int} (q0 : Nat) (he : ws[q0]? = some (a, aI C n f)) (h0 : 0 ≤ z) (h1 : z < n) (h2 : z < 2147483648) (hw : ws.set q0 (a, aI C n (uI f z v)) = ws1) (hd : decode cc pc = .ok (.iastore, 1)) (hpc : pc + 1 = t) (k : G C K Q cells slots t lv (st) ws1) : G C K Q cells slots pc lv (vi v :: vi z :: .ref a :: st) ws := by
  obtain ⟨p, l, e, R, s, m, args, below, meth, c, nL⟩ := K
  obtain ⟨rfl, rfl, hx, hb, hml, hown, hT, hK, hN, hE, hlk, hfl, hfr, hlo, hmc, hms⟩ := X
  subst hpc
  intro H locs ls hP hD hS hl
  exact va_iast hx hb hK hP hD hS q0 0 he rfl (iZ_in h0 h1 h2) hd (fun H1 locs1 hP hD hS => by rw [aI_upd C n f h0 h2, hw] at hP hD; exact k H1 locs1 ls hP hD hS hl)
theorem g_getf (X : Cx C l0 own cc nL d Mc Ms K) {ref Cn : String} {T : u_T} {N ci index a : Nat} {fs : List Value} {v : Value} (hin : ∀ w ∈ u_ws Cn T N, w ∈ TW) (q0 : Nat) (he : ws[q0]? = some (a, .inr (ci, fs))) (hc : vwCl[ci]? = some (Cn, T, N)) (k9 : Nat) (hk : k9 < N) (hlink : Cond.fieldLink own index ref (T k9).2.1 (T k9).2.2.1 ∈ TW) (href : (T k9).1 = ref) (hv : fs[k9]? = some v) (hd : decode cc pc = .ok (.getfield index, 3)) (hpc : pc + 3 = t) (k : G C K Q cells slots t lv (v :: st) ws) : G C K Q cells slots pc lv (.ref a :: st) ws := by
  obtain ⟨p, l, e, R, s, m, args, below, meth, c, nL⟩ := K
  obtain ⟨rfl, rfl, hx, hb, hml, hown, hT, hK, hN, hE, hlk, hfl, hfr, hlo, hmc, hms⟩ := X
  subst hpc
  intro H locs ls hP hD hS hl
  exact va_get hx hb (hT.at args) hin hown hK hP q0 he hc k9 hk (hT.at args _ hlink) (fun _ h => by rw [href] at h; exact h) hv hd (k H locs ls hP hD hS hl)
theorem g_putf (X : Cx C l0 own cc nL d Mc Ms K) {ref Cn : String} {T : u_T} {N ci index a : Nat} {fs : List Value} {v : Value} {ty : FieldType} (hin : ∀ w ∈ u_ws Cn T N, w ∈ TW) (ty0 : Nat → FieldType) (hty : ∀ k, k < N → parseFieldDescriptor (T k).2.2.1 = some (ty0 k)) (hnm : ∀ a, a < N → ∀ b, b < N → a ≠ b → (T a).2.1 ≠ (T b).2.1) (q0 : Nat) (he : ws[q0]? = some (a, .inr (ci, fs))) (hc : vwCl[ci]? = some (Cn, T, N)) (k9 : Nat) (hk : k9 < N) (hlink : Cond.fieldLink own index ref (T k9).2.1 (T k9).2.2.1 ∈ TW) (href : (T k9).1 = ref) (hfin : (T k9).2.2.2 = false) (hd2 : parseFieldDescriptor (T k9).2.2.1 = some ty) (hn : narrow ty v = v) (hfit : fits ty v = true) (hl9 : k9 < fs.length) (hw : ws.set q0 (a, .inr (ci, fs.set k9 v)) = ws1) (hd : decode cc pc = .ok (.putfield index, 3)) (hpc : pc + 3 = t) (k : G C K Q cells slots t lv (st) ws1) : G C K Q cells slots pc lv (v :: .ref a :: st) ws := by
  obtain ⟨p, l, e, R, s, m, args, below, meth, c, nL⟩ := K
  obtain ⟨rfl, rfl, hx, hb, hml, hown, hT, hK, hN, hE, hlk, hfl, hfr, hlo, hmc, hms⟩ := X
  subst hpc
  intro H locs ls hP hD hS hl
  exact va_put hx hb (hT.at args) hin ty0 hty hnm hown hK hP hD hS q0 he hc k9 hk (hT.at args _ hlink) (fun _ h => by rw [href] at h; exact h) hfin hd2 hn hfit hl9 hd (fun H1 locs1 hP hD hS => by rw [hw] at hP hD; exact k H1 locs1 ls hP hD hS hl)
theorem g_iret (X : Cx C l0 own cc nL d Mc Ms K) {post : Option Value → va_W → Prop} {x : Int32} {mc ms : Nat} (r : Rt C (some .int) post mc ms Q K) (hp : post (some (.int x)) ws) (hc : cells ≤ mc) (hs : slots ≤ ms) (hd : decode cc pc = .ok (.ireturn, 1)) : G C K Q cells slots pc lv [.int x] ws := by
  obtain ⟨p, l, e, R, s, m, args, below, meth, c, nL⟩ := K
  obtain ⟨rfl, rfl, hx, hb, hml, hown, hT, hK, hN, hE, hlk, hfl, hfr, hlo, hmc, hms⟩ := X
  obtain ⟨hr, hlift⟩ := r
  intro H locs ls hP hD hS hl
  refine W.widen hc hs ?_
  refine hlift _ _ _ ?_
  exact W.iret hx hb hr (fun t ht hW => ⟨⟨_, _, rfl, hp, by rw [ht]; exact hP, hD⟩, hS.F ht⟩) hS.2.2 hd
theorem g_zret (X : Cx C l0 own cc nL d Mc Ms K) {post : Option Value → va_W → Prop} {ty : FieldType} {x : Int32} {mc ms : Nat} (r : Rt C (some ty) post mc ms Q K) (hn : narrow ty (.int x) = .int x) (hp : post (some (.int x)) ws) (hc : cells ≤ mc) (hs : slots ≤ ms) (hd : decode cc pc = .ok (.ireturn, 1)) : G C K Q cells slots pc lv [.int x] ws := by
  obtain ⟨p, l, e, R, s, m, args, below, meth, c, nL⟩ := K
  obtain ⟨rfl, rfl, hx, hb, hml, hown, hT, hK, hN, hE, hlk, hfl, hfr, hlo, hmc, hms⟩ := X
  obtain ⟨hr, hlift⟩ := r
  intro H locs ls hP hD hS hl
  refine W.widen hc hs ?_
  refine hlift _ _ _ ?_
  exact W.zret hx hb hr hn (fun t ht hW => ⟨⟨_, _, rfl, hp, by rw [ht]; exact hP, hD⟩, hS.F ht⟩) hS.2.2 hd
theorem g_vret (X : Cx C l0 own cc nL d Mc Ms K) {post : Option Value → va_W → Prop} {mc ms : Nat} (r : Rt C none post mc ms Q K) (hp : post none ws) (hc : cells ≤ mc) (hs : slots ≤ ms) (hd : decode cc pc = .ok (.return_, 1)) : G C K Q cells slots pc lv [] ws := by
  obtain ⟨p, l, e, R, s, m, args, below, meth, c, nL⟩ := K
  obtain ⟨rfl, rfl, hx, hb, hml, hown, hT, hK, hN, hE, hlk, hfl, hfr, hlo, hmc, hms⟩ := X
  obtain ⟨hr, hlift⟩ := r
  intro H locs ls hP hD hS hl
  refine W.widen hc hs ?_
  refine hlift _ _ _ ?_
  exact W.vret hx hb hr (fun t ht hW => ⟨⟨_, _, rfl, hp, by rw [ht]; exact hP, hD⟩, hS.F ht⟩) hS.2.2 hd
theorem g_aret (X : Cx C l0 own cc nL d Mc Ms K) {post : Option Value → va_W → Prop} {rt : FieldType} {a mc ms : Nat} (r : Rt C (some rt) post mc ms Q K) (hrt : (∃ n, rt = .object n) ∨ ∃ t, rt = .array t) (hp : post (some (.ref a)) ws) (hc : cells ≤ mc) (hs : slots ≤ ms) (hd : decode cc pc = .ok (.areturn, 1)) : G C K Q cells slots pc lv [.ref a] ws := by
  obtain ⟨p, l, e, R, s, m, args, below, meth, c, nL⟩ := K
  obtain ⟨rfl, rfl, hx, hb, hml, hown, hT, hK, hN, hE, hlk, hfl, hfr, hlo, hmc, hms⟩ := X
  obtain ⟨hr, hlift⟩ := r
  intro H locs ls hP hD hS hl
  refine W.widen hc hs ?_
  refine hlift _ _ _ ?_
  exact W.aret hx hb hr hrt (Or.inr ⟨a, rfl⟩) (fun t ht hW => ⟨⟨_, _, rfl, hp, by rw [ht]; exact hP, hD⟩, hS.F ht⟩) hS.2.2 hd
/-- what is fixed of a method that is called -/
def Mth (y : MethodName) (cc : ByteArray) (maxL : Nat) (ret : Option FieldType) (n : Nat) : Prop :=
  Cond.code y cc maxL ret ∈ TW ∧ Cond.initialized y.cls ∈ TW ∧ (y.cls ≠ "java/lang/invoke/MethodHandle" ∧ y.cls ≠ "java/lang/invoke/VarHandle") ∧ (parseMethodDescriptor y.desc).map (fun d => d.parameters.length) = some n ∧ maxL ≤ 60
theorem wh_at {C : WC} {l0 : Launch} {own : String} {cc : ByteArray} {nL d Mc Ms : Nat} {p : Program} {l : Launch} {e : Env} {R : Room} {s : State} {m : MethodId} {args : Array Value} {below : List Frame} {meth : Method} {c : Code} {n : Nat} (X : Cx C l0 own cc nL d Mc Ms (p, l, e, R, s, m, args, below, meth, c, n)) {ws : va_W} {H : Heap} {locs : List Loc} (hP : va_P C.1 vwCl ws H) (hD : va_D (AN C.2.2.1) ws) (hS : va_S (AN C.2.2.1) s.heap H locs) : ∀ U : State, U.heap = H → s.WarmedH U.vm → WH C ws U := by
  obtain ⟨rfl, rfl, hx, hb, hml, hown, hT, hK, hN, hE, hlk, hfl, hfr, hlo, hmc, hms⟩ := X
  intro U hU hW
  refine ⟨?_, by rw [hU]; exact hP, hD, va_K.moved hW.alike hK, hT.warm hW, ?_⟩
  · rw [hU]; exact Nat.le_trans hN hS.1
  · rw [hU]; exact hE.to hW hS.2.1
theorem cb_at {C : WC} {l0 : Launch} {own : String} {cc : ByteArray} {nL d Mc Ms : Nat} {p : Program} {l : Launch} {e : Env} {R : Room} {s : State} {m : MethodId} {args : Array Value} {below : List Frame} {meth : Method} {c : Code} {n : Nat} (X : Cx C l0 own cc nL d Mc Ms (p, l, e, R, s, m, args, below, meth, c, n)) {y : MethodName} {cy : ByteArray} {ml n9 d1 mc ms index : Nat} {ret : Option FieldType} (mt : Mth y cy ml ret n9) (hlink : Cond.methodLink own index y ∈ TW) (hd1 : d1 < d) : CallB R s args own index y cy ml ret [.code y cy ml ret] (RM d1 mc ms) mc ms n9 := by
  obtain ⟨rfl, rfl, hx, hb, hml, hown, hT, hK, hN, hE, hlk, hfl, hfr, hlo, hmc, hms⟩ := X
  obtain ⟨t1, t2, t3, t4, t5⟩ := mt
  refine ⟨rfl, rfl, ?_, ?_, ?_, List.mem_cons_self, hT.at args _ t1, hT.at args _ t2, t3, fun sig h => ?_, hT.at args _ hlink⟩
  · show 10 + 2 * d1 + 1 ≤ R.frames
    omega
  · show 8 + (ml + 11) + (200 + 100 * d1) ≤ R.locals
    omega
  · intro w hw a' U hW
    rw [List.mem_singleton.mp hw]
    exact tw_warm (TWs.ok t1) hW (hT _ t1)
  · rw [h] at t4
    exact (Option.some.inj t4).symm
theorem run_at {C : WC} {Q : State → Prop} {cells slots pc t mc ms : Nat} {lv : List (Nat × Value)} {st rest : List Value} {p : Program} {l : Launch} {e : Env} {R : Room} {s : State} {m : MethodId} {args : Array Value} {below : List Frame} {meth : Method} {c : Code} {n : Nat} {post : Option Value → va_W → Prop} {a : Array Value} {H : Heap} {locs : List Loc} {ls : Array Slot} (hS : va_S (AN C.2.2.1) s.heap H locs) (hl : lv_has ls n lv)
    (hr : va_Run p l e R s m args below meth c H locs cells slots mc ms (F0 m pc ls st) rest (QQ C post a) (AN C.2.2.1)) (hpc : pc + 3 = t)
    (k : ∀ (v : Option Value) (ws1 : va_W), post v ws1 → G C (p, l, e, R, s, m, args, below, meth, c, n) Q (cells + mc) (slots + ms) t lv (v.toList ++ rest) ws1) : W p l e R s m args below meth c H locs cells slots Q (F0 m pc ls st) := by
  subst hpc
  intro T hTH X9
  obtain ⟨v, st₀, t, T', L, h0, X', hL, e1, e2, ⟨⟨v', ws1, hv, hp, hP1, hD1⟩, hz, hk⟩, stp⟩ := hr T hTH X9
  cases hv
  rw [h0] at hz hk
  obtain ⟨t2, a1, b1⟩ := k v ws1 hp T'.heap (locs ++ L) ls (by rw [e1]; exact hP1) hD1 ⟨Nat.le_trans hS.1 (by rw [e1]; exact hz), fun q h1 h2 => by rw [e1, hk q (Nat.lt_of_lt_of_le h1 hS.1) h2]; exact hS.2.1 q h1 h2, fun q hq => by
      rcases List.mem_append.mp hq with h | h
      · exact hS.2.2 q h
      · exact hL q h⟩ hl T' rfl X'
  exact ⟨t2, stp t2 a1, b1⟩
theorem runx_at {C : WC} {Q : State → Prop} {cells slots pc t mc ms : Nat} {lv : List (Nat × Value)} {st rest : List Value} {p : Program} {l : Launch} {e : Env} {R : Room} {s : State} {m : MethodId} {args : Array Value} {below : List Frame} {meth : Method} {c : Code} {n : Nat} {post : Option Value → va_W → Prop} {px : String → va_W → Prop} {a : Array Value} {H : Heap} {locs : List Loc} {ls : Array Slot} (hS : va_S (AN C.2.2.1) s.heap H locs) (hl : lv_has ls n lv)
    (hr : vx_Run p l e R s m args below meth c H locs cells slots mc ms (F0 m pc ls st) rest (QQ C post a) (XX C px) (AN C.2.2.1)) (hpc : pc + 3 = t)
    (k : ∀ (v : Option Value) (ws1 : va_W), post v ws1 → G C (p, l, e, R, s, m, args, below, meth, c, n) Q (cells + mc) (slots + ms) t lv (v.toList ++ rest) ws1)
    (kx : ∀ (E : String) (ws1 : va_W), px E ws1 → GX C (p, l, e, R, s, m, args, below, meth, c, n) Q (cells + mc) (slots + ms) pc lv E ws1) : W p l e R s m args below meth c H locs cells slots Q (F0 m pc ls st) := by
  subst hpc
  intro T hTH X9
  rcases hr T hTH X9 with ⟨v, st₀, t, T', L, h0, X', hL, e1, e2, ⟨⟨v', ws1, hv, hp, hP1, hD1⟩, hz, hk⟩, stp⟩ | ⟨q9, st₀, t, T', L, E, ce, h0, X', hL, e1, e2, ⟨ws1, hp, ⟨hP1, hD1⟩, hz, hk⟩, hce, hcv, hcl, stp⟩
  · cases hv
    rw [h0] at hz hk
    obtain ⟨t2, a1, b1⟩ := k v ws1 hp T'.heap (locs ++ L) ls (by rw [e1]; exact hP1) hD1 ⟨Nat.le_trans hS.1 (by rw [e1]; exact hz), fun q h1 h2 => by rw [e1, hk q (Nat.lt_of_lt_of_le h1 hS.1) h2]; exact hS.2.1 q h1 h2, fun q hq => by
        rcases List.mem_append.mp hq with h | h
        · exact hS.2.2 q h
        · exact hL q h⟩ hl T' rfl X'
    exact ⟨t2, stp t2 a1, b1⟩
  · rw [h0] at hz hk
    obtain ⟨t2, a1, b1⟩ := kx E ws1 hp T'.heap (locs ++ L) ls rest ce q9 (by rw [e1]; exact hP1) hD1 ⟨Nat.le_trans hS.1 (by rw [e1]; exact hz), fun q h1 h2 => by rw [e1, hk q (Nat.lt_of_lt_of_le h1 hS.1) h2]; exact hS.2.1 q h1 h2, fun q hq => by
        rcases List.mem_append.mp hq with h | h
        · exact hS.2.2 q h
        · exact hL q h⟩ hl (by rw [e1]; exact hce) hcv hcl T' rfl X'
    exact ⟨t2, stp.trans a1, b1⟩
theorem g_callV (X : Cx C l0 own cc nL d Mc Ms K) {y : MethodName} {cy : ByteArray} {ml n9 d1 mc ms index : Nat} {ret : Option FieldType} {post : Option Value → va_W → Prop}  {b ci : Nat} {fs : List Value} {T : u_T} {N : Nat} {As rest : List Value} (mt : Mth y cy ml ret n9) (hlink : Cond.methodLink own index y ∈ TW) (hinst : Cond.instanceMethod y ∈ TW) (hsel : Cond.selects y.cls y y ∈ TW) (q0 : Nat) (he : ws[q0]? = some (b, .inr (ci, fs))) (hc : vwCl[ci]? = some (y.cls, T, N)) (hM : MM C l0 y cy ml ret d1 mc ms (.ref b :: As) ws post) (hd1 : d1 < d) (hmc9 : cells + mc ≤ Mc) (hms9 : slots + ms ≤ Ms) (hrm : (rest.map fun v => v.category).sum ≤ 8) (hn9 : As.length = n9) (hst : st = As.reverse ++ .ref b :: rest) (hd : decode cc pc = .ok (.invokevirtual index, 3)) (hpc : pc + 3 = t) (k : ∀ (v : Option Value) (ws1 : va_W), post v ws1 → G C K Q (cells + mc) (slots + ms) t lv (v.toList ++ rest) ws1)  : G C K Q cells slots pc lv st ws := by
  obtain ⟨p, l, e, R, s, m, args, below, meth, c, nL⟩ := K
  have X9 := X
  obtain ⟨rfl, rfl, hx, hb, hml, hown, hT, hK, hN, hE, hlk, hfl, hfr, hlo, hmc, hms⟩ := X
  intro H locs ls hP hD hS hl
  subst hst
  refine run_at hS hl (va_runV (As := As) (b := b) (Ts := TW) ⟨hx, hb, hml, hown, hT.at args⟩ hM ⟨cb_at X9 mt hlink hd1, hT.at args _ hinst, hT.at args _ hsel⟩ ⟨wh_blind, va_recv hK hP hc he, fun U hU hW => ⟨rfl, wh_at X9 hP hD hS U hU hW⟩⟩ rfl hn9 hl.1 rfl (lv_room hrm) hd ⟨Nat.le_trans hmc9 hmc, Nat.le_trans hms9 hms⟩) hpc k
theorem gx_callV (X : Cx C l0 own cc nL d Mc Ms K) {y : MethodName} {cy : ByteArray} {ml n9 d1 mc ms index : Nat} {ret : Option FieldType} {post : Option Value → va_W → Prop} {px : String → va_W → Prop} {b ci : Nat} {fs : List Value} {T : u_T} {N : Nat} {As rest : List Value} (mt : Mth y cy ml ret n9) (hlink : Cond.methodLink own index y ∈ TW) (hinst : Cond.instanceMethod y ∈ TW) (hsel : Cond.selects y.cls y y ∈ TW) (q0 : Nat) (he : ws[q0]? = some (b, .inr (ci, fs))) (hc : vwCl[ci]? = some (y.cls, T, N)) (hM : MX C l0 y cy ml ret d1 mc ms (.ref b :: As) ws post px) (hd1 : d1 < d) (hmc9 : cells + mc ≤ Mc) (hms9 : slots + ms ≤ Ms) (hrm : (rest.map fun v => v.category).sum ≤ 8) (hn9 : As.length = n9) (hst : st = As.reverse ++ .ref b :: rest) (hd : decode cc pc = .ok (.invokevirtual index, 3)) (hpc : pc + 3 = t) (k : ∀ (v : Option Value) (ws1 : va_W), post v ws1 → G C K Q (cells + mc) (slots + ms) t lv (v.toList ++ rest) ws1) (kx : ∀ (E : String) (ws1 : va_W), px E ws1 → GX C K Q (cells + mc) (slots + ms) pc lv E ws1) : G C K Q cells slots pc lv st ws := by
  obtain ⟨p, l, e, R, s, m, args, below, meth, c, nL⟩ := K
  have X9 := X
  obtain ⟨rfl, rfl, hx, hb, hml, hown, hT, hK, hN, hE, hlk, hfl, hfr, hlo, hmc, hms⟩ := X
  intro H locs ls hP hD hS hl
  subst hst
  refine runx_at hS hl (vx_runV (As := As) (b := b) (Ts := TW) ⟨hx, hb, hml, hown, hT.at args⟩ hM ⟨cb_at X9 mt hlink hd1, hT.at args _ hinst, hT.at args _ hsel⟩ ⟨wh_blind, va_recv hK hP hc he, fun U hU hW => ⟨rfl, wh_at X9 hP hD hS U hU hW⟩⟩ rfl hn9 hl.1 rfl (lv_room hrm) hd ⟨Nat.le_trans hmc9 hmc, Nat.le_trans hms9 hms⟩) hpc k kx
theorem g_callS (X : Cx C l0 own cc nL d Mc Ms K) {y : MethodName} {cy : ByteArray} {ml n9 d1 mc ms index : Nat} {ret : Option FieldType} {post : Option Value → va_W → Prop}  {As rest : List Value} (mt : Mth y cy ml ret n9) (hlink : Cond.methodLink own index y ∈ TW) (hstat : Cond.static y ∈ TW) (hM : MM C l0 y cy ml ret d1 mc ms As ws post) (hd1 : d1 < d) (hmc9 : cells + mc ≤ Mc) (hms9 : slots + ms ≤ Ms) (hrm : (rest.map fun v => v.category).sum ≤ 8) (hn9 : As.length = n9) (hst : st = As.reverse ++ rest) (hd : decode cc pc = .ok (.invokestatic index, 3)) (hpc : pc + 3 = t) (k : ∀ (v : Option Value) (ws1 : va_W), post v ws1 → G C K Q (cells + mc) (slots + ms) t lv (v.toList ++ rest) ws1)  : G C K Q cells slots pc lv st ws := by
  obtain ⟨p, l, e, R, s, m, args, below, meth, c, nL⟩ := K
  have X9 := X
  obtain ⟨rfl, rfl, hx, hb, hml, hown, hT, hK, hN, hE, hlk, hfl, hfr, hlo, hmc, hms⟩ := X
  intro H locs ls hP hD hS hl
  subst hst
  refine run_at hS hl (va_runS (As := As) (Ts := TW) ⟨hx, hb, hml, hown, hT.at args⟩ hM ⟨cb_at X9 mt hlink hd1, hT.at args _ hstat⟩ ⟨wh_blind, fun U hU hW => ⟨rfl, wh_at X9 hP hD hS U hU hW⟩⟩ rfl hn9 hl.1 rfl (lv_room hrm) hd ⟨Nat.le_trans hmc9 hmc, Nat.le_trans hms9 hms⟩) hpc k
theorem gx_callS (X : Cx C l0 own cc nL d Mc Ms K) {y : MethodName} {cy : ByteArray} {ml n9 d1 mc ms index : Nat} {ret : Option FieldType} {post : Option Value → va_W → Prop} {px : String → va_W → Prop} {As rest : List Value} (mt : Mth y cy ml ret n9) (hlink : Cond.methodLink own index y ∈ TW) (hstat : Cond.static y ∈ TW) (hM : MX C l0 y cy ml ret d1 mc ms As ws post px) (hd1 : d1 < d) (hmc9 : cells + mc ≤ Mc) (hms9 : slots + ms ≤ Ms) (hrm : (rest.map fun v => v.category).sum ≤ 8) (hn9 : As.length = n9) (hst : st = As.reverse ++ rest) (hd : decode cc pc = .ok (.invokestatic index, 3)) (hpc : pc + 3 = t) (k : ∀ (v : Option Value) (ws1 : va_W), post v ws1 → G C K Q (cells + mc) (slots + ms) t lv (v.toList ++ rest) ws1) (kx : ∀ (E : String) (ws1 : va_W), px E ws1 → GX C K Q (cells + mc) (slots + ms) pc lv E ws1) : G C K Q cells slots pc lv st ws := by
  obtain ⟨p, l, e, R, s, m, args, below, meth, c, nL⟩ := K
  have X9 := X
  obtain ⟨rfl, rfl, hx, hb, hml, hown, hT, hK, hN, hE, hlk, hfl, hfr, hlo, hmc, hms⟩ := X
  intro H locs ls hP hD hS hl
  subst hst
  refine runx_at hS hl (vx_runS (As := As) (Ts := TW) ⟨hx, hb, hml, hown, hT.at args⟩ hM ⟨cb_at X9 mt hlink hd1, hT.at args _ hstat⟩ ⟨wh_blind, fun U hU hW => ⟨rfl, wh_at X9 hP hD hS U hU hW⟩⟩ rfl hn9 hl.1 rfl (lv_room hrm) hd ⟨Nat.le_trans hmc9 hmc, Nat.le_trans hms9 hms⟩) hpc k kx
theorem g_callI (X : Cx C l0 own cc nL d Mc Ms K) {y : MethodName} {cy : ByteArray} {ml n9 d1 mc ms index : Nat} {post : Option Value → va_W → Prop} {b : Nat} {As rest : List Value} (mt : Mth y cy ml none n9) (hlink : Cond.methodLink own index y ∈ TW) (hinst : Cond.instanceMethod y ∈ TW) (hin : y.name = "<init>") (hM : MM C l0 y cy ml none d1 mc ms (.ref b :: As) ws post) (hd1 : d1 < d) (hmc9 : cells + mc ≤ Mc) (hms9 : slots + ms ≤ Ms) (hrm : (rest.map fun v => v.category).sum ≤ 8) (hn9 : As.length = n9) (hst : st = As.reverse ++ .ref b :: rest) (hd : decode cc pc = .ok (.invokespecial index, 3)) (hpc : pc + 3 = t) (k : ∀ (v : Option Value) (ws1 : va_W), post v ws1 → G C K Q (cells + mc) (slots + ms) t lv (v.toList ++ rest) ws1) : G C K Q cells slots pc lv st ws := by
  obtain ⟨p, l, e, R, s, m, args, below, meth, c, nL⟩ := K
  have X9 := X
  obtain ⟨rfl, rfl, hx, hb, hml, hown, hT, hK, hN, hE, hlk, hfl, hfr, hlo, hmc, hms⟩ := X
  intro H locs ls hP hD hS hl
  subst hst
  refine run_at hS hl (va_runI (As := As) (b := b) (Ts := TW) ⟨hx, hb, hml, hown, hT.at args⟩ hM ⟨cb_at X9 mt hlink hd1, hin, hT.at args _ hinst⟩ ⟨wh_blind, fun U hU hW => ⟨rfl, wh_at X9 hP hD hS U hU hW⟩⟩ rfl hn9 hl.1 rfl (lv_room hrm) hd ⟨Nat.le_trans hmc9 hmc, Nat.le_trans hms9 hms⟩) hpc k
end GR
