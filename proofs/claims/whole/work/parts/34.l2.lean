/-- what the law's own frame has beside Cx: the script -/
def Sx (b L : Nat) (xs : Nat → Int32) (N0 : Nat) : GK → Prop
  | (p, l, e, R, s, m, args, below, meth, c, nL) => va_X b L xs s s.heap ∧ b < s.heap.size ∧ b < N0
/-- the script's numbers -/
def sx (xs : Nat → Int32) (z : Int) : Int := (xs z.toNat).toInt
theorem sx_rg (xs : Nat → Int32) (z : Int) : Rg (sx xs z) := iZ_rng _
theorem and15_rng (x : Int32) : ∃ n : Fin 16, x &&& 15 = iZ ((n : Nat) : Int) := by
  have hm : (15 : Int32).toBitVec.toNat = 2 ^ 4 - 1 := by decide
  have h1 : (x &&& 15).toBitVec.toNat = x.toBitVec.toNat % 2 ^ 4 := by rw [Int32.toBitVec_and, BitVec.toNat_and, hm, Nat.and_two_pow_sub_one_eq_mod]
  have h2 : x.toBitVec.toNat % 2 ^ 4 < 16 := Nat.mod_lt _ (by decide)
  refine ⟨⟨x.toBitVec.toNat % 2 ^ 4, h2⟩, ?_⟩
  apply Int32.toBitVec_inj.mp
  apply BitVec.eq_of_toNat_eq
  rw [h1]
  have key : ∀ n : Fin 16, (iZ ((n : Nat) : Int)).toBitVec.toNat = (n : Nat) := by decide +kernel
  exact (key ⟨_, h2⟩).symm
section GW
variable {C : WC} {l0 : Launch} {own : String} {cc : ByteArray} {nL d Mc Ms : Nat} {K : GK} {Q : State → Prop} {cells slots pc t : Nat} {lv lv1 : List (Nat × Value)} {st : List Value} {ws ws1 : va_W} {b L : Nat} {xs : Nat → Int32}
theorem g_sld (X : Cx C l0 own cc nL d Mc Ms K) (hx9 : Sx b L xs C.2.2.1 K) {z : Int} (h0 : 0 ≤ z) (h1 : z < L) (h2 : z < 2147483648) (hd : decode cc pc = .ok (.iaload, 1)) (hpc : pc + 1 = t) (k : G C K Q cells slots t lv (vi (sx xs z) :: st) ws) : G C K Q cells slots pc lv (vi z :: .ref b :: st) ws := by
  obtain ⟨p, l, e, R, s, m, args, below, meth, c, nL⟩ := K
  obtain ⟨rfl, rfl, hx, hb, hml, hown, hT, hK, hN, hE, hlk, hfl, hfr, hlo, hmc, hms⟩ := X
  obtain ⟨y1, y2, y3⟩ := hx9
  subst hpc
  intro H locs ls hP hD hS hl
  exact va_sld hx hb y1 y2 (fun h => by have h9 : C.2.2.1 ≤ b := h; omega) hS (iZ_in h0 h1 h2) hd (by rw [iZ_clamp h0 h2, ← iZ_as (xs z.toNat)]; exact k H locs ls hP hD hS hl)
theorem g_slen (X : Cx C l0 own cc nL d Mc Ms K) (hx9 : Sx b L xs C.2.2.1 K) (hd : decode cc pc = .ok (.arraylength, 1)) (hpc : pc + 1 = t) (k : G C K Q cells slots t lv (vi (L : Int) :: st) ws) : G C K Q cells slots pc lv (.ref b :: st) ws := by
  obtain ⟨p, l, e, R, s, m, args, below, meth, c, nL⟩ := K
  obtain ⟨rfl, rfl, hx, hb, hml, hown, hT, hK, hN, hE, hlk, hfl, hfr, hlo, hmc, hms⟩ := X
  obtain ⟨y1, y2, y3⟩ := hx9
  subst hpc
  intro H locs ls hP hD hS hl
  exact va_slen hx hb y1 y2 (fun h => by have h9 : C.2.2.1 ≤ b := h; omega) hS hd (by rw [iZ_ofNat]; exact k H locs ls hP hD hS hl)
theorem g_iand15 (X : Cx C l0 own cc nL d Mc Ms K) {x : Int32} (hd : decode cc pc = .ok (.iand, 1)) (hpc : pc + 1 = t) (k : ∀ n : Fin 16, G C K Q cells slots t lv (vi ((n : Nat) : Int) :: st) ws) : G C K Q cells slots pc lv (vi 15 :: .int x :: st) ws := by
  obtain ⟨p, l, e, R, s, m, args, below, meth, c, nL⟩ := K
  obtain ⟨rfl, rfl, hx, hb, hml, hown, hT, hK, hN, hE, hlk, hfl, hfr, hlo, hmc, hms⟩ := X
  subst hpc
  intro H locs ls hP hD hS hl
  obtain ⟨n, hn⟩ := and15_rng x
  exact lv_iand hx hb hd (by rw [show iZ 15 = (15 : Int32) by decide, hn]; exact k n H locs ls hP hD hS hl)
theorem g_tin (X : Cx C l0 own cc nL d Mc Ms K) {dflt lo hi off : Int} {offs : Array Int} {len : Nat} {z : Int} (hd : decode cc pc = .ok (.tableswitch dflt lo hi offs, len)) (hz : Rg z) (h1 : lo ≤ z) (h2 : z ≤ hi) (ho : offs[(z - lo).toNat]? = some off) (ht : (pc : Int) + off = (t : Int)) (k : G C K Q cells slots t lv st ws) : G C K Q cells slots pc lv (vi z :: st) ws := by
  obtain ⟨p, l, e, R, s, m, args, below, meth, c, nL⟩ := K
  obtain ⟨rfl, rfl, hx, hb, hml, hown, hT, hK, hN, hE, hlk, hfl, hfr, hlo, hmc, hms⟩ := X
  intro H locs ls hP hD hS hl
  exact lv_tableIn hx hb hd (by rw [iZ_to hz.1 hz.2]; omega) (by rw [iZ_to hz.1 hz.2]; omega) (by rw [iZ_to hz.1 hz.2]; exact ho) ht (k H locs ls hP hD hS hl)
theorem g_tout (X : Cx C l0 own cc nL d Mc Ms K) {dflt lo hi : Int} {offs : Array Int} {len : Nat} {z : Int} (hd : decode cc pc = .ok (.tableswitch dflt lo hi offs, len)) (hz : Rg z) (h1 : z < lo ∨ hi < z) (ht : (pc : Int) + dflt = (t : Int)) (k : G C K Q cells slots t lv st ws) : G C K Q cells slots pc lv (vi z :: st) ws := by
  obtain ⟨p, l, e, R, s, m, args, below, meth, c, nL⟩ := K
  obtain ⟨rfl, rfl, hx, hb, hml, hown, hT, hK, hN, hE, hlk, hfl, hfr, hlo, hmc, hms⟩ := X
  intro H locs ls hP hD hS hl
  exact lv_tableOut hx hb hd (by rw [iZ_to hz.1 hz.2]; exact h1) ht (k H locs ls hP hD hS hl)
theorem g_lcmp0 (X : Cx C l0 own cc nL d Mc Ms K) {x y : Int64} (he : x = y) (hd : decode cc pc = .ok (.lcmp, 1)) (hpc : pc + 1 = t) (k : G C K Q cells slots t lv (vi 0 :: st) ws) : G C K Q cells slots pc lv (.long y :: .long x :: st) ws := by
  obtain ⟨p, l, e, R, s, m, args, below, meth, c, nL⟩ := K
  obtain ⟨rfl, rfl, hx, hb, hml, hown, hT, hK, hN, hE, hlk, hfl, hfr, hlo, hmc, hms⟩ := X
  subst hpc
  subst he
  intro H locs ls hP hD hS hl
  exact W.lcmp hx hb hd (by rw [show lg_cmp x x = iZ 0 by unfold lg_cmp; simp; rfl]; exact k H locs ls hP hD hS hl)
/-- a new row of one long -/
theorem g_newa_l (X : Cx C l0 own cc nL d Mc Ms K) (hcl : cells + 1 ≤ Mc) (hsl : slots + 1 ≤ Ms) (hd : decode cc pc = .ok (.newarray .long, 2)) (hpc : pc + 2 = t) (k : ∀ q : Nat, G C K Q (cells + 1) (slots + 1) t lv (.ref q :: st) (ws ++ [(q, aL C (fun _ => 0))])) : G C K Q cells slots pc lv (vi 1 :: st) ws := by
  obtain ⟨p, l, e, R, s, m, args, below, meth, c, nL⟩ := K
  obtain ⟨rfl, rfl, hx, hb, hml, hown, hT, hK, hN, hE, hlk, hfl, hfr, hlo, hmc, hms⟩ := X
  subst hpc
  intro H locs ls hP hD hS hl
  exact va_newa (atype := .long) (ty := .long) (N' := 1) (a0 := (1, .inr (.inl (fun _ => 0)))) hx hb (hT.at args _ q5_214) rfl hK hP hD hS (AN_le hN) (fun _ => rfl) (iZ_nn (by omega) (by omega)) (by rw [iZ_clamp (by omega) (by omega)]; rfl) (by decide) (Nat.le_trans hcl hmc) (Nat.le_trans hsl hms) hd (fun q cA H1 hK2 hP hD hS => by
    have e := K_long hK hK2
    subst e
    exact k q H1 locs ls hP hD hS hl)
/-- a call of a static method with handlers -/
theorem g_callW (X : Cx C l0 own cc nL d Mc Ms K) {y : MethodName} {cy : ByteArray} {ml n9 d1 mc ms index : Nat} {ret : Option FieldType} {hh : List (Nat × Nat × Nat × Nat)} {post : Option Value → va_W → Prop} {As rest : List Value} (hcw : Cond.codeWith y cy ml ret hh ∈ TW) (hini : Cond.initialized y.cls ∈ TW) (hmh : y.cls ≠ "java/lang/invoke/MethodHandle" ∧ y.cls ≠ "java/lang/invoke/VarHandle") (hn8 : (parseMethodDescriptor y.desc).map (fun d => d.parameters.length) = some n9) (hml9 : ml ≤ 60) (hlink : Cond.methodLink own index y ∈ TW) (hstat : Cond.static y ∈ TW) (hM : MH C l0 y cy ml ret hh d1 mc ms As ws post) (hd1 : d1 < d) (hmc9 : cells + mc ≤ Mc) (hms9 : slots + ms ≤ Ms) (hrm : (rest.map fun v => v.category).sum ≤ 8) (hn9 : As.length = n9) (hst : st = As.reverse ++ rest) (hd : decode cc pc = .ok (.invokestatic index, 3)) (hpc : pc + 3 = t) (k : ∀ (v : Option Value) (ws1 : va_W), post v ws1 → G C K Q (cells + mc) (slots + ms) t lv (v.toList ++ rest) ws1) : G C K Q cells slots pc lv st ws := by
  obtain ⟨p, l, e, R, s, m, args, below, meth, c, nL⟩ := K
  have X9 := X
  obtain ⟨rfl, rfl, hx, hb, hml, hown, hT, hK, hN, hE, hlk, hfl, hfr, hlo, hmc, hms⟩ := X
  intro H locs ls hP hD hS hl
  subst hst
  refine run_at hS hl (vx_runSW (As := As) (Ts := TW) ⟨hx, hb, hml, hown, hT.at args⟩ hM ⟨⟨rfl, rfl, by show 10 + 2 * d1 + 1 ≤ R.frames; omega, by show 8 + (ml + 11) + (200 + 100 * d1) ≤ R.locals; omega, fun w hw a' U hW => by rw [List.mem_singleton.mp hw]; exact tw_warm (TWs.ok hcw) hW (hT _ hcw), List.mem_cons_self⟩, hT.at args _ hcw, hT.at args _ hini, hmh, fun sig h => by rw [h] at hn8; exact (Option.some.inj hn8).symm, hT.at args _ hlink, hT.at args _ hstat⟩ ⟨wh_blind, fun U hU hW => ⟨rfl, wh_at X9 hP hD hS U hU hW⟩⟩ rfl hn9 hl.1 rfl (lv_room hrm) hd ⟨Nat.le_trans hmc9 hmc, Nat.le_trans hms9 hms⟩) hpc k
end GW
/-- the law's world -/
def lwW (C : WC) (am : Nat → Nat) (ao : Nat) (ad : Nat → Nat) (B : BT) (E : Int × Nat) (F : Int × Nat × Nat) (S Y : Nat → Int → Int) (gs : Int → Int) (cap : Nat) (g : Nat → Int64) (Y1 V1 : Nat → Int → Int) (W : Int → Int) (th : Int) : va_W := WW C ad B E F S Y gs (elW C ad E cap (Y 10 0) ++ ((ao, aL C g) :: wM C am Y1 V1 W th))
/-- the component's part of it -/
def lwC (C : WC) (ao : Nat) (ad : Nat → Nat) (B : BT) (E : Int × Nat) (F : Int × Nat × Nat) (S Y : Nat → Int → Int) (gs : Int → Int) (cap : Nat) (g : Nat → Int64) : va_W := WW C ad B E F S Y gs (elW C ad E cap (Y 10 0) ++ [(ao, aL C g)])
section LWs
variable {C : WC} {ad am : Nat → Nat} {ao : Nat} {B : BT} {E : Int × Nat} {F : Int × Nat × Nat} {S Y : Nat → Int → Int} {gs : Int → Int} {cap : Nat} {g : Nat → Int64} {Y1 V1 : Nat → Int → Int} {W : Int → Int} {th : Int}
theorem lwW_eq : lwW C am ao ad B E F S Y gs cap g Y1 V1 W th = lwC C ao ad B E F S Y gs cap g ++ wM C am Y1 V1 W th := by
  unfold lwW lwC
  rw [WW_app]
  simp [List.append_assoc]
theorem lw_pm : List.Perm (wM C am Y1 V1 W th ++ lwC C ao ad B E F S Y gs cap g) (lwW C am ao ad B E F S Y gs cap g Y1 V1 W th) := by
  rw [lwW_eq]
  exact List.perm_append_comm
theorem lw_pm2 : List.Perm (lwW C am ao ad B E F S Y gs cap g Y1 V1 W th) (wM C am Y1 V1 W th ++ lwC C ao ad B E F S Y gs cap g) := lw_pm.symm
theorem lw_out : ∃ k : Nat, (lwW C am ao ad B E F S Y gs cap g Y1 V1 W th)[k]? = some (ao, aL C g) := ⟨_, out_at⟩
end LWs
