theorem tx_I : ∀ w ∈ vx_atS "Springleaf" 161 "java/lang/IndexOutOfBoundsException" ["java/lang/RuntimeException", "java/lang/Exception"], w ∈ TW := by
  intro w hw
  obtain ⟨h1, h2⟩ := List.mem_filter.mp hw
  revert h2
  revert w
  intro w _ h1
  revert w
  have key : ∀ w ∈ Bundle.ownAtoms "Springleaf" 161 "java/lang/IndexOutOfBoundsException" ["java/lang/RuntimeException", "java/lang/Exception"], vx_no w = true → w ∈ TW := by
    show ∀ w ∈ ((Bundle.throwableAtoms ++ Bundle.throwableSAtoms) ++ (Bundle.passSAtoms "java/lang/IndexOutOfBoundsException" "java/lang/RuntimeException" 7 _ ++ (Bundle.passSAtoms "java/lang/RuntimeException" "java/lang/Exception" 7 _ ++ Bundle.passSAtoms "java/lang/Exception" Bundle.tN 7 _))) ++ _, _
    exact List.forall_mem_append.mpr ⟨List.forall_mem_append.mpr ⟨List.forall_mem_append.mpr ⟨(List.forall_mem_cons.mpr ⟨fun _ => q1_15, List.forall_mem_cons.mpr ⟨fun _ => q2_119, List.forall_mem_cons.mpr ⟨fun _ => q2_128, List.forall_mem_cons.mpr ⟨fun _ => q2_134, List.forall_mem_cons.mpr ⟨fun _ => q2_137, List.forall_mem_cons.mpr ⟨fun _ => q2_139, List.forall_mem_cons.mpr ⟨fun _ => q2_120, List.forall_mem_cons.mpr ⟨fun _ => q2_121, List.forall_mem_cons.mpr ⟨fun _ => q1_35, List.forall_mem_cons.mpr ⟨fun _ => q1_36, List.forall_mem_cons.mpr ⟨fun _ => q2_122, List.forall_mem_cons.mpr ⟨fun _ => q2_127, List.forall_mem_cons.mpr ⟨fun _ => q2_135, List.forall_mem_cons.mpr ⟨fun _ => q2_155, List.forall_mem_cons.mpr ⟨fun _ => q2_109, List.forall_mem_cons.mpr ⟨fun _ => q2_156, List.forall_mem_cons.mpr ⟨fun _ => q2_111, List.forall_mem_cons.mpr ⟨fun _ => q2_157, List.forall_mem_cons.mpr ⟨fun _ => q2_113, List.forall_mem_cons.mpr ⟨fun _ => q2_123, List.forall_mem_cons.mpr ⟨fun h => absurd h (by decide +kernel), List.forall_mem_cons.mpr ⟨fun _ => q2_125, List.forall_mem_cons.mpr ⟨fun h => absurd h (by decide +kernel), List.forall_mem_cons.mpr ⟨fun _ => q2_115, fun _ h => nomatch h⟩⟩⟩⟩⟩⟩⟩⟩⟩⟩⟩⟩⟩⟩⟩⟩⟩⟩⟩⟩⟩⟩⟩⟩), (List.forall_mem_cons.mpr ⟨fun _ => q2_151, List.forall_mem_cons.mpr ⟨fun _ => q2_152, List.forall_mem_cons.mpr ⟨fun _ => q2_154, List.forall_mem_cons.mpr ⟨fun _ => q2_115, fun _ h => nomatch h⟩⟩⟩⟩)⟩, List.forall_mem_append.mpr ⟨(List.forall_mem_cons.mpr ⟨fun _ => q2_142, List.forall_mem_cons.mpr ⟨fun _ => q2_143, List.forall_mem_cons.mpr ⟨fun _ => q2_144, List.forall_mem_cons.mpr ⟨fun _ => q2_145, List.forall_mem_cons.mpr ⟨fun _ => q2_101, fun _ h => nomatch h⟩⟩⟩⟩⟩), List.forall_mem_append.mpr ⟨(List.forall_mem_cons.mpr ⟨fun _ => q2_145, List.forall_mem_cons.mpr ⟨fun _ => q2_146, List.forall_mem_cons.mpr ⟨fun _ => q2_147, List.forall_mem_cons.mpr ⟨fun _ => q2_148, List.forall_mem_cons.mpr ⟨fun _ => q2_103, fun _ h => nomatch h⟩⟩⟩⟩⟩), (List.forall_mem_cons.mpr ⟨fun _ => q2_148, List.forall_mem_cons.mpr ⟨fun _ => q2_149, List.forall_mem_cons.mpr ⟨fun _ => q2_150, List.forall_mem_cons.mpr ⟨fun _ => q2_151, List.forall_mem_cons.mpr ⟨fun _ => q2_105, fun _ h => nomatch h⟩⟩⟩⟩⟩)⟩⟩⟩, (List.forall_mem_cons.mpr ⟨fun _ => q2_141, List.forall_mem_cons.mpr ⟨fun _ => q2_98, List.forall_mem_cons.mpr ⟨fun _ => q2_99, List.forall_mem_cons.mpr ⟨fun _ => q2_106, List.forall_mem_cons.mpr ⟨fun _ => q2_107, List.forall_mem_cons.mpr ⟨fun _ => q2_108, List.forall_mem_cons.mpr ⟨fun _ => q2_110, List.forall_mem_cons.mpr ⟨fun _ => q2_112, List.forall_mem_cons.mpr ⟨fun _ => q2_114, List.forall_mem_cons.mpr ⟨fun h => absurd h (by decide +kernel), List.forall_mem_cons.mpr ⟨fun h => absurd h (by decide +kernel), List.forall_mem_cons.mpr ⟨fun _ => q2_118, List.forall_mem_cons.mpr ⟨fun _ => q2_117, List.forall_mem_cons.mpr ⟨fun _ => q2_116, fun _ h => nomatch h⟩⟩⟩⟩⟩⟩⟩⟩⟩⟩⟩⟩⟩⟩)⟩
  intro w _ h1 h2
  exact key w h1 h2
theorem tx_A : ∀ w ∈ vx_atS "Springleaf" 47 "java/lang/IllegalArgumentException" ["java/lang/RuntimeException", "java/lang/Exception"], w ∈ TW := by
  intro w hw
  obtain ⟨h1, h2⟩ := List.mem_filter.mp hw
  revert h2
  revert w
  intro w _ h1
  revert w
  have key : ∀ w ∈ Bundle.ownAtoms "Springleaf" 47 "java/lang/IllegalArgumentException" ["java/lang/RuntimeException", "java/lang/Exception"], vx_no w = true → w ∈ TW := by
    show ∀ w ∈ ((Bundle.throwableAtoms ++ Bundle.throwableSAtoms) ++ (Bundle.passSAtoms "java/lang/IllegalArgumentException" "java/lang/RuntimeException" 7 _ ++ (Bundle.passSAtoms "java/lang/RuntimeException" "java/lang/Exception" 7 _ ++ Bundle.passSAtoms "java/lang/Exception" Bundle.tN 7 _))) ++ _, _
    exact List.forall_mem_append.mpr ⟨List.forall_mem_append.mpr ⟨List.forall_mem_append.mpr ⟨(List.forall_mem_cons.mpr ⟨fun _ => q1_15, List.forall_mem_cons.mpr ⟨fun _ => q2_119, List.forall_mem_cons.mpr ⟨fun _ => q2_128, List.forall_mem_cons.mpr ⟨fun _ => q2_134, List.forall_mem_cons.mpr ⟨fun _ => q2_137, List.forall_mem_cons.mpr ⟨fun _ => q2_139, List.forall_mem_cons.mpr ⟨fun _ => q2_120, List.forall_mem_cons.mpr ⟨fun _ => q2_121, List.forall_mem_cons.mpr ⟨fun _ => q1_35, List.forall_mem_cons.mpr ⟨fun _ => q1_36, List.forall_mem_cons.mpr ⟨fun _ => q2_122, List.forall_mem_cons.mpr ⟨fun _ => q2_127, List.forall_mem_cons.mpr ⟨fun _ => q2_135, List.forall_mem_cons.mpr ⟨fun _ => q2_155, List.forall_mem_cons.mpr ⟨fun _ => q2_109, List.forall_mem_cons.mpr ⟨fun _ => q2_156, List.forall_mem_cons.mpr ⟨fun _ => q2_111, List.forall_mem_cons.mpr ⟨fun _ => q2_157, List.forall_mem_cons.mpr ⟨fun _ => q2_113, List.forall_mem_cons.mpr ⟨fun _ => q2_123, List.forall_mem_cons.mpr ⟨fun h => absurd h (by decide +kernel), List.forall_mem_cons.mpr ⟨fun _ => q2_125, List.forall_mem_cons.mpr ⟨fun h => absurd h (by decide +kernel), List.forall_mem_cons.mpr ⟨fun _ => q2_115, fun _ h => nomatch h⟩⟩⟩⟩⟩⟩⟩⟩⟩⟩⟩⟩⟩⟩⟩⟩⟩⟩⟩⟩⟩⟩⟩⟩), (List.forall_mem_cons.mpr ⟨fun _ => q2_151, List.forall_mem_cons.mpr ⟨fun _ => q2_152, List.forall_mem_cons.mpr ⟨fun _ => q2_154, List.forall_mem_cons.mpr ⟨fun _ => q2_115, fun _ h => nomatch h⟩⟩⟩⟩)⟩, List.forall_mem_append.mpr ⟨(List.forall_mem_cons.mpr ⟨fun _ => q2_177, List.forall_mem_cons.mpr ⟨fun _ => q2_178, List.forall_mem_cons.mpr ⟨fun _ => q2_179, List.forall_mem_cons.mpr ⟨fun _ => q2_145, List.forall_mem_cons.mpr ⟨fun _ => q2_101, fun _ h => nomatch h⟩⟩⟩⟩⟩), List.forall_mem_append.mpr ⟨(List.forall_mem_cons.mpr ⟨fun _ => q2_145, List.forall_mem_cons.mpr ⟨fun _ => q2_146, List.forall_mem_cons.mpr ⟨fun _ => q2_147, List.forall_mem_cons.mpr ⟨fun _ => q2_148, List.forall_mem_cons.mpr ⟨fun _ => q2_103, fun _ h => nomatch h⟩⟩⟩⟩⟩), (List.forall_mem_cons.mpr ⟨fun _ => q2_148, List.forall_mem_cons.mpr ⟨fun _ => q2_149, List.forall_mem_cons.mpr ⟨fun _ => q2_150, List.forall_mem_cons.mpr ⟨fun _ => q2_151, List.forall_mem_cons.mpr ⟨fun _ => q2_105, fun _ h => nomatch h⟩⟩⟩⟩⟩)⟩⟩⟩, (List.forall_mem_cons.mpr ⟨fun _ => q2_176, List.forall_mem_cons.mpr ⟨fun _ => q2_167, List.forall_mem_cons.mpr ⟨fun _ => q2_168, List.forall_mem_cons.mpr ⟨fun _ => q2_169, List.forall_mem_cons.mpr ⟨fun _ => q2_131, List.forall_mem_cons.mpr ⟨fun _ => q2_170, List.forall_mem_cons.mpr ⟨fun _ => q2_171, List.forall_mem_cons.mpr ⟨fun _ => q2_172, List.forall_mem_cons.mpr ⟨fun _ => q2_173, List.forall_mem_cons.mpr ⟨fun h => absurd h (by decide +kernel), List.forall_mem_cons.mpr ⟨fun h => absurd h (by decide +kernel), List.forall_mem_cons.mpr ⟨fun _ => q2_118, List.forall_mem_cons.mpr ⟨fun _ => q2_117, List.forall_mem_cons.mpr ⟨fun _ => q2_174, fun _ h => nomatch h⟩⟩⟩⟩⟩⟩⟩⟩⟩⟩⟩⟩⟩⟩)⟩
  intro w _ h1 h2
  exact key w h1 h2
theorem tx_S : ∀ w ∈ vx_atS "Springleaf" 62 "java/lang/IllegalStateException" ["java/lang/RuntimeException", "java/lang/Exception"], w ∈ TW := by
  intro w hw
  obtain ⟨h1, h2⟩ := List.mem_filter.mp hw
  revert h2
  revert w
  intro w _ h1
  revert w
  have key : ∀ w ∈ Bundle.ownAtoms "Springleaf" 62 "java/lang/IllegalStateException" ["java/lang/RuntimeException", "java/lang/Exception"], vx_no w = true → w ∈ TW := by
    show ∀ w ∈ ((Bundle.throwableAtoms ++ Bundle.throwableSAtoms) ++ (Bundle.passSAtoms "java/lang/IllegalStateException" "java/lang/RuntimeException" 7 _ ++ (Bundle.passSAtoms "java/lang/RuntimeException" "java/lang/Exception" 7 _ ++ Bundle.passSAtoms "java/lang/Exception" Bundle.tN 7 _))) ++ _, _
    exact List.forall_mem_append.mpr ⟨List.forall_mem_append.mpr ⟨List.forall_mem_append.mpr ⟨(List.forall_mem_cons.mpr ⟨fun _ => q1_15, List.forall_mem_cons.mpr ⟨fun _ => q2_119, List.forall_mem_cons.mpr ⟨fun _ => q2_128, List.forall_mem_cons.mpr ⟨fun _ => q2_134, List.forall_mem_cons.mpr ⟨fun _ => q2_137, List.forall_mem_cons.mpr ⟨fun _ => q2_139, List.forall_mem_cons.mpr ⟨fun _ => q2_120, List.forall_mem_cons.mpr ⟨fun _ => q2_121, List.forall_mem_cons.mpr ⟨fun _ => q1_35, List.forall_mem_cons.mpr ⟨fun _ => q1_36, List.forall_mem_cons.mpr ⟨fun _ => q2_122, List.forall_mem_cons.mpr ⟨fun _ => q2_127, List.forall_mem_cons.mpr ⟨fun _ => q2_135, List.forall_mem_cons.mpr ⟨fun _ => q2_155, List.forall_mem_cons.mpr ⟨fun _ => q2_109, List.forall_mem_cons.mpr ⟨fun _ => q2_156, List.forall_mem_cons.mpr ⟨fun _ => q2_111, List.forall_mem_cons.mpr ⟨fun _ => q2_157, List.forall_mem_cons.mpr ⟨fun _ => q2_113, List.forall_mem_cons.mpr ⟨fun _ => q2_123, List.forall_mem_cons.mpr ⟨fun h => absurd h (by decide +kernel), List.forall_mem_cons.mpr ⟨fun _ => q2_125, List.forall_mem_cons.mpr ⟨fun h => absurd h (by decide +kernel), List.forall_mem_cons.mpr ⟨fun _ => q2_115, fun _ h => nomatch h⟩⟩⟩⟩⟩⟩⟩⟩⟩⟩⟩⟩⟩⟩⟩⟩⟩⟩⟩⟩⟩⟩⟩⟩), (List.forall_mem_cons.mpr ⟨fun _ => q2_151, List.forall_mem_cons.mpr ⟨fun _ => q2_152, List.forall_mem_cons.mpr ⟨fun _ => q2_154, List.forall_mem_cons.mpr ⟨fun _ => q2_115, fun _ h => nomatch h⟩⟩⟩⟩)⟩, List.forall_mem_append.mpr ⟨(List.forall_mem_cons.mpr ⟨fun _ => q2_194, List.forall_mem_cons.mpr ⟨fun _ => q2_195, List.forall_mem_cons.mpr ⟨fun _ => q2_196, List.forall_mem_cons.mpr ⟨fun _ => q2_145, List.forall_mem_cons.mpr ⟨fun _ => q2_101, fun _ h => nomatch h⟩⟩⟩⟩⟩), List.forall_mem_append.mpr ⟨(List.forall_mem_cons.mpr ⟨fun _ => q2_145, List.forall_mem_cons.mpr ⟨fun _ => q2_146, List.forall_mem_cons.mpr ⟨fun _ => q2_147, List.forall_mem_cons.mpr ⟨fun _ => q2_148, List.forall_mem_cons.mpr ⟨fun _ => q2_103, fun _ h => nomatch h⟩⟩⟩⟩⟩), (List.forall_mem_cons.mpr ⟨fun _ => q2_148, List.forall_mem_cons.mpr ⟨fun _ => q2_149, List.forall_mem_cons.mpr ⟨fun _ => q2_150, List.forall_mem_cons.mpr ⟨fun _ => q2_151, List.forall_mem_cons.mpr ⟨fun _ => q2_105, fun _ h => nomatch h⟩⟩⟩⟩⟩)⟩⟩⟩, (List.forall_mem_cons.mpr ⟨fun _ => q2_193, List.forall_mem_cons.mpr ⟨fun _ => q2_184, List.forall_mem_cons.mpr ⟨fun _ => q2_185, List.forall_mem_cons.mpr ⟨fun _ => q2_186, List.forall_mem_cons.mpr ⟨fun _ => q2_132, List.forall_mem_cons.mpr ⟨fun _ => q2_187, List.forall_mem_cons.mpr ⟨fun _ => q2_188, List.forall_mem_cons.mpr ⟨fun _ => q2_189, List.forall_mem_cons.mpr ⟨fun _ => q2_190, List.forall_mem_cons.mpr ⟨fun h => absurd h (by decide +kernel), List.forall_mem_cons.mpr ⟨fun h => absurd h (by decide +kernel), List.forall_mem_cons.mpr ⟨fun _ => q2_118, List.forall_mem_cons.mpr ⟨fun _ => q2_117, List.forall_mem_cons.mpr ⟨fun _ => q2_191, fun _ h => nomatch h⟩⟩⟩⟩⟩⟩⟩⟩⟩⟩⟩⟩⟩⟩)⟩
  intro w _ h1 h2
  exact key w h1 h2
theorem tw_ot {w : Cond} (h : w ∈ TW) : vx_ot w = true := by
  have h2 := TWs.ok h
  unfold tw_ok at h2
  unfold vx_ot
  rcases (Bool.or_eq_true _ _).mp h2 with h | h
  · rw [h]; exact Bool.or_true _
  · simp only [Bool.and_eq_true] at h
    rw [h.1]; rfl
section GT
variable {C : WC} {l0 : Launch} {own : String} {cc : ByteArray} {nL d Mc Ms : Nat} {K : GK} {Q : State → Prop} {cells slots pc t : Nat} {lv lv1 : List (Nat × Value)} {st : List Value} {ws ws1 : va_W}
theorem g_throw (X : Cx C l0 own cc nL d Mc Ms K) {px : String → va_W → Prop} {mc ms : Nat} (rx : Rx C px mc ms Q K) {cls text : String} {ik is ic : Nat} (hown9 : own = "Springleaf") (hcls : Bundle.fit cls = true) (hk : Cond.classLink own ik cls ∈ TW) (hini : Cond.initialized cls ∈ TW) (hz : ("Springleaf", is, text) ∈ SL) (hat : ∀ w ∈ vx_atS "Springleaf" ic cls ["java/lang/RuntimeException", "java/lang/Exception"], w ∈ TW)
    (d0 : decode cc pc = .ok (.new ik, 3)) (d3 : decode cc (pc + 3) = .ok (.dup, 1)) (d4 : decode cc (pc + 4) = .ok (.ldc is, 2)) (d6 : decode cc (pc + 6) = .ok (.invokespecial ic, 3)) (d9 : decode cc (pc + 9) = .ok (.athrow, 1)) (hrm : (st.map fun v => v.category).sum ≤ 8) (hd : 1 ≤ d) (hcl : cells + 1 ≤ Mc) (hsl : slots + 6 ≤ Ms) (hc : cells + 1 ≤ mc) (hs : slots + 6 ≤ ms) (hp : px cls ws) : G C K Q cells slots pc lv st ws := by
  obtain ⟨p, l, e, R, s, m, args, below, meth, c, nL⟩ := K
  obtain ⟨rfl, rfl, hx, hb, hml, hown, hT, hK, hN, hE, hlk, hfl, hfr, hlo, hmc, hms⟩ := X
  obtain ⟨⟨Qc, rfl⟩, hno⟩ := rx
  subst hown9
  intro H locs ls hP hD hS hl
  obtain ⟨sa, hsa⟩ := hE.2.2.2.2.2.1 _ hz
  refine vx_throwS (names := ["java/lang/RuntimeException", "java/lang/Exception"]) (A := AN C.2.2.1) hx hb hfl hown hcls (by decide +kernel) (hT.at args _ hk) (hT.at args _ hini) hsa (fun w hw => hT.at args _ (hat w hw)) (fun w hw => ?_) hE.1.1 hE.1.2 hS (hl.1.trans hml.symm) d0 d3 d4 d6 d9 (fun x hx => (hno x hx).elim) (by show 2 + 3 < R.frames; omega) (by show _ + (13 * (2 + 1) + 43) ≤ R.locals; omega) (Nat.le_trans hcl hmc) (Nat.le_trans hsl hms) hlk (fun t9 hv hz hq => ?_) hS.2.2 hc hs
  · rcases List.mem_cons.mp hw with rfl | hw
    · exact tw_ot hk
    · rcases List.mem_cons.mp hw with rfl | hw
      · exact tw_ot hini
      · exact tw_ot (hat w hw)
  · exact ⟨ws, hp, ⟨hP.kept (fun k q hk => hq q.1 ((hP k q hk).lt)), hD⟩, ⟨Nat.le_trans hS.1 hz, fun q h1 h2 => (hq q (Nat.lt_of_lt_of_le h1 hS.1)).trans (hS.2.1 q h1 h2)⟩⟩
/-- an exception that goes on to the caller -/
theorem g_prop (X : Cx C l0 own cc nL d Mc Ms K) {px : String → va_W → Prop} {mc ms : Nat} (rx : Rx C px mc ms Q K) {E : String} (hc : cells ≤ mc) (hs : slots ≤ ms) (hp : px E ws) : GX C K Q cells slots pc lv E ws := by
  obtain ⟨p, l, e, R, s, m, args, below, meth, c, nL⟩ := K
  obtain ⟨rfl, rfl, hx, hb, hml, hown, hT, hK, hN, hE, hlk, hfl, hfr, hlo, hmc, hms⟩ := X
  obtain ⟨⟨Qc, rfl⟩, hno⟩ := rx
  intro H locs ls st ce q hP hD hS hl hce hv hcl
  exact vx_out (fun x hx => (hno x hx).elim) hlk hce hv hcl (fun t9 ht hvm => ⟨ws, hp, ⟨by rw [ht]; exact hP, hD⟩, hS.F ht⟩) hS.2.2 hc hs
end GT
set_option maxHeartbeats 4000000 in
set_option maxRecDepth 100000 in
/-- isOutside(value, least, most) -/
theorem c_X4_isOutside {C : WC} {l : Launch} (hfl : l.stackTraces = false) {ws : va_W} {x a b : Int}  (hx : Rg x) (ha : Rg a) (hb : Rg b) : MM C l yX4_isOutside cX4_isOutside 3 (some .boolean) 0 0 0 [vi x, vi a, vi b] ws (rb (¬ (a ≤ x ∧ x ≤ b)) ws) := by
  refine mm_of (by decide +kernel) (Nat.le_of_ble_eq_true rfl) hfl (fun K Q X r => ?_)
  have X : Cx C l "Springleaf" cX4_isOutside 3 0 0 0 K := X
  obtain ⟨x1, x2⟩ := hx
  obtain ⟨a1, a2⟩ := ha
  obtain ⟨b1, b2⟩ := hb
  show G C K Q 0 0 0 [(0, vi x), (1, vi a), (2, vi b)] [] ws
  refine g_iload_n (t := 1) X dX4_isOutside_0 0 rfl rfl ?_
  refine g_iload_n (t := 2) X dX4_isOutside_1 1 rfl rfl ?_
  refine g_icmp_lt (t := 10) (u := 5) X dX4_isOutside_2 (by decide) rfl ⟨by omega, by omega⟩ ⟨by omega, by omega⟩ (fun c_2 => ?_) (fun c_2 => ?_)
  · refine g_iconst (t := 11) X dX4_isOutside_10 rfl ?_
    refine g_goto (t := 15) X dX4_isOutside_11 (by decide) ?_
    exact g_zret X r rfl (rb_t (by omega)) (Nat.le_of_ble_eq_true rfl) (Nat.le_of_ble_eq_true rfl) dX4_isOutside_15
  · refine g_iload_n (t := 6) X dX4_isOutside_5 0 rfl rfl ?_
    refine g_iload_n (t := 7) X dX4_isOutside_6 2 rfl rfl ?_
    refine g_icmp_le (t := 14) (u := 10) X dX4_isOutside_7 (by decide) rfl ⟨by omega, by omega⟩ ⟨by omega, by omega⟩ (fun c_7 => ?_) (fun c_7 => ?_)
    · refine g_iconst (t := 15) X dX4_isOutside_14 rfl ?_
      exact g_zret X r rfl (rb_f (by omega)) (Nat.le_of_ble_eq_true rfl) (Nat.le_of_ble_eq_true rfl) dX4_isOutside_15
    · refine g_iconst (t := 11) X dX4_isOutside_10 rfl ?_
      refine g_goto (t := 15) X dX4_isOutside_11 (by decide) ?_
      exact g_zret X r rfl (rb_t (by omega)) (Nat.le_of_ble_eq_true rfl) (Nat.le_of_ble_eq_true rfl) dX4_isOutside_15

/-- a check: it returns where P holds, and throws E where not -/
def ck (P : Prop) (w0 : va_W) : Option Value → va_W → Prop := fun v w => P ∧ v = none ∧ w = w0
def cx (P : Prop) (E : String) (w0 : va_W) : String → va_W → Prop := fun e w => ¬ P ∧ e = E ∧ w = w0
section GT2
variable {C : WC} {K : GK} {Q : State → Prop} {cells slots t pc : Nat} {lv : List (Nat × Value)} {rest : List Value} {w0 : va_W} {P : Prop} {E : String}
theorem k_ck (h : P → G C K Q cells slots t lv rest w0) : ∀ (v : Option Value) (ws1 : va_W), ck P w0 v ws1 → G C K Q cells slots t lv (v.toList ++ rest) ws1 := by
  rintro _ _ ⟨hp, rfl, rfl⟩; exact h hp
theorem k_cx (h : ¬ P → GX C K Q cells slots pc lv E w0) : ∀ (e : String) (ws1 : va_W), cx P E w0 e ws1 → GX C K Q cells slots pc lv e ws1 := by
  rintro _ _ ⟨hp, rfl, rfl⟩; exact h hp
end GT2
set_option maxHeartbeats 4000000 in
set_option maxRecDepth 100000 in
/-- requireFold(number) -/
theorem c_X4_requireFold {C : WC} {l : Launch} (hfl : l.stackTraces = false) {ad : Nat → Nat} {B : BT} {E : Int × Nat} {F : Int × Nat × Nat} {S Y : Nat → Int → Int} {g : Int → Int} {R : va_W} {x : Int}  (hI : MI Y) (hx : Rg x) : MX C l yX4_requireFold cX4_requireFold 2 none 1 1 6 [.ref (ad 4), vi x] (WW C ad B E F S Y g R) (ck (0 ≤ x ∧ x < Y 3 0) (WW C ad B E F S Y g R)) (cx (0 ≤ x ∧ x < Y 3 0) "java/lang/IndexOutOfBoundsException" (WW C ad B E F S Y g R)) := by
  refine mx_of (by decide +kernel) (Nat.le_of_ble_eq_true rfl) hfl (fun K Q X r rx => ?_)
  have X : Cx C l "Springleaf" cX4_requireFold 2 1 1 6 K := X
  have I3 := hI.1
  have I10 := hI.2.2.1
  have I12 := hI.2.2.2.2.1
  obtain ⟨x1, x2⟩ := hx
  show G C K Q 0 0 0 [(0, .ref (ad 4)), (1, vi x)] [] (WW C ad B E F S Y g R)
  refine g_iload_n (t := 1) X dX4_requireFold_0 1 rfl rfl ?_
  refine g_iconst (t := 2) X dX4_requireFold_1 rfl ?_
  refine g_aload_n (t := 3) X dX4_requireFold_2 0 rfl rfl ?_
  refine getf_X4 (t := 6) X 0 (by decide) q1_186 rfl rfl dX4_requireFold_3 rfl ?_
  refine g_callV (t := 9) (mc := 0) (ms := 0) (rest := [vi 0, vi x]) X mt_Jx4a65c_size_8abf5 q1_210 q1_211 q1_212 3 WW_3 rfl (c_Jx4a65c_size_8abf5 (E := (F.1, F.2.1)) hfl 3 WW_3) (by decide) (Nat.le_of_ble_eq_true rfl) (Nat.le_of_ble_eq_true rfl) (Nat.le_of_ble_eq_true rfl) rfl rfl dX4_requireFold_6 rfl (k_rv ?_)
  refine g_iconst (t := 10) X dX4_requireFold_9 rfl ?_
  refine g_isub (t := 11) X dX4_requireFold_10 rfl ?_
  refine g_callS (t := 14) (mc := 0) (ms := 0) (rest := []) X mt_X4_isOutside q2_94 q2_95 (c_X4_isOutside hfl ⟨by omega, by omega⟩ ⟨by omega, by omega⟩ ⟨by omega, by omega⟩) (by decide) (Nat.le_of_ble_eq_true rfl) (Nat.le_of_ble_eq_true rfl) (Nat.le_of_ble_eq_true rfl) rfl rfl dX4_requireFold_11 rfl (k_rb (fun b_11 => ?_) (fun b_11 => ?_))
  · refine g_if_eq (t := 27) (u := 17) X dX4_requireFold_14 (by decide) rfl ⟨by omega, by omega⟩ (fun c => absurd c (by decide)) (fun _ => ?_)
    exact g_throw X rx (is := 183) (text := "there is no such fold") rfl (by decide +kernel) q2_97 q1_18 (List.mem_of_getElem? (i := 0) rfl) tx_I dX4_requireFold_17 dX4_requireFold_20 dX4_requireFold_21 dX4_requireFold_23 dX4_requireFold_26 (Nat.le_of_ble_eq_true rfl) (by decide) (Nat.le_of_ble_eq_true rfl) (Nat.le_of_ble_eq_true rfl) (Nat.le_of_ble_eq_true rfl) (Nat.le_of_ble_eq_true rfl) ⟨by omega, rfl, rfl⟩
  · refine g_if_eq (t := 27) (u := 17) X dX4_requireFold_14 (by decide) rfl ⟨by omega, by omega⟩ (fun _ => ?_) (fun c => absurd c (by decide))
    exact g_vret X r ⟨by omega, rfl, rfl⟩ (Nat.le_of_ble_eq_true rfl) (Nat.le_of_ble_eq_true rfl) dX4_requireFold_27

set_option maxHeartbeats 4000000 in
set_option maxRecDepth 100000 in
/-- requirePart(number) -/
theorem c_X4_requirePart {C : WC} {l : Launch} (hfl : l.stackTraces = false) {ad : Nat → Nat} {B : BT} {E : Int × Nat} {F : Int × Nat × Nat} {S Y : Nat → Int → Int} {g : Int → Int} {R : va_W} {x : Int}  (hI : MI Y) (hx : Rg x) : MX C l yX4_requirePart cX4_requirePart 2 none 1 1 6 [.ref (ad 4), vi x] (WW C ad B E F S Y g R) (ck (0 ≤ x ∧ x < Y 10 0) (WW C ad B E F S Y g R)) (cx (0 ≤ x ∧ x < Y 10 0) "java/lang/IndexOutOfBoundsException" (WW C ad B E F S Y g R)) := by
  refine mx_of (by decide +kernel) (Nat.le_of_ble_eq_true rfl) hfl (fun K Q X r rx => ?_)
  have X : Cx C l "Springleaf" cX4_requirePart 2 1 1 6 K := X
  have I3 := hI.1
  have I10 := hI.2.2.1
  have I12 := hI.2.2.2.2.1
  obtain ⟨x1, x2⟩ := hx
  show G C K Q 0 0 0 [(0, .ref (ad 4)), (1, vi x)] [] (WW C ad B E F S Y g R)
  refine g_iload_n (t := 1) X dX4_requirePart_0 1 rfl rfl ?_
  refine g_iconst (t := 2) X dX4_requirePart_1 rfl ?_
  refine g_aload_n (t := 3) X dX4_requirePart_2 0 rfl rfl ?_
  refine getf_X4 (t := 6) X 1 (by decide) q1_187 rfl rfl dX4_requirePart_3 rfl ?_
  refine g_callV (t := 9) (mc := 0) (ms := 0) (rest := [vi 0, vi x]) X mt_Jx4a65c_size_8abf5 q1_210 q1_211 q1_212 2 WW_2 rfl (c_Jx4a65c_size_8abf5 (E := E) hfl 2 WW_2) (by decide) (Nat.le_of_ble_eq_true rfl) (Nat.le_of_ble_eq_true rfl) (Nat.le_of_ble_eq_true rfl) rfl rfl dX4_requirePart_6 rfl (k_rv ?_)
  refine g_iconst (t := 10) X dX4_requirePart_9 rfl ?_
  refine g_isub (t := 11) X dX4_requirePart_10 rfl ?_
  refine g_callS (t := 14) (mc := 0) (ms := 0) (rest := []) X mt_X4_isOutside q2_94 q2_95 (c_X4_isOutside hfl ⟨by omega, by omega⟩ ⟨by omega, by omega⟩ ⟨by omega, by omega⟩) (by decide) (Nat.le_of_ble_eq_true rfl) (Nat.le_of_ble_eq_true rfl) (Nat.le_of_ble_eq_true rfl) rfl rfl dX4_requirePart_11 rfl (k_rb (fun b_11 => ?_) (fun b_11 => ?_))
  · refine g_if_eq (t := 27) (u := 17) X dX4_requirePart_14 (by decide) rfl ⟨by omega, by omega⟩ (fun c => absurd c (by decide)) (fun _ => ?_)
    exact g_throw X rx (is := 185) (text := "there is no such part") rfl (by decide +kernel) q2_97 q1_18 (List.mem_of_getElem? (i := 7) rfl) tx_I dX4_requirePart_17 dX4_requirePart_20 dX4_requirePart_21 dX4_requirePart_23 dX4_requirePart_26 (Nat.le_of_ble_eq_true rfl) (by decide) (Nat.le_of_ble_eq_true rfl) (Nat.le_of_ble_eq_true rfl) (Nat.le_of_ble_eq_true rfl) (Nat.le_of_ble_eq_true rfl) ⟨by omega, rfl, rfl⟩
  · refine g_if_eq (t := 27) (u := 17) X dX4_requirePart_14 (by decide) rfl ⟨by omega, by omega⟩ (fun _ => ?_) (fun c => absurd c (by decide))
    exact g_vret X r ⟨by omega, rfl, rfl⟩ (Nat.le_of_ble_eq_true rfl) (Nat.le_of_ble_eq_true rfl) dX4_requirePart_27

set_option maxHeartbeats 4000000 in
set_option maxRecDepth 100000 in
/-- requireOpen(value) -/
theorem c_X4_requireOpen {C : WC} {l : Launch} (hfl : l.stackTraces = false) {ws : va_W} {x : Int}  (hx : Rg x) : MX C l yX4_requireOpen cX4_requireOpen 1 none 1 1 6 [vi x] ws (ck (0 ≤ x ∧ x ≤ 180) ws) (cx (0 ≤ x ∧ x ≤ 180) "java/lang/IllegalArgumentException" ws) := by
  refine mx_of (by decide +kernel) (Nat.le_of_ble_eq_true rfl) hfl (fun K Q X r rx => ?_)
  have X : Cx C l "Springleaf" cX4_requireOpen 1 1 1 6 K := X
  obtain ⟨x1, x2⟩ := hx
  show G C K Q 0 0 0 [(0, vi x)] [] ws
  refine g_iload_n (t := 1) X dX4_requireOpen_0 0 rfl rfl ?_
  refine g_iconst (t := 2) X dX4_requireOpen_1 rfl ?_
  refine g_sipush (t := 5) (z := 180) X dX4_requireOpen_2 (by decide +kernel) rfl ?_
  refine g_callS (t := 8) (mc := 0) (ms := 0) (rest := []) X mt_X4_isOutside q2_94 q2_95 (c_X4_isOutside hfl ⟨by omega, by omega⟩ ⟨by omega, by omega⟩ ⟨by omega, by omega⟩) (by decide) (Nat.le_of_ble_eq_true rfl) (Nat.le_of_ble_eq_true rfl) (Nat.le_of_ble_eq_true rfl) rfl rfl dX4_requireOpen_5 rfl (k_rb (fun b_5 => ?_) (fun b_5 => ?_))
  · refine g_if_eq (t := 21) (u := 11) X dX4_requireOpen_8 (by decide) rfl ⟨by omega, by omega⟩ (fun c => absurd c (by decide)) (fun _ => ?_)
    exact g_throw X rx (is := 187) (text := "open is 0 to 180") rfl (by decide +kernel) q2_166 q1_19 (List.mem_of_getElem? (i := 6) rfl) tx_A dX4_requireOpen_11 dX4_requireOpen_14 dX4_requireOpen_15 dX4_requireOpen_17 dX4_requireOpen_20 (Nat.le_of_ble_eq_true rfl) (by decide) (Nat.le_of_ble_eq_true rfl) (Nat.le_of_ble_eq_true rfl) (Nat.le_of_ble_eq_true rfl) (Nat.le_of_ble_eq_true rfl) ⟨by omega, rfl, rfl⟩
  · refine g_if_eq (t := 21) (u := 11) X dX4_requireOpen_8 (by decide) rfl ⟨by omega, by omega⟩ (fun _ => ?_) (fun c => absurd c (by decide))
    exact g_vret X r ⟨by omega, rfl, rfl⟩ (Nat.le_of_ble_eq_true rfl) (Nat.le_of_ble_eq_true rfl) dX4_requireOpen_21

set_option maxHeartbeats 4000000 in
set_option maxRecDepth 100000 in
/-- requireWhat(value) -/
theorem c_X4_requireWhat {C : WC} {l : Launch} (hfl : l.stackTraces = false) {ws : va_W} {x : Int}  (hx : Rg x) : MX C l yX4_requireWhat cX4_requireWhat 1 none 1 1 6 [vi x] ws (ck (0 ≤ x ∧ x ≤ 2) ws) (cx (0 ≤ x ∧ x ≤ 2) "java/lang/IllegalArgumentException" ws) := by
  refine mx_of (by decide +kernel) (Nat.le_of_ble_eq_true rfl) hfl (fun K Q X r rx => ?_)
  have X : Cx C l "Springleaf" cX4_requireWhat 1 1 1 6 K := X
  obtain ⟨x1, x2⟩ := hx
  show G C K Q 0 0 0 [(0, vi x)] [] ws
  refine g_iload_n (t := 1) X dX4_requireWhat_0 0 rfl rfl ?_
  refine g_iconst (t := 2) X dX4_requireWhat_1 rfl ?_
  refine g_iconst (t := 3) X dX4_requireWhat_2 rfl ?_
  refine g_callS (t := 6) (mc := 0) (ms := 0) (rest := []) X mt_X4_isOutside q2_94 q2_95 (c_X4_isOutside hfl ⟨by omega, by omega⟩ ⟨by omega, by omega⟩ ⟨by omega, by omega⟩) (by decide) (Nat.le_of_ble_eq_true rfl) (Nat.le_of_ble_eq_true rfl) (Nat.le_of_ble_eq_true rfl) rfl rfl dX4_requireWhat_3 rfl (k_rb (fun b_3 => ?_) (fun b_3 => ?_))
  · refine g_if_eq (t := 19) (u := 9) X dX4_requireWhat_6 (by decide) rfl ⟨by omega, by omega⟩ (fun c => absurd c (by decide)) (fun _ => ?_)
    exact g_throw X rx (is := 189) (text := "what is 0 to 2") rfl (by decide +kernel) q2_166 q1_19 (List.mem_of_getElem? (i := 8) rfl) tx_A dX4_requireWhat_9 dX4_requireWhat_12 dX4_requireWhat_13 dX4_requireWhat_15 dX4_requireWhat_18 (Nat.le_of_ble_eq_true rfl) (by decide) (Nat.le_of_ble_eq_true rfl) (Nat.le_of_ble_eq_true rfl) (Nat.le_of_ble_eq_true rfl) (Nat.le_of_ble_eq_true rfl) ⟨by omega, rfl, rfl⟩
  · refine g_if_eq (t := 19) (u := 9) X dX4_requireWhat_6 (by decide) rfl ⟨by omega, by omega⟩ (fun _ => ?_) (fun c => absurd c (by decide))
    exact g_vret X r ⟨by omega, rfl, rfl⟩ (Nat.le_of_ble_eq_true rfl) (Nat.le_of_ble_eq_true rfl) dX4_requireWhat_19

set_option maxHeartbeats 4000000 in
set_option maxRecDepth 100000 in
/-- requireLength(value) -/
theorem c_X4_requireLength {C : WC} {l : Launch} (hfl : l.stackTraces = false) {ws : va_W} {x : Int}  (hx : Rg x) : MX C l yX4_requireLength cX4_requireLength 1 none 1 1 6 [vi x] ws (ck (1 ≤ x ∧ x ≤ 30) ws) (cx (1 ≤ x ∧ x ≤ 30) "java/lang/IllegalArgumentException" ws) := by
  refine mx_of (by decide +kernel) (Nat.le_of_ble_eq_true rfl) hfl (fun K Q X r rx => ?_)
  have X : Cx C l "Springleaf" cX4_requireLength 1 1 1 6 K := X
  obtain ⟨x1, x2⟩ := hx
  show G C K Q 0 0 0 [(0, vi x)] [] ws
  refine g_iload_n (t := 1) X dX4_requireLength_0 0 rfl rfl ?_
  refine g_iconst (t := 2) X dX4_requireLength_1 rfl ?_
  refine g_bipush (t := 4) (z := 30) X dX4_requireLength_2 (by decide +kernel) rfl ?_
  refine g_callS (t := 7) (mc := 0) (ms := 0) (rest := []) X mt_X4_isOutside q2_94 q2_95 (c_X4_isOutside hfl ⟨by omega, by omega⟩ ⟨by omega, by omega⟩ ⟨by omega, by omega⟩) (by decide) (Nat.le_of_ble_eq_true rfl) (Nat.le_of_ble_eq_true rfl) (Nat.le_of_ble_eq_true rfl) rfl rfl dX4_requireLength_4 rfl (k_rb (fun b_4 => ?_) (fun b_4 => ?_))
  · refine g_if_eq (t := 20) (u := 10) X dX4_requireLength_7 (by decide) rfl ⟨by omega, by omega⟩ (fun c => absurd c (by decide)) (fun _ => ?_)
    exact g_throw X rx (is := 191) (text := "length is 1 to 30") rfl (by decide +kernel) q2_166 q1_19 (List.mem_of_getElem? (i := 4) rfl) tx_A dX4_requireLength_10 dX4_requireLength_13 dX4_requireLength_14 dX4_requireLength_16 dX4_requireLength_19 (Nat.le_of_ble_eq_true rfl) (by decide) (Nat.le_of_ble_eq_true rfl) (Nat.le_of_ble_eq_true rfl) (Nat.le_of_ble_eq_true rfl) (Nat.le_of_ble_eq_true rfl) ⟨by omega, rfl, rfl⟩
  · refine g_if_eq (t := 20) (u := 10) X dX4_requireLength_7 (by decide) rfl ⟨by omega, by omega⟩ (fun _ => ?_) (fun c => absurd c (by decide))
    exact g_vret X r ⟨by omega, rfl, rfl⟩ (Nat.le_of_ble_eq_true rfl) (Nat.le_of_ble_eq_true rfl) dX4_requireLength_20

