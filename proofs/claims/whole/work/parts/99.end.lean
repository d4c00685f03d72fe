-- ===== end of PART A; then your names; then what follows =====
/-! THE CLAIM OUT OF ONE WALK OF THE LAW'S BODY. Your part is whole_start (and what it stands on); all else here is the same for every law, but numbers. -/
def R_law : String := "SpringleafLaw"
def lw_P (b : Addr) (xs : List Int32) (args : Array Value) (s : State) : Prop := args = #[.ref b] ∧ s.IntsAt b xs ∧ xs.length ≤ 3584 ∧ (Jvm.Cond.and given_1 narrow_1).before args s = true
def lw_Q (_ : Array Value) (s : State) (o : Outcome) (t : State) : Prop := o = .returned (some (.int 1)) ∧ Framed s o t [] 601024 7293034
def lw_Z (below : List Frame) (a : Array Value) (s : State) : State → Prop := fun t => ∃ o, t.status = .running ∧ Ended t below o ∧ lw_Q a s o t
/-- the law's own end, with 1 on the stack, nothing written that was there before, its room as the claim has it -/
theorem lw_ret {p : Program} {l : Launch} {e : Env} {s : State} {m : MethodId} {below : List Frame} {meth : Method} {c : Code} {b : Nat} (hx : p.tables.exec = Jvm.exec) (hb : c.code = code) (hr : meth.sig.returnType = ret) (hlocks : meth.locks = false) {pc : Nat} {H : Heap} {ls : Array Slot} (hdg : decode code pc = .ok (.ireturn, 1)) : W p l e room_1 s m #[Value.ref b] below meth c H [] 601024 7293034 (lw_Z below #[Value.ref b] s) (F0 m pc ls [.int 1]) := by
  intro T hT X
  obtain ⟨fs, hret, hrun, hended, hW, hframe⟩ := X.leave (v := some (.int 1)) (hlocks := hlocks) (fun h => by rw [hr] at h; cases h)
  have hmeth' : T.vm.method? m = some meth := X.method'
  refine ⟨T.setFrames fs, ?_, .returned (some (.int 1)), hrun, hended, rfl, ⟨_, rfl⟩, hW, hframe⟩
  jvm_step X.here [X.here.top, hx, hb, hdg, hmeth', hr, ret, narrow_b1]
  (try refine ⟨rfl, ?_⟩); (try refine ⟨rfl, ?_⟩)
  first | (intro acts; rw [hret _ acts rfl rfl rfl]) | rw [hret _ _ rfl rfl rfl]
  exact Steps.refl _
/-- what holds at the law's entry: the machine, the code, the tables' words (any of lw_tbl by 'hts w (by decide +kernel)'), the script of L ints xs at the cell b, what the Statement gives of the start (any of its parts by flat_of_before) -/
def lw_At (p : Program) (s : State) (m : MethodId) (meth : Method) (c : Code) (b L : Nat) (xs : Nat → Int32) : Prop :=
  p.tables.exec = Jvm.exec ∧ c.code = code ∧ meth.sig.returnType = ret ∧ c.maxLocals = 7 ∧ s.vm.findClass R_law = some m.cls ∧ (∀ w ∈ lw_tbl, w.before #[Value.ref b] s = true) ∧ va_X b L xs s s.heap ∧ b < s.heap.size ∧ meth.locks = false ∧ (Jvm.Cond.and given_1 narrow_1).before #[Value.ref b] s = true
-- ===== YOUR PART BEGINS =====
/-- YOUR PART: from the entry, for every script of at most 3584 ints, the law comes to its end with true ('hflags': the launch's flags, for a law that throws: no stack traces) -/
theorem whole_start {p : Program} {e : Env} {s : State} {m : MethodId} {below : List Frame} {meth : Method} {c : Code} (l : Launch) (hflags : l.flags = flags0) {b L : Nat} {xs : Nat → Int32} (hL : L ≤ 3584) (C0 : lw_At p s m meth c b L xs) : W p l e room_1 s m #[Value.ref b] below meth c s.heap [] 0 0 (lw_Z below #[Value.ref b] s) (entryFrame m ([Value.ref b] : List Value).toArray 7) := by
  obtain ⟨hx, hb, hr, hml, hown, hts, hX, hbl, hlocks, hgv⟩ := C0
  have hT := tws_start hts
  obtain ⟨ea, hE⟩ := en_start hts hgv
  obtain ⟨D, tc, hK⟩ := k_start hT hE.2.2.2.2.2.2.2.2.1 s.heap.size ea
  have hst : l.stackTraces = false := by unfold Launch.stackTraces; rw [hflags]; decide +kernel
  obtain ⟨C, hC⟩ : ∃ C : WC, C = (D, tc, s.heap.size, ea) := ⟨_, rfl⟩
  have hN : C.2.2.1 = s.heap.size := by rw [hC]
  have X : Cx C l "SpringleafLaw" cL_law 7 10 601024 7293034 (p, l, e, room_1, s, m, #[Value.ref b], below, meth, c, 7) := by
    subst hC
    exact ⟨rfl, rfl, hx, hb, hml, hown, hT, hK, Nat.le_refl _, hE, hlocks, hst, Nat.le_of_ble_eq_true rfl, Nat.le_of_ble_eq_true rfl, Nat.le_of_ble_eq_true rfl, Nat.le_of_ble_eq_true rfl⟩
  have hx9 : Sx b L xs C.2.2.1 (p, l, e, room_1, s, m, #[Value.ref b], below, meth, c, 7) := ⟨hX, hbl, by rw [hN]; exact hbl⟩
  have hret : ∀ (cells slots : Nat) (lv : List (Nat × Value)) (ws : va_W), cells ≤ 601024 → slots ≤ 7293034 → G C (p, l, e, room_1, s, m, #[Value.ref b], below, meth, c, 7) (lw_Z below #[Value.ref b] s) cells slots 1039 lv [vi 1] ws := by
    intro cells slots lv ws h1 h2 H locs ls hP hD hS hl
    refine W.widen h1 h2 (va_forget (fun q hq => ?_) (lw_ret hx hb hr hlocks dL_law_1039))
    have h9 : C.2.2.1 ≤ q.base := hS.2.2 q hq
    rw [← hN]; exact h9
  have hl := lv_entry [Value.ref b] (Nat.le_of_ble_eq_true rfl : (lg_sl [Value.ref b]).length ≤ 7)
  rw [lg_entry_eq]
  have key : G C (p, l, e, room_1, s, m, #[Value.ref b], below, meth, c, 7) (lw_Z below #[Value.ref b] s) 0 0 0 [(0, .ref b)] [] [] := by
    refine g_new (t := 3) (ci := 7) (fs := [.null, .null, .null, vi 0, vi 0]) X inX4 tyX4 tyX4_ok q1_29 q1_30 q1_1 rfl (by decide +kernel) (Nat.le_of_ble_eq_true rfl) (Nat.le_of_ble_eq_true rfl) dL_law_0 rfl (fun q0 => ?_)
    refine g_dup (t := 4) X dL_law_3 rfl rfl ?_
    refine g_callI (t := 7) (mc := 30) (ms := 400) (rest := [.ref q0]) X mt_X4_init q1_31 q1_32 (by decide +kernel) (c_X4_init hst) (by decide) (Nat.le_of_ble_eq_true rfl) (Nat.le_of_ble_eq_true rfl) (Nat.le_of_ble_eq_true rfl) rfl rfl dL_law_4 rfl ?_
    rintro _ _ ⟨⟨x, bv, F⟩, ⟨hx3, hF⟩, rfl, rfl⟩
    have hx3 : x 4 = q0 := hx3
    have hF : FC F Y0 := hF
    show G C _ _ _ _ 7 _ [.ref q0] _
    refine g_astore_n (t := 8) (lv1 := [(1, .ref q0), (0, .ref b)]) X dL_law_7 (by decide) rfl rfl ?_
    refine g_new (t := 11) (ci := 8) (fs := [.null, .null, .null, vi 0, .null, .null, .null, .null, .null, .null, vi 0, .null, vi 0, .null, .null, .null, .null, vi 0, .null, vi 0, .null, .null, .null, .null, vi 0]) X inM tyX5 tyX5_ok q4_203 q4_204 q1_14 rfl (by decide +kernel) (Nat.le_of_ble_eq_true rfl) (Nat.le_of_ble_eq_true rfl) dL_law_8 rfl (fun q8 => ?_)
    refine g_pm pm_1 ?_
    refine g_dup (t := 12) X dL_law_11 rfl rfl ?_
    refine g_callI (t := 15) (mc := 19) (ms := 300) (rest := [.ref q8]) X mt_X5_init q4_205 q4_206 (by decide +kernel) (c_X5_init hst) (by decide) (Nat.le_of_ble_eq_true rfl) (Nat.le_of_ble_eq_true rfl) (Nat.le_of_ble_eq_true rfl) rfl rfl dL_law_12 rfl ?_
    rintro _ _ ⟨y, hy0, rfl, rfl⟩
    show G C _ _ _ _ 15 _ [.ref q8] _
    refine g_astore_n (t := 16) (lv1 := [(2, .ref q8), (1, .ref q0), (0, .ref b)]) X dL_law_15 (by decide) rfl rfl ?_
    refine g_iconst (t := 17) X dL_law_16 rfl ?_
    refine g_newa_l (t := 19) X (Nat.le_of_ble_eq_true rfl) (Nat.le_of_ble_eq_true rfl) dL_law_17 rfl (fun ao => ?_)
    refine g_astore_n (t := 20) (lv1 := [(3, .ref ao), (2, .ref q8), (1, .ref q0), (0, .ref b)]) X dL_law_19 (by decide) rfl rfl ?_
    refine g_iconst (t := 21) X dL_law_20 rfl ?_
    refine g_istore (t := 23) (lv1 := [(4, vi 0), (3, .ref ao), (2, .ref q8), (1, .ref q0), (0, .ref b)]) X dL_law_21 (by decide) rfl rfl ?_
    rw [← hx3, ← hy0]
    refine g_pm (ws2 := lwW C y ao x (bv, 16, (fun _ => 0), 0, 0) (0, C.2.2.2 0) F Z0 Y0 G0 0 (fun _ => 0) Y0 Z0 (fun _ => 0) 0) ?_ ?_
    · show List.Perm (WW C x (bv, 16, (fun _ => 0), 0, 0) (0, C.2.2.2 0) F Z0 Y0 G0 (elW C x (0, C.2.2.2 0) 0 (Y0 10 0) ++ ((ao, aL C (fun _ => 0)) :: wM C y Y0 Z0 (fun _ => 0) 0))) _
      rw [elW_0]
      have e9 : WW C x (bv, 16, (fun _ => 0), 0, 0) (0, C.2.2.2 0) F Z0 Y0 G0 ([] ++ ((ao, aL C (fun _ => 0)) :: wM C y Y0 Z0 (fun _ => 0) 0)) = WW C x (bv, 16, (fun _ => 0), 0, 0) (0, C.2.2.2 0) F Z0 Y0 G0 [] ++ ((ao, aL C (fun _ => 0)) :: wM C y Y0 Z0 (fun _ => 0) 0) := WW_app.symm
      rw [e9]
      refine List.Perm.trans List.perm_append_comm ?_
      show List.Perm (([(ao, aL C (fun _ => 0))] ++ wM C y Y0 Z0 (fun _ => 0) 0) ++ WW C x (bv, 16, (fun _ => 0), 0, 0) (0, C.2.2.2 0) F Z0 Y0 G0 []) _
      rw [List.append_assoc]
      exact List.perm_append_comm
    refine g_cs (c1 := 1000 + 400 * 0) (s1 := 2000 + 800 * 0) ?_ (Nat.le_of_ble_eq_true rfl) (Nat.le_of_ble_eq_true rfl)
    exact g_lv (law_loop hst X hx9 hL hret (L + 1) 0 x (bv, 16, (fun _ => 0), 0, 0) (0, C.2.2.2 0) F Z0 Y0 Z0 G0 0 (fun _ => 0) (fun _ => 0) 0 (by omega) (by omega) rfl Y0_MI ⟨⟨Nat.le_of_ble_eq_true rfl, Nat.le_of_ble_eq_true rfl⟩, ⟨Int.le_refl 0, show (0 : Int) ≤ ((16 : Nat) : Int) by decide⟩, fun j j0 j1 => ⟨Int.le_refl 0, show (0 : Int) < 128 by decide⟩⟩ PLF_0 hF SI_0) [0, 4, 3, 2, 1] rfl
  exact key _ _ _ (fun k q h => by simp at h) ⟨fun i j x y h => by simp at h, fun k q h => by simp at h⟩ va_S.rf hl
-- ===== YOUR PART ENDS =====
set_option maxHeartbeats 4000000 in
theorem lw_walk (l : Launch) (hflags : l.flags = flags0) (b : Addr) (xs : List Int32) : MetFree l x (headSpec (Jvm.Cond.code x code maxLocals ret :: tables_1) room_1) (lw_P b xs) (fun _ _ _ _ _ => True) lw_Q := by
  refine MetFree.of_bodyS (code := code) (maxLocals := maxLocals) (ret := ret) (by decide) ?_ ?_
  · intro args s m h hn
    obtain ⟨meth, c, h1, h2, h3, h4, h5, h6, -, -⟩ := Cond.code_spec hn (atoms_spec (ws := Jvm.Cond.code x code maxLocals ret :: tables_1) h _ List.mem_cons_self)
    exact ⟨meth, c, h1, h2, h3, h4, h5, h6⟩
  · intro p e s m args below meth c s₁ B hml0 hP _
    obtain ⟨rfl, hx, hbd, hgv⟩ := hP
    obtain ⟨scr, harrAt, hlist, hof, hsmall⟩ := hx
    obtain ⟨hcb, hkn, -, -⟩ := State.arrayAt?_spec harrAt
    have hown : s.vm.findClass R_law = some m.cls := findClass_of_methodNamed B.named
    have hts0 : ∀ c ∈ (Jvm.Cond.code x code maxLocals ret :: tables_1), c.before #[Value.ref b] s = true := atoms_spec (ws := Jvm.Cond.code x code maxLocals ret :: tables_1) B.pre
    have hts : ∀ w ∈ lw_tbl, w.before #[Value.ref b] s = true := k2_hts_sels lw_privs (fun w hw => hts0 w (List.mem_cons_of_mem _ hw)) lw_privs_ok
    have hml : c.maxLocals = 7 := B.maxLocals_eq (hts0 _ List.mem_cons_self)
    have X₀ : Stand p l e room_1 s m #[Value.ref b] below meth c s₁ [] 0 0 := Stand.of_body B
    have hh0 : s₁.heap = s.heap := by rw [B.state]; rfl
    have hsz : scr.slots.size = xs.length := by rw [← Array.length_toList, hlist, List.length_map]
    have hval : ∀ j : Nat, j < xs.length → scr.slots[j]? = some (.int (xs.getD j 0)) := fun j hj => by
      rw [← Array.getElem?_toList, hlist]
      simp [hj]
    have hbl : b < s.heap.size := (Array.getElem?_eq_some_iff.mp hcb).1
    have hX : va_X b xs.length (fun j => xs.getD j 0) s s.heap := ⟨scr, hcb, hof, hkn, hsz, hval⟩
    have K : W p l e room_1 s m #[Value.ref b] below meth c s₁.heap [] 0 0 (lw_Z below #[Value.ref b] s) (entryFrame m ([Value.ref b] : List Value).toArray 7) := by
      rw [hh0]
      exact whole_start l hflags hbd ⟨B.exec, B.bytes, B.returns, hml, hown, hts, hX, hbl, B.notSynchronized, hgv⟩
    obtain ⟨t, a1, o, b1, b2, b3⟩ := K s₁ rfl X₀
    exact ⟨t, o, a1, b1, b2, b3⟩
theorem lw_pre_spec {args : Array Value} {s : State} (h : (Jvm.Cond.and given_1 narrow_1).before args s = true) (hr : rest_1_c.before args s = true) : ∃ (b : Addr) (xs : List Int32), lw_P b xs args s := by
  have hs := flat_of_before _ h
  have hq := flat_of_before _ hr
  have hc : (Cond.count 1).before args s = true := hs _ (by decide +kernel)
  have harr : (Cond.arrayOf (.arg 0) .int).before args s = true := hs _ (by decide +kernel)
  have hle : (Cond.le (.length (.arg 0)) (.int 3584)).before args s = true := hs _ (by decide +kernel)
  have hlen : (Cond.isInt (.length (.arg 0))).before args s = true := hq _ (by decide +kernel)
  have hall : (Cond.all (.arg 0) (.isInt (.elem (.arg 0) (.index 0)))).before args s = true := hq _ (by decide +kernel)
  obtain ⟨b, xs, hb, hx⟩ := State.ints_of_pre rfl harr hlen hall
  have hsm : xs.length < 2 ^ 31 := hx.choose_spec.2.2.2
  have hev : (Term.length (.arg 0)).eval args s none [] s = some (.int xs.length.toInt32) := hx.length_eval hb
  have hv := Cond.le_ints hev (show (Term.int 3584).eval args s none [] s = some (.int 3584) from rfl)
  have hd : xs.length.toInt32 ≤ 3584 := by
    simpa [Cond.before, Cond.holds, hv] using hle
  have hN : xs.length ≤ 3584 := (Int32.ofNat_le_ofNat hsm (by decide)).mp (show Int32.ofNat xs.length ≤ Int32.ofNat 3584 from hd)
  exact ⟨b, xs, Cond.one_arg hc (show args[0]? = some (.ref b) from hb), hx, hN, h⟩
theorem lw_comes (l : Launch) (hflags : l.flags = flags0) : Comes l x (Jvm.Cond.code x code maxLocals ret :: tables_1) room_1 (fun tb e args s => Calls_1 tb e args s ∧ rest_1 tb e args s ∧ Pre_1 tb e args s)
    (fun _ _ args s o t => lw_Q args s o t) := by
  intro p e ha hc hk s m args below hf hfit hheap happ hpre
  obtain ⟨b, xs, hP⟩ := lw_pre_spec hpre.2.2 hpre.2.1
  obtain ⟨k, o, h1, h2, h3, hQ⟩ := lw_walk l hflags b xs p e ha hc hk s m args below hf ((Spec.applies_iff_loose hf).mp happ).1 hP trivial
  exact ⟨k, o, h1, h2, h3, hQ⟩
theorem lw_frame {s t : State} {o : Outcome} {args : Array Value} (h : Framed s o t [] 601024 7293034) :
    Framed s o t (fieldLocs frame_1_writes args s ++ arrayLocs frame_1_arrays args s ++ staticLocs frame_1_statics s) 601024 7293034 := h
theorem lw_limb (L : Cond) (hL : ∀ (args : Array Value) (s t : State), L.after args s (.returned (some (.int 1))) t = true) :
    ArmFor flags0 classFile x code maxLocals ret World_1 tables_1 room_1 Calls_1 rest_1 Pre_1
      (fun tb e a s o t => postC L tb e a s o t ∧ Framed s o t (fieldLocs frame_1_writes a s ++ arrayLocs frame_1_arrays a s ++ staticLocs frame_1_statics s) 601024 7293034) := by
  intro l hflags _ _ p e ha hc hk s m args below hf hfit hheap happ hpre
  obtain ⟨k, o, h1, h2, h3, rfl, hF⟩ := lw_comes l hflags p e ha hc hk s m args below hf hfit hheap happ hpre
  exact ⟨k, _, h1, h2, h3, hL args s _, lw_frame hF⟩
theorem i_vc : Claimed_1_1 ∧ Claimed_1_2 := ⟨lw_limb limb_1_1 (fun args s t => by simp [limb_1_1, Cond.after, Cond.holds, Cond.value]), lw_limb limb_1_2 (fun args s t => Cond.after_iff.mpr (by
  first | (rw [show limb_1_2 = Cond.eq .result (.int 1) from rfl, Cond.eq_ints (x := 1) (y := 1) rfl rfl]; simp; done) | (simp [limb_1_2, Cond.value, Term.eval]; done)))⟩
