/-! whole numbers: an int as the Int that it stands for -/
def iZ (z : Int) : Int32 := Int32.ofInt z
abbrev vi (z : Int) : Value := .int (iZ z)
theorem iZ_add (a b : Int) : iZ a + iZ b = iZ (a + b) := (Int32.ofInt_add a b).symm
theorem iZ_sub (a b : Int) : iZ a - iZ b = iZ (a - b) := (Int32.ofInt_sub a b).symm
theorem iZ_mul (a b : Int) : iZ a * iZ b = iZ (a * b) := (Int32.ofInt_mul a b).symm
theorem iZ_neg (a : Int) : -iZ a = iZ (-a) := (Int32.ofInt_neg a).symm
theorem iZ_bm {z : Int} (h1 : -2147483648 ≤ z) (h2 : z < 2147483648) : z.bmod (2 ^ 32) = z := by
  rw [Int.bmod_eq_of_le (by omega) (by omega)]
theorem iZ_to {z : Int} (h1 : -2147483648 ≤ z) (h2 : z < 2147483648) : (iZ z).toInt = z := by
  show (Int32.ofInt z).toInt = z
  rw [Int32.toInt_ofInt]
  exact iZ_bm h1 h2
theorem iZ_as (x : Int32) : iZ x.toInt = x := Int32.ofInt_toInt x
theorem iZ_rng (x : Int32) : -2147483648 ≤ x.toInt ∧ x.toInt < 2147483648 := by
  have h1 := Int32.le_toInt x
  have h2 := Int32.toInt_lt x
  omega
def Rg (z : Int) : Prop := -2147483648 ≤ z ∧ z < 2147483648
theorem iZ_eq {a b : Int} (ha : Rg a) (hb : Rg b) : iZ a = iZ b ↔ a = b := by
  refine ⟨fun h => ?_, fun h => by rw [h]⟩
  have h2 := congrArg Int32.toInt h
  rwa [iZ_to ha.1 ha.2, iZ_to hb.1 hb.2] at h2
theorem iZ_lt {a b : Int} (ha : Rg a) (hb : Rg b) : iZ a < iZ b ↔ a < b := by
  rw [Int32.lt_iff_toInt_lt, iZ_to ha.1 ha.2, iZ_to hb.1 hb.2]
theorem iZ_le {a b : Int} (ha : Rg a) (hb : Rg b) : iZ a ≤ iZ b ↔ a ≤ b := by
  rw [Int32.le_iff_toInt_le, iZ_to ha.1 ha.2, iZ_to hb.1 hb.2]
theorem iZ_0 : iZ 0 = 0 := rfl
theorem Rg0 : Rg 0 := ⟨by omega, by omega⟩
theorem iZ_div {a b : Int} (ha : Rg a) (hb : Rg b) (h : Rg (a.tdiv b)) : iZ a / iZ b = iZ (a.tdiv b) := by
  apply Int32.toInt_inj.mp
  rw [Int32.toInt_div, iZ_to ha.1 ha.2, iZ_to hb.1 hb.2, iZ_to h.1 h.2]
  exact iZ_bm h.1 h.2
theorem iZ_clamp {z : Int} (h0 : 0 ≤ z) (h1 : z < 2147483648) : (iZ z).toNatClampNeg = z.toNat := by
  rw [← Int32.toNat_toInt, iZ_to (by omega) h1]
theorem iZ_in {z : Int} {n : Nat} (h0 : 0 ≤ z) (h1 : z < n) (hn : z < 2147483648) : vp_in (iZ z) n := by
  intro h
  rcases h with h | h
  · rw [Int32.lt_iff_toInt_lt, iZ_to (by omega) hn] at h
    have h2 : (0 : Int32).toInt = 0 := by decide
    omega
  · rw [iZ_clamp h0 hn] at h
    omega
def uI {α : Type} (f : Int → α) (k : Int) (v : α) : Int → α := fun j => if j = k then v else f j
theorem uI_s {α : Type} (f : Int → α) (k : Int) (v : α) : uI f k v k = v := if_pos rfl
theorem uI_n {α : Type} (f : Int → α) {k j : Int} (v : α) (h : j ≠ k) : uI f k v j = f j := if_neg h
def u2 (S : Nat → Int → Int) (k : Nat) (j v : Int) : Nat → Int → Int := fun i => cond (Nat.beq i k) (uI (S k) j v) (S i)
theorem u2_s (S : Nat → Int → Int) (k : Nat) (j v : Int) : u2 S k j v k = uI (S k) j v := by
  unfold u2; rw [Nat.beq_refl]; rfl
theorem u2_n (S : Nat → Int → Int) {k i : Nat} (j v : Int) (h : i ≠ k) : u2 S k j v i = S i := by
  unfold u2
  have : Nat.beq i k = false := by
    cases hb : Nat.beq i k
    · rfl
    · exact absurd (Nat.eq_of_beq_eq_true hb) h
  rw [this]; rfl
/-! the constants of the world: classes' numbers, arrays' classes (0 int, 1 byte, 2 Object, 3 long), the first address that is ours, the addresses of what was there before -/
abbrev WC : Type := va_G × (Nat → ClassId) × Nat × (Nat → Nat)
def TY (C : WC) : List (ClassId × FieldType) := [(C.2.1 0, .int), (C.2.1 1, .byte), (C.2.1 2, .object "java/lang/Object"), (C.2.1 3, .long)]
def AN (N0 : Nat) : Nat → Prop := fun q => N0 ≤ q
def TWs (U : State) : Prop := ∀ w ∈ TW, w.before #[] U = true
theorem tw_warm {w : Cond} (h : tw_ok w = true) {a a' : Array Value} {s U : State} (hW : s.WarmedH U.vm) (hw : w.before a s = true) : w.before a' U = true := by
  by_cases g : goodWord w = true
  · exact word_at hW (good_of_word g) hw
  · have h2 : (w.onTables && w.keepsFace) = true := by
      unfold tw_ok at h
      rcases (Bool.or_eq_true _ _).mp h with h | h
      · exact absurd h g
      · exact h
    simp only [Bool.and_eq_true] at h2
    have h3 := Cond.before_shiftedFace (State.Shifted.of_warmed hW) w h2.2 hw
    have h4 := Cond.onTables_vm (A := a) (A' := a') (U := s) (U' := U) U.vm w h2.1
    rw [State.setVm_self] at h4
    rw [← h4]
    exact h3
theorem TWs.ok {w : Cond} (h : w ∈ TW) : tw_ok w = true := (List.mem_filter.mp h).2
theorem TWs.at {s : State} (h : TWs s) (a : Array Value) : ∀ w ∈ TW, w.before a s = true := fun w hw => tw_warm (TWs.ok hw) (State.WarmedH.refl s) (h w hw)
theorem TWs.warm {s U : State} (h : TWs s) (hW : s.WarmedH U.vm) : TWs U := fun w hw => tw_warm (TWs.ok hw) hW (h w hw)
/-- the texts of the exceptions -/
def SL : List (String × Nat × String) := [("Springleaf", 183, "there is no such fold"), ("Springleaf", 45, "pull is 1 to 8, lean -90 to 90"), ("Springleaf", 60, "there are 12 folds, or the page is bound"), ("Springleaf", 67, "place is 0 to 60, line 0 to 20, lines 1 to 10"), ("Springleaf", 191, "length is 1 to 30"), ("Springleaf", 72, "there are 16 parts, or the page is bound"), ("Springleaf", 187, "open is 0 to 180"), ("Springleaf", 185, "there is no such part"), ("Springleaf", 189, "what is 0 to 2"), ("Springleaf", 132, "the part is glued"), ("Springleaf", 140, "the part cannot be glued"), ("Springleaf", 148, "no part is glued"), ("Springleaf", 159, "there is no such step"), ("Springleaf", 171, "there is no such place")]
/-- which exceptions are of no other's class -/
def NCL : List (String × String) := [("java/lang/IllegalArgumentException", "java/lang/IndexOutOfBoundsException"), ("java/lang/IllegalStateException", "java/lang/IndexOutOfBoundsException"), ("java/lang/IllegalStateException", "java/lang/IllegalArgumentException")]
/-- the links of the private constructors -/
def NL : List (String × Nat × MethodName × String) := []
def dOnes : Nat → Value := fun j => vi (48 + (j : Int) % 10)
def dTens : Nat → Value := fun j => vi (48 + (j : Int) / 10)
/-- a text constant of a class: its String and its bytes -/
def ST (own : String) (k : Nat) (tx : String) (aK aV n : Nat) (f : Nat → Value) (N0 : Nat) (s : State) (H : Heap) : Prop :=
  vk_R own k tx aK s ∧ va_O "java/lang/String" aK (AN N0) s H ∧ va_OF "java/lang/String" "coder" "B" (.int 0) aK (AN N0) s H ∧ va_OF "java/lang/String" "value" "[B" (.ref aV) aK (AN N0) s H ∧ va_T .byte aV n f (AN N0) s H
def sOn : Nat → Value := fun j => vi ([32, 111, 110, 32].getD j 0)
/-- what was there before us and stays: statics, tables, texts; ea 0 the empty row of lists, 1 and 2 the tables of digits, 3 and 4 the text " on " and its bytes, 5 the object of the class of Object[] -/
def EN (ea : Nat → Nat) (N0 : Nat) (s : State) (H : Heap) : Prop :=
  (vx_Zq Bundle.tN "UNASSIGNED_STACK" Bundle.steD (AN N0) s H ∧ vx_Zq Bundle.tN "SUPPRESSED_SENTINEL" Bundle.listD (AN N0) s H) ∧
  va_Z "java/lang/String" "COMPACT_STRINGS" "Z" (.int 1) (AN N0) s H ∧
  (va_Z "java/util/ArrayList" "DEFAULTCAPACITY_EMPTY_ELEMENTDATA" "[Ljava/lang/Object;" (.ref (ea 0)) (AN N0) s H ∧ va_T (.object "java/lang/Object") (ea 0) 0 (fun _ => .null) (AN N0) s H) ∧
  (va_Z "java/lang/Integer" "DigitOnes" "[B" (.ref (ea 1)) (AN N0) s H ∧ va_T .byte (ea 1) 100 dOnes (AN N0) s H) ∧
  (va_Z "java/lang/Integer" "DigitTens" "[B" (.ref (ea 2)) (AN N0) s H ∧ va_T .byte (ea 2) 100 dTens (AN N0) s H) ∧
  (∀ x ∈ SL, ∃ q, vk_R x.1 x.2.1 x.2.2 q s) ∧
  ST "Springleaf$Fold" 63 " on " (ea 3) (ea 4) 4 sOn N0 s H ∧ True ∧
  va_AO "java/lang/Object" s ∧ (∀ x ∈ NL, va_Nw (.methodLinkNest x.1 x.2.1 x.2.2.1 x.2.2.2) s) ∧ va_Mi "[Ljava/lang/Object;" (ea 5) s ∧ va_Zq "jdk/internal/util/Preconditions" "SIOOBE_FORMATTER" "Ljava/util/function/BiFunction;" (AN N0) s H ∧ ∀ x ∈ NCL, va_Nc x.1 x.2 s
theorem ST.to {own tx : String} {k aK aV n : Nat} {f : Nat → Value} {N0 : Nat} {s U : State} {H H1 : Heap} (h : ST own k tx aK aV n f N0 s H) (hW : s.WarmedH U.vm) (hq : ∀ a : Nat, a < H.size → ¬ AN N0 a → H1[a]? = H[a]?) : ST own k tx aK aV n f N0 U H1 := by
  have hv := hW.alike
  obtain ⟨g1, g2, g3, g4, g5⟩ := h
  exact ⟨vk_R.warm hW g1, va_O.moved hv (g2.kept hq), va_OF.moved hv (g3.kept hq), va_OF.moved hv (g4.kept hq), va_T.moved hv (g5.kept hq)⟩
theorem va_Mi_moved {C : String} {mi : Nat} {u U : State} (hvm : u.vm.Alike U.vm) (h : va_Mi C mi u) : va_Mi C mi U := va_Mi.moved hvm h
theorem EN.to {ea : Nat → Nat} {N0 : Nat} {s U : State} {H H1 : Heap} (h : EN ea N0 s H) (hW : s.WarmedH U.vm) (hq : ∀ a : Nat, a < H.size → ¬ AN N0 a → H1[a]? = H[a]?) : EN ea N0 U H1 := by
  have hv := hW.alike
  obtain ⟨⟨a1, a2⟩, b, ⟨c1, c2⟩, ⟨d1, d2⟩, ⟨e1, e2⟩, f, g1, g2, i1, i2, i3, i4, i5⟩ := h
  exact ⟨⟨vx_Zq.moved hv (a1.kept hq), vx_Zq.moved hv (a2.kept hq)⟩, va_Z.moved hv (b.kept hq), ⟨va_Z.moved hv (c1.kept hq), va_T.moved hv (c2.kept hq)⟩, ⟨va_Z.moved hv (d1.kept hq), va_T.moved hv (d2.kept hq)⟩, ⟨va_Z.moved hv (e1.kept hq), va_T.moved hv (e2.kept hq)⟩,
    fun x hx => by obtain ⟨q, h⟩ := f x hx; exact ⟨q, vk_R.warm hW h⟩,
    g1.to hW hq, trivial, va_AO.moved hv i1, fun x hx => va_Nw.warmM hW (i2 x hx), va_Mi_moved hv i3, va_Zq.moved hv (i4.kept hq), fun x hx => (i5 x hx).moved hv⟩
/-! contracts -/
def WH (C : WC) (ws : va_W) (U : State) : Prop := C.2.2.1 ≤ U.heap.size ∧ va_P C.1 vwCl ws U.heap ∧ va_D (AN C.2.2.1) ws ∧ va_K C.1 vwCl (TY C) U ∧ TWs U ∧ EN C.2.2.2 C.2.2.1 U U.heap
def WP (C : WC) (ws : va_W) (t : State) : Prop := va_P C.1 vwCl ws t.heap ∧ va_D (AN C.2.2.1) ws
def QQ (C : WC) (post : Option Value → va_W → Prop) : Array Value → State → Outcome → State → Prop := fun _ st o t => (∃ (v : Option Value) (ws' : va_W), o = .returned v ∧ post v ws' ∧ WP C ws' t) ∧ va_F (AN C.2.2.1) st t
def XX (C : WC) (px : String → va_W → Prop) : String → State → State → Prop := fun E st t => ∃ ws' : va_W, px E ws' ∧ WP C ws' t ∧ va_F (AN C.2.2.1) st t
def RM (d mc ms : Nat) : Room := { frames := 10 + 2 * d, cells := mc, slots := ms, locals := 200 + 100 * d }
/-- a method that returns -/
def MM (C : WC) (l : Launch) (y : MethodName) (cc : ByteArray) (maxL : Nat) (ret : Option FieldType) (d mc ms : Nat) (av : List Value) (ws : va_W) (post : Option Value → va_W → Prop) : Prop :=
  Met l y [.code y cc maxL ret] (RM d mc ms) (va_Pc av (WH C ws)) (QQ C post) mc ms (AN C.2.2.1)
/-- a method that returns or throws -/
def MX (C : WC) (l : Launch) (y : MethodName) (cc : ByteArray) (maxL : Nat) (ret : Option FieldType) (d mc ms : Nat) (av : List Value) (ws : va_W) (post : Option Value → va_W → Prop) (px : String → va_W → Prop) : Prop :=
  vx_Met l y [.code y cc maxL ret] (RM d mc ms) (va_Pc av (WH C ws)) (QQ C post) (XX C px) mc ms (AN C.2.2.1)
/-- a method with handlers, that returns -/
def MH (C : WC) (l : Launch) (y : MethodName) (cc : ByteArray) (maxL : Nat) (ret : Option FieldType) (hh : List (Nat × Nat × Nat × Nat)) (d mc ms : Nat) (av : List Value) (ws : va_W) (post : Option Value → va_W → Prop) : Prop :=
  Met l y [.codeWith y cc maxL ret hh] (RM d mc ms) (va_Pc av (WH C ws)) (QQ C post) mc ms (AN C.2.2.1)
theorem wh_blind {C : WC} {ws : va_W} {av : List Value} : FrameBlind (va_Pc av (WH C ws)) := by
  intro a U g mk h
  obtain ⟨h0, h1, h2, h3, h4, h5, h6⟩ := h
  have hW : U.WarmedH (U.calling g mk a).vm := State.WarmedH.refl U
  exact ⟨h0, h1, h2, h3, va_K.moved (Vm.Alike.refl U.vm) h4, h5.warm hW, h6.to hW (fun _ _ _ => rfl)⟩
/-! the judgement: a method at a place, its locals, its operands, its world -/
abbrev GK : Type := Program × Launch × Env × Room × State × MethodId × Array Value × List Frame × Method × Code × Nat
def Cx (C : WC) (l0 : Launch) (own : String) (cc : ByteArray) (nL0 d Mc Ms : Nat) : GK → Prop
  | (p, l, e, R, s, m, args, below, meth, c, nL) => l = l0 ∧ nL = nL0 ∧ p.tables.exec = Jvm.exec ∧ c.code = cc ∧ c.maxLocals = nL ∧ s.vm.findClass own = some m.cls ∧ TWs s ∧ va_K C.1 vwCl (TY C) s ∧ C.2.2.1 ≤ s.heap.size ∧ EN C.2.2.2 C.2.2.1 s s.heap ∧ meth.locks = false ∧ l.stackTraces = false ∧ 10 + 2 * d ≤ R.frames ∧ 200 + 100 * d ≤ R.locals ∧ Mc ≤ R.cells ∧ Ms ≤ R.slots
def G (C : WC) : GK → (State → Prop) → Nat → Nat → Nat → List (Nat × Value) → List Value → va_W → Prop
  | (p, l, e, R, s, m, args, below, meth, c, nL), Q, cells, slots, pc, lv, st, ws => ∀ (H : Heap) (locs : List Loc) (ls : Array Slot), va_P C.1 vwCl ws H → va_D (AN C.2.2.1) ws → va_S (AN C.2.2.1) s.heap H locs → lv_has ls nL lv → W p l e R s m args below meth c H locs cells slots Q (F0 m pc ls st)
/-- an exception of the class E has been thrown at pc -/
def GX (C : WC) : GK → (State → Prop) → Nat → Nat → Nat → List (Nat × Value) → String → va_W → Prop
  | (p, l, e, R, s, m, args, below, meth, c, nL), Q, cells, slots, pc, lv, E, ws => ∀ (H : Heap) (locs : List Loc) (ls : Array Slot) (st : List Value) (ce : Cell) (q : Addr), va_P C.1 vwCl ws H → va_D (AN C.2.2.1) ws → va_S (AN C.2.2.1) s.heap H locs → lv_has ls nL lv → H[q]? = some ce → ce.vm = .none → s.vm.findClass E = some ce.cls → vx_W p l e R s m args below meth c H locs cells slots Q (F0 m pc ls st) q
/-- what the method's end owes -/
def Rt (C : WC) (ret : Option FieldType) (post : Option Value → va_W → Prop) (mc ms : Nat) (Q : State → Prop) : GK → Prop
  | (p, l, e, R, s, m, args, below, meth, c, nL) => meth.sig.returnType = ret ∧ ∀ (H : Heap) (locs : List Loc) (g : JFrame), W p l e R s m args below meth c H locs mc ms (MQ below (QQ C post) args s mc ms (AN C.2.2.1)) g → W p l e R s m args below meth c H locs mc ms Q g
/-- .. and where it throws -/
def Rx (C : WC) (px : String → va_W → Prop) (mc ms : Nat) (Q : State → Prop) : GK → Prop
  | (p, l, e, R, s, m, args, below, meth, c, nL) => (∃ Qc, Q = vx_MQ below Qc (XX C px) args s mc ms (AN C.2.2.1)) ∧ ∀ x ∈ c.exceptionTable.toList, False
theorem mm_of {C : WC} {l : Launch} {y : MethodName} {cc : ByteArray} {maxL : Nat} {ret : Option FieldType} {d mc ms : Nat} {av : List Value} {ws : va_W} {post : Option Value → va_W → Prop} (hy : plainName y.cls = true) (hlen : (lg_sl av).length ≤ maxL) (hfl : l.stackTraces = false)
    (body : ∀ (K : GK) (Q : State → Prop), Cx C l y.cls cc maxL d mc ms K → Rt C ret post mc ms Q K → G C K Q 0 0 0 (lv_args 0 av) [] ws) : MM C l y cc maxL ret d mc ms av ws post := by
  refine Met.ofW (cc := cc) (maxL := maxL) (ret := ret) hy rfl ?_
  intro p e s m args below meth c s₁ B hml hv
  obtain ⟨rfl, h1, h2, h3, h4, h5, h6⟩ := hv
  have hl := lv_entry av hlen
  rw [lg_entry_eq]
  exact body (p, l, e, _, s, m, av.toArray, below, meth, c, maxL) _ ⟨rfl, rfl, B.exec, B.bytes, hml, findClass_of_methodNamed B.named, h5, h4, h1, h6, B.notSynchronized, hfl, Nat.le_refl _, Nat.le_refl _, Nat.le_refl _, Nat.le_refl _⟩ ⟨B.returns, fun _ _ _ h => h⟩ _ _ _ h2 h3 va_S.rf hl
theorem mx_of {C : WC} {l : Launch} {y : MethodName} {cc : ByteArray} {maxL : Nat} {ret : Option FieldType} {d mc ms : Nat} {av : List Value} {ws : va_W} {post : Option Value → va_W → Prop} {px : String → va_W → Prop} (hy : plainName y.cls = true) (hlen : (lg_sl av).length ≤ maxL) (hfl : l.stackTraces = false)
    (body : ∀ (K : GK) (Q : State → Prop), Cx C l y.cls cc maxL d mc ms K → Rt C ret post mc ms Q K → Rx C px mc ms Q K → G C K Q 0 0 0 (lv_args 0 av) [] ws) : MX C l y cc maxL ret d mc ms av ws post px := by
  refine vx_ofW (cc := cc) (maxL := maxL) (ret := ret) hy rfl ?_
  intro p e s m args below meth c s₁ B hml ht hv
  obtain ⟨rfl, h1, h2, h3, h4, h5, h6⟩ := hv
  have hl := lv_entry av hlen
  rw [lg_entry_eq]
  exact body (p, l, e, _, s, m, av.toArray, below, meth, c, maxL) _ ⟨rfl, rfl, B.exec, B.bytes, hml, findClass_of_methodNamed B.named, h5, h4, h1, h6, B.notSynchronized, hfl, Nat.le_refl _, Nat.le_refl _, Nat.le_refl _, Nat.le_refl _⟩ ⟨B.returns, fun _ _ _ h => vx_ret h⟩ ⟨⟨_, rfl⟩, ht⟩ _ _ _ h2 h3 va_S.rf hl
/-- a method with handlers: its table as the body sees it -/
def Ht (hh : List (Nat × Nat × Nat × Nat)) : GK → Prop
  | (p, l, e, R, s, m, args, below, meth, c, nL) => c.exceptionTable.toList = tableOf hh
theorem mh_of {C : WC} {l : Launch} {y : MethodName} {cc : ByteArray} {maxL : Nat} {ret : Option FieldType} {hh : List (Nat × Nat × Nat × Nat)} {d mc ms : Nat} {av : List Value} {ws : va_W} {post : Option Value → va_W → Prop} (hy : plainName y.cls = true) (hlen : (lg_sl av).length ≤ maxL) (hfl : l.stackTraces = false)
    (body : ∀ (K : GK) (Q : State → Prop), Cx C l y.cls cc maxL d mc ms K → Rt C ret post mc ms Q K → Ht hh K → G C K Q 0 0 0 (lv_args 0 av) [] ws) : MH C l y cc maxL ret hh d mc ms av ws post := by
  refine va_MetW (cc := cc) (maxL := maxL) (ret := ret) (hh := hh) hy rfl ?_
  intro p e s m args below meth c s₁ B hml hv
  obtain ⟨rfl, h1, h2, h3, h4, h5, h6⟩ := hv
  have hl := lv_entry av hlen
  rw [lg_entry_eq]
  exact body (p, l, e, _, s, m, av.toArray, below, meth, c, maxL) _ ⟨rfl, rfl, B.exec, B.bytes, hml, findClass_of_methodNamed B.named, h5, h4, h1, h6, B.notSynchronized, hfl, Nat.le_refl _, Nat.le_refl _, Nat.le_refl _, Nat.le_refl _⟩ ⟨B.returns, fun _ _ _ h => h⟩ (vx_table (x := y) B (atoms_spec (ws := [.codeWith y cc maxL ret hh]) B.pre _ List.mem_cons_self)) _ _ _ h2 h3 va_S.rf hl
