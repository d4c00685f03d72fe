theorem lt_1 {w : Cond} (h : w ∈ tables_1_1) : w ∈ lw_tbl := List.mem_append_right _ (List.mem_append_left _ h)
theorem lt_2 {w : Cond} (h : w ∈ tables_1_2) : w ∈ lw_tbl := List.mem_append_right _ (List.mem_append_right _ (List.mem_append_left _ h))
theorem lt_3 {w : Cond} (h : w ∈ tables_1_3) : w ∈ lw_tbl := List.mem_append_right _ (List.mem_append_right _ (List.mem_append_right _ (List.mem_append_left _ h)))
theorem lt_4 {w : Cond} (h : w ∈ tables_1_4) : w ∈ lw_tbl := List.mem_append_right _ (List.mem_append_right _ (List.mem_append_right _ (List.mem_append_right _ (List.mem_append_left _ h))))
theorem lt_5 {w : Cond} (h : w ∈ tables_1_5) : w ∈ lw_tbl := List.mem_append_right _ (List.mem_append_right _ (List.mem_append_right _ (List.mem_append_right _ (List.mem_append_right _ (List.mem_append_left _ h)))))
theorem lt_6 {w : Cond} (h : w ∈ tables_1_6) : w ∈ lw_tbl := List.mem_append_right _ (List.mem_append_right _ (List.mem_append_right _ (List.mem_append_right _ (List.mem_append_right _ (List.mem_append_right _ (h))))))
theorem no_AN {n : Nat} : ∀ a : Nat, a < n → ¬ AN n a := fun a h q => by have h9 : n ≤ a := q; omega
theorem tws_start {b : Nat} {s : State} (hts : ∀ w ∈ lw_tbl, w.before #[Value.ref b] s = true) : TWs s := fun w hw => tw_warm (TWs.ok hw) (State.WarmedH.refl s) (hts w (List.mem_filter.mp hw).1)

theorem es_1 {b : Nat} {s : State} (hts : ∀ w ∈ lw_tbl, w.before #[Value.ref b] s = true) (hgv : (Jvm.Cond.and given_1 narrow_1).before #[Value.ref b] s = true) : vx_Zq Bundle.tN "UNASSIGNED_STACK" Bundle.steD (AN s.heap.size) s s.heap ∧ vx_Zq Bundle.tN "SUPPRESSED_SENTINEL" Bundle.listD (AN s.heap.size) s s.heap := by
  have hn := flat_of_before _ hgv
  have hT := tws_start hts
  exact ⟨vx_Zqof (hts _ (lt_2 (List.mem_of_getElem? (i := 124) (by decide +kernel)))) (hT.at #[Value.ref b] _ q1_15) (hn _ (List.mem_of_getElem? (i := 9) (by decide +kernel))) no_AN, vx_Zqof (hts _ (lt_2 (List.mem_of_getElem? (i := 126) (by decide +kernel)))) (hT.at #[Value.ref b] _ q1_15) (hn _ (List.mem_of_getElem? (i := 10) (by decide +kernel))) no_AN⟩
theorem es_2 {b : Nat} {s : State} (hts : ∀ w ∈ lw_tbl, w.before #[Value.ref b] s = true) (hgv : (Jvm.Cond.and given_1 narrow_1).before #[Value.ref b] s = true) : va_Z "java/lang/String" "COMPACT_STRINGS" "Z" (.int 1) (AN s.heap.size) s s.heap := by
  have hn := flat_of_before _ hgv
  have hT := tws_start hts
  exact va_Zof (hts _ (lt_1 (List.mem_of_getElem? (i := 73) (by decide +kernel)))) (hT.at #[Value.ref b] _ q1_7) (va_eqi (hn _ (List.mem_of_getElem? (i := 8) (by decide +kernel)))) no_AN
theorem es_3 {b : Nat} {s : State} (hts : ∀ w ∈ lw_tbl, w.before #[Value.ref b] s = true) (hgv : (Jvm.Cond.and given_1 narrow_1).before #[Value.ref b] s = true) : ∃ e0 : Nat, va_Z "java/util/ArrayList" "DEFAULTCAPACITY_EMPTY_ELEMENTDATA" "[Ljava/lang/Object;" (.ref e0) (AN s.heap.size) s s.heap ∧ va_T (.object "java/lang/Object") e0 0 (fun _ => .null) (AN s.heap.size) s s.heap := by
  have hn := flat_of_before _ hgv
  have hT := tws_start hts
  obtain ⟨e0, h1, h2⟩ := va_Tof (tm := .static "java/util/ArrayList" "DEFAULTCAPACITY_EMPTY_ELEMENTDATA" "[Ljava/lang/Object;") (ty := .object "java/lang/Object") (N := 0) (f := fun _ => .null) (by decide) (hn _ (List.mem_of_getElem? (i := 5) (by decide +kernel))) (va_eqt (hn _ (List.mem_of_getElem? (i := 7) (by decide +kernel)))) (fun j hj => absurd hj (by omega)) no_AN
  exact ⟨e0, va_Zof (hts _ (lt_1 (List.mem_of_getElem? (i := 50) (by decide +kernel)))) (hT.at #[Value.ref b] _ q1_4) h1 no_AN, h2⟩
theorem es_d0 : ∀ j : Fin 100, (flatC (Jvm.Cond.and given_1 narrow_1))[18 + (j : Nat)]? = some (Cond.eq (.elem (.static "java/lang/Integer" "DigitOnes" "[B") (.int (Int32.ofNat (j : Nat)))) (.int (iZ (48 + ((j : Nat) : Int) % 10)))) := by decide +kernel
theorem es_4 {b : Nat} {s : State} (hts : ∀ w ∈ lw_tbl, w.before #[Value.ref b] s = true) (hgv : (Jvm.Cond.and given_1 narrow_1).before #[Value.ref b] s = true) : ∃ e1 : Nat, va_Z "java/lang/Integer" "DigitOnes" "[B" (.ref e1) (AN s.heap.size) s s.heap ∧ va_T .byte e1 100 dOnes (AN s.heap.size) s s.heap := by
  have hn := flat_of_before _ hgv
  have hT := tws_start hts
  obtain ⟨e1, h1, h2⟩ := va_Tof (tm := .static "java/lang/Integer" "DigitOnes" "[B") (ty := .byte) (N := 100) (f := dOnes) (by decide) (hn _ (List.mem_of_getElem? (i := 16) (by decide +kernel))) (va_eqt (hn _ (List.mem_of_getElem? (i := 17) (by decide +kernel)))) (fun j hj => va_eqt (hn _ (List.mem_of_getElem? (es_d0 ⟨j, hj⟩)))) no_AN
  exact ⟨e1, va_Zof (hts _ (lt_4 (List.mem_of_getElem? (i := 38) (by decide +kernel)))) (hT.at #[Value.ref b] _ q1_27) h1 no_AN, h2⟩
theorem es_d1 : ∀ j : Fin 100, (flatC (Jvm.Cond.and given_1 narrow_1))[121 + (j : Nat)]? = some (Cond.eq (.elem (.static "java/lang/Integer" "DigitTens" "[B") (.int (Int32.ofNat (j : Nat)))) (.int (iZ (48 + ((j : Nat) : Int) / 10)))) := by decide +kernel
theorem es_5 {b : Nat} {s : State} (hts : ∀ w ∈ lw_tbl, w.before #[Value.ref b] s = true) (hgv : (Jvm.Cond.and given_1 narrow_1).before #[Value.ref b] s = true) : ∃ e1 : Nat, va_Z "java/lang/Integer" "DigitTens" "[B" (.ref e1) (AN s.heap.size) s s.heap ∧ va_T .byte e1 100 dTens (AN s.heap.size) s s.heap := by
  have hn := flat_of_before _ hgv
  have hT := tws_start hts
  obtain ⟨e1, h1, h2⟩ := va_Tof (tm := .static "java/lang/Integer" "DigitTens" "[B") (ty := .byte) (N := 100) (f := dTens) (by decide) (hn _ (List.mem_of_getElem? (i := 119) (by decide +kernel))) (va_eqt (hn _ (List.mem_of_getElem? (i := 120) (by decide +kernel)))) (fun j hj => va_eqt (hn _ (List.mem_of_getElem? (es_d1 ⟨j, hj⟩)))) no_AN
  exact ⟨e1, va_Zof (hts _ (lt_4 (List.mem_of_getElem? (i := 40) (by decide +kernel)))) (hT.at #[Value.ref b] _ q1_27) h1 no_AN, h2⟩
theorem vk_ex {s : State} {own tx : String} {k : Nat} {A : Array Value} (h1 : (Cond.stringRef own k tx).before A s = true) (h2 : (Cond.exactly (.string own k) "java/lang/String").before A s = true) : ∃ q, vk_R own k tx q s := by
  obtain ⟨a2, c, cA, kA, q1, -⟩ := Cond.exactly_spec (args := A) (first := s) (o := none) (s := s) (idx := []) (t := .string own k) (cls := "java/lang/String") h2
  exact ⟨a2, vk_R.of (A := A) h1 q1⟩
theorem es_6 {b : Nat} {s : State} (hts : ∀ w ∈ lw_tbl, w.before #[Value.ref b] s = true) (hgv : (Jvm.Cond.and given_1 narrow_1).before #[Value.ref b] s = true) : ∀ x ∈ SL, ∃ q, vk_R x.1 x.2.1 x.2.2 q s := by
  have hn := flat_of_before _ hgv
  have hT := tws_start hts
  exact List.forall_mem_cons.mpr ⟨vk_ex (own := "Springleaf") (k := 183) (tx := "there is no such fold") (hts _ (lt_2 (List.mem_of_getElem? (i := 140) (by decide +kernel)))) (hn _ (List.mem_of_getElem? (i := 253) (by decide +kernel))), List.forall_mem_cons.mpr ⟨vk_ex (own := "Springleaf") (k := 45) (tx := "pull is 1 to 8, lean -90 to 90") (hts _ (lt_2 (List.mem_of_getElem? (i := 175) (by decide +kernel)))) (hn _ (List.mem_of_getElem? (i := 278) (by decide +kernel))), List.forall_mem_cons.mpr ⟨vk_ex (own := "Springleaf") (k := 60) (tx := "there are 12 folds, or the page is bound") (hts _ (lt_2 (List.mem_of_getElem? (i := 192) (by decide +kernel)))) (hn _ (List.mem_of_getElem? (i := 313) (by decide +kernel))), List.forall_mem_cons.mpr ⟨vk_ex (own := "Springleaf") (k := 67) (tx := "place is 0 to 60, line 0 to 20, lines 1 to 10") (hts _ (lt_2 (List.mem_of_getElem? (i := 206) (by decide +kernel)))) (hn _ (List.mem_of_getElem? (i := 359) (by decide +kernel))), List.forall_mem_cons.mpr ⟨vk_ex (own := "Springleaf") (k := 191) (tx := "length is 1 to 30") (hts _ (lt_2 (List.mem_of_getElem? (i := 210) (by decide +kernel)))) (hn _ (List.mem_of_getElem? (i := 411) (by decide +kernel))), List.forall_mem_cons.mpr ⟨vk_ex (own := "Springleaf") (k := 72) (tx := "there are 16 parts, or the page is bound") (hts _ (lt_2 (List.mem_of_getElem? (i := 211) (by decide +kernel)))) (hn _ (List.mem_of_getElem? (i := 436) (by decide +kernel))), List.forall_mem_cons.mpr ⟨vk_ex (own := "Springleaf") (k := 187) (tx := "open is 0 to 180") (hts _ (lt_3 (List.mem_of_getElem? (i := 27) (by decide +kernel)))) (hn _ (List.mem_of_getElem? (i := 485) (by decide +kernel))), List.forall_mem_cons.mpr ⟨vk_ex (own := "Springleaf") (k := 185) (tx := "there is no such part") (hts _ (lt_3 (List.mem_of_getElem? (i := 54) (by decide +kernel)))) (hn _ (List.mem_of_getElem? (i := 511) (by decide +kernel))), List.forall_mem_cons.mpr ⟨vk_ex (own := "Springleaf") (k := 189) (tx := "what is 0 to 2") (hts _ (lt_3 (List.mem_of_getElem? (i := 58) (by decide +kernel)))) (hn _ (List.mem_of_getElem? (i := 543) (by decide +kernel))), List.forall_mem_cons.mpr ⟨vk_ex (own := "Springleaf") (k := 132) (tx := "the part is glued") (hts _ (lt_3 (List.mem_of_getElem? (i := 87) (by decide +kernel)))) (hn _ (List.mem_of_getElem? (i := 569) (by decide +kernel))), List.forall_mem_cons.mpr ⟨vk_ex (own := "Springleaf") (k := 140) (tx := "the part cannot be glued") (hts _ (lt_3 (List.mem_of_getElem? (i := 100) (by decide +kernel)))) (hn _ (List.mem_of_getElem? (i := 599) (by decide +kernel))), List.forall_mem_cons.mpr ⟨vk_ex (own := "Springleaf") (k := 148) (tx := "no part is glued") (hts _ (lt_3 (List.mem_of_getElem? (i := 108) (by decide +kernel)))) (hn _ (List.mem_of_getElem? (i := 637) (by decide +kernel))), List.forall_mem_cons.mpr ⟨vk_ex (own := "Springleaf") (k := 159) (tx := "there is no such step") (hts _ (lt_3 (List.mem_of_getElem? (i := 124) (by decide +kernel)))) (hn _ (List.mem_of_getElem? (i := 668) (by decide +kernel))), List.forall_mem_cons.mpr ⟨vk_ex (own := "Springleaf") (k := 171) (tx := "there is no such place") (hts _ (lt_3 (List.mem_of_getElem? (i := 139) (by decide +kernel)))) (hn _ (List.mem_of_getElem? (i := 705) (by decide +kernel))), fun _ h => nomatch h⟩⟩⟩⟩⟩⟩⟩⟩⟩⟩⟩⟩⟩⟩
theorem es_7 {b : Nat} {s : State} (hts : ∀ w ∈ lw_tbl, w.before #[Value.ref b] s = true) (hgv : (Jvm.Cond.and given_1 narrow_1).before #[Value.ref b] s = true) : ∃ aK aV : Nat, ST "Springleaf$Fold" 63 " on " aK aV 4 sOn s.heap.size s s.heap := by
  have hn := flat_of_before _ hgv
  have hT := tws_start hts
  obtain ⟨aK, hK⟩ := vk_ex (own := "Springleaf$Fold") (k := 63) (tx := " on ") (hts _ (lt_4 (List.mem_of_getElem? (i := 190) (by decide +kernel)))) (hn _ (List.mem_of_getElem? (i := 946) (by decide +kernel)))
  obtain ⟨aV, h1, h2⟩ := va_Tof (tm := .field (.string "Springleaf$Fold" 63) "java/lang/String" "value" "[B") (ty := .byte) (N := 4) (f := sOn) (by decide) (hn _ (List.mem_of_getElem? (i := 948) (by decide +kernel))) (va_eqt (hn _ (List.mem_of_getElem? (i := 949) (by decide +kernel)))) (fun j hj => by
    have hc : j = 0 ∨ j = 1 ∨ j = 2 ∨ j = 3 := by omega
    rcases hc with rfl | rfl | rfl | rfl
    · exact va_eqt (hn _ (List.mem_of_getElem? (i := 950) (by decide +kernel)))
    · exact va_eqt (hn _ (List.mem_of_getElem? (i := 951) (by decide +kernel)))
    · exact va_eqt (hn _ (List.mem_of_getElem? (i := 952) (by decide +kernel)))
    · exact va_eqt (hn _ (List.mem_of_getElem? (i := 953) (by decide +kernel)))) no_AN
  have ht : (Term.string "Springleaf$Fold" 63).eval #[Value.ref b] s none [] s = some (.ref aK) := hK.2
  exact ⟨aK, aV, hK, va_Oof (hn _ (List.mem_of_getElem? (i := 946) (by decide +kernel))) ht no_AN, vk_OFof ht (va_eqt (hn _ (List.mem_of_getElem? (i := 947) (by decide +kernel)))) no_AN, vk_OFof ht h1 no_AN, h2⟩
theorem es_9 {b : Nat} {s : State} (hts : ∀ w ∈ lw_tbl, w.before #[Value.ref b] s = true) (hgv : (Jvm.Cond.and given_1 narrow_1).before #[Value.ref b] s = true) : ∃ mi : Nat, va_Mi "[Ljava/lang/Object;" mi s := by
  have hn := flat_of_before _ hgv
  have hT := tws_start hts
  exact va_Mi.of (hn _ (List.mem_of_getElem? (i := 252) (by decide +kernel)))
theorem en_start {b : Nat} {s : State} (hts : ∀ w ∈ lw_tbl, w.before #[Value.ref b] s = true) (hgv : (Jvm.Cond.and given_1 narrow_1).before #[Value.ref b] s = true) : ∃ ea : Nat → Nat, EN ea s.heap.size s s.heap := by
  have hn := flat_of_before _ hgv
  have hT := tws_start hts
  obtain ⟨e0, a1, a2⟩ := es_3 hts hgv
  obtain ⟨e1, b1, b2⟩ := es_4 hts hgv
  obtain ⟨e2, c1, c2⟩ := es_5 hts hgv
  obtain ⟨e3, e4, d1⟩ := es_7 hts hgv
  obtain ⟨e5, d3⟩ := es_9 hts hgv
  refine ⟨fun i => match i with | 0 => e0 | 1 => e1 | 2 => e2 | 3 => e3 | 4 => e4 | _ => e5, es_1 hts hgv, es_2 hts hgv, ⟨a1, a2⟩, ⟨b1, b2⟩, ⟨c1, c2⟩, es_6 hts hgv, d1, trivial, va_AO.of (A := #[Value.ref b]) (hts _ (lt_1 (List.mem_of_getElem? (i := 176) (by decide +kernel)))), (fun _ h => absurd h List.not_mem_nil), d3, va_Zqof (hts _ (lt_3 (List.mem_of_getElem? (i := 208) (by decide +kernel)))) (hT.at #[Value.ref b] _ q1_21) (hn _ (List.mem_of_getElem? (i := 11) (by decide +kernel))) no_AN, List.forall_mem_cons.mpr ⟨va_Nc.of (hn _ (List.mem_of_getElem? (i := 226) (by decide +kernel))), List.forall_mem_cons.mpr ⟨va_Nc.of (hn _ (List.mem_of_getElem? (i := 227) (by decide +kernel))), List.forall_mem_cons.mpr ⟨va_Nc.of (hn _ (List.mem_of_getElem? (i := 236) (by decide +kernel))), fun _ h => nomatch h⟩⟩⟩⟩
