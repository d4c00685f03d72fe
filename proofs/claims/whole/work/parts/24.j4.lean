theorem AppP.txt {cap : Nat} {bt g : Int → Int} {k : Int} {n : Nat} {x : Nat × Nat × (Int → Int)} (h : EnsP cap bt (k + n) x) (k1 : k ≤ cap) (hg : ∀ i : Int, 0 ≤ i → i < n → 0 ≤ g i ∧ g i < 128) : AppP cap bt k n g (x.1, x.2.1, cpI g x.2.2 0 k n) := by
  refine ⟨h.1, fun j j0 j1 => ?_, fun j j0 j1 => ?_, fun i i0 i1 => ?_⟩
  · show 0 ≤ cpI g x.2.2 0 k n j ∧ cpI g x.2.2 0 k n j < 128
    unfold cpI
    split
    · exact hg _ (by omega) (by omega)
    · exact h.2.1 j j0 j1
  · show cpI g x.2.2 0 k n j = bt j
    unfold cpI
    rw [if_neg (by omega)]; exact h.2.2 j j0 (by omega)
  · show cpI g x.2.2 0 k n (k + i) = g i
    unfold cpI
    rw [if_pos (by omega)]
    congr 1
    omega
set_option maxHeartbeats 4000000 in
set_option maxRecDepth 100000 in
/-- String.coder() -/
theorem c_J0_coder_7d493 {C : WC} {l : Launch} (hfl : l.stackTraces = false) {ws : va_W} {ow tx : String} {kk aK aV n : Nat} {g : Int → Int}  (hs : ∀ (s : State) (H : Heap), EN C.2.2.2 C.2.2.1 s H → ST ow kk tx aK aV n (fun j => vi (g (j : Int))) C.2.2.1 s H) : MM C l yJ0_coder_7d493 cJ0_coder_7d493 1 (some .byte) 0 0 0 [.ref aK] ws (rv (vi 0) ws) := by
  refine mf_of (by decide +kernel) (Nat.le_of_ble_eq_true rfl) hfl (fun K Q X r => ?_)
  have X : Cx C l "java/lang/String" cJ0_coder_7d493 1 0 0 0 K := X
  show G C K Q 0 0 0 [(0, .ref aK)] [] ws
  refine g_gets (t := 3) (v := vi 1) X q3_229 (fun s H h => h.2.1) dJ0_coder_7d493_0 rfl ?_
  refine g_if_eq (t := 13) (u := 6) X dJ0_coder_7d493_3 (by decide) rfl ⟨by omega, by omega⟩ (fun c => absurd c (by decide)) (fun _ => ?_)
  refine g_aload_n (t := 7) X dJ0_coder_7d493_6 0 rfl rfl ?_
  refine g_sfld (t := 10) (v := vi 0) X q4_107 (fun s H h => (hs s H h).2.2.1) dJ0_coder_7d493_7 rfl ?_
  refine g_goto (t := 14) X dJ0_coder_7d493_10 (by decide) ?_
  exact g_zret X r rfl (rv_i rfl) (Nat.le_of_ble_eq_true rfl) (Nat.le_of_ble_eq_true rfl) dJ0_coder_7d493_14

set_option maxHeartbeats 4000000 in
set_option maxRecDepth 100000 in
/-- String.length() -/
theorem c_J0_length_8abf5 {C : WC} {l : Launch} (hfl : l.stackTraces = false) {ws : va_W} {ow tx : String} {kk aK aV n : Nat} {g : Int → Int}  (hs : ∀ (s : State) (H : Heap), EN C.2.2.2 C.2.2.1 s H → ST ow kk tx aK aV n (fun j => vi (g (j : Int))) C.2.2.1 s H) : MM C l yJ0_length_8abf5 cJ0_length_8abf5 1 (some .int) 1 0 0 [.ref aK] ws (rv (vi (n : Int)) ws) := by
  refine mf_of (by decide +kernel) (Nat.le_of_ble_eq_true rfl) hfl (fun K Q X r => ?_)
  have X : Cx C l "java/lang/String" cJ0_length_8abf5 1 1 0 0 K := X
  show G C K Q 0 0 0 [(0, .ref aK)] [] ws
  refine g_aload_n (t := 1) X dJ0_length_8abf5_0 0 rfl rfl ?_
  refine g_sfld (t := 4) (v := .ref aV) X q4_106 (fun s H h => (hs s H h).2.2.2.1) dJ0_length_8abf5_1 rfl ?_
  refine g_tlen (t := 5) X (fun s H h => (hs s H h).2.2.2.2) dJ0_length_8abf5_4 rfl ?_
  refine g_aload_n (t := 6) X dJ0_length_8abf5_5 0 rfl rfl ?_
  refine g_callK (t := 9) (mc := 0) (ms := 0) (rest := [vi (n : Int)]) X mt_J0_coder_7d493 q3_225 q3_226 q3_227 (fun s H h => (hs s H h).2.1) (c_J0_coder_7d493 hfl hs) (by decide) (Nat.le_of_ble_eq_true rfl) (Nat.le_of_ble_eq_true rfl) (Nat.le_of_ble_eq_true rfl) rfl rfl dJ0_length_8abf5_6 rfl (k_rv ?_)
  refine g_ishr0 (t := 10) X dJ0_length_8abf5_9 rfl ?_
  exact g_iret X r (rv_i rfl) (Nat.le_of_ble_eq_true rfl) (Nat.le_of_ble_eq_true rfl) dJ0_length_8abf5_10

set_option maxHeartbeats 4000000 in
set_option maxRecDepth 100000 in
/-- String.getBytes(row, k, 0) -/
theorem c_J0_getBytes_840e7 {C : WC} {l : Launch} (hfl : l.stackTraces = false) {sb bv cap : Nat} {bt : Int → Int} {cnt ml : Int} {R : va_W} {ow tx : String} {kk aK aV n : Nat} {g : Int → Int} {k : Int}  (hs : ∀ (s : State) (H : Heap), EN C.2.2.2 C.2.2.1 s H → ST ow kk tx aK aV n (fun j => vi (g (j : Int))) C.2.2.1 s H) (n1 : n ≤ 100) (hg : ∀ i : Int, 0 ≤ i → i < n → 0 ≤ g i ∧ g i < 128) (k0 : 0 ≤ k) (k1 : k + n ≤ cap) (c3 : cap ≤ 700) : MM C l yJ0_getBytes_840e7 cJ0_getBytes_840e7 4 none 1 0 0 [.ref aK, .ref bv, vi k, vi 0] ((sb, .inr (1, fSB (bv, cap, bt, cnt, ml))) :: (bv, aB C cap bt) :: R) (rn ((sb, .inr (1, fSB (bv, cap, cpI g bt 0 k (n : Int), cnt, ml))) :: (bv, aB C cap (cpI g bt 0 k (n : Int))) :: R)) := by
  refine mf_of (by decide +kernel) (Nat.le_of_ble_eq_true rfl) hfl (fun K Q X r => ?_)
  have X : Cx C l "java/lang/String" cJ0_getBytes_840e7 4 1 0 0 K := X
  show G C K Q 0 0 0 [(0, .ref aK), (1, .ref bv), (2, vi k), (3, vi 0)] [] ((sb, .inr (1, fSB (bv, cap, bt, cnt, ml))) :: (bv, aB C cap bt) :: R)
  refine g_aload_n (t := 1) X dJ0_getBytes_840e7_0 0 rfl rfl ?_
  refine g_callK (t := 4) (mc := 0) (ms := 0) (rest := []) X mt_J0_coder_7d493 q3_225 q3_226 q3_227 (fun s H h => (hs s H h).2.1) (c_J0_coder_7d493 hfl hs) (by decide) (Nat.le_of_ble_eq_true rfl) (Nat.le_of_ble_eq_true rfl) (Nat.le_of_ble_eq_true rfl) rfl rfl dJ0_getBytes_840e7_1 rfl (k_rv ?_)
  refine g_iload_n (t := 5) X dJ0_getBytes_840e7_4 3 rfl rfl ?_
  refine g_icmp_ne (t := 28) (u := 8) X dJ0_getBytes_840e7_5 (by decide) rfl ⟨by omega, by omega⟩ ⟨by omega, by omega⟩ (fun c => absurd c (by decide)) (fun _ => ?_)
  refine g_aload_n (t := 9) X dJ0_getBytes_840e7_8 0 rfl rfl ?_
  refine g_sfld (t := 12) (v := .ref aV) X q4_106 (fun s H h => (hs s H h).2.2.2.1) dJ0_getBytes_840e7_9 rfl ?_
  refine g_iconst (t := 13) X dJ0_getBytes_840e7_12 rfl ?_
  refine g_aload_n (t := 14) X dJ0_getBytes_840e7_13 1 rfl rfl ?_
  refine g_iload_n (t := 15) X dJ0_getBytes_840e7_14 2 rfl rfl ?_
  refine g_iload_n (t := 16) X dJ0_getBytes_840e7_15 3 rfl rfl ?_
  refine g_ishl0 (t := 17) X dJ0_getBytes_840e7_16 rfl ?_
  refine g_aload_n (t := 18) X dJ0_getBytes_840e7_17 0 rfl rfl ?_
  refine g_sfld (t := 21) (v := .ref aV) X q4_106 (fun s H h => (hs s H h).2.2.2.1) dJ0_getBytes_840e7_18 rfl ?_
  refine g_tlen (t := 22) X (fun s H h => (hs s H h).2.2.2.2) dJ0_getBytes_840e7_21 rfl ?_
  refine g_copyt (t := 25) (sp := 0) (dp := k) (n := (n : Int)) (f := g) (g := bt) (ws1 := (((sb, .inr (1, fSB (bv, cap, (cpI g bt 0 k (n : Int)), cnt, ml))) :: (bv, aB C cap (cpI g bt 0 k (n : Int))) :: R))) X 1 q4_22 q1_183 q1_182 q1_13 (fun s H h => (hs s H h).2.2.2.2) rfl (by omega) (by omega) (by omega) (by omega) (by omega) (by omega) (by omega) (fun i i0 i1 => hg i i0 (by omega)) (Nat.le_of_ble_eq_true rfl) rfl dJ0_getBytes_840e7_22 rfl ?_
  refine g_goto (t := 43) X dJ0_getBytes_840e7_25 (by decide) ?_
  exact g_vret X r rn_i (Nat.le_of_ble_eq_true rfl) (Nat.le_of_ble_eq_true rfl) dJ0_getBytes_840e7_43

set_option maxHeartbeats 4000000 in
set_option maxRecDepth 100000 in
/-- inflateIfNeededFor(text) -/
theorem c_J5_inflateIfNeededFor_a7421 {C : WC} {l : Launch} (hfl : l.stackTraces = false) {sb bv cap : Nat} {bt : Int → Int} {cnt ml : Int} {R : va_W} {ow tx : String} {kk aK aV n : Nat} {g : Int → Int}  (hs : ∀ (s : State) (H : Heap), EN C.2.2.2 C.2.2.1 s H → ST ow kk tx aK aV n (fun j => vi (g (j : Int))) C.2.2.1 s H) : MM C l yJ5_inflateIfNeededFor_a7421 cJ5_inflateIfNeededFor_a7421 2 none 1 0 0 [.ref sb, .ref aK] ((sb, .inr (1, fSB (bv, cap, bt, cnt, ml))) :: (bv, aB C cap bt) :: R) (rn ((sb, .inr (1, fSB (bv, cap, bt, cnt, ml))) :: (bv, aB C cap bt) :: R)) := by
  refine mf_of (by decide +kernel) (Nat.le_of_ble_eq_true rfl) hfl (fun K Q X r => ?_)
  have X : Cx C l "java/lang/AbstractStringBuilder" cJ5_inflateIfNeededFor_a7421 2 1 0 0 K := X
  show G C K Q 0 0 0 [(0, .ref sb), (1, .ref aK)] [] ((sb, .inr (1, fSB (bv, cap, bt, cnt, ml))) :: (bv, aB C cap bt) :: R)
  refine g_gets (t := 3) (v := vi 1) X q1_72 (fun s H h => h.2.1) dJ5_inflateIfNeededFor_a7421_0 rfl ?_
  refine g_if_eq (t := 21) (u := 6) X dJ5_inflateIfNeededFor_a7421_3 (by decide) rfl ⟨by omega, by omega⟩ (fun c => absurd c (by decide)) (fun _ => ?_)
  refine g_aload_n (t := 7) X dJ5_inflateIfNeededFor_a7421_6 0 rfl rfl ?_
  refine g_getf (t := 10) (v := vi 0) X inJ4 0 rfl rfl 1 (by decide) q1_82 rfl rfl dJ5_inflateIfNeededFor_a7421_7 rfl ?_
  refine g_aload_n (t := 11) X dJ5_inflateIfNeededFor_a7421_10 1 rfl rfl ?_
  refine g_callK (t := 14) (mc := 0) (ms := 0) (rest := [vi 0]) X mt_J0_coder_7d493 q3_238 q3_226 q3_227 (fun s H h => (hs s H h).2.1) (c_J0_coder_7d493 hfl hs) (by decide) (Nat.le_of_ble_eq_true rfl) (Nat.le_of_ble_eq_true rfl) (Nat.le_of_ble_eq_true rfl) rfl rfl dJ5_inflateIfNeededFor_a7421_11 rfl (k_rv ?_)
  refine g_icmp_eq (t := 21) (u := 17) X dJ5_inflateIfNeededFor_a7421_14 (by decide) rfl ⟨by omega, by omega⟩ ⟨by omega, by omega⟩ (fun _ => ?_) (fun c => absurd c (by decide))
  exact g_vret X r rn_i (Nat.le_of_ble_eq_true rfl) (Nat.le_of_ble_eq_true rfl) dJ5_inflateIfNeededFor_a7421_21

set_option maxHeartbeats 4000000 in
set_option maxRecDepth 100000 in
/-- putStringAt(k, text) -/
theorem c_J5_putStringAt_47b60 {C : WC} {l : Launch} (hfl : l.stackTraces = false) {sb bv cap : Nat} {bt : Int → Int} {cnt ml : Int} {R : va_W} {ow tx : String} {kk aK aV n : Nat} {g : Int → Int} {k : Int}  (hs : ∀ (s : State) (H : Heap), EN C.2.2.2 C.2.2.1 s H → ST ow kk tx aK aV n (fun j => vi (g (j : Int))) C.2.2.1 s H) (n1 : n ≤ 100) (hg : ∀ i : Int, 0 ≤ i → i < n → 0 ≤ g i ∧ g i < 128) (k0 : 0 ≤ k) (k1 : k + n ≤ cap) (c3 : cap ≤ 700) : MM C l yJ5_putStringAt_47b60 cJ5_putStringAt_47b60 3 none 2 0 0 [.ref sb, vi k, .ref aK] ((sb, .inr (1, fSB (bv, cap, bt, cnt, ml))) :: (bv, aB C cap bt) :: R) (rn ((sb, .inr (1, fSB (bv, cap, cpI g bt 0 k (n : Int), cnt, ml))) :: (bv, aB C cap (cpI g bt 0 k (n : Int))) :: R)) := by
  refine mf_of (by decide +kernel) (Nat.le_of_ble_eq_true rfl) hfl (fun K Q X r => ?_)
  have X : Cx C l "java/lang/AbstractStringBuilder" cJ5_putStringAt_47b60 3 2 0 0 K := X
  show G C K Q 0 0 0 [(0, .ref sb), (1, vi k), (2, .ref aK)] [] ((sb, .inr (1, fSB (bv, cap, bt, cnt, ml))) :: (bv, aB C cap bt) :: R)
  refine g_aload_n (t := 1) X dJ5_putStringAt_47b60_0 0 rfl rfl ?_
  refine g_aload_n (t := 2) X dJ5_putStringAt_47b60_1 2 rfl rfl ?_
  refine g_callU (t := 5) (mc := 0) (ms := 0) (rest := []) (Cr := "java/lang/StringBuilder") X mt_J5_inflateIfNeededFor_a7421 q3_234 q5_222 q3_236 (sel_asb rfl q3_235 q3_236) 0 rfl rfl (c_J5_inflateIfNeededFor_a7421 hfl hs) (by decide) (Nat.le_of_ble_eq_true rfl) (Nat.le_of_ble_eq_true rfl) (Nat.le_of_ble_eq_true rfl) rfl rfl dJ5_putStringAt_47b60_2 rfl (k_rn ?_)
  refine g_aload_n (t := 6) X dJ5_putStringAt_47b60_5 2 rfl rfl ?_
  refine g_aload_n (t := 7) X dJ5_putStringAt_47b60_6 0 rfl rfl ?_
  refine g_getf (t := 10) (v := .ref bv) X inJ4 0 rfl rfl 0 (by decide) q1_81 rfl rfl dJ5_putStringAt_47b60_7 rfl ?_
  refine g_iload_n (t := 11) X dJ5_putStringAt_47b60_10 1 rfl rfl ?_
  refine g_aload_n (t := 12) X dJ5_putStringAt_47b60_11 0 rfl rfl ?_
  refine g_getf (t := 15) (v := vi 0) X inJ4 0 rfl rfl 1 (by decide) q1_82 rfl rfl dJ5_putStringAt_47b60_12 rfl ?_
  refine g_callK (t := 18) (mc := 0) (ms := 0) (rest := []) X mt_J0_getBytes_840e7 q4_18 q4_19 q4_20 (fun s H h => (hs s H h).2.1) (c_J0_getBytes_840e7 hfl hs n1 hg (by omega) (by omega) (by omega)) (by decide) (Nat.le_of_ble_eq_true rfl) (Nat.le_of_ble_eq_true rfl) (Nat.le_of_ble_eq_true rfl) rfl rfl dJ5_putStringAt_47b60_15 rfl (k_rn ?_)
  exact g_vret X r rn_i (Nat.le_of_ble_eq_true rfl) (Nat.le_of_ble_eq_true rfl) dJ5_putStringAt_47b60_18

set_option maxHeartbeats 4000000 in
set_option maxRecDepth 100000 in
/-- append(a text) -/
theorem c_J5_append_cf1ce {C : WC} {l : Launch} (hfl : l.stackTraces = false) {sb bv cap : Nat} {bt : Int → Int} {cnt ml : Int} {R : va_W} {ow tx : String} {kk aK aV n : Nat} {g : Int → Int} {mc ms : Nat}  (hs : ∀ (s : State) (H : Heap), EN C.2.2.2 C.2.2.1 s H → ST ow kk tx aK aV n (fun j => vi (g (j : Int))) C.2.2.1 s H) (n1 : n ≤ 100) (hg : ∀ i : Int, 0 ≤ i → i < n → 0 ≤ g i ∧ g i < 128) (c16 : 16 ≤ cap) (c3 : cap ≤ 300) (k0 : 0 ≤ cnt) (k1 : cnt ≤ cap) (hb : Lat cap bt) (k4 : cnt + (n : Int) ≤ cap + 4) (hbud : cnt + (n : Int) ≤ cap ∨ (1 ≤ mc ∧ 2 * cap + 2 ≤ ms)) : MM C l yJ5_append_cf1ce cJ5_append_cf1ce 3 (some (.object "java/lang/AbstractStringBuilder")) 3 mc ms [.ref sb, .ref aK] ((sb, .inr (1, fSB (bv, cap, bt, cnt, ml))) :: (bv, aB C cap bt) :: R) (fun v w => ∃ x : Nat × Nat × (Int → Int), AppP cap bt cnt (n : Int) g x ∧ v = some (.ref sb) ∧ w = (sb, .inr (1, fSB (x.1, x.2.1, x.2.2, cnt + (n : Int), ml))) :: (x.1, aB C x.2.1 x.2.2) :: R) := by
  refine mf_of (by decide +kernel) (Nat.le_of_ble_eq_true rfl) hfl (fun K Q X r => ?_)
  have X : Cx C l "java/lang/AbstractStringBuilder" cJ5_append_cf1ce 3 3 mc ms K := X
  show G C K Q 0 0 0 [(0, .ref sb), (1, .ref aK)] [] ((sb, .inr (1, fSB (bv, cap, bt, cnt, ml))) :: (bv, aB C cap bt) :: R)
  refine g_aload_n (t := 1) X dJ5_append_cf1ce_0 1 rfl rfl ?_
  refine g_ifnonnull (t := 9) X dJ5_append_cf1ce_1 (by decide) ?_
  refine g_aload_n (t := 10) X dJ5_append_cf1ce_9 1 rfl rfl ?_
  refine g_callK (t := 13) (mc := 0) (ms := 0) (rest := []) X mt_J0_length_8abf5 q3_221 q3_222 q3_223 (fun s H h => (hs s H h).2.1) (c_J0_length_8abf5 hfl hs) (by decide) (by omega) (by omega) (Nat.le_of_ble_eq_true rfl) rfl rfl dJ5_append_cf1ce_10 rfl (k_rv ?_)
  refine g_istore_n (t := 14) (lv1 := [(2, vi (n : Int)), (0, .ref sb), (1, .ref aK)]) X dJ5_append_cf1ce_13 (by decide) rfl rfl ?_
  refine g_aload_n (t := 15) X dJ5_append_cf1ce_14 1 rfl rfl ?_
  refine g_aload_n (t := 16) X dJ5_append_cf1ce_15 1 rfl rfl ?_
  refine g_getf (t := 19) (v := vi cnt) X inJ4 0 rfl rfl 3 (by decide) q1_85 rfl rfl dJ5_append_cf1ce_16 rfl ?_
  refine g_iload_n (t := 20) X dJ5_append_cf1ce_19 0 rfl rfl ?_
  refine g_iadd (t := 21) X dJ5_append_cf1ce_20 rfl ?_
  refine g_callU (t := 24) (mc := mc) (ms := ms) (rest := []) (Cr := "java/lang/StringBuilder") X mt_J5_ensureCapacityInternal_d00df q3_170 q5_219 q3_172 (sel_asb rfl q3_171 q3_172) 0 rfl rfl (c_J5_ensureCapacityInternal_d00df (mc := mc) (ms := ms) hfl c16 c3 k0 k1 hb (by omega) (by omega) (by omega)) (by decide) (by omega) (by omega) (Nat.le_of_ble_eq_true rfl) rfl rfl dJ5_append_cf1ce_21 rfl (k_exn (fun x hx => ?_))
  obtain ⟨bv1, cap1, bt1⟩ := x
  have hx1 : cap1 = ncap cap (cnt + (n : Int)) := hx.1
  have hgr := ncap_ge (cap := cap) (need := cnt + (n : Int)) (by omega) (by omega)
  have hgr2 := ncap_le cap (cnt + (n : Int))
  have hb1 : Lat cap1 bt1 := hx.2.1
  show G C K Q _ _ _ _ _ (((sb, .inr (1, fSB (bv1, cap1, bt1, cnt, ml))) :: (bv1, aB C cap1 bt1) :: R))
  refine g_aload_n (t := 25) X dJ5_append_cf1ce_24 1 rfl rfl ?_
  refine g_aload_n (t := 26) X dJ5_append_cf1ce_25 1 rfl rfl ?_
  refine g_getf (t := 29) (v := vi cnt) X inJ4 0 rfl rfl 3 (by decide) q1_85 rfl rfl dJ5_append_cf1ce_26 rfl ?_
  refine g_aload_n (t := 30) X dJ5_append_cf1ce_29 2 rfl rfl ?_
  refine g_callU (t := 33) (mc := 0) (ms := 0) (rest := []) (Cr := "java/lang/StringBuilder") X mt_J5_putStringAt_47b60 q3_230 q5_221 q3_232 (sel_asb rfl q3_231 q3_232) 0 rfl rfl (c_J5_putStringAt_47b60 hfl hs n1 hg (by omega) (by omega) (by omega)) (by decide) (by omega) (by omega) (Nat.le_of_ble_eq_true rfl) rfl rfl dJ5_append_cf1ce_30 rfl (k_rn ?_)
  refine g_aload_n (t := 34) X dJ5_append_cf1ce_33 1 rfl rfl ?_
  refine g_dup (t := 35) X dJ5_append_cf1ce_34 rfl rfl ?_
  refine g_getf (t := 38) (v := vi cnt) X inJ4 0 rfl rfl 3 (by decide) q1_85 rfl rfl dJ5_append_cf1ce_35 rfl ?_
  refine g_iload_n (t := 39) X dJ5_append_cf1ce_38 0 rfl rfl ?_
  refine g_iadd (t := 40) X dJ5_append_cf1ce_39 rfl ?_
  refine g_putf (t := 43) (ws1 := (((sb, .inr (1, fSB (bv1, cap1, (cpI g bt1 0 cnt (n : Int)), cnt + (n : Int), ml))) :: (bv1, aB C cap1 (cpI g bt1 0 cnt (n : Int))) :: R))) X inJ4 tyJ4 tyJ4_ok nmJ4 0 rfl rfl 3 (by decide) q1_85 rfl rfl rfl rfl rfl (Nat.le_of_ble_eq_true rfl) rfl dJ5_append_cf1ce_40 rfl ?_
  refine g_aload_n (t := 44) X dJ5_append_cf1ce_43 1 rfl rfl ?_
  exact g_aret X r (Or.inl ⟨_, rfl⟩) ⟨(bv1, cap1, cpI g bt1 0 cnt (n : Int)), AppP.txt (x := (bv1, cap1, bt1)) hx k1 hg, rfl, rfl⟩ (by omega) (by omega) dJ5_append_cf1ce_44

set_option maxHeartbeats 4000000 in
set_option maxRecDepth 100000 in
/-- setLength(0) -/
theorem c_J5_setLength_d00df {C : WC} {l : Launch} (hfl : l.stackTraces = false) {sb bv cap : Nat} {bt : Int → Int} {cnt ml : Int} {R : va_W}  (c16 : 16 ≤ cap) (c3 : cap ≤ 300) (k0 : 0 ≤ cnt) (k1 : cnt ≤ cap) (hb : Lat cap bt) : MM C l yJ5_setLength_d00df cJ5_setLength_d00df 2 none 3 0 0 [.ref sb, vi 0] ((sb, .inr (1, fSB (bv, cap, bt, cnt, ml))) :: (bv, aB C cap bt) :: R) (fun v w => ∃ x : (Nat × Nat × (Int → Int)) × Int, EnsP cap bt 0 x.1 ∧ v = none ∧ w = (sb, .inr (1, fSB (x.1.1, x.1.2.1, x.1.2.2, 0, x.2))) :: (x.1.1, aB C x.1.2.1 x.1.2.2) :: R) := by
  refine mf_of (by decide +kernel) (Nat.le_of_ble_eq_true rfl) hfl (fun K Q X r => ?_)
  have X : Cx C l "java/lang/AbstractStringBuilder" cJ5_setLength_d00df 2 3 0 0 K := X
  show G C K Q 0 0 0 [(0, .ref sb), (1, vi 0)] [] ((sb, .inr (1, fSB (bv, cap, bt, cnt, ml))) :: (bv, aB C cap bt) :: R)
  refine g_iload_n (t := 1) X dJ5_setLength_d00df_0 1 rfl rfl ?_
  refine g_if_ge (t := 13) (u := 4) X dJ5_setLength_d00df_1 (by decide) rfl ⟨by omega, by omega⟩ (fun _ => ?_) (fun c => absurd c (by decide))
  refine g_aload_n (t := 14) X dJ5_setLength_d00df_13 0 rfl rfl ?_
  refine g_iload_n (t := 15) X dJ5_setLength_d00df_14 1 rfl rfl ?_
  refine g_callU (t := 18) (mc := 0) (ms := 0) (rest := []) (Cr := "java/lang/StringBuilder") X mt_J5_ensureCapacityInternal_d00df q3_170 q5_219 q3_172 (sel_asb rfl q3_171 q3_172) 0 rfl rfl (c_J5_ensureCapacityInternal_d00df (mc := 0) (ms := 0) hfl c16 c3 k0 k1 hb (by omega) (by omega) (Or.inl (by omega))) (by decide) (Nat.le_of_ble_eq_true rfl) (Nat.le_of_ble_eq_true rfl) (Nat.le_of_ble_eq_true rfl) rfl rfl dJ5_setLength_d00df_15 rfl (k_exn (fun x hx => ?_))
  obtain ⟨bv1, cap1, bt1⟩ := x
  have hx1 : cap1 = ncap cap (0) := hx.1
  have hgr := ncap_ge (cap := cap) (need := 0) (by omega) (by omega)
  have hgr2 := ncap_le cap (0)
  have hb1 : Lat cap1 bt1 := hx.2.1
  show G C K Q _ _ _ _ _ (((sb, .inr (1, fSB (bv1, cap1, bt1, cnt, ml))) :: (bv1, aB C cap1 bt1) :: R))
  refine g_aload_n (t := 19) X dJ5_setLength_d00df_18 0 rfl rfl ?_
  refine g_getf (t := 22) (v := vi cnt) X inJ4 0 rfl rfl 3 (by decide) q1_85 rfl rfl dJ5_setLength_d00df_19 rfl ?_
  refine g_iload_n (t := 23) X dJ5_setLength_d00df_22 1 rfl rfl ?_
  refine g_icmp_ge (t := 63) (u := 26) X dJ5_setLength_d00df_23 (by decide) rfl ⟨by omega, by omega⟩ ⟨by omega, by omega⟩ (fun c_23 => ?_) (fun c_23 => absurd k0 c_23)
  refine g_aload_n (t := 64) X dJ5_setLength_d00df_63 0 rfl rfl ?_
  refine g_getf (t := 67) (v := vi cnt) X inJ4 0 rfl rfl 3 (by decide) q1_85 rfl rfl dJ5_setLength_d00df_64 rfl ?_
  refine g_iload_n (t := 68) X dJ5_setLength_d00df_67 1 rfl rfl ?_
  refine g_icmp_le (t := 76) (u := 71) X dJ5_setLength_d00df_68 (by decide) rfl ⟨by omega, by omega⟩ ⟨by omega, by omega⟩ (fun c_68 => ?_) (fun c_68 => ?_)
  · refine g_aload_n (t := 77) X dJ5_setLength_d00df_76 0 rfl rfl ?_
    refine g_iload_n (t := 78) X dJ5_setLength_d00df_77 1 rfl rfl ?_
    refine g_putf (t := 81) (ws1 := (((sb, .inr (1, fSB (bv1, cap1, bt1, 0, ml))) :: (bv1, aB C cap1 bt1) :: R))) X inJ4 tyJ4 tyJ4_ok nmJ4 0 rfl rfl 3 (by decide) q1_85 rfl rfl rfl rfl rfl (Nat.le_of_ble_eq_true rfl) rfl dJ5_setLength_d00df_78 rfl ?_
    exact g_vret X r ⟨((bv1, cap1, bt1), ml), hx, rfl, rfl⟩ (Nat.le_of_ble_eq_true rfl) (Nat.le_of_ble_eq_true rfl) dJ5_setLength_d00df_81
  · refine g_aload_n (t := 72) X dJ5_setLength_d00df_71 0 rfl rfl ?_
    refine g_iconst (t := 73) X dJ5_setLength_d00df_72 rfl ?_
    refine g_putf (t := 76) (ws1 := (((sb, .inr (1, fSB (bv1, cap1, bt1, cnt, 1))) :: (bv1, aB C cap1 bt1) :: R))) X inJ4 tyJ4 tyJ4_ok nmJ4 0 rfl rfl 2 (by decide) q1_83 rfl rfl rfl rfl rfl (Nat.le_of_ble_eq_true rfl) rfl dJ5_setLength_d00df_73 rfl ?_
    refine g_aload_n (t := 77) X dJ5_setLength_d00df_76 0 rfl rfl ?_
    refine g_iload_n (t := 78) X dJ5_setLength_d00df_77 1 rfl rfl ?_
    refine g_putf (t := 81) (ws1 := (((sb, .inr (1, fSB (bv1, cap1, bt1, 0, 1))) :: (bv1, aB C cap1 bt1) :: R))) X inJ4 tyJ4 tyJ4_ok nmJ4 0 rfl rfl 3 (by decide) q1_85 rfl rfl rfl rfl rfl (Nat.le_of_ble_eq_true rfl) rfl dJ5_setLength_d00df_78 rfl ?_
    exact g_vret X r ⟨((bv1, cap1, bt1), 1), hx, rfl, rfl⟩ (Nat.le_of_ble_eq_true rfl) (Nat.le_of_ble_eq_true rfl) dJ5_setLength_d00df_81

set_option maxHeartbeats 4000000 in
set_option maxRecDepth 100000 in
/-- length() -/
theorem c_J5_length_8abf5 {C : WC} {l : Launch} (hfl : l.stackTraces = false) {sb bv cap : Nat} {bt : Int → Int} {cnt ml : Int} {R : va_W}   : MM C l yJ5_length_8abf5 cJ5_length_8abf5 1 (some .int) 0 0 0 [.ref sb] ((sb, .inr (1, fSB (bv, cap, bt, cnt, ml))) :: (bv, aB C cap bt) :: R) (rv (vi cnt) ((sb, .inr (1, fSB (bv, cap, bt, cnt, ml))) :: (bv, aB C cap bt) :: R)) := by
  refine mf_of (by decide +kernel) (Nat.le_of_ble_eq_true rfl) hfl (fun K Q X r => ?_)
  have X : Cx C l "java/lang/AbstractStringBuilder" cJ5_length_8abf5 1 0 0 0 K := X
  show G C K Q 0 0 0 [(0, .ref sb)] [] ((sb, .inr (1, fSB (bv, cap, bt, cnt, ml))) :: (bv, aB C cap bt) :: R)
  refine g_aload_n (t := 1) X dJ5_length_8abf5_0 0 rfl rfl ?_
  refine g_getf (t := 4) (v := vi cnt) X inJ4 0 rfl rfl 3 (by decide) q1_85 rfl rfl dJ5_length_8abf5_1 rfl ?_
  exact g_iret X r (rv_i rfl) (Nat.le_of_ble_eq_true rfl) (Nat.le_of_ble_eq_true rfl) dJ5_length_8abf5_4

set_option maxHeartbeats 4000000 in
set_option maxRecDepth 100000 in
/-- String.checkIndex(i, n) -/
theorem c_J0_checkIndex_df160 {C : WC} {l : Launch} (hfl : l.stackTraces = false) {ws : va_W} {i n : Int}  (i0 : 0 ≤ i) (i1 : i < n) (n1 : n < 2147483648) : MM C l yJ0_checkIndex_df160 cJ0_checkIndex_df160 2 none 1 0 0 [vi i, vi n] ws (rn ws) := by
  refine mf_of (by decide +kernel) (Nat.le_of_ble_eq_true rfl) hfl (fun K Q X r => ?_)
  have X : Cx C l "java/lang/String" cJ0_checkIndex_df160 2 1 0 0 K := X
  show G C K Q 0 0 0 [(0, vi i), (1, vi n)] [] ws
  refine g_iload_n (t := 1) X dJ0_checkIndex_df160_0 0 rfl rfl ?_
  refine g_iload_n (t := 2) X dJ0_checkIndex_df160_1 1 rfl rfl ?_
  refine g_getq (t := 5) X q3_207 (fun s H h => h.2.2.2.2.2.2.2.2.2.2.2.1) dJ0_checkIndex_df160_2 rfl (fun o => ?_)
  cases o
  · refine g_callS (t := 8) (mc := 0) (ms := 0) (rest := []) X mt_J3_checkIndex_8e157 q4_187 q1_222 (c_J3_checkIndex_8e157_n hfl i0 i1 n1) (by decide) (Nat.le_of_ble_eq_true rfl) (Nat.le_of_ble_eq_true rfl) (Nat.le_of_ble_eq_true rfl) rfl rfl dJ0_checkIndex_df160_5 rfl (k_rv ?_)
    refine g_pop (t := 9) X dJ0_checkIndex_df160_8 rfl rfl ?_
    exact g_vret X r rn_i (Nat.le_of_ble_eq_true rfl) (Nat.le_of_ble_eq_true rfl) dJ0_checkIndex_df160_9
  · refine g_callS (t := 8) (mc := 0) (ms := 0) (rest := []) X mt_J3_checkIndex_8e157 q4_187 q1_222 (c_J3_checkIndex_8e157_r hfl i0 i1 n1) (by decide) (Nat.le_of_ble_eq_true rfl) (Nat.le_of_ble_eq_true rfl) (Nat.le_of_ble_eq_true rfl) rfl rfl dJ0_checkIndex_df160_5 rfl (k_rv ?_)
    refine g_pop (t := 9) X dJ0_checkIndex_df160_8 rfl rfl ?_
    exact g_vret X r rn_i (Nat.le_of_ble_eq_true rfl) (Nat.le_of_ble_eq_true rfl) dJ0_checkIndex_df160_9

set_option maxHeartbeats 4000000 in
set_option maxRecDepth 100000 in
/-- charAt(i) -/
theorem c_J5_charAt_5068e {C : WC} {l : Launch} (hfl : l.stackTraces = false) {sb bv cap : Nat} {bt : Int → Int} {cnt ml : Int} {R : va_W} {i : Int}  (c16 : 16 ≤ cap) (c3 : cap ≤ 300) (k0 : 0 ≤ cnt) (k1 : cnt ≤ cap) (hb : Lat cap bt) (i0 : 0 ≤ i) (i1 : i < cnt) : MM C l yJ5_charAt_5068e cJ5_charAt_5068e 5 (some .char) 2 0 0 [.ref sb, vi i] ((sb, .inr (1, fSB (bv, cap, bt, cnt, ml))) :: (bv, aB C cap bt) :: R) (rv (vi (bt i)) ((sb, .inr (1, fSB (bv, cap, bt, cnt, ml))) :: (bv, aB C cap bt) :: R)) := by
  refine mf_of (by decide +kernel) (Nat.le_of_ble_eq_true rfl) hfl (fun K Q X r => ?_)
  have X : Cx C l "java/lang/AbstractStringBuilder" cJ5_charAt_5068e 5 2 0 0 K := X
  show G C K Q 0 0 0 [(0, .ref sb), (1, vi i)] [] ((sb, .inr (1, fSB (bv, cap, bt, cnt, ml))) :: (bv, aB C cap bt) :: R)
  refine g_aload_n (t := 1) X dJ5_charAt_5068e_0 0 rfl rfl ?_
  refine g_getf (t := 4) (v := vi 0) X inJ4 0 rfl rfl 1 (by decide) q1_82 rfl rfl dJ5_charAt_5068e_1 rfl ?_
  refine g_istore_n (t := 5) (lv1 := [(2, vi 0), (0, .ref sb), (1, vi i)]) X dJ5_charAt_5068e_4 (by decide) rfl rfl ?_
  refine g_aload_n (t := 6) X dJ5_charAt_5068e_5 1 rfl rfl ?_
  refine g_getf (t := 9) (v := .ref bv) X inJ4 0 rfl rfl 0 (by decide) q1_81 rfl rfl dJ5_charAt_5068e_6 rfl ?_
  refine g_astore_n (t := 10) (lv1 := [(3, .ref bv), (2, vi 0), (0, .ref sb), (1, vi i)]) X dJ5_charAt_5068e_9 (by decide) rfl rfl ?_
  refine g_aload_n (t := 11) X dJ5_charAt_5068e_10 2 rfl rfl ?_
  refine g_getf (t := 14) (v := vi cnt) X inJ4 0 rfl rfl 3 (by decide) q1_85 rfl rfl dJ5_charAt_5068e_11 rfl ?_
  refine g_aload_n (t := 15) X dJ5_charAt_5068e_14 0 rfl rfl ?_
  refine g_blen (t := 16) (n := cap) (f := bt) X 1 rfl dJ5_charAt_5068e_15 rfl ?_
  refine g_iload_n (t := 17) X dJ5_charAt_5068e_16 1 rfl rfl ?_
  refine g_ishr0 (t := 18) X dJ5_charAt_5068e_17 rfl ?_
  refine g_mmin (t := 21) X q4_200 q1_179 q1_11 q1_180 (Nat.le_of_ble_eq_true rfl) (Nat.le_of_ble_eq_true rfl) (Nat.le_of_ble_eq_true rfl) ⟨by omega, by omega⟩ ⟨by omega, by omega⟩ dJ5_charAt_5068e_18 rfl ?_
  rw [if_neg (by omega)]
  refine g_istore (t := 23) (lv1 := [(4, vi cnt), (3, .ref bv), (2, vi 0), (0, .ref sb), (1, vi i)]) X dJ5_charAt_5068e_21 (by decide) rfl rfl ?_
  refine g_iload_n (t := 24) X dJ5_charAt_5068e_23 4 rfl rfl ?_
  refine g_iload (t := 26) X dJ5_charAt_5068e_24 0 rfl rfl ?_
  refine g_callS (t := 29) (mc := 0) (ms := 0) (rest := []) X mt_J0_checkIndex_df160 q4_201 q4_185 (c_J0_checkIndex_df160 hfl i0 i1 (by omega)) (by decide) (Nat.le_of_ble_eq_true rfl) (Nat.le_of_ble_eq_true rfl) (Nat.le_of_ble_eq_true rfl) rfl rfl dJ5_charAt_5068e_26 rfl (k_rn ?_)
  refine g_iload_n (t := 30) X dJ5_charAt_5068e_29 2 rfl rfl ?_
  refine g_if_ne (t := 42) (u := 33) X dJ5_charAt_5068e_30 (by decide) rfl ⟨by omega, by omega⟩ (fun c => absurd c (by decide)) (fun _ => ?_)
  have hc := hb i i0 (by omega)
  refine g_aload_n (t := 34) X dJ5_charAt_5068e_33 1 rfl rfl ?_
  refine g_iload_n (t := 35) X dJ5_charAt_5068e_34 4 rfl rfl ?_
  refine g_bald (t := 36) (n := cap) (f := bt) X 1 rfl (by omega) (by omega) (by omega) dJ5_charAt_5068e_35 rfl ?_
  refine g_sipush (t := 39) (z := 255) X dJ5_charAt_5068e_36 (by decide +kernel) rfl ?_
  refine g_iand255 (t := 40) X dJ5_charAt_5068e_39 (by omega) (by omega) rfl ?_
  refine g_i2c (t := 41) X dJ5_charAt_5068e_40 (by omega) (by omega) rfl ?_
  exact g_zret X r (nar_c (by omega) (by omega)) (rv_i rfl) (Nat.le_of_ble_eq_true rfl) (Nat.le_of_ble_eq_true rfl) dJ5_charAt_5068e_41

set_option maxHeartbeats 4000000 in
set_option maxRecDepth 100000 in
/-- StringBuilder.append(a letter) -/
theorem c_J4_append_cf468 {C : WC} {l : Launch} (hfl : l.stackTraces = false) {sb bv cap : Nat} {bt : Int → Int} {cnt ml : Int} {R : va_W} {a : Int} {mc ms : Nat} (c16 : 16 ≤ cap) (c3 : cap ≤ 300) (k0 : 0 ≤ cnt) (k1 : cnt ≤ cap) (hb : Lat cap bt) (a0 : 0 ≤ a) (a1 : a < 128) (k4 : cnt + 1 ≤ cap + 4) (hbud : cnt + 1 ≤ cap ∨ (1 ≤ mc ∧ 2 * cap + 2 ≤ ms)) : MM C l yJ4_append_cf468 cJ4_append_cf468 2 (some (.object "java/lang/StringBuilder")) 4 mc ms [.ref sb, vi a] ((sb, .inr (1, fSB (bv, cap, bt, cnt, ml))) :: (bv, aB C cap bt) :: R) (fun v w => ∃ x : Nat × Nat × (Int → Int), AppP cap bt cnt 1 (fun _ => a) x ∧ v = some (.ref sb) ∧ w = (sb, .inr (1, fSB (x.1, x.2.1, x.2.2, cnt + 1, ml))) :: (x.1, aB C x.2.1 x.2.2) :: R) := by
  refine mf_of (by decide +kernel) (Nat.le_of_ble_eq_true rfl) hfl (fun K Q X r => ?_)
  have X : Cx C l "java/lang/StringBuilder" cJ4_append_cf468 2 4 mc ms K := X
  show G C K Q 0 0 0 [(0, .ref sb), (1, vi a)] [] ((sb, .inr (1, fSB (bv, cap, bt, cnt, ml))) :: (bv, aB C cap bt) :: R)
  refine g_aload_n (t := 1) X dJ4_append_cf468_0 0 rfl rfl ?_
  refine g_iload_n (t := 2) X dJ4_append_cf468_1 1 rfl rfl ?_
  refine g_callSU (t := 5) (mc := mc) (ms := ms) (rest := []) (Cr := "java/lang/StringBuilder") X mt_J5_append_3fe6f q4_172 q5_225 q1_94 q4_173 (by decide +kernel) 0 rfl rfl (c_J5_append_3fe6f hfl c16 c3 k0 k1 hb a0 a1 k4 hbud) (by decide) (by omega) (by omega) (Nat.le_of_ble_eq_true rfl) rfl rfl dJ4_append_cf468_2 rfl (k_ex (fun x hx => ?_))
  refine g_pop (t := 6) X dJ4_append_cf468_5 rfl rfl ?_
  refine g_aload_n (t := 7) X dJ4_append_cf468_6 0 rfl rfl ?_
  exact g_aret X r (Or.inl ⟨_, rfl⟩) ⟨x, hx, rfl, rfl⟩ (by omega) (by omega) dJ4_append_cf468_7

set_option maxHeartbeats 4000000 in
set_option maxRecDepth 100000 in
/-- StringBuilder.append(a number) -/
theorem c_J4_append_bf812 {C : WC} {l : Launch} (hfl : l.stackTraces = false) {sb bv cap : Nat} {bt : Int → Int} {cnt ml : Int} {R : va_W} {n : Int} {mc ms : Nat} (c16 : 16 ≤ cap) (c3 : cap ≤ 300) (k0 : 0 ≤ cnt) (k1 : cnt ≤ cap) (hb : Lat cap bt) (n0 : 0 ≤ n) (n1 : n < 100) (k4 : cnt + dgF n ≤ cap + 4) (hbud : cnt + dgF n ≤ cap ∨ (1 ≤ mc ∧ 2 * cap + 2 ≤ ms)) : MM C l yJ4_append_bf812 cJ4_append_bf812 2 (some (.object "java/lang/StringBuilder")) 4 mc ms [.ref sb, vi n] ((sb, .inr (1, fSB (bv, cap, bt, cnt, ml))) :: (bv, aB C cap bt) :: R) (fun v w => ∃ x : Nat × Nat × (Int → Int), AppP cap bt cnt (dgF n) (dch n) x ∧ v = some (.ref sb) ∧ w = (sb, .inr (1, fSB (x.1, x.2.1, x.2.2, cnt + (dgF n), ml))) :: (x.1, aB C x.2.1 x.2.2) :: R) := by
  refine mf_of (by decide +kernel) (Nat.le_of_ble_eq_true rfl) hfl (fun K Q X r => ?_)
  have X : Cx C l "java/lang/StringBuilder" cJ4_append_bf812 2 4 mc ms K := X
  show G C K Q 0 0 0 [(0, .ref sb), (1, vi n)] [] ((sb, .inr (1, fSB (bv, cap, bt, cnt, ml))) :: (bv, aB C cap bt) :: R)
  refine g_aload_n (t := 1) X dJ4_append_bf812_0 0 rfl rfl ?_
  refine g_iload_n (t := 2) X dJ4_append_bf812_1 1 rfl rfl ?_
  refine g_callSU (t := 5) (mc := mc) (ms := ms) (rest := []) (Cr := "java/lang/StringBuilder") X mt_J5_append_c97b9 q4_28 q5_224 q1_94 q4_29 (by decide +kernel) 0 rfl rfl (c_J5_append_c97b9 hfl c16 c3 k0 k1 hb n0 n1 k4 hbud) (by decide) (by omega) (by omega) (Nat.le_of_ble_eq_true rfl) rfl rfl dJ4_append_bf812_2 rfl (k_ex (fun x hx => ?_))
  refine g_pop (t := 6) X dJ4_append_bf812_5 rfl rfl ?_
  refine g_aload_n (t := 7) X dJ4_append_bf812_6 0 rfl rfl ?_
  exact g_aret X r (Or.inl ⟨_, rfl⟩) ⟨x, hx, rfl, rfl⟩ (by omega) (by omega) dJ4_append_bf812_7

set_option maxHeartbeats 4000000 in
set_option maxRecDepth 100000 in
/-- StringBuilder.append(a text) -/
theorem c_J4_append_15ec4 {C : WC} {l : Launch} (hfl : l.stackTraces = false) {sb bv cap : Nat} {bt : Int → Int} {cnt ml : Int} {R : va_W} {ow tx : String} {kk aK aV n : Nat} {g : Int → Int} {mc ms : Nat}  (hs : ∀ (s : State) (H : Heap), EN C.2.2.2 C.2.2.1 s H → ST ow kk tx aK aV n (fun j => vi (g (j : Int))) C.2.2.1 s H) (n1 : n ≤ 100) (hg : ∀ i : Int, 0 ≤ i → i < n → 0 ≤ g i ∧ g i < 128) (c16 : 16 ≤ cap) (c3 : cap ≤ 300) (k0 : 0 ≤ cnt) (k1 : cnt ≤ cap) (hb : Lat cap bt) (k4 : cnt + (n : Int) ≤ cap + 4) (hbud : cnt + (n : Int) ≤ cap ∨ (1 ≤ mc ∧ 2 * cap + 2 ≤ ms)) : MM C l yJ4_append_15ec4 cJ4_append_15ec4 2 (some (.object "java/lang/StringBuilder")) 4 mc ms [.ref sb, .ref aK] ((sb, .inr (1, fSB (bv, cap, bt, cnt, ml))) :: (bv, aB C cap bt) :: R) (fun v w => ∃ x : Nat × Nat × (Int → Int), AppP cap bt cnt (n : Int) g x ∧ v = some (.ref sb) ∧ w = (sb, .inr (1, fSB (x.1, x.2.1, x.2.2, cnt + (n : Int), ml))) :: (x.1, aB C x.2.1 x.2.2) :: R) := by
  refine mf_of (by decide +kernel) (Nat.le_of_ble_eq_true rfl) hfl (fun K Q X r => ?_)
  have X : Cx C l "java/lang/StringBuilder" cJ4_append_15ec4 2 4 mc ms K := X
  show G C K Q 0 0 0 [(0, .ref sb), (1, .ref aK)] [] ((sb, .inr (1, fSB (bv, cap, bt, cnt, ml))) :: (bv, aB C cap bt) :: R)
  refine g_aload_n (t := 1) X dJ4_append_15ec4_0 0 rfl rfl ?_
  refine g_aload_n (t := 2) X dJ4_append_15ec4_1 1 rfl rfl ?_
  refine g_callSU (t := 5) (mc := mc) (ms := ms) (rest := []) (Cr := "java/lang/StringBuilder") X mt_J5_append_cf1ce q3_163 q5_217 q1_94 q3_164 (by decide +kernel) 0 rfl rfl (c_J5_append_cf1ce hfl hs n1 hg c16 c3 k0 k1 hb k4 hbud) (by decide) (by omega) (by omega) (Nat.le_of_ble_eq_true rfl) rfl rfl dJ4_append_15ec4_2 rfl (k_ex (fun x hx => ?_))
  refine g_pop (t := 6) X dJ4_append_15ec4_5 rfl rfl ?_
  refine g_aload_n (t := 7) X dJ4_append_15ec4_6 0 rfl rfl ?_
  exact g_aret X r (Or.inl ⟨_, rfl⟩) ⟨x, hx, rfl, rfl⟩ (by omega) (by omega) dJ4_append_15ec4_7

set_option maxHeartbeats 4000000 in
set_option maxRecDepth 100000 in
/-- StringBuilder.setLength(0) -/
theorem c_J4_setLength_d00df {C : WC} {l : Launch} (hfl : l.stackTraces = false) {sb bv cap : Nat} {bt : Int → Int} {cnt ml : Int} {R : va_W}  (c16 : 16 ≤ cap) (c3 : cap ≤ 300) (k0 : 0 ≤ cnt) (k1 : cnt ≤ cap) (hb : Lat cap bt) : MM C l yJ4_setLength_d00df cJ4_setLength_d00df 2 none 4 0 0 [.ref sb, vi 0] ((sb, .inr (1, fSB (bv, cap, bt, cnt, ml))) :: (bv, aB C cap bt) :: R) (fun v w => ∃ x : (Nat × Nat × (Int → Int)) × Int, EnsP cap bt 0 x.1 ∧ v = none ∧ w = (sb, .inr (1, fSB (x.1.1, x.1.2.1, x.1.2.2, 0, x.2))) :: (x.1.1, aB C x.1.2.1 x.1.2.2) :: R) := by
  refine mf_of (by decide +kernel) (Nat.le_of_ble_eq_true rfl) hfl (fun K Q X r => ?_)
  have X : Cx C l "java/lang/StringBuilder" cJ4_setLength_d00df 2 4 0 0 K := X
  show G C K Q 0 0 0 [(0, .ref sb), (1, vi 0)] [] ((sb, .inr (1, fSB (bv, cap, bt, cnt, ml))) :: (bv, aB C cap bt) :: R)
  refine g_aload_n (t := 1) X dJ4_setLength_d00df_0 0 rfl rfl ?_
  refine g_iload_n (t := 2) X dJ4_setLength_d00df_1 1 rfl rfl ?_
  refine g_callSU (t := 5) (mc := 0) (ms := 0) (rest := []) (Cr := "java/lang/StringBuilder") X mt_J5_setLength_d00df q3_148 q5_216 q1_94 q3_149 (by decide +kernel) 0 rfl rfl (c_J5_setLength_d00df hfl c16 c3 k0 k1 hb) (by decide) (Nat.le_of_ble_eq_true rfl) (Nat.le_of_ble_eq_true rfl) (Nat.le_of_ble_eq_true rfl) rfl rfl dJ4_setLength_d00df_2 rfl (k_exn (fun x hx => ?_))
  exact g_vret X r ⟨x, hx, rfl, rfl⟩ (Nat.le_of_ble_eq_true rfl) (Nat.le_of_ble_eq_true rfl) dJ4_setLength_d00df_5

set_option maxHeartbeats 4000000 in
set_option maxRecDepth 100000 in
/-- StringBuilder.length() -/
theorem c_J4_length_8abf5 {C : WC} {l : Launch} (hfl : l.stackTraces = false) {sb bv cap : Nat} {bt : Int → Int} {cnt ml : Int} {R : va_W}   : MM C l yJ4_length_8abf5 cJ4_length_8abf5 1 (some .int) 1 0 0 [.ref sb] ((sb, .inr (1, fSB (bv, cap, bt, cnt, ml))) :: (bv, aB C cap bt) :: R) (rv (vi cnt) ((sb, .inr (1, fSB (bv, cap, bt, cnt, ml))) :: (bv, aB C cap bt) :: R)) := by
  refine mf_of (by decide +kernel) (Nat.le_of_ble_eq_true rfl) hfl (fun K Q X r => ?_)
  have X : Cx C l "java/lang/StringBuilder" cJ4_length_8abf5 1 1 0 0 K := X
  show G C K Q 0 0 0 [(0, .ref sb)] [] ((sb, .inr (1, fSB (bv, cap, bt, cnt, ml))) :: (bv, aB C cap bt) :: R)
  refine g_aload_n (t := 1) X dJ4_length_8abf5_0 0 rfl rfl ?_
  refine g_callSU (t := 4) (mc := 0) (ms := 0) (rest := []) (Cr := "java/lang/StringBuilder") X mt_J5_length_8abf5 q4_73 q4_69 q1_94 q4_68 (by decide +kernel) 0 rfl rfl (c_J5_length_8abf5 hfl) (by decide) (Nat.le_of_ble_eq_true rfl) (Nat.le_of_ble_eq_true rfl) (Nat.le_of_ble_eq_true rfl) rfl rfl dJ4_length_8abf5_1 rfl (k_rv ?_)
  exact g_iret X r (rv_i rfl) (Nat.le_of_ble_eq_true rfl) (Nat.le_of_ble_eq_true rfl) dJ4_length_8abf5_4

set_option maxHeartbeats 4000000 in
set_option maxRecDepth 100000 in
/-- StringBuilder.charAt(i) -/
theorem c_J4_charAt_5068e {C : WC} {l : Launch} (hfl : l.stackTraces = false) {sb bv cap : Nat} {bt : Int → Int} {cnt ml : Int} {R : va_W} {i : Int}  (c16 : 16 ≤ cap) (c3 : cap ≤ 300) (k0 : 0 ≤ cnt) (k1 : cnt ≤ cap) (hb : Lat cap bt) (i0 : 0 ≤ i) (i1 : i < cnt) : MM C l yJ4_charAt_5068e cJ4_charAt_5068e 2 (some .char) 3 0 0 [.ref sb, vi i] ((sb, .inr (1, fSB (bv, cap, bt, cnt, ml))) :: (bv, aB C cap bt) :: R) (rv (vi (bt i)) ((sb, .inr (1, fSB (bv, cap, bt, cnt, ml))) :: (bv, aB C cap bt) :: R)) := by
  refine mf_of (by decide +kernel) (Nat.le_of_ble_eq_true rfl) hfl (fun K Q X r => ?_)
  have X : Cx C l "java/lang/StringBuilder" cJ4_charAt_5068e 2 3 0 0 K := X
  show G C K Q 0 0 0 [(0, .ref sb), (1, vi i)] [] ((sb, .inr (1, fSB (bv, cap, bt, cnt, ml))) :: (bv, aB C cap bt) :: R)
  refine g_aload_n (t := 1) X dJ4_charAt_5068e_0 0 rfl rfl ?_
  refine g_iload_n (t := 2) X dJ4_charAt_5068e_1 1 rfl rfl ?_
  refine g_callSU (t := 5) (mc := 0) (ms := 0) (rest := []) (Cr := "java/lang/StringBuilder") X mt_J5_charAt_5068e q4_197 q5_227 q1_94 q4_198 (by decide +kernel) 0 rfl rfl (c_J5_charAt_5068e hfl c16 c3 k0 k1 hb i0 i1) (by decide) (Nat.le_of_ble_eq_true rfl) (Nat.le_of_ble_eq_true rfl) (Nat.le_of_ble_eq_true rfl) rfl rfl dJ4_charAt_5068e_2 rfl (k_rv ?_)
  exact g_zret X r (by have hc := hb i i0 (by omega); exact nar_c (by omega) (by omega)) (rv_i rfl) (Nat.le_of_ble_eq_true rfl) (Nat.le_of_ble_eq_true rfl) dJ4_charAt_5068e_5

set_option maxHeartbeats 4000000 in
set_option maxRecDepth 100000 in
/-- AbstractStringBuilder(16) -/
theorem c_J5_init_d00df {C : WC} {l : Launch} (hfl : l.stackTraces = false) {sb : Nat} {R : va_W}   : MM C l yJ5_init_d00df cJ5_init_d00df 2 none 0 1 16 [.ref sb, vi ((16 : Nat) : Int)] ((sb, .inr (1, [.null, vi 0, vi 0, vi 0])) :: R) (fun v w => ∃ q : Nat, True ∧ v = none ∧ w = ((sb, .inr (1, fSB (q, 16, (fun _ => 0), 0, 0))) :: R) ++ [(q, aB C 16 (fun _ => 0))]) := by
  refine mf_of (by decide +kernel) (Nat.le_of_ble_eq_true rfl) hfl (fun K Q X r => ?_)
  have X : Cx C l "java/lang/AbstractStringBuilder" cJ5_init_d00df 2 0 1 16 K := X
  show G C K Q 0 0 0 [(0, .ref sb), (1, vi ((16 : Nat) : Int))] [] ((sb, .inr (1, [.null, vi 0, vi 0, vi 0])) :: R)
  refine g_aload_n (t := 1) X dJ5_init_d00df_0 0 rfl rfl ?_
  refine g_oinit (t := 4) X q1_71 (Nat.le_of_ble_eq_true rfl) dJ5_init_d00df_1 rfl ?_
  refine g_gets (t := 7) (v := vi 1) X q1_72 (fun s H h => h.2.1) dJ5_init_d00df_4 rfl ?_
  refine g_if_eq (t := 25) (u := 10) X dJ5_init_d00df_7 (by decide) rfl ⟨by omega, by omega⟩ (fun c => absurd c (by decide)) (fun _ => ?_)
  refine g_aload_n (t := 11) X dJ5_init_d00df_10 0 rfl rfl ?_
  refine g_iload_n (t := 12) X dJ5_init_d00df_11 1 rfl rfl ?_
  refine g_newa_b (t := 14) (n := 16) X (by omega) (by omega) (by omega) dJ5_init_d00df_12 rfl (fun q => ?_)
  refine g_putf (t := 17) (ws1 := (((sb, .inr (1, [.ref q, vi 0, vi 0, vi 0])) :: R) ++ [(q, aB C 16 (fun _ => 0))])) X inJ4 tyJ4 tyJ4_ok nmJ4 0 rfl rfl 0 (by decide) q1_81 rfl rfl rfl rfl rfl (Nat.le_of_ble_eq_true rfl) rfl dJ5_init_d00df_14 rfl ?_
  refine g_aload_n (t := 18) X dJ5_init_d00df_17 0 rfl rfl ?_
  refine g_iconst (t := 19) X dJ5_init_d00df_18 rfl ?_
  refine g_putf (t := 22) (ws1 := (((sb, .inr (1, [.ref q, vi 0, vi 0, vi 0])) :: R) ++ [(q, aB C 16 (fun _ => 0))])) X inJ4 tyJ4 tyJ4_ok nmJ4 0 rfl rfl 1 (by decide) q1_82 rfl rfl rfl rfl rfl (Nat.le_of_ble_eq_true rfl) rfl dJ5_init_d00df_19 rfl ?_
  refine g_goto (t := 38) X dJ5_init_d00df_22 (by decide) ?_
  exact g_vret X r ⟨q, trivial, rfl, rfl⟩ (by omega) (by omega) dJ5_init_d00df_38

set_option maxHeartbeats 4000000 in
set_option maxRecDepth 100000 in
/-- StringBuilder() -/
theorem c_J4_init_da8c8 {C : WC} {l : Launch} (hfl : l.stackTraces = false) {sb : Nat} {R : va_W}   : MM C l yJ4_init_da8c8 cJ4_init_da8c8 1 none 1 1 16 [.ref sb] ((sb, .inr (1, [.null, vi 0, vi 0, vi 0])) :: R) (fun v w => ∃ q : Nat, True ∧ v = none ∧ w = ((sb, .inr (1, fSB (q, 16, (fun _ => 0), 0, 0))) :: R) ++ [(q, aB C 16 (fun _ => 0))]) := by
  refine mf_of (by decide +kernel) (Nat.le_of_ble_eq_true rfl) hfl (fun K Q X r => ?_)
  have X : Cx C l "java/lang/StringBuilder" cJ4_init_da8c8 1 1 1 16 K := X
  show G C K Q 0 0 0 [(0, .ref sb)] [] ((sb, .inr (1, [.null, vi 0, vi 0, vi 0])) :: R)
  refine g_aload_n (t := 1) X dJ4_init_da8c8_0 0 rfl rfl ?_
  refine g_bipush (t := 3) (z := 16) X dJ4_init_da8c8_1 (by decide +kernel) rfl ?_
  refine g_callI (t := 6) (mc := 1) (ms := 16) (rest := []) X mt_J5_init_d00df q1_68 q1_69 (by decide +kernel) (c_J5_init_d00df hfl) (by decide) (Nat.le_of_ble_eq_true rfl) (Nat.le_of_ble_eq_true rfl) (Nat.le_of_ble_eq_true rfl) rfl rfl dJ4_init_da8c8_3 rfl (k_exn (fun q _ => ?_))
  exact g_vret X r ⟨q, trivial, rfl, rfl⟩ (Nat.le_of_ble_eq_true rfl) (Nat.le_of_ble_eq_true rfl) dJ4_init_da8c8_6

