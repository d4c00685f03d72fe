/-- how long the row is when there is room for need -/
def ncap (cap : Nat) (need : Int) : Nat := if need ≤ cap then cap else 2 * cap + 2
theorem ncap_ge {cap : Nat} {need : Int} (c : 2 ≤ cap) (h : need ≤ cap + 4) : need ≤ ncap cap need ∧ cap ≤ ncap cap need := by
  unfold ncap
  split <;> omega
theorem ncap_le (cap : Nat) (need : Int) : cap ≤ ncap cap need ∧ ncap cap need ≤ 2 * cap + 2 := by
  unfold ncap
  split <;> omega
/-- the bytes are letters -/
def Lat (cap : Nat) (bt : Int → Int) : Prop := ∀ j : Int, 0 ≤ j → j < cap → 0 ≤ bt j ∧ bt j < 128
def EnsP (cap : Nat) (bt : Int → Int) (need : Int) (x : Nat × Nat × (Int → Int)) : Prop := x.2.1 = ncap cap need ∧ Lat x.2.1 x.2.2 ∧ ∀ j : Int, 0 ≤ j → j < cap → x.2.2 j = bt j
theorem EnsP.same {cap bv : Nat} {bt : Int → Int} {need : Int} (h : need ≤ cap) (hb : Lat cap bt) : EnsP cap bt need (bv, cap, bt) := ⟨(if_pos h).symm, hb, fun _ _ _ => rfl⟩
theorem EnsP.new {cap q m : Nat} {bt : Int → Int} {need : Int} (h : ¬ need ≤ cap) (hm : m = 2 * cap + 2) (hb : Lat cap bt) : EnsP cap bt need (q, m, cpI bt (fun _ => 0) 0 0 cap) := by
  refine ⟨by show m = ncap cap need; unfold ncap; rw [if_neg h, hm], fun j j0 j1 => ?_, fun j j0 j1 => ?_⟩
  · show 0 ≤ cpI bt (fun _ => 0) 0 0 cap j ∧ cpI bt (fun _ => 0) 0 0 cap j < 128
    unfold cpI
    split
    · exact hb _ (by omega) (by omega)
    · exact ⟨Int.le_refl 0, show (0 : Int) < 128 by decide⟩
  · show cpI bt (fun _ => 0) 0 0 cap j = bt j
    unfold cpI
    rw [if_pos (by omega)]
    congr 1
    omega
set_option maxHeartbeats 4000000 in
set_option maxRecDepth 100000 in
/-- newCapacity(need) -/
theorem c_J5_newCapacity_0f7a4 {C : WC} {l : Launch} (hfl : l.stackTraces = false) {sb bv cap : Nat} {bt : Int → Int} {cnt ml : Int} {R : va_W} {need : Int}  (c16 : 16 ≤ cap) (c3 : cap ≤ 300) (h1 : (cap : Int) < need) (h2 : need ≤ cap + 4) : MM C l yJ5_newCapacity_0f7a4 cJ5_newCapacity_0f7a4 6 (some .int) 1 0 0 [.ref sb, vi need] ((sb, .inr (1, fSB (bv, cap, bt, cnt, ml))) :: (bv, aB C cap bt) :: R) (rv (vi ((2 * cap + 2 : Nat) : Int)) ((sb, .inr (1, fSB (bv, cap, bt, cnt, ml))) :: (bv, aB C cap bt) :: R)) := by
  refine mf_of (by decide +kernel) (Nat.le_of_ble_eq_true rfl) hfl (fun K Q X r => ?_)
  have X : Cx C l "java/lang/AbstractStringBuilder" cJ5_newCapacity_0f7a4 6 1 0 0 K := X
  show G C K Q 0 0 0 [(0, .ref sb), (1, vi need)] [] ((sb, .inr (1, fSB (bv, cap, bt, cnt, ml))) :: (bv, aB C cap bt) :: R)
  refine g_aload_n (t := 1) X dJ5_newCapacity_0f7a4_0 0 rfl rfl ?_
  refine g_getf (t := 4) (v := .ref bv) X inJ4 0 rfl rfl 0 (by decide) q1_81 rfl rfl dJ5_newCapacity_0f7a4_1 rfl ?_
  refine g_blen (t := 5) (n := cap) (f := bt) X 1 rfl dJ5_newCapacity_0f7a4_4 rfl ?_
  refine g_istore_n (t := 6) (lv1 := [(2, vi (cap : Int)), (0, .ref sb), (1, vi need)]) X dJ5_newCapacity_0f7a4_5 (by decide) rfl rfl ?_
  refine g_iload_n (t := 7) X dJ5_newCapacity_0f7a4_6 2 rfl rfl ?_
  refine g_aload_n (t := 8) X dJ5_newCapacity_0f7a4_7 1 rfl rfl ?_
  refine g_getf (t := 11) (v := vi 0) X inJ4 0 rfl rfl 1 (by decide) q1_82 rfl rfl dJ5_newCapacity_0f7a4_8 rfl ?_
  refine g_ishl0 (t := 12) X dJ5_newCapacity_0f7a4_11 rfl ?_
  refine g_istore_n (t := 13) (lv1 := [(3, vi need), (2, vi (cap : Int)), (0, .ref sb), (1, vi need)]) X dJ5_newCapacity_0f7a4_12 (by decide) rfl rfl ?_
  refine g_iload_n (t := 14) X dJ5_newCapacity_0f7a4_13 0 rfl rfl ?_
  refine g_iload_n (t := 15) X dJ5_newCapacity_0f7a4_14 1 rfl rfl ?_
  refine g_isub (t := 16) X dJ5_newCapacity_0f7a4_15 rfl ?_
  refine g_istore (t := 18) (lv1 := [(4, vi (need - (cap : Int))), (3, vi need), (2, vi (cap : Int)), (0, .ref sb), (1, vi need)]) X dJ5_newCapacity_0f7a4_16 (by decide) rfl rfl ?_
  refine g_iload_n (t := 19) X dJ5_newCapacity_0f7a4_18 2 rfl rfl ?_
  refine g_iload (t := 21) X dJ5_newCapacity_0f7a4_19 0 rfl rfl ?_
  refine g_iload_n (t := 22) X dJ5_newCapacity_0f7a4_21 2 rfl rfl ?_
  refine g_iconst (t := 23) X dJ5_newCapacity_0f7a4_22 rfl ?_
  refine g_aload_n (t := 24) X dJ5_newCapacity_0f7a4_23 3 rfl rfl ?_
  refine g_getf (t := 27) (v := vi 0) X inJ4 0 rfl rfl 1 (by decide) q1_82 rfl rfl dJ5_newCapacity_0f7a4_24 rfl ?_
  refine g_ishl0 (t := 28) X dJ5_newCapacity_0f7a4_27 rfl ?_
  refine g_iadd (t := 29) X dJ5_newCapacity_0f7a4_28 rfl ?_
  refine g_callS (t := 32) (mc := 0) (ms := 0) (rest := []) X mt_J8_newLength_cabcc q3_178 q1_144 (c_J8_newLength_cabcc hfl (by omega) (by omega) (by omega) (by omega) (by omega) (by omega)) (by decide) (Nat.le_of_ble_eq_true rfl) (Nat.le_of_ble_eq_true rfl) (Nat.le_of_ble_eq_true rfl) rfl rfl dJ5_newCapacity_0f7a4_29 rfl (k_rv ?_)
  rw [show (cap : Int) + (if need - (cap : Int) < (cap : Int) + 2 then (cap : Int) + 2 else need - (cap : Int)) = ((2 * cap + 2 : Nat) : Int) by rw [if_pos (by omega)]; omega]
  refine g_istore (t := 34) (lv1 := [(5, vi ((2 * cap + 2 : Nat) : Int)), (4, vi (need - (cap : Int))), (3, vi need), (2, vi (cap : Int)), (0, .ref sb), (1, vi need)]) X dJ5_newCapacity_0f7a4_32 (by decide) rfl rfl ?_
  refine g_iload (t := 36) X dJ5_newCapacity_0f7a4_34 0 rfl rfl ?_
  refine g_ldci (t := 38) (z := 2147483647) X q3_179 dJ5_newCapacity_0f7a4_36 rfl ?_
  refine g_icmp_ne (t := 51) (u := 41) X dJ5_newCapacity_0f7a4_38 (by decide) rfl ⟨by omega, by omega⟩ ⟨by omega, by omega⟩ (fun c_38 => ?_) (fun c_38 => absurd (show ((2 * cap + 2 : Nat) : Int) = 2147483647 from c_38) (by omega))
  refine g_iload (t := 53) X dJ5_newCapacity_0f7a4_51 0 rfl rfl ?_
  refine g_aload_n (t := 54) X dJ5_newCapacity_0f7a4_53 4 rfl rfl ?_
  refine g_getf (t := 57) (v := vi 0) X inJ4 0 rfl rfl 1 (by decide) q1_82 rfl rfl dJ5_newCapacity_0f7a4_54 rfl ?_
  refine g_ishr0 (t := 58) X dJ5_newCapacity_0f7a4_57 rfl ?_
  exact g_iret X r (rv_i rfl) (Nat.le_of_ble_eq_true rfl) (Nat.le_of_ble_eq_true rfl) dJ5_newCapacity_0f7a4_58

set_option maxHeartbeats 4000000 in
set_option maxRecDepth 100000 in
/-- copyOf(bytes, m) -/
theorem c_J7_copyOf_9075b {C : WC} {l : Launch} (hfl : l.stackTraces = false) {ws : va_W} {cap m el qe : Nat} {f : Int → Int} (hee : ws[qe]? = some (el, aB C cap f)) (hcm : cap < m) (hm : m < 65536) (hb : Lat cap f) : MM C l yJ7_copyOf_9075b cJ7_copyOf_9075b 3 (some (.array .byte)) 0 1 m [.ref el, vi (m : Int)] ws (fun v w => ∃ q : Nat, True ∧ v = some (.ref q) ∧ w = ws ++ [(q, aB C m (cpI f (fun _ => 0) 0 0 cap))]) := by
  refine mf_of (by decide +kernel) (Nat.le_of_ble_eq_true rfl) hfl (fun K Q X r => ?_)
  have X : Cx C l "java/util/Arrays" cJ7_copyOf_9075b 3 0 1 m K := X
  show G C K Q 0 0 0 [(0, .ref el), (1, vi (m : Int))] [] ws
  refine g_iload_n (t := 1) X dJ7_copyOf_9075b_0 1 rfl rfl ?_
  refine g_aload_n (t := 2) X dJ7_copyOf_9075b_1 0 rfl rfl ?_
  refine g_blen (t := 3) (n := cap) (f := f) X qe hee dJ7_copyOf_9075b_2 rfl ?_
  refine g_icmp_ne (t := 14) (u := 6) X dJ7_copyOf_9075b_3 (by decide) rfl ⟨by omega, by omega⟩ ⟨by omega, by omega⟩ (fun c_3 => ?_) (fun c_3 => absurd (show (m : Int) = (cap : Int) from c_3) (by omega))
  refine g_iload_n (t := 15) X dJ7_copyOf_9075b_14 1 rfl rfl ?_
  refine g_newa_b (t := 17) (n := m) X (by omega) (by omega) (by omega) dJ7_copyOf_9075b_15 rfl (fun q => ?_)
  have heN := old_at hee (q, aB C m (fun _ => 0))
  refine g_astore_n (t := 18) (lv1 := [(2, .ref q), (0, .ref el), (1, vi (m : Int))]) X dJ7_copyOf_9075b_17 (by decide) rfl rfl ?_
  refine g_aload_n (t := 19) X dJ7_copyOf_9075b_18 1 rfl rfl ?_
  refine g_iconst (t := 20) X dJ7_copyOf_9075b_19 rfl ?_
  refine g_aload_n (t := 21) X dJ7_copyOf_9075b_20 0 rfl rfl ?_
  refine g_iconst (t := 22) X dJ7_copyOf_9075b_21 rfl ?_
  refine g_aload_n (t := 23) X dJ7_copyOf_9075b_22 1 rfl rfl ?_
  refine g_blen (t := 24) (n := cap) (f := f) X qe heN dJ7_copyOf_9075b_23 rfl ?_
  refine g_iload_n (t := 25) X dJ7_copyOf_9075b_24 2 rfl rfl ?_
  refine g_mmin (t := 28) X q1_178 q1_179 q1_11 q1_180 (Nat.le_of_ble_eq_true rfl) (by omega) (by omega) ⟨by omega, by omega⟩ ⟨by omega, by omega⟩ dJ7_copyOf_9075b_25 rfl ?_
  rw [if_neg (by omega)]
  refine g_copyb (t := 31) (sp := 0) (dp := 0) (n := (cap : Int)) X qe ws.length q1_181 q1_183 q1_182 q1_13 heN (new_at _ _) (by omega) (by omega) (by omega) (by omega) (by omega) (by omega) (by omega) (fun i i0 i1 => hb i i0 (by omega)) (Nat.le_of_ble_eq_true rfl) (new_set _ _ _) dJ7_copyOf_9075b_28 rfl ?_
  refine g_aload_n (t := 32) X dJ7_copyOf_9075b_31 0 rfl rfl ?_
  exact g_aret X r (Or.inr ⟨_, rfl⟩) ⟨q, trivial, rfl, rfl⟩ (by omega) (by omega) dJ7_copyOf_9075b_32

set_option maxHeartbeats 4000000 in
set_option maxRecDepth 100000 in
/-- ensureCapacityInternal(need) -/
theorem c_J5_ensureCapacityInternal_d00df {C : WC} {l : Launch} (hfl : l.stackTraces = false) {sb bv cap : Nat} {bt : Int → Int} {cnt ml : Int} {R : va_W} {need : Int} {mc ms : Nat} (c16 : 16 ≤ cap) (c3 : cap ≤ 300) (k0 : 0 ≤ cnt) (k1 : cnt ≤ cap) (hb : Lat cap bt) (h4 : need ≤ cap + 4) (h0 : 0 ≤ need) (hbud : need ≤ cap ∨ (1 ≤ mc ∧ 2 * cap + 2 ≤ ms)) : MM C l yJ5_ensureCapacityInternal_d00df cJ5_ensureCapacityInternal_d00df 3 none 2 mc ms [.ref sb, vi need] ((sb, .inr (1, fSB (bv, cap, bt, cnt, ml))) :: (bv, aB C cap bt) :: R) (fun v w => ∃ x : Nat × Nat × (Int → Int), EnsP cap bt need x ∧ v = none ∧ w = (sb, .inr (1, fSB (x.1, x.2.1, x.2.2, cnt, ml))) :: (x.1, aB C x.2.1 x.2.2) :: R) := by
  refine mf_of (by decide +kernel) (Nat.le_of_ble_eq_true rfl) hfl (fun K Q X r => ?_)
  have X : Cx C l "java/lang/AbstractStringBuilder" cJ5_ensureCapacityInternal_d00df 3 2 mc ms K := X
  show G C K Q 0 0 0 [(0, .ref sb), (1, vi need)] [] ((sb, .inr (1, fSB (bv, cap, bt, cnt, ml))) :: (bv, aB C cap bt) :: R)
  refine g_aload_n (t := 1) X dJ5_ensureCapacityInternal_d00df_0 0 rfl rfl ?_
  refine g_getf (t := 4) (v := .ref bv) X inJ4 0 rfl rfl 0 (by decide) q1_81 rfl rfl dJ5_ensureCapacityInternal_d00df_1 rfl ?_
  refine g_blen (t := 5) (n := cap) (f := bt) X 1 rfl dJ5_ensureCapacityInternal_d00df_4 rfl ?_
  refine g_aload_n (t := 6) X dJ5_ensureCapacityInternal_d00df_5 0 rfl rfl ?_
  refine g_getf (t := 9) (v := vi 0) X inJ4 0 rfl rfl 1 (by decide) q1_82 rfl rfl dJ5_ensureCapacityInternal_d00df_6 rfl ?_
  refine g_ishr0 (t := 10) X dJ5_ensureCapacityInternal_d00df_9 rfl ?_
  refine g_istore_n (t := 11) (lv1 := [(2, vi (cap : Int)), (0, .ref sb), (1, vi need)]) X dJ5_ensureCapacityInternal_d00df_10 (by decide) rfl rfl ?_
  refine g_iload_n (t := 12) X dJ5_ensureCapacityInternal_d00df_11 2 rfl rfl ?_
  refine g_iload_n (t := 13) X dJ5_ensureCapacityInternal_d00df_12 0 rfl rfl ?_
  refine g_isub (t := 14) X dJ5_ensureCapacityInternal_d00df_13 rfl ?_
  refine g_if_le (t := 38) (u := 17) X dJ5_ensureCapacityInternal_d00df_14 (by decide) rfl ⟨by omega, by omega⟩ (fun c_14 => ?_) (fun c_14 => ?_)
  · exact g_vret X r ⟨(bv, cap, bt), EnsP.same (by omega) hb, rfl, rfl⟩ (by omega) (by omega) dJ5_ensureCapacityInternal_d00df_38
  · refine g_aload_n (t := 18) X dJ5_ensureCapacityInternal_d00df_17 1 rfl rfl ?_
    refine g_aload_n (t := 19) X dJ5_ensureCapacityInternal_d00df_18 1 rfl rfl ?_
    refine g_getf (t := 22) (v := .ref bv) X inJ4 0 rfl rfl 0 (by decide) q1_81 rfl rfl dJ5_ensureCapacityInternal_d00df_19 rfl ?_
    refine g_aload_n (t := 23) X dJ5_ensureCapacityInternal_d00df_22 1 rfl rfl ?_
    refine g_iload_n (t := 24) X dJ5_ensureCapacityInternal_d00df_23 2 rfl rfl ?_
    refine g_callU (t := 27) (mc := 0) (ms := 0) (rest := [.ref bv, .ref sb]) (Cr := "java/lang/StringBuilder") X mt_J5_newCapacity_0f7a4 q3_174 q5_220 q3_176 (sel_asb rfl q3_175 q3_176) 0 rfl rfl (c_J5_newCapacity_0f7a4 hfl c16 c3 (by omega) h4) (by decide) (by omega) (by omega) (Nat.le_of_ble_eq_true rfl) rfl rfl dJ5_ensureCapacityInternal_d00df_24 rfl (k_rv ?_)
    refine g_aload_n (t := 28) X dJ5_ensureCapacityInternal_d00df_27 1 rfl rfl ?_
    refine g_getf (t := 31) (v := vi 0) X inJ4 0 rfl rfl 1 (by decide) q1_82 rfl rfl dJ5_ensureCapacityInternal_d00df_28 rfl ?_
    refine g_ishl0 (t := 32) X dJ5_ensureCapacityInternal_d00df_31 rfl ?_
    refine g_callS (t := 35) (mc := 1) (ms := (2 * cap + 2)) (rest := [.ref sb]) X mt_J7_copyOf_9075b q3_180 q3_181 (c_J7_copyOf_9075b (qe := 1) (m := 2 * cap + 2) (cap := cap) (f := bt) hfl rfl (by omega) (by omega) hb) (by decide) (by omega) (by omega) (Nat.le_of_ble_eq_true rfl) rfl rfl dJ5_ensureCapacityInternal_d00df_32 rfl (k_ex (fun q _ => ?_))
    refine g_putf (t := 38) (ws1 := (((sb, .inr (1, fSB (q, cap, bt, cnt, ml))) :: (bv, aB C cap bt) :: R) ++ [(q, aB C (2 * cap + 2) (cpI bt (fun _ => 0) 0 0 cap))])) X inJ4 tyJ4 tyJ4_ok nmJ4 0 rfl rfl 0 (by decide) q1_81 rfl rfl rfl rfl rfl (Nat.le_of_ble_eq_true rfl) rfl dJ5_ensureCapacityInternal_d00df_35 rfl ?_
    refine g_dr dr_old (g_pm pm_new ?_)
    exact g_vret X r ⟨(q, 2 * cap + 2, cpI bt (fun _ => 0) 0 0 cap), EnsP.new (by omega) rfl hb, rfl, rfl⟩ (by omega) (by omega) dJ5_ensureCapacityInternal_d00df_38

set_option maxHeartbeats 4000000 in
set_option maxRecDepth 100000 in
/-- isLatin1() -/
theorem c_J5_isLatin1_aae02 {C : WC} {l : Launch} (hfl : l.stackTraces = false) {sb bv cap : Nat} {bt : Int → Int} {cnt ml : Int} {R : va_W}   : MM C l yJ5_isLatin1_aae02 cJ5_isLatin1_aae02 1 (some .boolean) 0 0 0 [.ref sb] ((sb, .inr (1, fSB (bv, cap, bt, cnt, ml))) :: (bv, aB C cap bt) :: R) (rv (vi 1) ((sb, .inr (1, fSB (bv, cap, bt, cnt, ml))) :: (bv, aB C cap bt) :: R)) := by
  refine mf_of (by decide +kernel) (Nat.le_of_ble_eq_true rfl) hfl (fun K Q X r => ?_)
  have X : Cx C l "java/lang/AbstractStringBuilder" cJ5_isLatin1_aae02 1 0 0 0 K := X
  show G C K Q 0 0 0 [(0, .ref sb)] [] ((sb, .inr (1, fSB (bv, cap, bt, cnt, ml))) :: (bv, aB C cap bt) :: R)
  refine g_gets (t := 3) (v := vi 1) X q1_72 (fun s H h => h.2.1) dJ5_isLatin1_aae02_0 rfl ?_
  refine g_if_eq (t := 17) (u := 6) X dJ5_isLatin1_aae02_3 (by decide) rfl ⟨by omega, by omega⟩ (fun c => absurd c (by decide)) (fun _ => ?_)
  refine g_aload_n (t := 7) X dJ5_isLatin1_aae02_6 0 rfl rfl ?_
  refine g_getf (t := 10) (v := vi 0) X inJ4 0 rfl rfl 1 (by decide) q1_82 rfl rfl dJ5_isLatin1_aae02_7 rfl ?_
  refine g_if_ne (t := 17) (u := 13) X dJ5_isLatin1_aae02_10 (by decide) rfl ⟨by omega, by omega⟩ (fun c => absurd c (by decide)) (fun _ => ?_)
  refine g_iconst (t := 14) X dJ5_isLatin1_aae02_13 rfl ?_
  refine g_goto (t := 18) X dJ5_isLatin1_aae02_14 (by decide) ?_
  exact g_zret X r rfl (rv_i rfl) (Nat.le_of_ble_eq_true rfl) (Nat.le_of_ble_eq_true rfl) dJ5_isLatin1_aae02_18

set_option maxHeartbeats 4000000 in
set_option maxRecDepth 100000 in
/-- canEncode(c) -/
theorem c_J1_canEncode_fc78d {C : WC} {l : Launch} (hfl : l.stackTraces = false) {ws : va_W} {c : Int}  (c0 : 0 ≤ c) (c1 : c < 128) : MM C l yJ1_canEncode_fc78d cJ1_canEncode_fc78d 1 (some .boolean) 0 0 0 [vi c] ws (rv (vi 1) ws) := by
  refine mf_of (by decide +kernel) (Nat.le_of_ble_eq_true rfl) hfl (fun K Q X r => ?_)
  have X : Cx C l "java/lang/StringLatin1" cJ1_canEncode_fc78d 1 0 0 0 K := X
  show G C K Q 0 0 0 [(0, vi c)] [] ws
  refine g_iload_n (t := 1) X dJ1_canEncode_fc78d_0 0 rfl rfl ?_
  refine g_sipush (t := 4) (z := 255) X dJ1_canEncode_fc78d_1 (by decide +kernel) rfl ?_
  refine g_icmp_gt (t := 11) (u := 7) X dJ1_canEncode_fc78d_4 (by decide) rfl ⟨by omega, by omega⟩ ⟨by omega, by omega⟩ (fun c_4 => absurd c_4 (by omega)) (fun c_4 => ?_)
  refine g_iconst (t := 8) X dJ1_canEncode_fc78d_7 rfl ?_
  refine g_goto (t := 12) X dJ1_canEncode_fc78d_8 (by decide) ?_
  exact g_zret X r rfl (rv_i rfl) (Nat.le_of_ble_eq_true rfl) (Nat.le_of_ble_eq_true rfl) dJ1_canEncode_fc78d_12

/-- the text t1 of length k1 goes on the text of length k with the letters of g -/
def AppP (cap : Nat) (bt : Int → Int) (k n : Int) (g : Int → Int) (x : Nat × Nat × (Int → Int)) : Prop := x.2.1 = ncap cap (k + n) ∧ Lat x.2.1 x.2.2 ∧ (∀ j : Int, 0 ≤ j → j < k → x.2.2 j = bt j) ∧ ∀ i : Int, 0 ≤ i → i < n → x.2.2 (k + i) = g i
theorem Lat.put {cap : Nat} {bt : Int → Int} (h : Lat cap bt) {z v : Int} (v0 : 0 ≤ v) (v1 : v < 128) : Lat cap (uI bt z v) := by
  intro j j0 j1
  by_cases e : j = z
  · subst e; rw [uI_s]; exact ⟨v0, v1⟩
  · rw [uI_n _ _ e]; exact h j j0 j1
theorem AppP.one {cap : Nat} {bt : Int → Int} {k a : Int} {x : Nat × Nat × (Int → Int)} (h : EnsP cap bt (k + 1) x) (k1 : k ≤ cap) (a0 : 0 ≤ a) (a1 : a < 128) : AppP cap bt k 1 (fun _ => a) (x.1, x.2.1, uI x.2.2 k a) := by
  refine ⟨h.1, h.2.1.put a0 a1, fun j j0 j1 => ?_, fun i i0 i1 => ?_⟩
  · show uI x.2.2 k a j = bt j
    rw [uI_n _ _ (by omega)]; exact h.2.2 j j0 (by omega)
  · show uI x.2.2 k a (k + i) = a
    rw [show k + i = k by omega, uI_s]
set_option maxHeartbeats 4000000 in
set_option maxRecDepth 100000 in
/-- append(a letter) -/
theorem c_J5_append_3fe6f {C : WC} {l : Launch} (hfl : l.stackTraces = false) {sb bv cap : Nat} {bt : Int → Int} {cnt ml : Int} {R : va_W} {a : Int} {mc ms : Nat} (c16 : 16 ≤ cap) (c3 : cap ≤ 300) (k0 : 0 ≤ cnt) (k1 : cnt ≤ cap) (hb : Lat cap bt) (a0 : 0 ≤ a) (a1 : a < 128) (k4 : cnt + 1 ≤ cap + 4) (hbud : cnt + 1 ≤ cap ∨ (1 ≤ mc ∧ 2 * cap + 2 ≤ ms)) : MM C l yJ5_append_3fe6f cJ5_append_3fe6f 2 (some (.object "java/lang/AbstractStringBuilder")) 3 mc ms [.ref sb, vi a] ((sb, .inr (1, fSB (bv, cap, bt, cnt, ml))) :: (bv, aB C cap bt) :: R) (fun v w => ∃ x : Nat × Nat × (Int → Int), AppP cap bt cnt 1 (fun _ => a) x ∧ v = some (.ref sb) ∧ w = (sb, .inr (1, fSB (x.1, x.2.1, x.2.2, cnt + 1, ml))) :: (x.1, aB C x.2.1 x.2.2) :: R) := by
  refine mf_of (by decide +kernel) (Nat.le_of_ble_eq_true rfl) hfl (fun K Q X r => ?_)
  have X : Cx C l "java/lang/AbstractStringBuilder" cJ5_append_3fe6f 2 3 mc ms K := X
  show G C K Q 0 0 0 [(0, .ref sb), (1, vi a)] [] ((sb, .inr (1, fSB (bv, cap, bt, cnt, ml))) :: (bv, aB C cap bt) :: R)
  refine g_aload_n (t := 1) X dJ5_append_3fe6f_0 0 rfl rfl ?_
  refine g_aload_n (t := 2) X dJ5_append_3fe6f_1 0 rfl rfl ?_
  refine g_getf (t := 5) (v := vi cnt) X inJ4 0 rfl rfl 3 (by decide) q1_85 rfl rfl dJ5_append_3fe6f_2 rfl ?_
  refine g_iconst (t := 6) X dJ5_append_3fe6f_5 rfl ?_
  refine g_iadd (t := 7) X dJ5_append_3fe6f_6 rfl ?_
  refine g_callU (t := 10) (mc := mc) (ms := ms) (rest := []) (Cr := "java/lang/StringBuilder") X mt_J5_ensureCapacityInternal_d00df q3_170 q5_219 q3_172 (sel_asb rfl q3_171 q3_172) 0 rfl rfl (c_J5_ensureCapacityInternal_d00df (mc := mc) (ms := ms) hfl c16 c3 k0 k1 hb (by omega) (by omega) (by omega)) (by decide) (by omega) (by omega) (Nat.le_of_ble_eq_true rfl) rfl rfl dJ5_append_3fe6f_7 rfl (k_exn (fun x hx => ?_))
  obtain ⟨bv1, cap1, bt1⟩ := x
  have hx1 : cap1 = ncap cap (cnt + 1) := hx.1
  have hgr := ncap_ge (cap := cap) (need := cnt + 1) (by omega) (by omega)
  have hgr2 := ncap_le cap (cnt + 1)
  have hb1 : Lat cap1 bt1 := hx.2.1
  show G C K Q _ _ _ _ _ (((sb, .inr (1, fSB (bv1, cap1, bt1, cnt, ml))) :: (bv1, aB C cap1 bt1) :: R))
  refine g_aload_n (t := 11) X dJ5_append_3fe6f_10 0 rfl rfl ?_
  refine g_callU (t := 14) (mc := 0) (ms := 0) (rest := []) (Cr := "java/lang/StringBuilder") X mt_J5_isLatin1_aae02 q3_190 q3_192 q3_191 (sel_tw q3_193) 0 rfl rfl (c_J5_isLatin1_aae02 hfl) (by decide) (by omega) (by omega) (Nat.le_of_ble_eq_true rfl) rfl rfl dJ5_append_3fe6f_11 rfl (k_rv ?_)
  refine g_if_eq (t := 45) (u := 17) X dJ5_append_3fe6f_14 (by decide) rfl ⟨by omega, by omega⟩ (fun c => absurd c (by decide)) (fun _ => ?_)
  refine g_iload_n (t := 18) X dJ5_append_3fe6f_17 1 rfl rfl ?_
  refine g_callS (t := 21) (mc := 0) (ms := 0) (rest := []) X mt_J1_canEncode_fc78d q4_175 q4_176 (c_J1_canEncode_fc78d hfl a0 a1) (by decide) (by omega) (by omega) (Nat.le_of_ble_eq_true rfl) rfl rfl dJ5_append_3fe6f_18 rfl (k_rv ?_)
  refine g_if_eq (t := 45) (u := 24) X dJ5_append_3fe6f_21 (by decide) rfl ⟨by omega, by omega⟩ (fun c => absurd c (by decide)) (fun _ => ?_)
  refine g_aload_n (t := 25) X dJ5_append_3fe6f_24 0 rfl rfl ?_
  refine g_getf (t := 28) (v := .ref bv1) X inJ4 0 rfl rfl 0 (by decide) q1_81 rfl rfl dJ5_append_3fe6f_25 rfl ?_
  refine g_aload_n (t := 29) X dJ5_append_3fe6f_28 0 rfl rfl ?_
  refine g_dup (t := 30) X dJ5_append_3fe6f_29 rfl rfl ?_
  refine g_getf (t := 33) (v := vi cnt) X inJ4 0 rfl rfl 3 (by decide) q1_85 rfl rfl dJ5_append_3fe6f_30 rfl ?_
  refine g_dup_x1 (t := 34) X dJ5_append_3fe6f_33 rfl rfl rfl ?_
  refine g_iconst (t := 35) X dJ5_append_3fe6f_34 rfl ?_
  refine g_iadd (t := 36) X dJ5_append_3fe6f_35 rfl ?_
  refine g_putf (t := 39) (ws1 := (((sb, .inr (1, fSB (bv1, cap1, bt1, cnt + 1, ml))) :: (bv1, aB C cap1 bt1) :: R))) X inJ4 tyJ4 tyJ4_ok nmJ4 0 rfl rfl 3 (by decide) q1_85 rfl rfl rfl rfl rfl (Nat.le_of_ble_eq_true rfl) rfl dJ5_append_3fe6f_36 rfl ?_
  refine g_iload_n (t := 40) X dJ5_append_3fe6f_39 1 rfl rfl ?_
  refine g_i2b (t := 41) X dJ5_append_3fe6f_40 (by omega) (by omega) rfl ?_
  refine g_bast (t := 42) (n := cap1) (f := bt1) (ws1 := (((sb, .inr (1, fSB (bv1, cap1, (uI bt1 cnt a), cnt + 1, ml))) :: (bv1, aB C cap1 (uI bt1 cnt a)) :: R))) X 1 rfl (by omega) (by omega) (by omega) (by omega) (by omega) rfl dJ5_append_3fe6f_41 rfl ?_
  refine g_goto (t := 75) X dJ5_append_3fe6f_42 (by decide) ?_
  refine g_aload_n (t := 76) X dJ5_append_3fe6f_75 0 rfl rfl ?_
  exact g_aret X r (Or.inl ⟨_, rfl⟩) ⟨(bv1, cap1, uI bt1 cnt a), AppP.one (x := (bv1, cap1, bt1)) hx k1 a0 a1, rfl, rfl⟩ (by omega) (by omega) dJ5_append_3fe6f_76

set_option maxHeartbeats 4000000 in
set_option maxRecDepth 100000 in
/-- stringSize(n) -/
theorem c_J6_stringSize_0f7a4 {C : WC} {l : Launch} (hfl : l.stackTraces = false) {ws : va_W} {n : Int}  (n0 : 0 ≤ n) (n1 : n < 100) : MM C l yJ6_stringSize_0f7a4 cJ6_stringSize_0f7a4 4 (some .int) 0 0 0 [vi n] ws (rv (vi (dgF n)) ws) := by
  refine mf_of (by decide +kernel) (Nat.le_of_ble_eq_true rfl) hfl (fun K Q X r => ?_)
  have X : Cx C l "java/lang/Integer" cJ6_stringSize_0f7a4 4 0 0 0 K := X
  show G C K Q 0 0 0 [(0, vi n)] [] ws
  refine g_iconst (t := 1) X dJ6_stringSize_0f7a4_0 rfl ?_
  refine g_istore_n (t := 2) (lv1 := [(1, vi 1), (0, vi n)]) X dJ6_stringSize_0f7a4_1 (by decide) rfl rfl ?_
  refine g_iload_n (t := 3) X dJ6_stringSize_0f7a4_2 1 rfl rfl ?_
  refine g_if_lt (t := 11) (u := 6) X dJ6_stringSize_0f7a4_3 (by decide) rfl ⟨by omega, by omega⟩ (fun c_3 => absurd c_3 (by omega)) (fun c_3 => ?_)
  refine g_iconst (t := 7) X dJ6_stringSize_0f7a4_6 rfl ?_
  refine g_istore_n (t := 8) (lv1 := [(1, vi 0), (0, vi n)]) X dJ6_stringSize_0f7a4_7 (by decide) rfl rfl ?_
  refine g_iload_n (t := 9) X dJ6_stringSize_0f7a4_8 1 rfl rfl ?_
  refine g_ineg (t := 10) X dJ6_stringSize_0f7a4_9 rfl ?_
  refine g_istore_n (t := 11) (lv1 := [(0, vi (-n)), (1, vi 0)]) X dJ6_stringSize_0f7a4_10 (by decide) rfl rfl ?_
  refine g_bipush (t := 13) (z := (-10)) X dJ6_stringSize_0f7a4_11 (by decide +kernel) rfl ?_
  refine g_istore_n (t := 14) (lv1 := [(2, vi (-10)), (0, vi (-n)), (1, vi 0)]) X dJ6_stringSize_0f7a4_13 (by decide) rfl rfl ?_
  refine g_iconst (t := 15) X dJ6_stringSize_0f7a4_14 rfl ?_
  refine g_istore_n (t := 16) (lv1 := [(3, vi 1), (2, vi (-10)), (0, vi (-n)), (1, vi 0)]) X dJ6_stringSize_0f7a4_15 (by decide) rfl rfl ?_
  refine g_iload_n (t := 17) X dJ6_stringSize_0f7a4_16 0 rfl rfl ?_
  refine g_bipush (t := 19) (z := 10) X dJ6_stringSize_0f7a4_17 (by decide +kernel) rfl ?_
  refine g_icmp_ge (t := 42) (u := 22) X dJ6_stringSize_0f7a4_19 (by decide) rfl ⟨by omega, by omega⟩ ⟨by omega, by omega⟩ (fun c => absurd c (by decide)) (fun _ => ?_)
  refine g_iload_n (t := 23) X dJ6_stringSize_0f7a4_22 2 rfl rfl ?_
  refine g_iload_n (t := 24) X dJ6_stringSize_0f7a4_23 1 rfl rfl ?_
  refine g_icmp_le (t := 31) (u := 27) X dJ6_stringSize_0f7a4_24 (by decide) rfl ⟨by omega, by omega⟩ ⟨by omega, by omega⟩ (fun c_24 => ?_) (fun c_24 => ?_)
  · refine g_bipush (t := 33) (z := 10) X dJ6_stringSize_0f7a4_31 (by decide +kernel) rfl ?_
    refine g_iload_n (t := 34) X dJ6_stringSize_0f7a4_33 1 rfl rfl ?_
    refine g_imul (t := 35) X dJ6_stringSize_0f7a4_34 rfl ?_
    refine g_istore_n (t := 36) (lv1 := [(2, vi (-100)), (3, vi 1), (0, vi (-n)), (1, vi 0)]) X dJ6_stringSize_0f7a4_35 (by decide) rfl rfl ?_
    refine g_iinc (t := 39) (lv1 := [(3, vi 2), (2, vi (-100)), (0, vi (-n)), (1, vi 0)]) X dJ6_stringSize_0f7a4_36 1 rfl (by decide) rfl rfl ?_
    refine g_goto (t := 16) X dJ6_stringSize_0f7a4_39 (by decide) ?_
    refine g_iload_n (t := 17) X dJ6_stringSize_0f7a4_16 0 rfl rfl ?_
    refine g_bipush (t := 19) (z := 10) X dJ6_stringSize_0f7a4_17 (by decide +kernel) rfl ?_
    refine g_icmp_ge (t := 42) (u := 22) X dJ6_stringSize_0f7a4_19 (by decide) rfl ⟨by omega, by omega⟩ ⟨by omega, by omega⟩ (fun c => absurd c (by decide)) (fun _ => ?_)
    refine g_iload_n (t := 23) X dJ6_stringSize_0f7a4_22 2 rfl rfl ?_
    refine g_iload_n (t := 24) X dJ6_stringSize_0f7a4_23 1 rfl rfl ?_
    refine g_icmp_le (t := 31) (u := 27) X dJ6_stringSize_0f7a4_24 (by decide) rfl ⟨by omega, by omega⟩ ⟨by omega, by omega⟩ (fun c_24 => absurd c_24 (by omega)) (fun c_24 => ?_)
    refine g_iload_n (t := 28) X dJ6_stringSize_0f7a4_27 0 rfl rfl ?_
    refine g_iload_n (t := 29) X dJ6_stringSize_0f7a4_28 3 rfl rfl ?_
    refine g_iadd (t := 30) X dJ6_stringSize_0f7a4_29 rfl ?_
    exact g_iret X r (rv_i (by unfold dgF; split <;> omega)) (Nat.le_of_ble_eq_true rfl) (Nat.le_of_ble_eq_true rfl) dJ6_stringSize_0f7a4_30
  · refine g_iload_n (t := 28) X dJ6_stringSize_0f7a4_27 0 rfl rfl ?_
    refine g_iload_n (t := 29) X dJ6_stringSize_0f7a4_28 3 rfl rfl ?_
    refine g_iadd (t := 30) X dJ6_stringSize_0f7a4_29 rfl ?_
    exact g_iret X r (rv_i (by unfold dgF; split <;> omega)) (Nat.le_of_ble_eq_true rfl) (Nat.le_of_ble_eq_true rfl) dJ6_stringSize_0f7a4_30

theorem dig_1 {z : Int} (h : 0 ≤ z ∧ z < 100) : dOnes z.toNat = vi (48 + z % 10) := by
  unfold dOnes
  rw [Int.toNat_of_nonneg h.1]
theorem dig_2 {z : Int} (h : 0 ≤ z ∧ z < 100) : dTens z.toNat = vi (48 + z / 10) := by
  unfold dTens
  rw [Int.toNat_of_nonneg h.1]
/-- the digits of n, ending before place k -/
def gcF (bt : Int → Int) (k n : Int) : Int → Int := if n < 10 then uI bt (k - 1) (48 + n % 10) else uI (uI bt (k - 1) (48 + n % 10)) (k - 2) (48 + n / 10)
theorem AppP.num {cap : Nat} {bt : Int → Int} {k n : Int} {x : Nat × Nat × (Int → Int)} (h : EnsP cap bt (k + dgF n) x) (k0 : 0 ≤ k) (k1 : k ≤ cap) (n0 : 0 ≤ n) (n1 : n < 100) : AppP cap bt k (dgF n) (dch n) (x.1, x.2.1, gcF x.2.2 (k + dgF n) n) := by
  by_cases c : n < 10
  · have e : dgF n = 1 := by unfold dgF; rw [if_pos c]
    have g : gcF x.2.2 (k + dgF n) n = uI x.2.2 k (48 + n % 10) := by unfold gcF; rw [if_pos c, e, show k + 1 - 1 = k by omega]
    rw [g]
    refine ⟨h.1, h.2.1.put (by omega) (by omega), fun j j0 j1 => ?_, fun i i0 i1 => ?_⟩
    · show uI x.2.2 k _ j = bt j
      rw [uI_n _ _ (by omega)]; exact h.2.2 j j0 (by omega)
    · show uI x.2.2 k _ (k + i) = dch n i
      rw [show k + i = k by omega, uI_s]
      unfold dch
      rw [if_neg (by omega)]
  · have e : dgF n = 2 := by unfold dgF; rw [if_neg c]
    have g : gcF x.2.2 (k + dgF n) n = uI (uI x.2.2 (k + 1) (48 + n % 10)) k (48 + n / 10) := by unfold gcF; rw [if_neg c, e, show k + 2 - 1 = k + 1 by omega, show k + 2 - 2 = k by omega]
    rw [g]
    refine ⟨h.1, (h.2.1.put (by omega) (by omega)).put (by omega) (by omega), fun j j0 j1 => ?_, fun i i0 i1 => ?_⟩
    · show uI (uI x.2.2 (k + 1) _) k _ j = bt j
      rw [uI_n _ _ (by omega), uI_n _ _ (by omega)]; exact h.2.2 j j0 (by omega)
    · show uI (uI x.2.2 (k + 1) _) k _ (k + i) = dch n i
      unfold dch
      by_cases i2 : i = 0
      · subst i2; rw [show k + 0 = k by omega, uI_s, if_pos ⟨e, rfl⟩]
      · rw [show k + i = k + 1 by omega, uI_n _ _ (by omega), uI_s, if_neg (by omega)]
set_option maxHeartbeats 4000000 in
set_option maxRecDepth 100000 in
/-- getChars(n, k, bytes) -/
theorem c_J6_getChars_ba4f3 {C : WC} {l : Launch} (hfl : l.stackTraces = false) {sb bv cap : Nat} {bt : Int → Int} {cnt ml : Int} {R : va_W} {k n : Int}  (k2 : dgF n ≤ k) (k1 : k ≤ cap) (c3 : cap ≤ 700) (n0 : 0 ≤ n) (n1 : n < 100) : MM C l yJ6_getChars_ba4f3 cJ6_getChars_ba4f3 7 (some .int) 0 0 0 [vi n, vi k, .ref bv] ((sb, .inr (1, fSB (bv, cap, bt, cnt, ml))) :: (bv, aB C cap bt) :: R) (fun v w => ∃ z : Int, True ∧ v = some (vi z) ∧ w = (sb, .inr (1, fSB (bv, cap, gcF bt k n, cnt, ml))) :: (bv, aB C cap (gcF bt k n)) :: R) := by
  refine mf_of (by decide +kernel) (Nat.le_of_ble_eq_true rfl) hfl (fun K Q X r => ?_)
  have X : Cx C l "java/lang/Integer" cJ6_getChars_ba4f3 7 0 0 0 K := X
  have hdg : n < 10 ∧ dgF n = 1 ∨ 10 ≤ n ∧ dgF n = 2 := by
    unfold dgF
    split <;> omega
  show G C K Q 0 0 0 [(0, vi n), (1, vi k), (2, .ref bv)] [] ((sb, .inr (1, fSB (bv, cap, bt, cnt, ml))) :: (bv, aB C cap bt) :: R)
  refine g_iload_n (t := 1) X dJ6_getChars_ba4f3_0 1 rfl rfl ?_
  refine g_istore (t := 3) (lv1 := [(5, vi k), (0, vi n), (1, vi k), (2, .ref bv)]) X dJ6_getChars_ba4f3_1 (by decide) rfl rfl ?_
  refine g_iload_n (t := 4) X dJ6_getChars_ba4f3_3 1 rfl rfl ?_
  refine g_if_ge (t := 11) (u := 7) X dJ6_getChars_ba4f3_4 (by decide) rfl ⟨by omega, by omega⟩ (fun c_4 => ?_) (fun c_4 => absurd (show (0 : Int) ≤ n from n0) c_4)
  refine g_iconst (t := 12) X dJ6_getChars_ba4f3_11 rfl ?_
  refine g_istore (t := 14) (lv1 := [(6, vi 0), (5, vi k), (0, vi n), (1, vi k), (2, .ref bv)]) X dJ6_getChars_ba4f3_12 (by decide) rfl rfl ?_
  refine g_iload (t := 16) X dJ6_getChars_ba4f3_14 0 rfl rfl ?_
  refine g_if_ne (t := 22) (u := 19) X dJ6_getChars_ba4f3_16 (by decide) rfl ⟨by omega, by omega⟩ (fun c => absurd c (by decide)) (fun _ => ?_)
  refine g_iload_n (t := 20) X dJ6_getChars_ba4f3_19 2 rfl rfl ?_
  refine g_ineg (t := 21) X dJ6_getChars_ba4f3_20 rfl ?_
  refine g_istore_n (t := 22) (lv1 := [(0, vi (-n)), (6, vi 0), (5, vi k), (1, vi k), (2, .ref bv)]) X dJ6_getChars_ba4f3_21 (by decide) rfl rfl ?_
  refine g_iload_n (t := 23) X dJ6_getChars_ba4f3_22 0 rfl rfl ?_
  refine g_bipush (t := 25) (z := (-100)) X dJ6_getChars_ba4f3_23 (by decide +kernel) rfl ?_
  refine g_icmp_gt (t := 72) (u := 28) X dJ6_getChars_ba4f3_25 (by decide) rfl ⟨by omega, by omega⟩ ⟨by omega, by omega⟩ (fun c_25 => ?_) (fun c_25 => absurd (show (-100 : Int) < -n by omega) c_25)
  refine g_aload_n (t := 73) X dJ6_getChars_ba4f3_72 4 rfl rfl ?_
  refine g_iinc (t := 76) (lv1 := [(5, vi (k + (-1))), (0, vi (-n)), (6, vi 0), (1, vi k), (2, .ref bv)]) X dJ6_getChars_ba4f3_73 2 rfl (by decide) rfl rfl ?_
  refine g_iload (t := 78) X dJ6_getChars_ba4f3_76 0 rfl rfl ?_
  refine g_gets (t := 81) X q4_37 (fun s H h => h.2.2.2.1.1) dJ6_getChars_ba4f3_78 rfl ?_
  refine g_iload_n (t := 82) X dJ6_getChars_ba4f3_81 1 rfl rfl ?_
  refine g_ineg (t := 83) X dJ6_getChars_ba4f3_82 rfl ?_
  refine g_tb (t := 84) (v := vi (48 + (-(-n)) % 10)) X (fun s H h => h.2.2.2.1.2) (by omega) (by omega) (by omega) (dig_1 (by omega)) dJ6_getChars_ba4f3_83 rfl ?_
  refine g_bast (t := 85) (n := cap) (f := bt) (ws1 := (((sb, .inr (1, fSB (bv, cap, (uI bt (k + (-1)) (48 + (-(-n)) % 10)), cnt, ml))) :: (bv, aB C cap (uI bt (k + (-1)) (48 + (-(-n)) % 10))) :: R))) X 1 rfl (by omega) (by omega) (by omega) (by omega) (by omega) rfl dJ6_getChars_ba4f3_84 rfl ?_
  refine g_iload_n (t := 86) X dJ6_getChars_ba4f3_85 1 rfl rfl ?_
  refine g_bipush (t := 88) (z := (-9)) X dJ6_getChars_ba4f3_86 (by decide +kernel) rfl ?_
  refine g_icmp_ge (t := 104) (u := 91) X dJ6_getChars_ba4f3_88 (by decide) rfl ⟨by omega, by omega⟩ ⟨by omega, by omega⟩ (fun c_88 => ?_) (fun c_88 => ?_)
  · refine g_iload (t := 106) X dJ6_getChars_ba4f3_104 2 rfl rfl ?_
    refine g_if_eq (t := 118) (u := 109) X dJ6_getChars_ba4f3_106 (by decide) rfl ⟨by omega, by omega⟩ (fun _ => ?_) (fun c => absurd c (by decide))
    refine g_iload (t := 120) X dJ6_getChars_ba4f3_118 0 rfl rfl ?_
    exact g_iret X r ⟨k + (-1), trivial, rfl, by unfold gcF; first | (rw [if_pos (by omega)]; first | rfl | (simp only [Int.neg_neg]; rfl)) | (rw [if_neg (by omega)]; first | rfl | (simp only [Int.neg_neg, Int.add_assoc]; rfl))⟩ (Nat.le_of_ble_eq_true rfl) (Nat.le_of_ble_eq_true rfl) dJ6_getChars_ba4f3_120
  · refine g_aload_n (t := 92) X dJ6_getChars_ba4f3_91 4 rfl rfl ?_
    refine g_iinc (t := 95) (lv1 := [(5, vi ((k + (-1)) + (-1))), (0, vi (-n)), (6, vi 0), (1, vi k), (2, .ref bv)]) X dJ6_getChars_ba4f3_92 0 rfl (by decide) rfl rfl ?_
    refine g_iload (t := 97) X dJ6_getChars_ba4f3_95 0 rfl rfl ?_
    refine g_gets (t := 100) X q4_39 (fun s H h => h.2.2.2.2.1.1) dJ6_getChars_ba4f3_97 rfl ?_
    refine g_iload_n (t := 101) X dJ6_getChars_ba4f3_100 1 rfl rfl ?_
    refine g_ineg (t := 102) X dJ6_getChars_ba4f3_101 rfl ?_
    refine g_tb (t := 103) (v := vi (48 + (-(-n)) / 10)) X (fun s H h => h.2.2.2.2.1.2) (by omega) (by omega) (by omega) (dig_2 (by omega)) dJ6_getChars_ba4f3_102 rfl ?_
    refine g_bast (t := 104) (n := cap) (f := uI bt (k + (-1)) (48 + (-(-n)) % 10)) (ws1 := (((sb, .inr (1, fSB (bv, cap, (uI (uI bt (k + (-1)) (48 + (-(-n)) % 10)) ((k + (-1)) + (-1)) (48 + (-(-n)) / 10)), cnt, ml))) :: (bv, aB C cap (uI (uI bt (k + (-1)) (48 + (-(-n)) % 10)) ((k + (-1)) + (-1)) (48 + (-(-n)) / 10))) :: R))) X 1 rfl (by omega) (by omega) (by omega) (by omega) (by omega) rfl dJ6_getChars_ba4f3_103 rfl ?_
    refine g_iload (t := 106) X dJ6_getChars_ba4f3_104 2 rfl rfl ?_
    refine g_if_eq (t := 118) (u := 109) X dJ6_getChars_ba4f3_106 (by decide) rfl ⟨by omega, by omega⟩ (fun _ => ?_) (fun c => absurd c (by decide))
    refine g_iload (t := 120) X dJ6_getChars_ba4f3_118 0 rfl rfl ?_
    exact g_iret X r ⟨(k + (-1)) + (-1), trivial, rfl, by unfold gcF; first | (rw [if_pos (by omega)]; first | rfl | (simp only [Int.neg_neg]; rfl)) | (rw [if_neg (by omega)]; first | rfl | (simp only [Int.neg_neg, Int.add_assoc]; rfl))⟩ (Nat.le_of_ble_eq_true rfl) (Nat.le_of_ble_eq_true rfl) dJ6_getChars_ba4f3_120

set_option maxHeartbeats 4000000 in
set_option maxRecDepth 100000 in
/-- append(a number) -/
theorem c_J5_append_c97b9 {C : WC} {l : Launch} (hfl : l.stackTraces = false) {sb bv cap : Nat} {bt : Int → Int} {cnt ml : Int} {R : va_W} {n : Int} {mc ms : Nat} (c16 : 16 ≤ cap) (c3 : cap ≤ 300) (k0 : 0 ≤ cnt) (k1 : cnt ≤ cap) (hb : Lat cap bt) (n0 : 0 ≤ n) (n1 : n < 100) (k4 : cnt + dgF n ≤ cap + 4) (hbud : cnt + dgF n ≤ cap ∨ (1 ≤ mc ∧ 2 * cap + 2 ≤ ms)) : MM C l yJ5_append_c97b9 cJ5_append_c97b9 4 (some (.object "java/lang/AbstractStringBuilder")) 3 mc ms [.ref sb, vi n] ((sb, .inr (1, fSB (bv, cap, bt, cnt, ml))) :: (bv, aB C cap bt) :: R) (fun v w => ∃ x : Nat × Nat × (Int → Int), AppP cap bt cnt (dgF n) (dch n) x ∧ v = some (.ref sb) ∧ w = (sb, .inr (1, fSB (x.1, x.2.1, x.2.2, cnt + (dgF n), ml))) :: (x.1, aB C x.2.1 x.2.2) :: R) := by
  refine mf_of (by decide +kernel) (Nat.le_of_ble_eq_true rfl) hfl (fun K Q X r => ?_)
  have X : Cx C l "java/lang/AbstractStringBuilder" cJ5_append_c97b9 4 3 mc ms K := X
  have hdg := dg_rng n
  show G C K Q 0 0 0 [(0, .ref sb), (1, vi n)] [] ((sb, .inr (1, fSB (bv, cap, bt, cnt, ml))) :: (bv, aB C cap bt) :: R)
  refine g_aload_n (t := 1) X dJ5_append_c97b9_0 0 rfl rfl ?_
  refine g_getf (t := 4) (v := vi cnt) X inJ4 0 rfl rfl 3 (by decide) q1_85 rfl rfl dJ5_append_c97b9_1 rfl ?_
  refine g_istore_n (t := 5) (lv1 := [(2, vi cnt), (0, .ref sb), (1, vi n)]) X dJ5_append_c97b9_4 (by decide) rfl rfl ?_
  refine g_iload_n (t := 6) X dJ5_append_c97b9_5 0 rfl rfl ?_
  refine g_iload_n (t := 7) X dJ5_append_c97b9_6 2 rfl rfl ?_
  refine g_callS (t := 10) (mc := 0) (ms := 0) (rest := [vi cnt]) X mt_J6_stringSize_0f7a4 q4_31 q4_32 (c_J6_stringSize_0f7a4 hfl n0 n1) (by decide) (by omega) (by omega) (Nat.le_of_ble_eq_true rfl) rfl rfl dJ5_append_c97b9_7 rfl (k_rv ?_)
  refine g_iadd (t := 11) X dJ5_append_c97b9_10 rfl ?_
  refine g_istore_n (t := 12) (lv1 := [(3, vi (cnt + (dgF n))), (2, vi cnt), (0, .ref sb), (1, vi n)]) X dJ5_append_c97b9_11 (by decide) rfl rfl ?_
  refine g_aload_n (t := 13) X dJ5_append_c97b9_12 2 rfl rfl ?_
  refine g_iload_n (t := 14) X dJ5_append_c97b9_13 0 rfl rfl ?_
  refine g_callU (t := 17) (mc := mc) (ms := ms) (rest := []) (Cr := "java/lang/StringBuilder") X mt_J5_ensureCapacityInternal_d00df q3_170 q5_219 q3_172 (sel_asb rfl q3_171 q3_172) 0 rfl rfl (c_J5_ensureCapacityInternal_d00df (mc := mc) (ms := ms) hfl c16 c3 k0 k1 hb (by omega) (by omega) (by omega)) (by decide) (by omega) (by omega) (Nat.le_of_ble_eq_true rfl) rfl rfl dJ5_append_c97b9_14 rfl (k_exn (fun x hx => ?_))
  obtain ⟨bv1, cap1, bt1⟩ := x
  have hx1 : cap1 = ncap cap (cnt + dgF n) := hx.1
  have hgr := ncap_ge (cap := cap) (need := cnt + dgF n) (by omega) (by omega)
  have hgr2 := ncap_le cap (cnt + dgF n)
  have hb1 : Lat cap1 bt1 := hx.2.1
  show G C K Q _ _ _ _ _ (((sb, .inr (1, fSB (bv1, cap1, bt1, cnt, ml))) :: (bv1, aB C cap1 bt1) :: R))
  refine g_aload_n (t := 18) X dJ5_append_c97b9_17 2 rfl rfl ?_
  refine g_callU (t := 21) (mc := 0) (ms := 0) (rest := []) (Cr := "java/lang/StringBuilder") X mt_J5_isLatin1_aae02 q3_190 q3_192 q3_191 (sel_tw q3_193) 0 rfl rfl (c_J5_isLatin1_aae02 hfl) (by decide) (by omega) (by omega) (Nat.le_of_ble_eq_true rfl) rfl rfl dJ5_append_c97b9_18 rfl (k_rv ?_)
  refine g_if_eq (t := 37) (u := 24) X dJ5_append_c97b9_21 (by decide) rfl ⟨by omega, by omega⟩ (fun c => absurd c (by decide)) (fun _ => ?_)
  refine g_iload_n (t := 25) X dJ5_append_c97b9_24 3 rfl rfl ?_
  refine g_iload_n (t := 26) X dJ5_append_c97b9_25 0 rfl rfl ?_
  refine g_aload_n (t := 27) X dJ5_append_c97b9_26 2 rfl rfl ?_
  refine g_getf (t := 30) (v := .ref bv1) X inJ4 0 rfl rfl 0 (by decide) q1_81 rfl rfl dJ5_append_c97b9_27 rfl ?_
  refine g_callS (t := 33) (mc := 0) (ms := 0) (rest := []) X mt_J6_getChars_ba4f3 q4_34 q4_35 (c_J6_getChars_ba4f3 hfl (by omega) (by omega) (by omega) n0 n1) (by decide) (by omega) (by omega) (Nat.le_of_ble_eq_true rfl) rfl rfl dJ5_append_c97b9_30 rfl (k_ex (fun z _ => ?_))
  refine g_pop (t := 34) X dJ5_append_c97b9_33 rfl rfl ?_
  refine g_goto (t := 48) X dJ5_append_c97b9_34 (by decide) ?_
  refine g_aload_n (t := 49) X dJ5_append_c97b9_48 2 rfl rfl ?_
  refine g_iload_n (t := 50) X dJ5_append_c97b9_49 0 rfl rfl ?_
  refine g_putf (t := 53) (ws1 := (((sb, .inr (1, fSB (bv1, cap1, (gcF bt1 (cnt + dgF n) n), cnt + (dgF n), ml))) :: (bv1, aB C cap1 (gcF bt1 (cnt + dgF n) n)) :: R))) X inJ4 tyJ4 tyJ4_ok nmJ4 0 rfl rfl 3 (by decide) q1_85 rfl rfl rfl rfl rfl (Nat.le_of_ble_eq_true rfl) rfl dJ5_append_c97b9_50 rfl ?_
  refine g_aload_n (t := 54) X dJ5_append_c97b9_53 2 rfl rfl ?_
  exact g_aret X r (Or.inl ⟨_, rfl⟩) ⟨(bv1, cap1, gcF bt1 (cnt + dgF n) n), AppP.num (x := (bv1, cap1, bt1)) hx k0 k1 n0 n1, rfl, rfl⟩ (by omega) (by omega) dJ5_append_c97b9_54

