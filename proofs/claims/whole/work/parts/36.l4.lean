theorem cut_rg {Y : Nat → Int → Int} (h : MI Y) (p : Int) : 0 ≤ Y 12 0 - cutN Y p ∧ Y 12 0 - cutN Y p ≤ Y 12 0 := by
  have h9 := stp_rng (Y 11) p (Y 12 0).toNat
  have h5 := h.2.2.2.2.1
  unfold cutN stepF
  split <;> omega
set_option maxHeartbeats 20000000 in
set_option maxRecDepth 100000 in
/-- the law's loop: every call is answered alike -/
theorem law_loop {C : WC} {l0 : Launch} (hfl : l0.stackTraces = false) {K : GK} {Q : State → Prop} {b L : Nat} {xs : Nat → Int32} (X : Cx C l0 "SpringleafLaw" cL_law 7 10 601024 7293034 K) (hx9 : Sx b L xs C.2.2.1 K) (hL : L ≤ 3584) (hret : ∀ (cells slots : Nat) (lv : List (Nat × Value)) (ws : va_W), cells ≤ 601024 → slots ≤ 7293034 → G C K Q cells slots 1039 lv [vi 1] ws) {am : Nat → Nat} {ao a4 : Nat} : ∀ (n j : Nat) (ad : Nat → Nat) (B : BT) (E : Int × Nat) (F : Int × Nat × Nat) (S Y V : Nat → Int → Int) (gs : Int → Int) (cap : Nat) (g : Nat → Int64) (W : Int → Int) (th : Int), 7 * j ≤ L → L < 7 * j + n → ad 4 = a4 → MI Y → BI B → PLF C E cap Y → FC F Y → SI Y gs → G C K Q (1000 + 400 * j) (2000 + 800 * j) 23 [(4, vi (7 * (j : Int))), (0, .ref b), (1, .ref a4), (2, .ref (am 0)), (3, .ref ao)] [] (lwW C am ao ad B E F S Y gs cap g Y V W th) := by
  intro n
  induction n with
  | zero => intro j ad B E F S Y V gs cap g W th h1 h2; omega
  | succ n ih =>
    intro j ad B E F S Y V gs cap g W th h1 h2 ha hI hB hP hF hG
    subst ha
    obtain ⟨bv, cp, bt, cnt, ml⟩ := B
    have I3 := hI.1
    have I10 := hI.2.2.1
    have I12 := hI.2.2.2.2.1
    refine g_iload (t := 25) X dL_law_23 0 rfl rfl ?_
    refine g_aload_n (t := 26) X dL_law_25 1 rfl rfl ?_
    refine g_slen (t := 27) X hx9 dL_law_26 rfl ?_
    refine g_bipush (t := 29) (z := 7) X dL_law_27 (by decide +kernel) rfl ?_
    refine g_isub (t := 30) X dL_law_29 rfl ?_
    refine g_icmp_gt (t := 1038) (u := 33) X dL_law_30 (by decide) rfl ⟨by omega, by omega⟩ ⟨by omega, by omega⟩ (fun c_30 => ?_) (fun c_30 => ?_)
    · refine g_iconst (t := 1039) X dL_law_1038 rfl ?_
      exact hret _ _ _ _ (by omega) (by omega)
    · refine g_aload_n (t := 34) X dL_law_33 1 rfl rfl ?_
      refine g_iload (t := 36) X dL_law_34 0 rfl rfl ?_
      refine g_sld (t := 37) X hx9 (by omega) (by omega) (by omega) dL_law_36 rfl ?_
      refine g_bipush (t := 39) (z := 15) X dL_law_37 (by decide +kernel) rfl ?_
      refine g_iand15 (t := 40) X dL_law_39 rfl (fun n9 => ?_)
      obtain ⟨n9, h9⟩ := n9
      rcases (show n9 = 0 ∨ n9 = 1 ∨ n9 = 2 ∨ n9 = 3 ∨ n9 = 4 ∨ n9 = 5 ∨ n9 = 6 ∨ n9 = 7 ∨ n9 = 8 ∨ n9 = 9 ∨ n9 = 10 ∨ n9 = 11 ∨ n9 = 12 ∨ n9 = 13 ∨ n9 = 14 ∨ n9 = 15 by omega) with rfl | rfl | rfl | rfl | rfl | rfl | rfl | rfl | rfl | rfl | rfl | rfl | rfl | rfl | rfl | rfl
      · show G C K Q _ _ 40 _ [vi 0] _
        refine g_tin (t := 116) (off := 76) (z := 0) X dL_law_40 ⟨by omega, by omega⟩ (by omega) (by omega) rfl (by decide) ?_
        refine g_aload_n (t := 117) X dL_law_116 2 rfl rfl ?_
        refine g_aload_n (t := 118) X dL_law_117 1 rfl rfl ?_
        refine g_iload (t := 120) X dL_law_118 0 rfl rfl ?_
        refine g_iconst (t := 121) X dL_law_120 rfl ?_
        refine g_iadd (t := 122) X dL_law_121 rfl ?_
        refine g_sld (t := 123) X hx9 (by omega) (by omega) (by omega) dL_law_122 rfl ?_
        refine g_aload_n (t := 124) X dL_law_123 1 rfl rfl ?_
        refine g_iload (t := 126) X dL_law_124 0 rfl rfl ?_
        refine g_iconst (t := 127) X dL_law_126 rfl ?_
        refine g_iadd (t := 128) X dL_law_127 rfl ?_
        refine g_sld (t := 129) X hx9 (by omega) (by omega) (by omega) dL_law_128 rfl ?_
        refine g_aload_n (t := 130) X dL_law_129 1 rfl rfl ?_
        refine g_iload (t := 132) X dL_law_130 0 rfl rfl ?_
        refine g_iconst (t := 133) X dL_law_132 rfl ?_
        refine g_iadd (t := 134) X dL_law_133 rfl ?_
        refine g_sld (t := 135) X hx9 (by omega) (by omega) (by omega) dL_law_134 rfl ?_
        refine g_aload_n (t := 136) X dL_law_135 4 rfl rfl ?_
        refine g_callW (t := 139) (mc := 10) (ms := 80) (rest := []) (n9 := 5) (ret := some .int) X q2_82 q1_0 ⟨by decide +kernel, by decide +kernel⟩ (by decide +kernel) (by decide) q2_80 q2_81 (c_L_fold hfl hI hF hP hG (sx_rg _ _) (sx_rg _ _) (sx_rg _ _)) (by decide) (by omega) (by omega) (Nat.le_of_ble_eq_true rfl) rfl rfl dL_law_136 rfl (k_lw (fun hA Z => ?_) (fun hA hB1 Z => ?_) (fun hA hB1 hD Z => ?_) (fun hA hB1 hD g1 hg w9 hw => ?_))
        · show G C K Q _ _ _ _ _ (lwW C am ao ad (bv, cp, bt, cnt, ml) E F Z Y gs cap g Y V W th)
          refine g_istore (t := 141) (lv1 := [(5, vi 1), (4, vi (7 * (j : Int))), (0, .ref b), (1, .ref (ad 4)), (2, .ref (am 0)), (3, .ref ao)]) X dL_law_139 (by decide) rfl rfl ?_
          refine g_aload_n (t := 142) X dL_law_141 4 rfl rfl ?_
          refine g_aload_n (t := 143) X dL_law_142 2 rfl rfl ?_
          refine g_iload (t := 145) X dL_law_143 1 rfl rfl ?_
          refine g_iconst (t := 146) X dL_law_145 rfl ?_
          refine g_iadd (t := 147) X dL_law_146 rfl ?_
          refine g_sld (t := 148) X hx9 (by omega) (by omega) (by omega) dL_law_147 rfl ?_
          refine g_aload_n (t := 149) X dL_law_148 2 rfl rfl ?_
          refine g_iload (t := 151) X dL_law_149 1 rfl rfl ?_
          refine g_iconst (t := 152) X dL_law_151 rfl ?_
          refine g_iadd (t := 153) X dL_law_152 rfl ?_
          refine g_sld (t := 154) X hx9 (by omega) (by omega) (by omega) dL_law_153 rfl ?_
          refine g_aload_n (t := 155) X dL_law_154 2 rfl rfl ?_
          refine g_iload (t := 157) X dL_law_155 1 rfl rfl ?_
          refine g_iconst (t := 158) X dL_law_157 rfl ?_
          refine g_iadd (t := 159) X dL_law_158 rfl ?_
          refine g_sld (t := 160) X hx9 (by omega) (by omega) (by omega) dL_law_159 rfl ?_
          refine g_pm lw_pm ?_
          refine g_callV (t := 163) (mc := 0) (ms := 0) (rest := []) X mt_X5_fold q5_50 q5_51 q5_52 0 wM_0 rfl (c_X5_fold hfl hI (sx_rg _ _) (sx_rg _ _) (sx_rg _ _)) (by decide) (by omega) (by omega) (Nat.le_of_ble_eq_true rfl) rfl rfl dL_law_160 rfl (k_pu3_1 hA (fun z9 W9 => ?_))
          show G C K Q _ _ _ _ _ (wM C am Y V W9 1 ++ lwC C ao ad (bv, cp, bt, cnt, ml) E F Z Y gs cap g)
          refine g_istore (t := 165) (lv1 := [(6, vi z9), (5, vi 1), (4, vi (7 * (j : Int))), (0, .ref b), (1, .ref (ad 4)), (2, .ref (am 0)), (3, .ref ao)]) X dL_law_163 (by decide) rfl rfl ?_
          refine g_aload_n (t := 166) X dL_law_165 5 rfl rfl ?_
          refine g_callV (t := 169) (mc := 0) (ms := 0) (rest := []) X mt_X5_thrown q5_46 q5_47 q5_48 0 wM_0 rfl (c_X5_thrown hfl) (by decide) (by omega) (by omega) (Nat.le_of_ble_eq_true rfl) rfl rfl dL_law_166 rfl (k_rv ?_)
          refine g_pm lw_pm2 ?_
          refine g_iload (t := 171) X dL_law_169 1 rfl rfl ?_
          refine g_icmp_eq (t := 176) (u := 174) X dL_law_171 (by decide) rfl ⟨by omega, by omega⟩ ⟨by omega, by omega⟩ (fun _ => ?_) (fun c => absurd c (by decide))
          refine g_iload (t := 178) X dL_law_176 1 rfl rfl ?_
          refine g_if_ne (t := 193) (u := 181) X dL_law_178 (by decide) rfl ⟨by omega, by omega⟩ (fun _ => ?_) (fun c => absurd c (by decide))
          refine g_goto (t := 1032) X dL_law_193 (by decide) ?_
          refine g_iinc (t := 1035) (lv1 := [(4, vi ((7 * (j : Int)) + 7)), (6, vi z9), (5, vi 1), (0, .ref b), (1, .ref (ad 4)), (2, .ref (am 0)), (3, .ref ao)]) X dL_law_1032 2 rfl (by decide) rfl rfl ?_
          refine g_goto (t := 23) X dL_law_1035 (by decide) ?_
          refine g_cs (c1 := 1000 + 400 * (j + 1)) (s1 := 2000 + 800 * (j + 1)) ?_ (by omega) (by omega)
          rw [show 7 * (j : Int) + 7 = 7 * ((j + 1 : Nat) : Int) by omega]
          exact g_lv (ih (j + 1) ad (bv, cp, bt, cnt, ml) E F Z Y V gs cap g W9 1 (by omega) (by omega) rfl hI hB hP hF hG) [0, 3, 4, 5, 6] rfl
        · show G C K Q _ _ _ _ _ (lwW C am ao ad (bv, cp, bt, cnt, ml) E F Z Y gs cap g Y V W th)
          refine g_istore (t := 141) (lv1 := [(5, vi 2), (4, vi (7 * (j : Int))), (0, .ref b), (1, .ref (ad 4)), (2, .ref (am 0)), (3, .ref ao)]) X dL_law_139 (by decide) rfl rfl ?_
          refine g_aload_n (t := 142) X dL_law_141 4 rfl rfl ?_
          refine g_aload_n (t := 143) X dL_law_142 2 rfl rfl ?_
          refine g_iload (t := 145) X dL_law_143 1 rfl rfl ?_
          refine g_iconst (t := 146) X dL_law_145 rfl ?_
          refine g_iadd (t := 147) X dL_law_146 rfl ?_
          refine g_sld (t := 148) X hx9 (by omega) (by omega) (by omega) dL_law_147 rfl ?_
          refine g_aload_n (t := 149) X dL_law_148 2 rfl rfl ?_
          refine g_iload (t := 151) X dL_law_149 1 rfl rfl ?_
          refine g_iconst (t := 152) X dL_law_151 rfl ?_
          refine g_iadd (t := 153) X dL_law_152 rfl ?_
          refine g_sld (t := 154) X hx9 (by omega) (by omega) (by omega) dL_law_153 rfl ?_
          refine g_aload_n (t := 155) X dL_law_154 2 rfl rfl ?_
          refine g_iload (t := 157) X dL_law_155 1 rfl rfl ?_
          refine g_iconst (t := 158) X dL_law_157 rfl ?_
          refine g_iadd (t := 159) X dL_law_158 rfl ?_
          refine g_sld (t := 160) X hx9 (by omega) (by omega) (by omega) dL_law_159 rfl ?_
          refine g_pm lw_pm ?_
          refine g_callV (t := 163) (mc := 0) (ms := 0) (rest := []) X mt_X5_fold q5_50 q5_51 q5_52 0 wM_0 rfl (c_X5_fold hfl hI (sx_rg _ _) (sx_rg _ _) (sx_rg _ _)) (by decide) (by omega) (by omega) (Nat.le_of_ble_eq_true rfl) rfl rfl dL_law_160 rfl (k_pu3_2 hB1 hA (fun z9 W9 => ?_))
          show G C K Q _ _ _ _ _ (wM C am Y V W9 2 ++ lwC C ao ad (bv, cp, bt, cnt, ml) E F Z Y gs cap g)
          refine g_istore (t := 165) (lv1 := [(6, vi z9), (5, vi 2), (4, vi (7 * (j : Int))), (0, .ref b), (1, .ref (ad 4)), (2, .ref (am 0)), (3, .ref ao)]) X dL_law_163 (by decide) rfl rfl ?_
          refine g_aload_n (t := 166) X dL_law_165 5 rfl rfl ?_
          refine g_callV (t := 169) (mc := 0) (ms := 0) (rest := []) X mt_X5_thrown q5_46 q5_47 q5_48 0 wM_0 rfl (c_X5_thrown hfl) (by decide) (by omega) (by omega) (Nat.le_of_ble_eq_true rfl) rfl rfl dL_law_166 rfl (k_rv ?_)
          refine g_pm lw_pm2 ?_
          refine g_iload (t := 171) X dL_law_169 1 rfl rfl ?_
          refine g_icmp_eq (t := 176) (u := 174) X dL_law_171 (by decide) rfl ⟨by omega, by omega⟩ ⟨by omega, by omega⟩ (fun _ => ?_) (fun c => absurd c (by decide))
          refine g_iload (t := 178) X dL_law_176 1 rfl rfl ?_
          refine g_if_ne (t := 193) (u := 181) X dL_law_178 (by decide) rfl ⟨by omega, by omega⟩ (fun _ => ?_) (fun c => absurd c (by decide))
          refine g_goto (t := 1032) X dL_law_193 (by decide) ?_
          refine g_iinc (t := 1035) (lv1 := [(4, vi ((7 * (j : Int)) + 7)), (6, vi z9), (5, vi 2), (0, .ref b), (1, .ref (ad 4)), (2, .ref (am 0)), (3, .ref ao)]) X dL_law_1032 2 rfl (by decide) rfl rfl ?_
          refine g_goto (t := 23) X dL_law_1035 (by decide) ?_
          refine g_cs (c1 := 1000 + 400 * (j + 1)) (s1 := 2000 + 800 * (j + 1)) ?_ (by omega) (by omega)
          rw [show 7 * (j : Int) + 7 = 7 * ((j + 1 : Nat) : Int) by omega]
          exact g_lv (ih (j + 1) ad (bv, cp, bt, cnt, ml) E F Z Y V gs cap g W9 2 (by omega) (by omega) rfl hI hB hP hF hG) [0, 3, 4, 5, 6] rfl
        · show G C K Q _ _ _ _ _ (lwW C am ao ad (bv, cp, bt, cnt, ml) E F Z Y gs cap g Y V W th)
          refine g_istore (t := 141) (lv1 := [(5, vi 3), (4, vi (7 * (j : Int))), (0, .ref b), (1, .ref (ad 4)), (2, .ref (am 0)), (3, .ref ao)]) X dL_law_139 (by decide) rfl rfl ?_
          refine g_aload_n (t := 142) X dL_law_141 4 rfl rfl ?_
          refine g_aload_n (t := 143) X dL_law_142 2 rfl rfl ?_
          refine g_iload (t := 145) X dL_law_143 1 rfl rfl ?_
          refine g_iconst (t := 146) X dL_law_145 rfl ?_
          refine g_iadd (t := 147) X dL_law_146 rfl ?_
          refine g_sld (t := 148) X hx9 (by omega) (by omega) (by omega) dL_law_147 rfl ?_
          refine g_aload_n (t := 149) X dL_law_148 2 rfl rfl ?_
          refine g_iload (t := 151) X dL_law_149 1 rfl rfl ?_
          refine g_iconst (t := 152) X dL_law_151 rfl ?_
          refine g_iadd (t := 153) X dL_law_152 rfl ?_
          refine g_sld (t := 154) X hx9 (by omega) (by omega) (by omega) dL_law_153 rfl ?_
          refine g_aload_n (t := 155) X dL_law_154 2 rfl rfl ?_
          refine g_iload (t := 157) X dL_law_155 1 rfl rfl ?_
          refine g_iconst (t := 158) X dL_law_157 rfl ?_
          refine g_iadd (t := 159) X dL_law_158 rfl ?_
          refine g_sld (t := 160) X hx9 (by omega) (by omega) (by omega) dL_law_159 rfl ?_
          refine g_pm lw_pm ?_
          refine g_callV (t := 163) (mc := 0) (ms := 0) (rest := []) X mt_X5_fold q5_50 q5_51 q5_52 0 wM_0 rfl (c_X5_fold hfl hI (sx_rg _ _) (sx_rg _ _) (sx_rg _ _)) (by decide) (by omega) (by omega) (Nat.le_of_ble_eq_true rfl) rfl rfl dL_law_160 rfl (k_pu3_3 hD hA hB1 (fun z9 W9 => ?_))
          show G C K Q _ _ _ _ _ (wM C am Y V W9 3 ++ lwC C ao ad (bv, cp, bt, cnt, ml) E F Z Y gs cap g)
          refine g_istore (t := 165) (lv1 := [(6, vi z9), (5, vi 3), (4, vi (7 * (j : Int))), (0, .ref b), (1, .ref (ad 4)), (2, .ref (am 0)), (3, .ref ao)]) X dL_law_163 (by decide) rfl rfl ?_
          refine g_aload_n (t := 166) X dL_law_165 5 rfl rfl ?_
          refine g_callV (t := 169) (mc := 0) (ms := 0) (rest := []) X mt_X5_thrown q5_46 q5_47 q5_48 0 wM_0 rfl (c_X5_thrown hfl) (by decide) (by omega) (by omega) (Nat.le_of_ble_eq_true rfl) rfl rfl dL_law_166 rfl (k_rv ?_)
          refine g_pm lw_pm2 ?_
          refine g_iload (t := 171) X dL_law_169 1 rfl rfl ?_
          refine g_icmp_eq (t := 176) (u := 174) X dL_law_171 (by decide) rfl ⟨by omega, by omega⟩ ⟨by omega, by omega⟩ (fun _ => ?_) (fun c => absurd c (by decide))
          refine g_iload (t := 178) X dL_law_176 1 rfl rfl ?_
          refine g_if_ne (t := 193) (u := 181) X dL_law_178 (by decide) rfl ⟨by omega, by omega⟩ (fun _ => ?_) (fun c => absurd c (by decide))
          refine g_goto (t := 1032) X dL_law_193 (by decide) ?_
          refine g_iinc (t := 1035) (lv1 := [(4, vi ((7 * (j : Int)) + 7)), (6, vi z9), (5, vi 3), (0, .ref b), (1, .ref (ad 4)), (2, .ref (am 0)), (3, .ref ao)]) X dL_law_1032 2 rfl (by decide) rfl rfl ?_
          refine g_goto (t := 23) X dL_law_1035 (by decide) ?_
          refine g_cs (c1 := 1000 + 400 * (j + 1)) (s1 := 2000 + 800 * (j + 1)) ?_ (by omega) (by omega)
          rw [show 7 * (j : Int) + 7 = 7 * ((j + 1 : Nat) : Int) by omega]
          exact g_lv (ih (j + 1) ad (bv, cp, bt, cnt, ml) E F Z Y V gs cap g W9 3 (by omega) (by omega) rfl hI hB hP hF hG) [0, 3, 4, 5, 6] rfl
        · obtain ⟨ad1, F1, Z, h9, ⟨ha1, hF1, hG1⟩, rfl⟩ := hw
          show G C K Q _ _ _ _ _ (lwW C am ao ad1 (bv, cp, bt, cnt, ml) E F1 Z (YF Y (sx xs (7 * (j : Int) + 1)) (sx xs (7 * (j : Int) + 2)) (sx xs (7 * (j : Int) + 3))) h9 cap g1 Y V W th)
          refine g_istore (t := 141) (lv1 := [(5, vi 0), (4, vi (7 * (j : Int))), (0, .ref b), (1, .ref (ad 4)), (2, .ref (am 0)), (3, .ref ao)]) X dL_law_139 (by decide) rfl rfl ?_
          refine g_aload_n (t := 142) X dL_law_141 4 rfl rfl ?_
          refine g_aload_n (t := 143) X dL_law_142 2 rfl rfl ?_
          refine g_iload (t := 145) X dL_law_143 1 rfl rfl ?_
          refine g_iconst (t := 146) X dL_law_145 rfl ?_
          refine g_iadd (t := 147) X dL_law_146 rfl ?_
          refine g_sld (t := 148) X hx9 (by omega) (by omega) (by omega) dL_law_147 rfl ?_
          refine g_aload_n (t := 149) X dL_law_148 2 rfl rfl ?_
          refine g_iload (t := 151) X dL_law_149 1 rfl rfl ?_
          refine g_iconst (t := 152) X dL_law_151 rfl ?_
          refine g_iadd (t := 153) X dL_law_152 rfl ?_
          refine g_sld (t := 154) X hx9 (by omega) (by omega) (by omega) dL_law_153 rfl ?_
          refine g_aload_n (t := 155) X dL_law_154 2 rfl rfl ?_
          refine g_iload (t := 157) X dL_law_155 1 rfl rfl ?_
          refine g_iconst (t := 158) X dL_law_157 rfl ?_
          refine g_iadd (t := 159) X dL_law_158 rfl ?_
          refine g_sld (t := 160) X hx9 (by omega) (by omega) (by omega) dL_law_159 rfl ?_
          refine g_pm lw_pm ?_
          refine g_callV (t := 163) (mc := 0) (ms := 0) (rest := []) X mt_X5_fold q5_50 q5_51 q5_52 0 wM_0 rfl (c_X5_fold hfl hI (sx_rg _ _) (sx_rg _ _) (sx_rg _ _)) (by decide) (by omega) (by omega) (Nat.le_of_ble_eq_true rfl) rfl rfl dL_law_160 rfl (k_pu3_0 hA hB1 hD (fun W9 => ?_))
          show G C K Q _ _ _ _ _ (wM C am (YF Y (sx xs (7 * (j : Int) + 1)) (sx xs (7 * (j : Int) + 2)) (sx xs (7 * (j : Int) + 3))) V W9 0 ++ lwC C ao ad1 (bv, cp, bt, cnt, ml) E F1 Z (YF Y (sx xs (7 * (j : Int) + 1)) (sx xs (7 * (j : Int) + 2)) (sx xs (7 * (j : Int) + 3))) h9 cap g1)
          refine g_istore (t := 165) (lv1 := [(6, vi (Y 3 0)), (5, vi 0), (4, vi (7 * (j : Int))), (0, .ref b), (1, .ref (ad 4)), (2, .ref (am 0)), (3, .ref ao)]) X dL_law_163 (by decide) rfl rfl ?_
          refine g_aload_n (t := 166) X dL_law_165 5 rfl rfl ?_
          refine g_callV (t := 169) (mc := 0) (ms := 0) (rest := []) X mt_X5_thrown q5_46 q5_47 q5_48 0 wM_0 rfl (c_X5_thrown hfl) (by decide) (by omega) (by omega) (Nat.le_of_ble_eq_true rfl) rfl rfl dL_law_166 rfl (k_rv ?_)
          refine g_pm lw_pm2 ?_
          refine g_iload (t := 171) X dL_law_169 1 rfl rfl ?_
          refine g_icmp_eq (t := 176) (u := 174) X dL_law_171 (by decide) rfl ⟨by omega, by omega⟩ ⟨by omega, by omega⟩ (fun _ => ?_) (fun c => absurd c (by decide))
          refine g_iload (t := 178) X dL_law_176 1 rfl rfl ?_
          refine g_if_ne (t := 193) (u := 181) X dL_law_178 (by decide) rfl ⟨by omega, by omega⟩ (fun c => absurd c (by decide)) (fun _ => ?_)
          refine g_aload_n (t := 182) X dL_law_181 6 rfl rfl ?_
          refine g_iconst (t := 183) X dL_law_182 rfl ?_
          refine g_lald (t := 184) X out_at dL_law_183 rfl ?_
          refine g_iload (t := 186) X dL_law_184 0 rfl rfl ?_
          refine g_i2l (t := 187) X dL_law_186 rfl ?_
          refine g_lcmp0 (t := 188) X hg dL_law_187 rfl ?_
          refine g_if_eq (t := 193) (u := 191) X dL_law_188 (by decide) rfl ⟨by omega, by omega⟩ (fun _ => ?_) (fun c => absurd c (by decide))
          refine g_goto (t := 1032) X dL_law_193 (by decide) ?_
          refine g_iinc (t := 1035) (lv1 := [(4, vi ((7 * (j : Int)) + 7)), (6, vi (Y 3 0)), (5, vi 0), (0, .ref b), (1, .ref (ad 4)), (2, .ref (am 0)), (3, .ref ao)]) X dL_law_1032 2 rfl (by decide) rfl rfl ?_
          refine g_goto (t := 23) X dL_law_1035 (by decide) ?_
          refine g_cs (c1 := 1000 + 400 * (j + 1)) (s1 := 2000 + 800 * (j + 1)) ?_ (by omega) (by omega)
          rw [show 7 * (j : Int) + 7 = 7 * ((j + 1 : Nat) : Int) by omega]
          exact g_lv (ih (j + 1) ad1 (bv, cp, bt, cnt, ml) E F1 Z (YF Y (sx xs (7 * (j : Int) + 1)) (sx xs (7 * (j : Int) + 2)) (sx xs (7 * (j : Int) + 3))) V h9 cap g1 W9 0 (by omega) (by omega) ha1 (hI.fold hA hB1.1 hB1.2 hD.1) hB hP hF1 hG1) [0, 3, 4, 5, 6] rfl
      · show G C K Q _ _ 40 _ [vi 1] _
        refine g_tin (t := 196) (off := 156) (z := 1) X dL_law_40 ⟨by omega, by omega⟩ (by omega) (by omega) rfl (by decide) ?_
        refine g_aload_n (t := 197) X dL_law_196 2 rfl rfl ?_
        refine g_aload_n (t := 198) X dL_law_197 1 rfl rfl ?_
        refine g_iload (t := 200) X dL_law_198 0 rfl rfl ?_
        refine g_iconst (t := 201) X dL_law_200 rfl ?_
        refine g_iadd (t := 202) X dL_law_201 rfl ?_
        refine g_sld (t := 203) X hx9 (by omega) (by omega) (by omega) dL_law_202 rfl ?_
        refine g_aload_n (t := 204) X dL_law_203 1 rfl rfl ?_
        refine g_iload (t := 206) X dL_law_204 0 rfl rfl ?_
        refine g_iconst (t := 207) X dL_law_206 rfl ?_
        refine g_iadd (t := 208) X dL_law_207 rfl ?_
        refine g_sld (t := 209) X hx9 (by omega) (by omega) (by omega) dL_law_208 rfl ?_
        refine g_aload_n (t := 210) X dL_law_209 1 rfl rfl ?_
        refine g_iload (t := 212) X dL_law_210 0 rfl rfl ?_
        refine g_iconst (t := 213) X dL_law_212 rfl ?_
        refine g_iadd (t := 214) X dL_law_213 rfl ?_
        refine g_sld (t := 215) X hx9 (by omega) (by omega) (by omega) dL_law_214 rfl ?_
        refine g_aload_n (t := 216) X dL_law_215 1 rfl rfl ?_
        refine g_iload (t := 218) X dL_law_216 0 rfl rfl ?_
        refine g_iconst (t := 219) X dL_law_218 rfl ?_
        refine g_iadd (t := 220) X dL_law_219 rfl ?_
        refine g_sld (t := 221) X hx9 (by omega) (by omega) (by omega) dL_law_220 rfl ?_
        refine g_aload_n (t := 222) X dL_law_221 1 rfl rfl ?_
        refine g_iload (t := 224) X dL_law_222 0 rfl rfl ?_
        refine g_iconst (t := 225) X dL_law_224 rfl ?_
        refine g_iadd (t := 226) X dL_law_225 rfl ?_
        refine g_sld (t := 227) X hx9 (by omega) (by omega) (by omega) dL_law_226 rfl ?_
        refine g_aload_n (t := 228) X dL_law_227 1 rfl rfl ?_
        refine g_iload (t := 230) X dL_law_228 0 rfl rfl ?_
        refine g_bipush (t := 232) (z := 6) X dL_law_230 (by decide +kernel) rfl ?_
        refine g_iadd (t := 233) X dL_law_232 rfl ?_
        refine g_sld (t := 234) X hx9 (by omega) (by omega) (by omega) dL_law_233 rfl ?_
        refine g_if_eq (t := 241) (u := 237) X dL_law_234 (by decide) rfl (sx_rg _ _) (fun c_234 => ?_) (fun c_234 => ?_)
        · refine g_iconst (t := 242) X dL_law_241 rfl ?_
          refine g_aload_n (t := 243) X dL_law_242 4 rfl rfl ?_
          refine g_callW (t := 246) (mc := 10) (ms := 80) (rest := []) (n9 := 8) (ret := some .int) X q2_201 q1_0 ⟨by decide +kernel, by decide +kernel⟩ (by decide +kernel) (by decide) q2_199 q2_200 (c_L_part hfl hI hF hP hG (sx_rg _ _) (sx_rg _ _) (sx_rg _ _) (sx_rg _ _) (sx_rg _ _) (by decide)) (by decide) (by omega) (by omega) (Nat.le_of_ble_eq_true rfl) rfl rfl dL_law_243 rfl (k_lw (fun hA Z => ?_) (fun hA hB1 Z => ?_) (fun hA hB1 hD Z => ?_) (fun hA hB1 hD g1 hg w9 hw => ?_))
          · show G C K Q _ _ _ _ _ (lwW C am ao ad (bv, cp, bt, cnt, ml) E F Z Y gs cap g Y V W th)
            refine g_istore (t := 248) (lv1 := [(5, vi 1), (4, vi (7 * (j : Int))), (0, .ref b), (1, .ref (ad 4)), (2, .ref (am 0)), (3, .ref ao)]) X dL_law_246 (by decide) rfl rfl ?_
            refine g_aload_n (t := 249) X dL_law_248 4 rfl rfl ?_
            refine g_aload_n (t := 250) X dL_law_249 2 rfl rfl ?_
            refine g_iload (t := 252) X dL_law_250 1 rfl rfl ?_
            refine g_iconst (t := 253) X dL_law_252 rfl ?_
            refine g_iadd (t := 254) X dL_law_253 rfl ?_
            refine g_sld (t := 255) X hx9 (by omega) (by omega) (by omega) dL_law_254 rfl ?_
            refine g_aload_n (t := 256) X dL_law_255 2 rfl rfl ?_
            refine g_iload (t := 258) X dL_law_256 1 rfl rfl ?_
            refine g_iconst (t := 259) X dL_law_258 rfl ?_
            refine g_iadd (t := 260) X dL_law_259 rfl ?_
            refine g_sld (t := 261) X hx9 (by omega) (by omega) (by omega) dL_law_260 rfl ?_
            refine g_aload_n (t := 262) X dL_law_261 2 rfl rfl ?_
            refine g_iload (t := 264) X dL_law_262 1 rfl rfl ?_
            refine g_iconst (t := 265) X dL_law_264 rfl ?_
            refine g_iadd (t := 266) X dL_law_265 rfl ?_
            refine g_sld (t := 267) X hx9 (by omega) (by omega) (by omega) dL_law_266 rfl ?_
            refine g_aload_n (t := 268) X dL_law_267 2 rfl rfl ?_
            refine g_iload (t := 270) X dL_law_268 1 rfl rfl ?_
            refine g_iconst (t := 271) X dL_law_270 rfl ?_
            refine g_iadd (t := 272) X dL_law_271 rfl ?_
            refine g_sld (t := 273) X hx9 (by omega) (by omega) (by omega) dL_law_272 rfl ?_
            refine g_aload_n (t := 274) X dL_law_273 2 rfl rfl ?_
            refine g_iload (t := 276) X dL_law_274 1 rfl rfl ?_
            refine g_iconst (t := 277) X dL_law_276 rfl ?_
            refine g_iadd (t := 278) X dL_law_277 rfl ?_
            refine g_sld (t := 279) X hx9 (by omega) (by omega) (by omega) dL_law_278 rfl ?_
            refine g_aload_n (t := 280) X dL_law_279 2 rfl rfl ?_
            refine g_iload (t := 282) X dL_law_280 1 rfl rfl ?_
            refine g_bipush (t := 284) (z := 6) X dL_law_282 (by decide +kernel) rfl ?_
            refine g_iadd (t := 285) X dL_law_284 rfl ?_
            refine g_sld (t := 286) X hx9 (by omega) (by omega) (by omega) dL_law_285 rfl ?_
            refine g_if_eq (t := 293) (u := 289) X dL_law_286 (by decide) rfl (sx_rg _ _) (fun c_286 => ?_) (fun c_286 => absurd c_234 c_286)
            refine g_iconst (t := 294) X dL_law_293 rfl ?_
            refine g_pm lw_pm ?_
            refine g_callV (t := 297) (mc := 0) (ms := 0) (rest := []) X mt_X5_part q5_106 q5_107 q5_108 0 wM_0 rfl (c_X5_part0 hfl hI (sx_rg _ _) (sx_rg _ _) (sx_rg _ _) (sx_rg _ _) (sx_rg _ _)) (by decide) (by omega) (by omega) (Nat.le_of_ble_eq_true rfl) rfl rfl dL_law_294 rfl (k_pu3_1 hA (fun z9 W9 => ?_))
            show G C K Q _ _ _ _ _ (wM C am Y V W9 1 ++ lwC C ao ad (bv, cp, bt, cnt, ml) E F Z Y gs cap g)
            refine g_istore (t := 299) (lv1 := [(6, vi z9), (5, vi 1), (4, vi (7 * (j : Int))), (0, .ref b), (1, .ref (ad 4)), (2, .ref (am 0)), (3, .ref ao)]) X dL_law_297 (by decide) rfl rfl ?_
            refine g_aload_n (t := 300) X dL_law_299 5 rfl rfl ?_
            refine g_callV (t := 303) (mc := 0) (ms := 0) (rest := []) X mt_X5_thrown q5_46 q5_47 q5_48 0 wM_0 rfl (c_X5_thrown hfl) (by decide) (by omega) (by omega) (Nat.le_of_ble_eq_true rfl) rfl rfl dL_law_300 rfl (k_rv ?_)
            refine g_pm lw_pm2 ?_
            refine g_iload (t := 305) X dL_law_303 1 rfl rfl ?_
            refine g_icmp_eq (t := 310) (u := 308) X dL_law_305 (by decide) rfl ⟨by omega, by omega⟩ ⟨by omega, by omega⟩ (fun _ => ?_) (fun c => absurd c (by decide))
            refine g_iload (t := 312) X dL_law_310 1 rfl rfl ?_
            refine g_if_ne (t := 327) (u := 315) X dL_law_312 (by decide) rfl ⟨by omega, by omega⟩ (fun _ => ?_) (fun c => absurd c (by decide))
            refine g_goto (t := 1032) X dL_law_327 (by decide) ?_
            refine g_iinc (t := 1035) (lv1 := [(4, vi ((7 * (j : Int)) + 7)), (6, vi z9), (5, vi 1), (0, .ref b), (1, .ref (ad 4)), (2, .ref (am 0)), (3, .ref ao)]) X dL_law_1032 2 rfl (by decide) rfl rfl ?_
            refine g_goto (t := 23) X dL_law_1035 (by decide) ?_
            refine g_cs (c1 := 1000 + 400 * (j + 1)) (s1 := 2000 + 800 * (j + 1)) ?_ (by omega) (by omega)
            rw [show 7 * (j : Int) + 7 = 7 * ((j + 1 : Nat) : Int) by omega]
            exact g_lv (ih (j + 1) ad (bv, cp, bt, cnt, ml) E F Z Y V gs cap g W9 1 (by omega) (by omega) rfl hI hB hP hF hG) [0, 3, 4, 5, 6] rfl
          · show G C K Q _ _ _ _ _ (lwW C am ao ad (bv, cp, bt, cnt, ml) E F Z Y gs cap g Y V W th)
            refine g_istore (t := 248) (lv1 := [(5, vi 2), (4, vi (7 * (j : Int))), (0, .ref b), (1, .ref (ad 4)), (2, .ref (am 0)), (3, .ref ao)]) X dL_law_246 (by decide) rfl rfl ?_
            refine g_aload_n (t := 249) X dL_law_248 4 rfl rfl ?_
            refine g_aload_n (t := 250) X dL_law_249 2 rfl rfl ?_
            refine g_iload (t := 252) X dL_law_250 1 rfl rfl ?_
            refine g_iconst (t := 253) X dL_law_252 rfl ?_
            refine g_iadd (t := 254) X dL_law_253 rfl ?_
            refine g_sld (t := 255) X hx9 (by omega) (by omega) (by omega) dL_law_254 rfl ?_
            refine g_aload_n (t := 256) X dL_law_255 2 rfl rfl ?_
            refine g_iload (t := 258) X dL_law_256 1 rfl rfl ?_
            refine g_iconst (t := 259) X dL_law_258 rfl ?_
            refine g_iadd (t := 260) X dL_law_259 rfl ?_
            refine g_sld (t := 261) X hx9 (by omega) (by omega) (by omega) dL_law_260 rfl ?_
            refine g_aload_n (t := 262) X dL_law_261 2 rfl rfl ?_
            refine g_iload (t := 264) X dL_law_262 1 rfl rfl ?_
            refine g_iconst (t := 265) X dL_law_264 rfl ?_
            refine g_iadd (t := 266) X dL_law_265 rfl ?_
            refine g_sld (t := 267) X hx9 (by omega) (by omega) (by omega) dL_law_266 rfl ?_
            refine g_aload_n (t := 268) X dL_law_267 2 rfl rfl ?_
            refine g_iload (t := 270) X dL_law_268 1 rfl rfl ?_
            refine g_iconst (t := 271) X dL_law_270 rfl ?_
            refine g_iadd (t := 272) X dL_law_271 rfl ?_
            refine g_sld (t := 273) X hx9 (by omega) (by omega) (by omega) dL_law_272 rfl ?_
            refine g_aload_n (t := 274) X dL_law_273 2 rfl rfl ?_
            refine g_iload (t := 276) X dL_law_274 1 rfl rfl ?_
            refine g_iconst (t := 277) X dL_law_276 rfl ?_
            refine g_iadd (t := 278) X dL_law_277 rfl ?_
            refine g_sld (t := 279) X hx9 (by omega) (by omega) (by omega) dL_law_278 rfl ?_
            refine g_aload_n (t := 280) X dL_law_279 2 rfl rfl ?_
            refine g_iload (t := 282) X dL_law_280 1 rfl rfl ?_
            refine g_bipush (t := 284) (z := 6) X dL_law_282 (by decide +kernel) rfl ?_
            refine g_iadd (t := 285) X dL_law_284 rfl ?_
            refine g_sld (t := 286) X hx9 (by omega) (by omega) (by omega) dL_law_285 rfl ?_
            refine g_if_eq (t := 293) (u := 289) X dL_law_286 (by decide) rfl (sx_rg _ _) (fun c_286 => ?_) (fun c_286 => absurd c_234 c_286)
            refine g_iconst (t := 294) X dL_law_293 rfl ?_
            refine g_pm lw_pm ?_
            refine g_callV (t := 297) (mc := 0) (ms := 0) (rest := []) X mt_X5_part q5_106 q5_107 q5_108 0 wM_0 rfl (c_X5_part0 hfl hI (sx_rg _ _) (sx_rg _ _) (sx_rg _ _) (sx_rg _ _) (sx_rg _ _)) (by decide) (by omega) (by omega) (Nat.le_of_ble_eq_true rfl) rfl rfl dL_law_294 rfl (k_pu3_2 hB1 hA (fun z9 W9 => ?_))
            show G C K Q _ _ _ _ _ (wM C am Y V W9 2 ++ lwC C ao ad (bv, cp, bt, cnt, ml) E F Z Y gs cap g)
            refine g_istore (t := 299) (lv1 := [(6, vi z9), (5, vi 2), (4, vi (7 * (j : Int))), (0, .ref b), (1, .ref (ad 4)), (2, .ref (am 0)), (3, .ref ao)]) X dL_law_297 (by decide) rfl rfl ?_
            refine g_aload_n (t := 300) X dL_law_299 5 rfl rfl ?_
            refine g_callV (t := 303) (mc := 0) (ms := 0) (rest := []) X mt_X5_thrown q5_46 q5_47 q5_48 0 wM_0 rfl (c_X5_thrown hfl) (by decide) (by omega) (by omega) (Nat.le_of_ble_eq_true rfl) rfl rfl dL_law_300 rfl (k_rv ?_)
            refine g_pm lw_pm2 ?_
            refine g_iload (t := 305) X dL_law_303 1 rfl rfl ?_
            refine g_icmp_eq (t := 310) (u := 308) X dL_law_305 (by decide) rfl ⟨by omega, by omega⟩ ⟨by omega, by omega⟩ (fun _ => ?_) (fun c => absurd c (by decide))
            refine g_iload (t := 312) X dL_law_310 1 rfl rfl ?_
            refine g_if_ne (t := 327) (u := 315) X dL_law_312 (by decide) rfl ⟨by omega, by omega⟩ (fun _ => ?_) (fun c => absurd c (by decide))
            refine g_goto (t := 1032) X dL_law_327 (by decide) ?_
            refine g_iinc (t := 1035) (lv1 := [(4, vi ((7 * (j : Int)) + 7)), (6, vi z9), (5, vi 2), (0, .ref b), (1, .ref (ad 4)), (2, .ref (am 0)), (3, .ref ao)]) X dL_law_1032 2 rfl (by decide) rfl rfl ?_
            refine g_goto (t := 23) X dL_law_1035 (by decide) ?_
            refine g_cs (c1 := 1000 + 400 * (j + 1)) (s1 := 2000 + 800 * (j + 1)) ?_ (by omega) (by omega)
            rw [show 7 * (j : Int) + 7 = 7 * ((j + 1 : Nat) : Int) by omega]
            exact g_lv (ih (j + 1) ad (bv, cp, bt, cnt, ml) E F Z Y V gs cap g W9 2 (by omega) (by omega) rfl hI hB hP hF hG) [0, 3, 4, 5, 6] rfl
          · show G C K Q _ _ _ _ _ (lwW C am ao ad (bv, cp, bt, cnt, ml) E F Z Y gs cap g Y V W th)
            refine g_istore (t := 248) (lv1 := [(5, vi 3), (4, vi (7 * (j : Int))), (0, .ref b), (1, .ref (ad 4)), (2, .ref (am 0)), (3, .ref ao)]) X dL_law_246 (by decide) rfl rfl ?_
            refine g_aload_n (t := 249) X dL_law_248 4 rfl rfl ?_
            refine g_aload_n (t := 250) X dL_law_249 2 rfl rfl ?_
            refine g_iload (t := 252) X dL_law_250 1 rfl rfl ?_
            refine g_iconst (t := 253) X dL_law_252 rfl ?_
            refine g_iadd (t := 254) X dL_law_253 rfl ?_
            refine g_sld (t := 255) X hx9 (by omega) (by omega) (by omega) dL_law_254 rfl ?_
            refine g_aload_n (t := 256) X dL_law_255 2 rfl rfl ?_
            refine g_iload (t := 258) X dL_law_256 1 rfl rfl ?_
            refine g_iconst (t := 259) X dL_law_258 rfl ?_
            refine g_iadd (t := 260) X dL_law_259 rfl ?_
            refine g_sld (t := 261) X hx9 (by omega) (by omega) (by omega) dL_law_260 rfl ?_
            refine g_aload_n (t := 262) X dL_law_261 2 rfl rfl ?_
            refine g_iload (t := 264) X dL_law_262 1 rfl rfl ?_
            refine g_iconst (t := 265) X dL_law_264 rfl ?_
            refine g_iadd (t := 266) X dL_law_265 rfl ?_
            refine g_sld (t := 267) X hx9 (by omega) (by omega) (by omega) dL_law_266 rfl ?_
            refine g_aload_n (t := 268) X dL_law_267 2 rfl rfl ?_
            refine g_iload (t := 270) X dL_law_268 1 rfl rfl ?_
            refine g_iconst (t := 271) X dL_law_270 rfl ?_
            refine g_iadd (t := 272) X dL_law_271 rfl ?_
            refine g_sld (t := 273) X hx9 (by omega) (by omega) (by omega) dL_law_272 rfl ?_
            refine g_aload_n (t := 274) X dL_law_273 2 rfl rfl ?_
            refine g_iload (t := 276) X dL_law_274 1 rfl rfl ?_
            refine g_iconst (t := 277) X dL_law_276 rfl ?_
            refine g_iadd (t := 278) X dL_law_277 rfl ?_
            refine g_sld (t := 279) X hx9 (by omega) (by omega) (by omega) dL_law_278 rfl ?_
            refine g_aload_n (t := 280) X dL_law_279 2 rfl rfl ?_
            refine g_iload (t := 282) X dL_law_280 1 rfl rfl ?_
            refine g_bipush (t := 284) (z := 6) X dL_law_282 (by decide +kernel) rfl ?_
            refine g_iadd (t := 285) X dL_law_284 rfl ?_
            refine g_sld (t := 286) X hx9 (by omega) (by omega) (by omega) dL_law_285 rfl ?_
            refine g_if_eq (t := 293) (u := 289) X dL_law_286 (by decide) rfl (sx_rg _ _) (fun c_286 => ?_) (fun c_286 => absurd c_234 c_286)
            refine g_iconst (t := 294) X dL_law_293 rfl ?_
            refine g_pm lw_pm ?_
            refine g_callV (t := 297) (mc := 0) (ms := 0) (rest := []) X mt_X5_part q5_106 q5_107 q5_108 0 wM_0 rfl (c_X5_part0 hfl hI (sx_rg _ _) (sx_rg _ _) (sx_rg _ _) (sx_rg _ _) (sx_rg _ _)) (by decide) (by omega) (by omega) (Nat.le_of_ble_eq_true rfl) rfl rfl dL_law_294 rfl (k_pu3_3 hD hA hB1 (fun z9 W9 => ?_))
            show G C K Q _ _ _ _ _ (wM C am Y V W9 3 ++ lwC C ao ad (bv, cp, bt, cnt, ml) E F Z Y gs cap g)
            refine g_istore (t := 299) (lv1 := [(6, vi z9), (5, vi 3), (4, vi (7 * (j : Int))), (0, .ref b), (1, .ref (ad 4)), (2, .ref (am 0)), (3, .ref ao)]) X dL_law_297 (by decide) rfl rfl ?_
            refine g_aload_n (t := 300) X dL_law_299 5 rfl rfl ?_
            refine g_callV (t := 303) (mc := 0) (ms := 0) (rest := []) X mt_X5_thrown q5_46 q5_47 q5_48 0 wM_0 rfl (c_X5_thrown hfl) (by decide) (by omega) (by omega) (Nat.le_of_ble_eq_true rfl) rfl rfl dL_law_300 rfl (k_rv ?_)
            refine g_pm lw_pm2 ?_
            refine g_iload (t := 305) X dL_law_303 1 rfl rfl ?_
            refine g_icmp_eq (t := 310) (u := 308) X dL_law_305 (by decide) rfl ⟨by omega, by omega⟩ ⟨by omega, by omega⟩ (fun _ => ?_) (fun c => absurd c (by decide))
            refine g_iload (t := 312) X dL_law_310 1 rfl rfl ?_
            refine g_if_ne (t := 327) (u := 315) X dL_law_312 (by decide) rfl ⟨by omega, by omega⟩ (fun _ => ?_) (fun c => absurd c (by decide))
            refine g_goto (t := 1032) X dL_law_327 (by decide) ?_
            refine g_iinc (t := 1035) (lv1 := [(4, vi ((7 * (j : Int)) + 7)), (6, vi z9), (5, vi 3), (0, .ref b), (1, .ref (ad 4)), (2, .ref (am 0)), (3, .ref ao)]) X dL_law_1032 2 rfl (by decide) rfl rfl ?_
            refine g_goto (t := 23) X dL_law_1035 (by decide) ?_
            refine g_cs (c1 := 1000 + 400 * (j + 1)) (s1 := 2000 + 800 * (j + 1)) ?_ (by omega) (by omega)
            rw [show 7 * (j : Int) + 7 = 7 * ((j + 1 : Nat) : Int) by omega]
            exact g_lv (ih (j + 1) ad (bv, cp, bt, cnt, ml) E F Z Y V gs cap g W9 3 (by omega) (by omega) rfl hI hB hP hF hG) [0, 3, 4, 5, 6] rfl
          · obtain ⟨ad1, E1, cap1, Z, h9, ⟨ha1, hP1, hG1, hF1⟩, rfl⟩ := hw
            show G C K Q _ _ _ _ _ (lwW C am ao ad1 (bv, cp, bt, cnt, ml) E1 F Z (YP Y (sx xs (7 * (j : Int) + 1)) (sx xs (7 * (j : Int) + 2)) (sx xs (7 * (j : Int) + 3)) (sx xs (7 * (j : Int) + 4)) (sx xs (7 * (j : Int) + 5)) 0) h9 cap1 g1 Y V W th)
            refine g_istore (t := 248) (lv1 := [(5, vi 0), (4, vi (7 * (j : Int))), (0, .ref b), (1, .ref (ad 4)), (2, .ref (am 0)), (3, .ref ao)]) X dL_law_246 (by decide) rfl rfl ?_
            refine g_aload_n (t := 249) X dL_law_248 4 rfl rfl ?_
            refine g_aload_n (t := 250) X dL_law_249 2 rfl rfl ?_
            refine g_iload (t := 252) X dL_law_250 1 rfl rfl ?_
            refine g_iconst (t := 253) X dL_law_252 rfl ?_
            refine g_iadd (t := 254) X dL_law_253 rfl ?_
            refine g_sld (t := 255) X hx9 (by omega) (by omega) (by omega) dL_law_254 rfl ?_
            refine g_aload_n (t := 256) X dL_law_255 2 rfl rfl ?_
            refine g_iload (t := 258) X dL_law_256 1 rfl rfl ?_
            refine g_iconst (t := 259) X dL_law_258 rfl ?_
            refine g_iadd (t := 260) X dL_law_259 rfl ?_
            refine g_sld (t := 261) X hx9 (by omega) (by omega) (by omega) dL_law_260 rfl ?_
            refine g_aload_n (t := 262) X dL_law_261 2 rfl rfl ?_
            refine g_iload (t := 264) X dL_law_262 1 rfl rfl ?_
            refine g_iconst (t := 265) X dL_law_264 rfl ?_
            refine g_iadd (t := 266) X dL_law_265 rfl ?_
            refine g_sld (t := 267) X hx9 (by omega) (by omega) (by omega) dL_law_266 rfl ?_
            refine g_aload_n (t := 268) X dL_law_267 2 rfl rfl ?_
            refine g_iload (t := 270) X dL_law_268 1 rfl rfl ?_
            refine g_iconst (t := 271) X dL_law_270 rfl ?_
            refine g_iadd (t := 272) X dL_law_271 rfl ?_
            refine g_sld (t := 273) X hx9 (by omega) (by omega) (by omega) dL_law_272 rfl ?_
            refine g_aload_n (t := 274) X dL_law_273 2 rfl rfl ?_
            refine g_iload (t := 276) X dL_law_274 1 rfl rfl ?_
            refine g_iconst (t := 277) X dL_law_276 rfl ?_
            refine g_iadd (t := 278) X dL_law_277 rfl ?_
            refine g_sld (t := 279) X hx9 (by omega) (by omega) (by omega) dL_law_278 rfl ?_
            refine g_aload_n (t := 280) X dL_law_279 2 rfl rfl ?_
            refine g_iload (t := 282) X dL_law_280 1 rfl rfl ?_
            refine g_bipush (t := 284) (z := 6) X dL_law_282 (by decide +kernel) rfl ?_
            refine g_iadd (t := 285) X dL_law_284 rfl ?_
            refine g_sld (t := 286) X hx9 (by omega) (by omega) (by omega) dL_law_285 rfl ?_
            refine g_if_eq (t := 293) (u := 289) X dL_law_286 (by decide) rfl (sx_rg _ _) (fun c_286 => ?_) (fun c_286 => absurd c_234 c_286)
            refine g_iconst (t := 294) X dL_law_293 rfl ?_
            refine g_pm lw_pm ?_
            refine g_callV (t := 297) (mc := 0) (ms := 0) (rest := []) X mt_X5_part q5_106 q5_107 q5_108 0 wM_0 rfl (c_X5_part0 hfl hI (sx_rg _ _) (sx_rg _ _) (sx_rg _ _) (sx_rg _ _) (sx_rg _ _)) (by decide) (by omega) (by omega) (Nat.le_of_ble_eq_true rfl) rfl rfl dL_law_294 rfl (k_pu3_0 hA hB1 hD (fun W9 => ?_))
            show G C K Q _ _ _ _ _ (wM C am (YP Y (sx xs (7 * (j : Int) + 1)) (sx xs (7 * (j : Int) + 2)) (sx xs (7 * (j : Int) + 3)) (sx xs (7 * (j : Int) + 4)) (sx xs (7 * (j : Int) + 5)) 0) V W9 0 ++ lwC C ao ad1 (bv, cp, bt, cnt, ml) E1 F Z (YP Y (sx xs (7 * (j : Int) + 1)) (sx xs (7 * (j : Int) + 2)) (sx xs (7 * (j : Int) + 3)) (sx xs (7 * (j : Int) + 4)) (sx xs (7 * (j : Int) + 5)) 0) h9 cap1 g1)
            refine g_istore (t := 299) (lv1 := [(6, vi (Y 10 0)), (5, vi 0), (4, vi (7 * (j : Int))), (0, .ref b), (1, .ref (ad 4)), (2, .ref (am 0)), (3, .ref ao)]) X dL_law_297 (by decide) rfl rfl ?_
            refine g_aload_n (t := 300) X dL_law_299 5 rfl rfl ?_
            refine g_callV (t := 303) (mc := 0) (ms := 0) (rest := []) X mt_X5_thrown q5_46 q5_47 q5_48 0 wM_0 rfl (c_X5_thrown hfl) (by decide) (by omega) (by omega) (Nat.le_of_ble_eq_true rfl) rfl rfl dL_law_300 rfl (k_rv ?_)
            refine g_pm lw_pm2 ?_
            refine g_iload (t := 305) X dL_law_303 1 rfl rfl ?_
            refine g_icmp_eq (t := 310) (u := 308) X dL_law_305 (by decide) rfl ⟨by omega, by omega⟩ ⟨by omega, by omega⟩ (fun _ => ?_) (fun c => absurd c (by decide))
            refine g_iload (t := 312) X dL_law_310 1 rfl rfl ?_
            refine g_if_ne (t := 327) (u := 315) X dL_law_312 (by decide) rfl ⟨by omega, by omega⟩ (fun c => absurd c (by decide)) (fun _ => ?_)
            refine g_aload_n (t := 316) X dL_law_315 6 rfl rfl ?_
            refine g_iconst (t := 317) X dL_law_316 rfl ?_
            refine g_lald (t := 318) X out_at dL_law_317 rfl ?_
            refine g_iload (t := 320) X dL_law_318 0 rfl rfl ?_
            refine g_i2l (t := 321) X dL_law_320 rfl ?_
            refine g_lcmp0 (t := 322) X hg dL_law_321 rfl ?_
            refine g_if_eq (t := 327) (u := 325) X dL_law_322 (by decide) rfl ⟨by omega, by omega⟩ (fun _ => ?_) (fun c => absurd c (by decide))
            refine g_goto (t := 1032) X dL_law_327 (by decide) ?_
            refine g_iinc (t := 1035) (lv1 := [(4, vi ((7 * (j : Int)) + 7)), (6, vi (Y 10 0)), (5, vi 0), (0, .ref b), (1, .ref (ad 4)), (2, .ref (am 0)), (3, .ref ao)]) X dL_law_1032 2 rfl (by decide) rfl rfl ?_
            refine g_goto (t := 23) X dL_law_1035 (by decide) ?_
            refine g_cs (c1 := 1000 + 400 * (j + 1)) (s1 := 2000 + 800 * (j + 1)) ?_ (by omega) (by omega)
            rw [show 7 * (j : Int) + 7 = 7 * ((j + 1 : Nat) : Int) by omega]
            exact g_lv (ih (j + 1) ad1 (bv, cp, bt, cnt, ml) E1 F Z (YP Y (sx xs (7 * (j : Int) + 1)) (sx xs (7 * (j : Int) + 2)) (sx xs (7 * (j : Int) + 3)) (sx xs (7 * (j : Int) + 4)) (sx xs (7 * (j : Int) + 5)) 0) V h9 cap1 g1 W9 0 (by omega) (by omega) ha1 (hI.part hA hB1.1 hB1.2.1 hB1.2.2.1 hB1.2.2.2 (by decide) hD.1) hB hP1 hF1 hG1) [0, 3, 4, 5, 6] rfl
        · refine g_iconst (t := 238) X dL_law_237 rfl ?_
          refine g_goto (t := 242) X dL_law_238 (by decide) ?_
          refine g_aload_n (t := 243) X dL_law_242 4 rfl rfl ?_
          refine g_callW (t := 246) (mc := 10) (ms := 80) (rest := []) (n9 := 8) (ret := some .int) X q2_201 q1_0 ⟨by decide +kernel, by decide +kernel⟩ (by decide +kernel) (by decide) q2_199 q2_200 (c_L_part hfl hI hF hP hG (sx_rg _ _) (sx_rg _ _) (sx_rg _ _) (sx_rg _ _) (sx_rg _ _) (by decide)) (by decide) (by omega) (by omega) (Nat.le_of_ble_eq_true rfl) rfl rfl dL_law_243 rfl (k_lw (fun hA Z => ?_) (fun hA hB1 Z => ?_) (fun hA hB1 hD Z => ?_) (fun hA hB1 hD g1 hg w9 hw => ?_))
          · show G C K Q _ _ _ _ _ (lwW C am ao ad (bv, cp, bt, cnt, ml) E F Z Y gs cap g Y V W th)
            refine g_istore (t := 248) (lv1 := [(5, vi 1), (4, vi (7 * (j : Int))), (0, .ref b), (1, .ref (ad 4)), (2, .ref (am 0)), (3, .ref ao)]) X dL_law_246 (by decide) rfl rfl ?_
            refine g_aload_n (t := 249) X dL_law_248 4 rfl rfl ?_
            refine g_aload_n (t := 250) X dL_law_249 2 rfl rfl ?_
            refine g_iload (t := 252) X dL_law_250 1 rfl rfl ?_
            refine g_iconst (t := 253) X dL_law_252 rfl ?_
            refine g_iadd (t := 254) X dL_law_253 rfl ?_
            refine g_sld (t := 255) X hx9 (by omega) (by omega) (by omega) dL_law_254 rfl ?_
            refine g_aload_n (t := 256) X dL_law_255 2 rfl rfl ?_
            refine g_iload (t := 258) X dL_law_256 1 rfl rfl ?_
            refine g_iconst (t := 259) X dL_law_258 rfl ?_
            refine g_iadd (t := 260) X dL_law_259 rfl ?_
            refine g_sld (t := 261) X hx9 (by omega) (by omega) (by omega) dL_law_260 rfl ?_
            refine g_aload_n (t := 262) X dL_law_261 2 rfl rfl ?_
            refine g_iload (t := 264) X dL_law_262 1 rfl rfl ?_
            refine g_iconst (t := 265) X dL_law_264 rfl ?_
            refine g_iadd (t := 266) X dL_law_265 rfl ?_
            refine g_sld (t := 267) X hx9 (by omega) (by omega) (by omega) dL_law_266 rfl ?_
            refine g_aload_n (t := 268) X dL_law_267 2 rfl rfl ?_
            refine g_iload (t := 270) X dL_law_268 1 rfl rfl ?_
            refine g_iconst (t := 271) X dL_law_270 rfl ?_
            refine g_iadd (t := 272) X dL_law_271 rfl ?_
            refine g_sld (t := 273) X hx9 (by omega) (by omega) (by omega) dL_law_272 rfl ?_
            refine g_aload_n (t := 274) X dL_law_273 2 rfl rfl ?_
            refine g_iload (t := 276) X dL_law_274 1 rfl rfl ?_
            refine g_iconst (t := 277) X dL_law_276 rfl ?_
            refine g_iadd (t := 278) X dL_law_277 rfl ?_
            refine g_sld (t := 279) X hx9 (by omega) (by omega) (by omega) dL_law_278 rfl ?_
            refine g_aload_n (t := 280) X dL_law_279 2 rfl rfl ?_
            refine g_iload (t := 282) X dL_law_280 1 rfl rfl ?_
            refine g_bipush (t := 284) (z := 6) X dL_law_282 (by decide +kernel) rfl ?_
            refine g_iadd (t := 285) X dL_law_284 rfl ?_
            refine g_sld (t := 286) X hx9 (by omega) (by omega) (by omega) dL_law_285 rfl ?_
            refine g_if_eq (t := 293) (u := 289) X dL_law_286 (by decide) rfl (sx_rg _ _) (fun c_286 => absurd c_286 c_234) (fun c_286 => ?_)
            refine g_iconst (t := 290) X dL_law_289 rfl ?_
            refine g_goto (t := 294) X dL_law_290 (by decide) ?_
            refine g_pm lw_pm ?_
            refine g_callV (t := 297) (mc := 0) (ms := 0) (rest := []) X mt_X5_part q5_106 q5_107 q5_108 0 wM_0 rfl (c_X5_part1 hfl hI (sx_rg _ _) (sx_rg _ _) (sx_rg _ _) (sx_rg _ _) (sx_rg _ _)) (by decide) (by omega) (by omega) (Nat.le_of_ble_eq_true rfl) rfl rfl dL_law_294 rfl (k_pu3_1 hA (fun z9 W9 => ?_))
            show G C K Q _ _ _ _ _ (wM C am Y V W9 1 ++ lwC C ao ad (bv, cp, bt, cnt, ml) E F Z Y gs cap g)
            refine g_istore (t := 299) (lv1 := [(6, vi z9), (5, vi 1), (4, vi (7 * (j : Int))), (0, .ref b), (1, .ref (ad 4)), (2, .ref (am 0)), (3, .ref ao)]) X dL_law_297 (by decide) rfl rfl ?_
            refine g_aload_n (t := 300) X dL_law_299 5 rfl rfl ?_
            refine g_callV (t := 303) (mc := 0) (ms := 0) (rest := []) X mt_X5_thrown q5_46 q5_47 q5_48 0 wM_0 rfl (c_X5_thrown hfl) (by decide) (by omega) (by omega) (Nat.le_of_ble_eq_true rfl) rfl rfl dL_law_300 rfl (k_rv ?_)
            refine g_pm lw_pm2 ?_
            refine g_iload (t := 305) X dL_law_303 1 rfl rfl ?_
            refine g_icmp_eq (t := 310) (u := 308) X dL_law_305 (by decide) rfl ⟨by omega, by omega⟩ ⟨by omega, by omega⟩ (fun _ => ?_) (fun c => absurd c (by decide))
            refine g_iload (t := 312) X dL_law_310 1 rfl rfl ?_
            refine g_if_ne (t := 327) (u := 315) X dL_law_312 (by decide) rfl ⟨by omega, by omega⟩ (fun _ => ?_) (fun c => absurd c (by decide))
            refine g_goto (t := 1032) X dL_law_327 (by decide) ?_
            refine g_iinc (t := 1035) (lv1 := [(4, vi ((7 * (j : Int)) + 7)), (6, vi z9), (5, vi 1), (0, .ref b), (1, .ref (ad 4)), (2, .ref (am 0)), (3, .ref ao)]) X dL_law_1032 2 rfl (by decide) rfl rfl ?_
            refine g_goto (t := 23) X dL_law_1035 (by decide) ?_
            refine g_cs (c1 := 1000 + 400 * (j + 1)) (s1 := 2000 + 800 * (j + 1)) ?_ (by omega) (by omega)
            rw [show 7 * (j : Int) + 7 = 7 * ((j + 1 : Nat) : Int) by omega]
            exact g_lv (ih (j + 1) ad (bv, cp, bt, cnt, ml) E F Z Y V gs cap g W9 1 (by omega) (by omega) rfl hI hB hP hF hG) [0, 3, 4, 5, 6] rfl
          · show G C K Q _ _ _ _ _ (lwW C am ao ad (bv, cp, bt, cnt, ml) E F Z Y gs cap g Y V W th)
            refine g_istore (t := 248) (lv1 := [(5, vi 2), (4, vi (7 * (j : Int))), (0, .ref b), (1, .ref (ad 4)), (2, .ref (am 0)), (3, .ref ao)]) X dL_law_246 (by decide) rfl rfl ?_
            refine g_aload_n (t := 249) X dL_law_248 4 rfl rfl ?_
            refine g_aload_n (t := 250) X dL_law_249 2 rfl rfl ?_
            refine g_iload (t := 252) X dL_law_250 1 rfl rfl ?_
            refine g_iconst (t := 253) X dL_law_252 rfl ?_
            refine g_iadd (t := 254) X dL_law_253 rfl ?_
            refine g_sld (t := 255) X hx9 (by omega) (by omega) (by omega) dL_law_254 rfl ?_
            refine g_aload_n (t := 256) X dL_law_255 2 rfl rfl ?_
            refine g_iload (t := 258) X dL_law_256 1 rfl rfl ?_
            refine g_iconst (t := 259) X dL_law_258 rfl ?_
            refine g_iadd (t := 260) X dL_law_259 rfl ?_
            refine g_sld (t := 261) X hx9 (by omega) (by omega) (by omega) dL_law_260 rfl ?_
            refine g_aload_n (t := 262) X dL_law_261 2 rfl rfl ?_
            refine g_iload (t := 264) X dL_law_262 1 rfl rfl ?_
            refine g_iconst (t := 265) X dL_law_264 rfl ?_
            refine g_iadd (t := 266) X dL_law_265 rfl ?_
            refine g_sld (t := 267) X hx9 (by omega) (by omega) (by omega) dL_law_266 rfl ?_
            refine g_aload_n (t := 268) X dL_law_267 2 rfl rfl ?_
            refine g_iload (t := 270) X dL_law_268 1 rfl rfl ?_
            refine g_iconst (t := 271) X dL_law_270 rfl ?_
            refine g_iadd (t := 272) X dL_law_271 rfl ?_
            refine g_sld (t := 273) X hx9 (by omega) (by omega) (by omega) dL_law_272 rfl ?_
            refine g_aload_n (t := 274) X dL_law_273 2 rfl rfl ?_
            refine g_iload (t := 276) X dL_law_274 1 rfl rfl ?_
            refine g_iconst (t := 277) X dL_law_276 rfl ?_
            refine g_iadd (t := 278) X dL_law_277 rfl ?_
            refine g_sld (t := 279) X hx9 (by omega) (by omega) (by omega) dL_law_278 rfl ?_
            refine g_aload_n (t := 280) X dL_law_279 2 rfl rfl ?_
            refine g_iload (t := 282) X dL_law_280 1 rfl rfl ?_
            refine g_bipush (t := 284) (z := 6) X dL_law_282 (by decide +kernel) rfl ?_
            refine g_iadd (t := 285) X dL_law_284 rfl ?_
            refine g_sld (t := 286) X hx9 (by omega) (by omega) (by omega) dL_law_285 rfl ?_
            refine g_if_eq (t := 293) (u := 289) X dL_law_286 (by decide) rfl (sx_rg _ _) (fun c_286 => absurd c_286 c_234) (fun c_286 => ?_)
            refine g_iconst (t := 290) X dL_law_289 rfl ?_
            refine g_goto (t := 294) X dL_law_290 (by decide) ?_
            refine g_pm lw_pm ?_
            refine g_callV (t := 297) (mc := 0) (ms := 0) (rest := []) X mt_X5_part q5_106 q5_107 q5_108 0 wM_0 rfl (c_X5_part1 hfl hI (sx_rg _ _) (sx_rg _ _) (sx_rg _ _) (sx_rg _ _) (sx_rg _ _)) (by decide) (by omega) (by omega) (Nat.le_of_ble_eq_true rfl) rfl rfl dL_law_294 rfl (k_pu3_2 hB1 hA (fun z9 W9 => ?_))
            show G C K Q _ _ _ _ _ (wM C am Y V W9 2 ++ lwC C ao ad (bv, cp, bt, cnt, ml) E F Z Y gs cap g)
            refine g_istore (t := 299) (lv1 := [(6, vi z9), (5, vi 2), (4, vi (7 * (j : Int))), (0, .ref b), (1, .ref (ad 4)), (2, .ref (am 0)), (3, .ref ao)]) X dL_law_297 (by decide) rfl rfl ?_
            refine g_aload_n (t := 300) X dL_law_299 5 rfl rfl ?_
            refine g_callV (t := 303) (mc := 0) (ms := 0) (rest := []) X mt_X5_thrown q5_46 q5_47 q5_48 0 wM_0 rfl (c_X5_thrown hfl) (by decide) (by omega) (by omega) (Nat.le_of_ble_eq_true rfl) rfl rfl dL_law_300 rfl (k_rv ?_)
            refine g_pm lw_pm2 ?_
            refine g_iload (t := 305) X dL_law_303 1 rfl rfl ?_
            refine g_icmp_eq (t := 310) (u := 308) X dL_law_305 (by decide) rfl ⟨by omega, by omega⟩ ⟨by omega, by omega⟩ (fun _ => ?_) (fun c => absurd c (by decide))
            refine g_iload (t := 312) X dL_law_310 1 rfl rfl ?_
            refine g_if_ne (t := 327) (u := 315) X dL_law_312 (by decide) rfl ⟨by omega, by omega⟩ (fun _ => ?_) (fun c => absurd c (by decide))
            refine g_goto (t := 1032) X dL_law_327 (by decide) ?_
            refine g_iinc (t := 1035) (lv1 := [(4, vi ((7 * (j : Int)) + 7)), (6, vi z9), (5, vi 2), (0, .ref b), (1, .ref (ad 4)), (2, .ref (am 0)), (3, .ref ao)]) X dL_law_1032 2 rfl (by decide) rfl rfl ?_
            refine g_goto (t := 23) X dL_law_1035 (by decide) ?_
            refine g_cs (c1 := 1000 + 400 * (j + 1)) (s1 := 2000 + 800 * (j + 1)) ?_ (by omega) (by omega)
            rw [show 7 * (j : Int) + 7 = 7 * ((j + 1 : Nat) : Int) by omega]
            exact g_lv (ih (j + 1) ad (bv, cp, bt, cnt, ml) E F Z Y V gs cap g W9 2 (by omega) (by omega) rfl hI hB hP hF hG) [0, 3, 4, 5, 6] rfl
          · show G C K Q _ _ _ _ _ (lwW C am ao ad (bv, cp, bt, cnt, ml) E F Z Y gs cap g Y V W th)
            refine g_istore (t := 248) (lv1 := [(5, vi 3), (4, vi (7 * (j : Int))), (0, .ref b), (1, .ref (ad 4)), (2, .ref (am 0)), (3, .ref ao)]) X dL_law_246 (by decide) rfl rfl ?_
            refine g_aload_n (t := 249) X dL_law_248 4 rfl rfl ?_
            refine g_aload_n (t := 250) X dL_law_249 2 rfl rfl ?_
            refine g_iload (t := 252) X dL_law_250 1 rfl rfl ?_
            refine g_iconst (t := 253) X dL_law_252 rfl ?_
            refine g_iadd (t := 254) X dL_law_253 rfl ?_
            refine g_sld (t := 255) X hx9 (by omega) (by omega) (by omega) dL_law_254 rfl ?_
            refine g_aload_n (t := 256) X dL_law_255 2 rfl rfl ?_
            refine g_iload (t := 258) X dL_law_256 1 rfl rfl ?_
            refine g_iconst (t := 259) X dL_law_258 rfl ?_
            refine g_iadd (t := 260) X dL_law_259 rfl ?_
            refine g_sld (t := 261) X hx9 (by omega) (by omega) (by omega) dL_law_260 rfl ?_
            refine g_aload_n (t := 262) X dL_law_261 2 rfl rfl ?_
            refine g_iload (t := 264) X dL_law_262 1 rfl rfl ?_
            refine g_iconst (t := 265) X dL_law_264 rfl ?_
            refine g_iadd (t := 266) X dL_law_265 rfl ?_
            refine g_sld (t := 267) X hx9 (by omega) (by omega) (by omega) dL_law_266 rfl ?_
            refine g_aload_n (t := 268) X dL_law_267 2 rfl rfl ?_
            refine g_iload (t := 270) X dL_law_268 1 rfl rfl ?_
            refine g_iconst (t := 271) X dL_law_270 rfl ?_
            refine g_iadd (t := 272) X dL_law_271 rfl ?_
            refine g_sld (t := 273) X hx9 (by omega) (by omega) (by omega) dL_law_272 rfl ?_
            refine g_aload_n (t := 274) X dL_law_273 2 rfl rfl ?_
            refine g_iload (t := 276) X dL_law_274 1 rfl rfl ?_
            refine g_iconst (t := 277) X dL_law_276 rfl ?_
            refine g_iadd (t := 278) X dL_law_277 rfl ?_
            refine g_sld (t := 279) X hx9 (by omega) (by omega) (by omega) dL_law_278 rfl ?_
            refine g_aload_n (t := 280) X dL_law_279 2 rfl rfl ?_
            refine g_iload (t := 282) X dL_law_280 1 rfl rfl ?_
            refine g_bipush (t := 284) (z := 6) X dL_law_282 (by decide +kernel) rfl ?_
            refine g_iadd (t := 285) X dL_law_284 rfl ?_
            refine g_sld (t := 286) X hx9 (by omega) (by omega) (by omega) dL_law_285 rfl ?_
            refine g_if_eq (t := 293) (u := 289) X dL_law_286 (by decide) rfl (sx_rg _ _) (fun c_286 => absurd c_286 c_234) (fun c_286 => ?_)
            refine g_iconst (t := 290) X dL_law_289 rfl ?_
            refine g_goto (t := 294) X dL_law_290 (by decide) ?_
            refine g_pm lw_pm ?_
            refine g_callV (t := 297) (mc := 0) (ms := 0) (rest := []) X mt_X5_part q5_106 q5_107 q5_108 0 wM_0 rfl (c_X5_part1 hfl hI (sx_rg _ _) (sx_rg _ _) (sx_rg _ _) (sx_rg _ _) (sx_rg _ _)) (by decide) (by omega) (by omega) (Nat.le_of_ble_eq_true rfl) rfl rfl dL_law_294 rfl (k_pu3_3 hD hA hB1 (fun z9 W9 => ?_))
            show G C K Q _ _ _ _ _ (wM C am Y V W9 3 ++ lwC C ao ad (bv, cp, bt, cnt, ml) E F Z Y gs cap g)
            refine g_istore (t := 299) (lv1 := [(6, vi z9), (5, vi 3), (4, vi (7 * (j : Int))), (0, .ref b), (1, .ref (ad 4)), (2, .ref (am 0)), (3, .ref ao)]) X dL_law_297 (by decide) rfl rfl ?_
            refine g_aload_n (t := 300) X dL_law_299 5 rfl rfl ?_
            refine g_callV (t := 303) (mc := 0) (ms := 0) (rest := []) X mt_X5_thrown q5_46 q5_47 q5_48 0 wM_0 rfl (c_X5_thrown hfl) (by decide) (by omega) (by omega) (Nat.le_of_ble_eq_true rfl) rfl rfl dL_law_300 rfl (k_rv ?_)
            refine g_pm lw_pm2 ?_
            refine g_iload (t := 305) X dL_law_303 1 rfl rfl ?_
            refine g_icmp_eq (t := 310) (u := 308) X dL_law_305 (by decide) rfl ⟨by omega, by omega⟩ ⟨by omega, by omega⟩ (fun _ => ?_) (fun c => absurd c (by decide))
            refine g_iload (t := 312) X dL_law_310 1 rfl rfl ?_
            refine g_if_ne (t := 327) (u := 315) X dL_law_312 (by decide) rfl ⟨by omega, by omega⟩ (fun _ => ?_) (fun c => absurd c (by decide))
            refine g_goto (t := 1032) X dL_law_327 (by decide) ?_
            refine g_iinc (t := 1035) (lv1 := [(4, vi ((7 * (j : Int)) + 7)), (6, vi z9), (5, vi 3), (0, .ref b), (1, .ref (ad 4)), (2, .ref (am 0)), (3, .ref ao)]) X dL_law_1032 2 rfl (by decide) rfl rfl ?_
            refine g_goto (t := 23) X dL_law_1035 (by decide) ?_
            refine g_cs (c1 := 1000 + 400 * (j + 1)) (s1 := 2000 + 800 * (j + 1)) ?_ (by omega) (by omega)
            rw [show 7 * (j : Int) + 7 = 7 * ((j + 1 : Nat) : Int) by omega]
            exact g_lv (ih (j + 1) ad (bv, cp, bt, cnt, ml) E F Z Y V gs cap g W9 3 (by omega) (by omega) rfl hI hB hP hF hG) [0, 3, 4, 5, 6] rfl
          · obtain ⟨ad1, E1, cap1, Z, h9, ⟨ha1, hP1, hG1, hF1⟩, rfl⟩ := hw
            show G C K Q _ _ _ _ _ (lwW C am ao ad1 (bv, cp, bt, cnt, ml) E1 F Z (YP Y (sx xs (7 * (j : Int) + 1)) (sx xs (7 * (j : Int) + 2)) (sx xs (7 * (j : Int) + 3)) (sx xs (7 * (j : Int) + 4)) (sx xs (7 * (j : Int) + 5)) 1) h9 cap1 g1 Y V W th)
            refine g_istore (t := 248) (lv1 := [(5, vi 0), (4, vi (7 * (j : Int))), (0, .ref b), (1, .ref (ad 4)), (2, .ref (am 0)), (3, .ref ao)]) X dL_law_246 (by decide) rfl rfl ?_
            refine g_aload_n (t := 249) X dL_law_248 4 rfl rfl ?_
            refine g_aload_n (t := 250) X dL_law_249 2 rfl rfl ?_
            refine g_iload (t := 252) X dL_law_250 1 rfl rfl ?_
            refine g_iconst (t := 253) X dL_law_252 rfl ?_
            refine g_iadd (t := 254) X dL_law_253 rfl ?_
            refine g_sld (t := 255) X hx9 (by omega) (by omega) (by omega) dL_law_254 rfl ?_
            refine g_aload_n (t := 256) X dL_law_255 2 rfl rfl ?_
            refine g_iload (t := 258) X dL_law_256 1 rfl rfl ?_
            refine g_iconst (t := 259) X dL_law_258 rfl ?_
            refine g_iadd (t := 260) X dL_law_259 rfl ?_
            refine g_sld (t := 261) X hx9 (by omega) (by omega) (by omega) dL_law_260 rfl ?_
            refine g_aload_n (t := 262) X dL_law_261 2 rfl rfl ?_
            refine g_iload (t := 264) X dL_law_262 1 rfl rfl ?_
            refine g_iconst (t := 265) X dL_law_264 rfl ?_
            refine g_iadd (t := 266) X dL_law_265 rfl ?_
            refine g_sld (t := 267) X hx9 (by omega) (by omega) (by omega) dL_law_266 rfl ?_
            refine g_aload_n (t := 268) X dL_law_267 2 rfl rfl ?_
            refine g_iload (t := 270) X dL_law_268 1 rfl rfl ?_
            refine g_iconst (t := 271) X dL_law_270 rfl ?_
            refine g_iadd (t := 272) X dL_law_271 rfl ?_
            refine g_sld (t := 273) X hx9 (by omega) (by omega) (by omega) dL_law_272 rfl ?_
            refine g_aload_n (t := 274) X dL_law_273 2 rfl rfl ?_
            refine g_iload (t := 276) X dL_law_274 1 rfl rfl ?_
            refine g_iconst (t := 277) X dL_law_276 rfl ?_
            refine g_iadd (t := 278) X dL_law_277 rfl ?_
            refine g_sld (t := 279) X hx9 (by omega) (by omega) (by omega) dL_law_278 rfl ?_
            refine g_aload_n (t := 280) X dL_law_279 2 rfl rfl ?_
            refine g_iload (t := 282) X dL_law_280 1 rfl rfl ?_
            refine g_bipush (t := 284) (z := 6) X dL_law_282 (by decide +kernel) rfl ?_
            refine g_iadd (t := 285) X dL_law_284 rfl ?_
            refine g_sld (t := 286) X hx9 (by omega) (by omega) (by omega) dL_law_285 rfl ?_
            refine g_if_eq (t := 293) (u := 289) X dL_law_286 (by decide) rfl (sx_rg _ _) (fun c_286 => absurd c_286 c_234) (fun c_286 => ?_)
            refine g_iconst (t := 290) X dL_law_289 rfl ?_
            refine g_goto (t := 294) X dL_law_290 (by decide) ?_
            refine g_pm lw_pm ?_
            refine g_callV (t := 297) (mc := 0) (ms := 0) (rest := []) X mt_X5_part q5_106 q5_107 q5_108 0 wM_0 rfl (c_X5_part1 hfl hI (sx_rg _ _) (sx_rg _ _) (sx_rg _ _) (sx_rg _ _) (sx_rg _ _)) (by decide) (by omega) (by omega) (Nat.le_of_ble_eq_true rfl) rfl rfl dL_law_294 rfl (k_pu3_0 hA hB1 hD (fun W9 => ?_))
            show G C K Q _ _ _ _ _ (wM C am (YP Y (sx xs (7 * (j : Int) + 1)) (sx xs (7 * (j : Int) + 2)) (sx xs (7 * (j : Int) + 3)) (sx xs (7 * (j : Int) + 4)) (sx xs (7 * (j : Int) + 5)) 1) V W9 0 ++ lwC C ao ad1 (bv, cp, bt, cnt, ml) E1 F Z (YP Y (sx xs (7 * (j : Int) + 1)) (sx xs (7 * (j : Int) + 2)) (sx xs (7 * (j : Int) + 3)) (sx xs (7 * (j : Int) + 4)) (sx xs (7 * (j : Int) + 5)) 1) h9 cap1 g1)
            refine g_istore (t := 299) (lv1 := [(6, vi (Y 10 0)), (5, vi 0), (4, vi (7 * (j : Int))), (0, .ref b), (1, .ref (ad 4)), (2, .ref (am 0)), (3, .ref ao)]) X dL_law_297 (by decide) rfl rfl ?_
            refine g_aload_n (t := 300) X dL_law_299 5 rfl rfl ?_
            refine g_callV (t := 303) (mc := 0) (ms := 0) (rest := []) X mt_X5_thrown q5_46 q5_47 q5_48 0 wM_0 rfl (c_X5_thrown hfl) (by decide) (by omega) (by omega) (Nat.le_of_ble_eq_true rfl) rfl rfl dL_law_300 rfl (k_rv ?_)
            refine g_pm lw_pm2 ?_
            refine g_iload (t := 305) X dL_law_303 1 rfl rfl ?_
            refine g_icmp_eq (t := 310) (u := 308) X dL_law_305 (by decide) rfl ⟨by omega, by omega⟩ ⟨by omega, by omega⟩ (fun _ => ?_) (fun c => absurd c (by decide))
            refine g_iload (t := 312) X dL_law_310 1 rfl rfl ?_
            refine g_if_ne (t := 327) (u := 315) X dL_law_312 (by decide) rfl ⟨by omega, by omega⟩ (fun c => absurd c (by decide)) (fun _ => ?_)
            refine g_aload_n (t := 316) X dL_law_315 6 rfl rfl ?_
            refine g_iconst (t := 317) X dL_law_316 rfl ?_
            refine g_lald (t := 318) X out_at dL_law_317 rfl ?_
            refine g_iload (t := 320) X dL_law_318 0 rfl rfl ?_
            refine g_i2l (t := 321) X dL_law_320 rfl ?_
            refine g_lcmp0 (t := 322) X hg dL_law_321 rfl ?_
            refine g_if_eq (t := 327) (u := 325) X dL_law_322 (by decide) rfl ⟨by omega, by omega⟩ (fun _ => ?_) (fun c => absurd c (by decide))
            refine g_goto (t := 1032) X dL_law_327 (by decide) ?_
            refine g_iinc (t := 1035) (lv1 := [(4, vi ((7 * (j : Int)) + 7)), (6, vi (Y 10 0)), (5, vi 0), (0, .ref b), (1, .ref (ad 4)), (2, .ref (am 0)), (3, .ref ao)]) X dL_law_1032 2 rfl (by decide) rfl rfl ?_
            refine g_goto (t := 23) X dL_law_1035 (by decide) ?_
            refine g_cs (c1 := 1000 + 400 * (j + 1)) (s1 := 2000 + 800 * (j + 1)) ?_ (by omega) (by omega)
            rw [show 7 * (j : Int) + 7 = 7 * ((j + 1 : Nat) : Int) by omega]
            exact g_lv (ih (j + 1) ad1 (bv, cp, bt, cnt, ml) E1 F Z (YP Y (sx xs (7 * (j : Int) + 1)) (sx xs (7 * (j : Int) + 2)) (sx xs (7 * (j : Int) + 3)) (sx xs (7 * (j : Int) + 4)) (sx xs (7 * (j : Int) + 5)) 1) V h9 cap1 g1 W9 0 (by omega) (by omega) ha1 (hI.part hA hB1.1 hB1.2.1 hB1.2.2.1 hB1.2.2.2 (by decide) hD.1) hB hP1 hF1 hG1) [0, 3, 4, 5, 6] rfl
      · show G C K Q _ _ 40 _ [vi 2] _
        refine g_tin (t := 330) (off := 290) (z := 2) X dL_law_40 ⟨by omega, by omega⟩ (by omega) (by omega) rfl (by decide) ?_
        refine g_aload_n (t := 331) X dL_law_330 2 rfl rfl ?_
        refine g_aload_n (t := 332) X dL_law_331 1 rfl rfl ?_
        refine g_iload (t := 334) X dL_law_332 0 rfl rfl ?_
        refine g_iconst (t := 335) X dL_law_334 rfl ?_
        refine g_iadd (t := 336) X dL_law_335 rfl ?_
        refine g_sld (t := 337) X hx9 (by omega) (by omega) (by omega) dL_law_336 rfl ?_
        refine g_aload_n (t := 338) X dL_law_337 1 rfl rfl ?_
        refine g_iload (t := 340) X dL_law_338 0 rfl rfl ?_
        refine g_iconst (t := 341) X dL_law_340 rfl ?_
        refine g_iadd (t := 342) X dL_law_341 rfl ?_
        refine g_sld (t := 343) X hx9 (by omega) (by omega) (by omega) dL_law_342 rfl ?_
        refine g_aload_n (t := 344) X dL_law_343 4 rfl rfl ?_
        refine g_callW (t := 347) (mc := 6) (ms := 40) (rest := []) (n9 := 4) (ret := some .int) X q3_19 q1_0 ⟨by decide +kernel, by decide +kernel⟩ (by decide +kernel) (by decide) q3_17 q3_18 (c_L_angle hfl hI hF hP hG (sx_rg _ _) (sx_rg _ _)) (by decide) (by omega) (by omega) (Nat.le_of_ble_eq_true rfl) rfl rfl dL_law_344 rfl (k_lw (fun hA Z => ?_) (fun hA hB1 Z => ?_) (fun _ _ h _ => absurd trivial h) (fun hA hB1 hD g1 hg w9 hw => ?_))
        · show G C K Q _ _ _ _ _ (lwW C am ao ad (bv, cp, bt, cnt, ml) E F Z Y gs cap g Y V W th)
          refine g_istore (t := 349) (lv1 := [(5, vi 1), (4, vi (7 * (j : Int))), (0, .ref b), (1, .ref (ad 4)), (2, .ref (am 0)), (3, .ref ao)]) X dL_law_347 (by decide) rfl rfl ?_
          refine g_aload_n (t := 350) X dL_law_349 4 rfl rfl ?_
          refine g_aload_n (t := 351) X dL_law_350 2 rfl rfl ?_
          refine g_iload (t := 353) X dL_law_351 1 rfl rfl ?_
          refine g_iconst (t := 354) X dL_law_353 rfl ?_
          refine g_iadd (t := 355) X dL_law_354 rfl ?_
          refine g_sld (t := 356) X hx9 (by omega) (by omega) (by omega) dL_law_355 rfl ?_
          refine g_aload_n (t := 357) X dL_law_356 2 rfl rfl ?_
          refine g_iload (t := 359) X dL_law_357 1 rfl rfl ?_
          refine g_iconst (t := 360) X dL_law_359 rfl ?_
          refine g_iadd (t := 361) X dL_law_360 rfl ?_
          refine g_sld (t := 362) X hx9 (by omega) (by omega) (by omega) dL_law_361 rfl ?_
          refine g_pm lw_pm ?_
          refine g_callV (t := 365) (mc := 0) (ms := 0) (rest := []) X mt_X5_angle q5_110 q5_111 q5_112 0 wM_0 rfl (c_X5_angle hfl hI (sx_rg _ _) (sx_rg _ _)) (by decide) (by omega) (by omega) (Nat.le_of_ble_eq_true rfl) rfl rfl dL_law_362 rfl (k_pu2_1 hA (fun z9 W9 => ?_))
          show G C K Q _ _ _ _ _ (wM C am Y V W9 1 ++ lwC C ao ad (bv, cp, bt, cnt, ml) E F Z Y gs cap g)
          refine g_istore (t := 367) (lv1 := [(6, vi z9), (5, vi 1), (4, vi (7 * (j : Int))), (0, .ref b), (1, .ref (ad 4)), (2, .ref (am 0)), (3, .ref ao)]) X dL_law_365 (by decide) rfl rfl ?_
          refine g_aload_n (t := 368) X dL_law_367 5 rfl rfl ?_
          refine g_callV (t := 371) (mc := 0) (ms := 0) (rest := []) X mt_X5_thrown q5_46 q5_47 q5_48 0 wM_0 rfl (c_X5_thrown hfl) (by decide) (by omega) (by omega) (Nat.le_of_ble_eq_true rfl) rfl rfl dL_law_368 rfl (k_rv ?_)
          refine g_pm lw_pm2 ?_
          refine g_iload (t := 373) X dL_law_371 1 rfl rfl ?_
          refine g_icmp_eq (t := 378) (u := 376) X dL_law_373 (by decide) rfl ⟨by omega, by omega⟩ ⟨by omega, by omega⟩ (fun _ => ?_) (fun c => absurd c (by decide))
          refine g_iload (t := 380) X dL_law_378 1 rfl rfl ?_
          refine g_if_ne (t := 395) (u := 383) X dL_law_380 (by decide) rfl ⟨by omega, by omega⟩ (fun _ => ?_) (fun c => absurd c (by decide))
          refine g_goto (t := 1032) X dL_law_395 (by decide) ?_
          refine g_iinc (t := 1035) (lv1 := [(4, vi ((7 * (j : Int)) + 7)), (6, vi z9), (5, vi 1), (0, .ref b), (1, .ref (ad 4)), (2, .ref (am 0)), (3, .ref ao)]) X dL_law_1032 2 rfl (by decide) rfl rfl ?_
          refine g_goto (t := 23) X dL_law_1035 (by decide) ?_
          refine g_cs (c1 := 1000 + 400 * (j + 1)) (s1 := 2000 + 800 * (j + 1)) ?_ (by omega) (by omega)
          rw [show 7 * (j : Int) + 7 = 7 * ((j + 1 : Nat) : Int) by omega]
          exact g_lv (ih (j + 1) ad (bv, cp, bt, cnt, ml) E F Z Y V gs cap g W9 1 (by omega) (by omega) rfl hI hB hP hF hG) [0, 3, 4, 5, 6] rfl
        · show G C K Q _ _ _ _ _ (lwW C am ao ad (bv, cp, bt, cnt, ml) E F Z Y gs cap g Y V W th)
          refine g_istore (t := 349) (lv1 := [(5, vi 2), (4, vi (7 * (j : Int))), (0, .ref b), (1, .ref (ad 4)), (2, .ref (am 0)), (3, .ref ao)]) X dL_law_347 (by decide) rfl rfl ?_
          refine g_aload_n (t := 350) X dL_law_349 4 rfl rfl ?_
          refine g_aload_n (t := 351) X dL_law_350 2 rfl rfl ?_
          refine g_iload (t := 353) X dL_law_351 1 rfl rfl ?_
          refine g_iconst (t := 354) X dL_law_353 rfl ?_
          refine g_iadd (t := 355) X dL_law_354 rfl ?_
          refine g_sld (t := 356) X hx9 (by omega) (by omega) (by omega) dL_law_355 rfl ?_
          refine g_aload_n (t := 357) X dL_law_356 2 rfl rfl ?_
          refine g_iload (t := 359) X dL_law_357 1 rfl rfl ?_
          refine g_iconst (t := 360) X dL_law_359 rfl ?_
          refine g_iadd (t := 361) X dL_law_360 rfl ?_
          refine g_sld (t := 362) X hx9 (by omega) (by omega) (by omega) dL_law_361 rfl ?_
          refine g_pm lw_pm ?_
          refine g_callV (t := 365) (mc := 0) (ms := 0) (rest := []) X mt_X5_angle q5_110 q5_111 q5_112 0 wM_0 rfl (c_X5_angle hfl hI (sx_rg _ _) (sx_rg _ _)) (by decide) (by omega) (by omega) (Nat.le_of_ble_eq_true rfl) rfl rfl dL_law_362 rfl (k_pu2_2 hB1 hA (fun z9 W9 => ?_))
          show G C K Q _ _ _ _ _ (wM C am Y V W9 2 ++ lwC C ao ad (bv, cp, bt, cnt, ml) E F Z Y gs cap g)
          refine g_istore (t := 367) (lv1 := [(6, vi z9), (5, vi 2), (4, vi (7 * (j : Int))), (0, .ref b), (1, .ref (ad 4)), (2, .ref (am 0)), (3, .ref ao)]) X dL_law_365 (by decide) rfl rfl ?_
          refine g_aload_n (t := 368) X dL_law_367 5 rfl rfl ?_
          refine g_callV (t := 371) (mc := 0) (ms := 0) (rest := []) X mt_X5_thrown q5_46 q5_47 q5_48 0 wM_0 rfl (c_X5_thrown hfl) (by decide) (by omega) (by omega) (Nat.le_of_ble_eq_true rfl) rfl rfl dL_law_368 rfl (k_rv ?_)
          refine g_pm lw_pm2 ?_
          refine g_iload (t := 373) X dL_law_371 1 rfl rfl ?_
          refine g_icmp_eq (t := 378) (u := 376) X dL_law_373 (by decide) rfl ⟨by omega, by omega⟩ ⟨by omega, by omega⟩ (fun _ => ?_) (fun c => absurd c (by decide))
          refine g_iload (t := 380) X dL_law_378 1 rfl rfl ?_
          refine g_if_ne (t := 395) (u := 383) X dL_law_380 (by decide) rfl ⟨by omega, by omega⟩ (fun _ => ?_) (fun c => absurd c (by decide))
          refine g_goto (t := 1032) X dL_law_395 (by decide) ?_
          refine g_iinc (t := 1035) (lv1 := [(4, vi ((7 * (j : Int)) + 7)), (6, vi z9), (5, vi 2), (0, .ref b), (1, .ref (ad 4)), (2, .ref (am 0)), (3, .ref ao)]) X dL_law_1032 2 rfl (by decide) rfl rfl ?_
          refine g_goto (t := 23) X dL_law_1035 (by decide) ?_
          refine g_cs (c1 := 1000 + 400 * (j + 1)) (s1 := 2000 + 800 * (j + 1)) ?_ (by omega) (by omega)
          rw [show 7 * (j : Int) + 7 = 7 * ((j + 1 : Nat) : Int) by omega]
          exact g_lv (ih (j + 1) ad (bv, cp, bt, cnt, ml) E F Z Y V gs cap g W9 2 (by omega) (by omega) rfl hI hB hP hF hG) [0, 3, 4, 5, 6] rfl
        · obtain ⟨Z, h9, hS9, rfl⟩ := hw
          show G C K Q _ _ _ _ _ (lwW C am ao ad (bv, cp, bt, cnt, ml) E F Z Y h9 cap g1 Y V W th)
          refine g_istore (t := 349) (lv1 := [(5, vi 0), (4, vi (7 * (j : Int))), (0, .ref b), (1, .ref (ad 4)), (2, .ref (am 0)), (3, .ref ao)]) X dL_law_347 (by decide) rfl rfl ?_
          refine g_aload_n (t := 350) X dL_law_349 4 rfl rfl ?_
          refine g_aload_n (t := 351) X dL_law_350 2 rfl rfl ?_
          refine g_iload (t := 353) X dL_law_351 1 rfl rfl ?_
          refine g_iconst (t := 354) X dL_law_353 rfl ?_
          refine g_iadd (t := 355) X dL_law_354 rfl ?_
          refine g_sld (t := 356) X hx9 (by omega) (by omega) (by omega) dL_law_355 rfl ?_
          refine g_aload_n (t := 357) X dL_law_356 2 rfl rfl ?_
          refine g_iload (t := 359) X dL_law_357 1 rfl rfl ?_
          refine g_iconst (t := 360) X dL_law_359 rfl ?_
          refine g_iadd (t := 361) X dL_law_360 rfl ?_
          refine g_sld (t := 362) X hx9 (by omega) (by omega) (by omega) dL_law_361 rfl ?_
          refine g_pm lw_pm ?_
          refine g_callV (t := 365) (mc := 0) (ms := 0) (rest := []) X mt_X5_angle q5_110 q5_111 q5_112 0 wM_0 rfl (c_X5_angle hfl hI (sx_rg _ _) (sx_rg _ _)) (by decide) (by omega) (by omega) (Nat.le_of_ble_eq_true rfl) rfl rfl dL_law_362 rfl (k_pu2_0 hA hB1 (fun W9 => ?_))
          show G C K Q _ _ _ _ _ (wM C am Y V W9 0 ++ lwC C ao ad (bv, cp, bt, cnt, ml) E F Z Y h9 cap g1)
          refine g_istore (t := 367) (lv1 := [(6, vi (angF Y (sx xs (7 * (j : Int) + 1)) (sx xs (7 * (j : Int) + 2)))), (5, vi 0), (4, vi (7 * (j : Int))), (0, .ref b), (1, .ref (ad 4)), (2, .ref (am 0)), (3, .ref ao)]) X dL_law_365 (by decide) rfl rfl ?_
          refine g_aload_n (t := 368) X dL_law_367 5 rfl rfl ?_
          refine g_callV (t := 371) (mc := 0) (ms := 0) (rest := []) X mt_X5_thrown q5_46 q5_47 q5_48 0 wM_0 rfl (c_X5_thrown hfl) (by decide) (by omega) (by omega) (Nat.le_of_ble_eq_true rfl) rfl rfl dL_law_368 rfl (k_rv ?_)
          refine g_pm lw_pm2 ?_
          refine g_iload (t := 373) X dL_law_371 1 rfl rfl ?_
          refine g_icmp_eq (t := 378) (u := 376) X dL_law_373 (by decide) rfl ⟨by omega, by omega⟩ ⟨by omega, by omega⟩ (fun _ => ?_) (fun c => absurd c (by decide))
          refine g_iload (t := 380) X dL_law_378 1 rfl rfl ?_
          refine g_if_ne (t := 395) (u := 383) X dL_law_380 (by decide) rfl ⟨by omega, by omega⟩ (fun c => absurd c (by decide)) (fun _ => ?_)
          refine g_aload_n (t := 384) X dL_law_383 6 rfl rfl ?_
          refine g_iconst (t := 385) X dL_law_384 rfl ?_
          refine g_lald (t := 386) X out_at dL_law_385 rfl ?_
          refine g_iload (t := 388) X dL_law_386 0 rfl rfl ?_
          refine g_i2l (t := 389) X dL_law_388 rfl ?_
          refine g_lcmp0 (t := 390) X hg dL_law_389 rfl ?_
          refine g_if_eq (t := 395) (u := 393) X dL_law_390 (by decide) rfl ⟨by omega, by omega⟩ (fun _ => ?_) (fun c => absurd c (by decide))
          refine g_goto (t := 1032) X dL_law_395 (by decide) ?_
          refine g_iinc (t := 1035) (lv1 := [(4, vi ((7 * (j : Int)) + 7)), (6, vi (angF Y (sx xs (7 * (j : Int) + 1)) (sx xs (7 * (j : Int) + 2)))), (5, vi 0), (0, .ref b), (1, .ref (ad 4)), (2, .ref (am 0)), (3, .ref ao)]) X dL_law_1032 2 rfl (by decide) rfl rfl ?_
          refine g_goto (t := 23) X dL_law_1035 (by decide) ?_
          refine g_cs (c1 := 1000 + 400 * (j + 1)) (s1 := 2000 + 800 * (j + 1)) ?_ (by omega) (by omega)
          rw [show 7 * (j : Int) + 7 = 7 * ((j + 1 : Nat) : Int) by omega]
          exact g_lv (ih (j + 1) ad (bv, cp, bt, cnt, ml) E F Z Y V h9 cap g1 W9 0 (by omega) (by omega) rfl hI hB hP hF hS9) [0, 3, 4, 5, 6] rfl
      · show G C K Q _ _ 40 _ [vi 3] _
        refine g_tin (t := 398) (off := 358) (z := 3) X dL_law_40 ⟨by omega, by omega⟩ (by omega) (by omega) rfl (by decide) ?_
        refine g_aload_n (t := 399) X dL_law_398 2 rfl rfl ?_
        refine g_aload_n (t := 400) X dL_law_399 1 rfl rfl ?_
        refine g_iload (t := 402) X dL_law_400 0 rfl rfl ?_
        refine g_iconst (t := 403) X dL_law_402 rfl ?_
        refine g_iadd (t := 404) X dL_law_403 rfl ?_
        refine g_sld (t := 405) X hx9 (by omega) (by omega) (by omega) dL_law_404 rfl ?_
        refine g_aload_n (t := 406) X dL_law_405 1 rfl rfl ?_
        refine g_iload (t := 408) X dL_law_406 0 rfl rfl ?_
        refine g_iconst (t := 409) X dL_law_408 rfl ?_
        refine g_iadd (t := 410) X dL_law_409 rfl ?_
        refine g_sld (t := 411) X hx9 (by omega) (by omega) (by omega) dL_law_410 rfl ?_
        refine g_aload_n (t := 412) X dL_law_411 4 rfl rfl ?_
        refine g_callW (t := 415) (mc := 6) (ms := 40) (rest := []) (n9 := 4) (ret := some .int) X q3_30 q1_0 ⟨by decide +kernel, by decide +kernel⟩ (by decide +kernel) (by decide) q3_28 q3_29 (c_L_angleAnew hfl hI hF hP hG (sx_rg _ _) (sx_rg _ _)) (by decide) (by omega) (by omega) (Nat.le_of_ble_eq_true rfl) rfl rfl dL_law_412 rfl (k_lw (fun hA Z => ?_) (fun hA hB1 Z => ?_) (fun _ _ h _ => absurd trivial h) (fun hA hB1 hD g1 hg w9 hw => ?_))
        · show G C K Q _ _ _ _ _ (lwW C am ao ad (bv, cp, bt, cnt, ml) E F Z Y gs cap g Y V W th)
          refine g_istore (t := 417) (lv1 := [(5, vi 1), (4, vi (7 * (j : Int))), (0, .ref b), (1, .ref (ad 4)), (2, .ref (am 0)), (3, .ref ao)]) X dL_law_415 (by decide) rfl rfl ?_
          refine g_aload_n (t := 418) X dL_law_417 4 rfl rfl ?_
          refine g_aload_n (t := 419) X dL_law_418 2 rfl rfl ?_
          refine g_iload (t := 421) X dL_law_419 1 rfl rfl ?_
          refine g_iconst (t := 422) X dL_law_421 rfl ?_
          refine g_iadd (t := 423) X dL_law_422 rfl ?_
          refine g_sld (t := 424) X hx9 (by omega) (by omega) (by omega) dL_law_423 rfl ?_
          refine g_aload_n (t := 425) X dL_law_424 2 rfl rfl ?_
          refine g_iload (t := 427) X dL_law_425 1 rfl rfl ?_
          refine g_iconst (t := 428) X dL_law_427 rfl ?_
          refine g_iadd (t := 429) X dL_law_428 rfl ?_
          refine g_sld (t := 430) X hx9 (by omega) (by omega) (by omega) dL_law_429 rfl ?_
          refine g_pm lw_pm ?_
          refine g_callV (t := 433) (mc := 0) (ms := 0) (rest := []) X mt_X5_angleAnew q5_114 q5_115 q5_116 0 wM_0 rfl (c_X5_angleAnew hfl hI (sx_rg _ _) (sx_rg _ _)) (by decide) (by omega) (by omega) (Nat.le_of_ble_eq_true rfl) rfl rfl dL_law_430 rfl (k_pu2_1 hA (fun z9 W9 => ?_))
          show G C K Q _ _ _ _ _ (wM C am Y V W9 1 ++ lwC C ao ad (bv, cp, bt, cnt, ml) E F Z Y gs cap g)
          refine g_istore (t := 435) (lv1 := [(6, vi z9), (5, vi 1), (4, vi (7 * (j : Int))), (0, .ref b), (1, .ref (ad 4)), (2, .ref (am 0)), (3, .ref ao)]) X dL_law_433 (by decide) rfl rfl ?_
          refine g_aload_n (t := 436) X dL_law_435 5 rfl rfl ?_
          refine g_callV (t := 439) (mc := 0) (ms := 0) (rest := []) X mt_X5_thrown q5_46 q5_47 q5_48 0 wM_0 rfl (c_X5_thrown hfl) (by decide) (by omega) (by omega) (Nat.le_of_ble_eq_true rfl) rfl rfl dL_law_436 rfl (k_rv ?_)
          refine g_pm lw_pm2 ?_
          refine g_iload (t := 441) X dL_law_439 1 rfl rfl ?_
          refine g_icmp_eq (t := 446) (u := 444) X dL_law_441 (by decide) rfl ⟨by omega, by omega⟩ ⟨by omega, by omega⟩ (fun _ => ?_) (fun c => absurd c (by decide))
          refine g_iload (t := 448) X dL_law_446 1 rfl rfl ?_
          refine g_if_ne (t := 463) (u := 451) X dL_law_448 (by decide) rfl ⟨by omega, by omega⟩ (fun _ => ?_) (fun c => absurd c (by decide))
          refine g_goto (t := 1032) X dL_law_463 (by decide) ?_
          refine g_iinc (t := 1035) (lv1 := [(4, vi ((7 * (j : Int)) + 7)), (6, vi z9), (5, vi 1), (0, .ref b), (1, .ref (ad 4)), (2, .ref (am 0)), (3, .ref ao)]) X dL_law_1032 2 rfl (by decide) rfl rfl ?_
          refine g_goto (t := 23) X dL_law_1035 (by decide) ?_
          refine g_cs (c1 := 1000 + 400 * (j + 1)) (s1 := 2000 + 800 * (j + 1)) ?_ (by omega) (by omega)
          rw [show 7 * (j : Int) + 7 = 7 * ((j + 1 : Nat) : Int) by omega]
          exact g_lv (ih (j + 1) ad (bv, cp, bt, cnt, ml) E F Z Y V gs cap g W9 1 (by omega) (by omega) rfl hI hB hP hF hG) [0, 3, 4, 5, 6] rfl
        · show G C K Q _ _ _ _ _ (lwW C am ao ad (bv, cp, bt, cnt, ml) E F Z Y gs cap g Y V W th)
          refine g_istore (t := 417) (lv1 := [(5, vi 2), (4, vi (7 * (j : Int))), (0, .ref b), (1, .ref (ad 4)), (2, .ref (am 0)), (3, .ref ao)]) X dL_law_415 (by decide) rfl rfl ?_
          refine g_aload_n (t := 418) X dL_law_417 4 rfl rfl ?_
          refine g_aload_n (t := 419) X dL_law_418 2 rfl rfl ?_
          refine g_iload (t := 421) X dL_law_419 1 rfl rfl ?_
          refine g_iconst (t := 422) X dL_law_421 rfl ?_
          refine g_iadd (t := 423) X dL_law_422 rfl ?_
          refine g_sld (t := 424) X hx9 (by omega) (by omega) (by omega) dL_law_423 rfl ?_
          refine g_aload_n (t := 425) X dL_law_424 2 rfl rfl ?_
          refine g_iload (t := 427) X dL_law_425 1 rfl rfl ?_
          refine g_iconst (t := 428) X dL_law_427 rfl ?_
          refine g_iadd (t := 429) X dL_law_428 rfl ?_
          refine g_sld (t := 430) X hx9 (by omega) (by omega) (by omega) dL_law_429 rfl ?_
          refine g_pm lw_pm ?_
          refine g_callV (t := 433) (mc := 0) (ms := 0) (rest := []) X mt_X5_angleAnew q5_114 q5_115 q5_116 0 wM_0 rfl (c_X5_angleAnew hfl hI (sx_rg _ _) (sx_rg _ _)) (by decide) (by omega) (by omega) (Nat.le_of_ble_eq_true rfl) rfl rfl dL_law_430 rfl (k_pu2_2 hB1 hA (fun z9 W9 => ?_))
          show G C K Q _ _ _ _ _ (wM C am Y V W9 2 ++ lwC C ao ad (bv, cp, bt, cnt, ml) E F Z Y gs cap g)
          refine g_istore (t := 435) (lv1 := [(6, vi z9), (5, vi 2), (4, vi (7 * (j : Int))), (0, .ref b), (1, .ref (ad 4)), (2, .ref (am 0)), (3, .ref ao)]) X dL_law_433 (by decide) rfl rfl ?_
          refine g_aload_n (t := 436) X dL_law_435 5 rfl rfl ?_
          refine g_callV (t := 439) (mc := 0) (ms := 0) (rest := []) X mt_X5_thrown q5_46 q5_47 q5_48 0 wM_0 rfl (c_X5_thrown hfl) (by decide) (by omega) (by omega) (Nat.le_of_ble_eq_true rfl) rfl rfl dL_law_436 rfl (k_rv ?_)
          refine g_pm lw_pm2 ?_
          refine g_iload (t := 441) X dL_law_439 1 rfl rfl ?_
          refine g_icmp_eq (t := 446) (u := 444) X dL_law_441 (by decide) rfl ⟨by omega, by omega⟩ ⟨by omega, by omega⟩ (fun _ => ?_) (fun c => absurd c (by decide))
          refine g_iload (t := 448) X dL_law_446 1 rfl rfl ?_
          refine g_if_ne (t := 463) (u := 451) X dL_law_448 (by decide) rfl ⟨by omega, by omega⟩ (fun _ => ?_) (fun c => absurd c (by decide))
          refine g_goto (t := 1032) X dL_law_463 (by decide) ?_
          refine g_iinc (t := 1035) (lv1 := [(4, vi ((7 * (j : Int)) + 7)), (6, vi z9), (5, vi 2), (0, .ref b), (1, .ref (ad 4)), (2, .ref (am 0)), (3, .ref ao)]) X dL_law_1032 2 rfl (by decide) rfl rfl ?_
          refine g_goto (t := 23) X dL_law_1035 (by decide) ?_
          refine g_cs (c1 := 1000 + 400 * (j + 1)) (s1 := 2000 + 800 * (j + 1)) ?_ (by omega) (by omega)
          rw [show 7 * (j : Int) + 7 = 7 * ((j + 1 : Nat) : Int) by omega]
          exact g_lv (ih (j + 1) ad (bv, cp, bt, cnt, ml) E F Z Y V gs cap g W9 2 (by omega) (by omega) rfl hI hB hP hF hG) [0, 3, 4, 5, 6] rfl
        · obtain ⟨Z, h9, hS9, rfl⟩ := hw
          show G C K Q _ _ _ _ _ (lwW C am ao ad (bv, cp, bt, cnt, ml) E F Z Y h9 cap g1 Y V W th)
          refine g_istore (t := 417) (lv1 := [(5, vi 0), (4, vi (7 * (j : Int))), (0, .ref b), (1, .ref (ad 4)), (2, .ref (am 0)), (3, .ref ao)]) X dL_law_415 (by decide) rfl rfl ?_
          refine g_aload_n (t := 418) X dL_law_417 4 rfl rfl ?_
          refine g_aload_n (t := 419) X dL_law_418 2 rfl rfl ?_
          refine g_iload (t := 421) X dL_law_419 1 rfl rfl ?_
          refine g_iconst (t := 422) X dL_law_421 rfl ?_
          refine g_iadd (t := 423) X dL_law_422 rfl ?_
          refine g_sld (t := 424) X hx9 (by omega) (by omega) (by omega) dL_law_423 rfl ?_
          refine g_aload_n (t := 425) X dL_law_424 2 rfl rfl ?_
          refine g_iload (t := 427) X dL_law_425 1 rfl rfl ?_
          refine g_iconst (t := 428) X dL_law_427 rfl ?_
          refine g_iadd (t := 429) X dL_law_428 rfl ?_
          refine g_sld (t := 430) X hx9 (by omega) (by omega) (by omega) dL_law_429 rfl ?_
          refine g_pm lw_pm ?_
          refine g_callV (t := 433) (mc := 0) (ms := 0) (rest := []) X mt_X5_angleAnew q5_114 q5_115 q5_116 0 wM_0 rfl (c_X5_angleAnew hfl hI (sx_rg _ _) (sx_rg _ _)) (by decide) (by omega) (by omega) (Nat.le_of_ble_eq_true rfl) rfl rfl dL_law_430 rfl (k_pu2_0 hA hB1 (fun W9 => ?_))
          show G C K Q _ _ _ _ _ (wM C am Y V W9 0 ++ lwC C ao ad (bv, cp, bt, cnt, ml) E F Z Y h9 cap g1)
          refine g_istore (t := 435) (lv1 := [(6, vi (angF Y (sx xs (7 * (j : Int) + 1)) (sx xs (7 * (j : Int) + 2)))), (5, vi 0), (4, vi (7 * (j : Int))), (0, .ref b), (1, .ref (ad 4)), (2, .ref (am 0)), (3, .ref ao)]) X dL_law_433 (by decide) rfl rfl ?_
          refine g_aload_n (t := 436) X dL_law_435 5 rfl rfl ?_
          refine g_callV (t := 439) (mc := 0) (ms := 0) (rest := []) X mt_X5_thrown q5_46 q5_47 q5_48 0 wM_0 rfl (c_X5_thrown hfl) (by decide) (by omega) (by omega) (Nat.le_of_ble_eq_true rfl) rfl rfl dL_law_436 rfl (k_rv ?_)
          refine g_pm lw_pm2 ?_
          refine g_iload (t := 441) X dL_law_439 1 rfl rfl ?_
          refine g_icmp_eq (t := 446) (u := 444) X dL_law_441 (by decide) rfl ⟨by omega, by omega⟩ ⟨by omega, by omega⟩ (fun _ => ?_) (fun c => absurd c (by decide))
          refine g_iload (t := 448) X dL_law_446 1 rfl rfl ?_
          refine g_if_ne (t := 463) (u := 451) X dL_law_448 (by decide) rfl ⟨by omega, by omega⟩ (fun c => absurd c (by decide)) (fun _ => ?_)
          refine g_aload_n (t := 452) X dL_law_451 6 rfl rfl ?_
          refine g_iconst (t := 453) X dL_law_452 rfl ?_
          refine g_lald (t := 454) X out_at dL_law_453 rfl ?_
          refine g_iload (t := 456) X dL_law_454 0 rfl rfl ?_
          refine g_i2l (t := 457) X dL_law_456 rfl ?_
          refine g_lcmp0 (t := 458) X hg dL_law_457 rfl ?_
          refine g_if_eq (t := 463) (u := 461) X dL_law_458 (by decide) rfl ⟨by omega, by omega⟩ (fun _ => ?_) (fun c => absurd c (by decide))
          refine g_goto (t := 1032) X dL_law_463 (by decide) ?_
          refine g_iinc (t := 1035) (lv1 := [(4, vi ((7 * (j : Int)) + 7)), (6, vi (angF Y (sx xs (7 * (j : Int) + 1)) (sx xs (7 * (j : Int) + 2)))), (5, vi 0), (0, .ref b), (1, .ref (ad 4)), (2, .ref (am 0)), (3, .ref ao)]) X dL_law_1032 2 rfl (by decide) rfl rfl ?_
          refine g_goto (t := 23) X dL_law_1035 (by decide) ?_
          refine g_cs (c1 := 1000 + 400 * (j + 1)) (s1 := 2000 + 800 * (j + 1)) ?_ (by omega) (by omega)
          rw [show 7 * (j : Int) + 7 = 7 * ((j + 1 : Nat) : Int) by omega]
          exact g_lv (ih (j + 1) ad (bv, cp, bt, cnt, ml) E F Z Y V h9 cap g1 W9 0 (by omega) (by omega) rfl hI hB hP hF hS9) [0, 3, 4, 5, 6] rfl
      · show G C K Q _ _ 40 _ [vi 4] _
        refine g_tin (t := 466) (off := 426) (z := 4) X dL_law_40 ⟨by omega, by omega⟩ (by omega) (by omega) rfl (by decide) ?_
        refine g_aload_n (t := 467) X dL_law_466 2 rfl rfl ?_
        refine g_aload_n (t := 468) X dL_law_467 1 rfl rfl ?_
        refine g_iload (t := 470) X dL_law_468 0 rfl rfl ?_
        refine g_iconst (t := 471) X dL_law_470 rfl ?_
        refine g_iadd (t := 472) X dL_law_471 rfl ?_
        refine g_sld (t := 473) X hx9 (by omega) (by omega) (by omega) dL_law_472 rfl ?_
        refine g_aload_n (t := 474) X dL_law_473 1 rfl rfl ?_
        refine g_iload (t := 476) X dL_law_474 0 rfl rfl ?_
        refine g_iconst (t := 477) X dL_law_476 rfl ?_
        refine g_iadd (t := 478) X dL_law_477 rfl ?_
        refine g_sld (t := 479) X hx9 (by omega) (by omega) (by omega) dL_law_478 rfl ?_
        refine g_aload_n (t := 480) X dL_law_479 1 rfl rfl ?_
        refine g_iload (t := 482) X dL_law_480 0 rfl rfl ?_
        refine g_iconst (t := 483) X dL_law_482 rfl ?_
        refine g_iadd (t := 484) X dL_law_483 rfl ?_
        refine g_sld (t := 485) X hx9 (by omega) (by omega) (by omega) dL_law_484 rfl ?_
        refine g_aload_n (t := 486) X dL_law_485 4 rfl rfl ?_
        refine g_callW (t := 489) (mc := 6) (ms := 40) (rest := []) (n9 := 5) (ret := some .int) X q3_45 q1_0 ⟨by decide +kernel, by decide +kernel⟩ (by decide +kernel) (by decide) q3_43 q3_44 (c_L_where hfl hI hF hP hG (sx_rg _ _) (sx_rg _ _) (sx_rg _ _)) (by decide) (by omega) (by omega) (Nat.le_of_ble_eq_true rfl) rfl rfl dL_law_486 rfl (k_lw (fun hA Z => ?_) (fun hA hB1 Z => ?_) (fun _ _ h _ => absurd trivial h) (fun hA hB1 hD g1 hg w9 hw => ?_))
        · show G C K Q _ _ _ _ _ (lwW C am ao ad (bv, cp, bt, cnt, ml) E F Z Y gs cap g Y V W th)
          refine g_istore (t := 491) (lv1 := [(5, vi 1), (4, vi (7 * (j : Int))), (0, .ref b), (1, .ref (ad 4)), (2, .ref (am 0)), (3, .ref ao)]) X dL_law_489 (by decide) rfl rfl ?_
          refine g_aload_n (t := 492) X dL_law_491 4 rfl rfl ?_
          refine g_aload_n (t := 493) X dL_law_492 2 rfl rfl ?_
          refine g_iload (t := 495) X dL_law_493 1 rfl rfl ?_
          refine g_iconst (t := 496) X dL_law_495 rfl ?_
          refine g_iadd (t := 497) X dL_law_496 rfl ?_
          refine g_sld (t := 498) X hx9 (by omega) (by omega) (by omega) dL_law_497 rfl ?_
          refine g_aload_n (t := 499) X dL_law_498 2 rfl rfl ?_
          refine g_iload (t := 501) X dL_law_499 1 rfl rfl ?_
          refine g_iconst (t := 502) X dL_law_501 rfl ?_
          refine g_iadd (t := 503) X dL_law_502 rfl ?_
          refine g_sld (t := 504) X hx9 (by omega) (by omega) (by omega) dL_law_503 rfl ?_
          refine g_aload_n (t := 505) X dL_law_504 2 rfl rfl ?_
          refine g_iload (t := 507) X dL_law_505 1 rfl rfl ?_
          refine g_iconst (t := 508) X dL_law_507 rfl ?_
          refine g_iadd (t := 509) X dL_law_508 rfl ?_
          refine g_sld (t := 510) X hx9 (by omega) (by omega) (by omega) dL_law_509 rfl ?_
          refine g_pm lw_pm ?_
          refine g_callV (t := 513) (mc := 0) (ms := 0) (rest := []) X mt_X5_where q5_118 q5_119 q5_120 0 wM_0 rfl (c_X5_where hfl hI (sx_rg _ _) (sx_rg _ _) (sx_rg _ _)) (by decide) (by omega) (by omega) (Nat.le_of_ble_eq_true rfl) rfl rfl dL_law_510 rfl (k_pu2_1 hA (fun z9 W9 => ?_))
          show G C K Q _ _ _ _ _ (wM C am Y V W9 1 ++ lwC C ao ad (bv, cp, bt, cnt, ml) E F Z Y gs cap g)
          refine g_istore (t := 515) (lv1 := [(6, vi z9), (5, vi 1), (4, vi (7 * (j : Int))), (0, .ref b), (1, .ref (ad 4)), (2, .ref (am 0)), (3, .ref ao)]) X dL_law_513 (by decide) rfl rfl ?_
          refine g_aload_n (t := 516) X dL_law_515 5 rfl rfl ?_
          refine g_callV (t := 519) (mc := 0) (ms := 0) (rest := []) X mt_X5_thrown q5_46 q5_47 q5_48 0 wM_0 rfl (c_X5_thrown hfl) (by decide) (by omega) (by omega) (Nat.le_of_ble_eq_true rfl) rfl rfl dL_law_516 rfl (k_rv ?_)
          refine g_pm lw_pm2 ?_
          refine g_iload (t := 521) X dL_law_519 1 rfl rfl ?_
          refine g_icmp_eq (t := 526) (u := 524) X dL_law_521 (by decide) rfl ⟨by omega, by omega⟩ ⟨by omega, by omega⟩ (fun _ => ?_) (fun c => absurd c (by decide))
          refine g_iload (t := 528) X dL_law_526 1 rfl rfl ?_
          refine g_if_ne (t := 543) (u := 531) X dL_law_528 (by decide) rfl ⟨by omega, by omega⟩ (fun _ => ?_) (fun c => absurd c (by decide))
          refine g_goto (t := 1032) X dL_law_543 (by decide) ?_
          refine g_iinc (t := 1035) (lv1 := [(4, vi ((7 * (j : Int)) + 7)), (6, vi z9), (5, vi 1), (0, .ref b), (1, .ref (ad 4)), (2, .ref (am 0)), (3, .ref ao)]) X dL_law_1032 2 rfl (by decide) rfl rfl ?_
          refine g_goto (t := 23) X dL_law_1035 (by decide) ?_
          refine g_cs (c1 := 1000 + 400 * (j + 1)) (s1 := 2000 + 800 * (j + 1)) ?_ (by omega) (by omega)
          rw [show 7 * (j : Int) + 7 = 7 * ((j + 1 : Nat) : Int) by omega]
          exact g_lv (ih (j + 1) ad (bv, cp, bt, cnt, ml) E F Z Y V gs cap g W9 1 (by omega) (by omega) rfl hI hB hP hF hG) [0, 3, 4, 5, 6] rfl
        · show G C K Q _ _ _ _ _ (lwW C am ao ad (bv, cp, bt, cnt, ml) E F Z Y gs cap g Y V W th)
          refine g_istore (t := 491) (lv1 := [(5, vi 2), (4, vi (7 * (j : Int))), (0, .ref b), (1, .ref (ad 4)), (2, .ref (am 0)), (3, .ref ao)]) X dL_law_489 (by decide) rfl rfl ?_
          refine g_aload_n (t := 492) X dL_law_491 4 rfl rfl ?_
          refine g_aload_n (t := 493) X dL_law_492 2 rfl rfl ?_
          refine g_iload (t := 495) X dL_law_493 1 rfl rfl ?_
          refine g_iconst (t := 496) X dL_law_495 rfl ?_
          refine g_iadd (t := 497) X dL_law_496 rfl ?_
          refine g_sld (t := 498) X hx9 (by omega) (by omega) (by omega) dL_law_497 rfl ?_
          refine g_aload_n (t := 499) X dL_law_498 2 rfl rfl ?_
          refine g_iload (t := 501) X dL_law_499 1 rfl rfl ?_
          refine g_iconst (t := 502) X dL_law_501 rfl ?_
          refine g_iadd (t := 503) X dL_law_502 rfl ?_
          refine g_sld (t := 504) X hx9 (by omega) (by omega) (by omega) dL_law_503 rfl ?_
          refine g_aload_n (t := 505) X dL_law_504 2 rfl rfl ?_
          refine g_iload (t := 507) X dL_law_505 1 rfl rfl ?_
          refine g_iconst (t := 508) X dL_law_507 rfl ?_
          refine g_iadd (t := 509) X dL_law_508 rfl ?_
          refine g_sld (t := 510) X hx9 (by omega) (by omega) (by omega) dL_law_509 rfl ?_
          refine g_pm lw_pm ?_
          refine g_callV (t := 513) (mc := 0) (ms := 0) (rest := []) X mt_X5_where q5_118 q5_119 q5_120 0 wM_0 rfl (c_X5_where hfl hI (sx_rg _ _) (sx_rg _ _) (sx_rg _ _)) (by decide) (by omega) (by omega) (Nat.le_of_ble_eq_true rfl) rfl rfl dL_law_510 rfl (k_pu2_2 hB1 hA (fun z9 W9 => ?_))
          show G C K Q _ _ _ _ _ (wM C am Y V W9 2 ++ lwC C ao ad (bv, cp, bt, cnt, ml) E F Z Y gs cap g)
          refine g_istore (t := 515) (lv1 := [(6, vi z9), (5, vi 2), (4, vi (7 * (j : Int))), (0, .ref b), (1, .ref (ad 4)), (2, .ref (am 0)), (3, .ref ao)]) X dL_law_513 (by decide) rfl rfl ?_
          refine g_aload_n (t := 516) X dL_law_515 5 rfl rfl ?_
          refine g_callV (t := 519) (mc := 0) (ms := 0) (rest := []) X mt_X5_thrown q5_46 q5_47 q5_48 0 wM_0 rfl (c_X5_thrown hfl) (by decide) (by omega) (by omega) (Nat.le_of_ble_eq_true rfl) rfl rfl dL_law_516 rfl (k_rv ?_)
          refine g_pm lw_pm2 ?_
          refine g_iload (t := 521) X dL_law_519 1 rfl rfl ?_
          refine g_icmp_eq (t := 526) (u := 524) X dL_law_521 (by decide) rfl ⟨by omega, by omega⟩ ⟨by omega, by omega⟩ (fun _ => ?_) (fun c => absurd c (by decide))
          refine g_iload (t := 528) X dL_law_526 1 rfl rfl ?_
          refine g_if_ne (t := 543) (u := 531) X dL_law_528 (by decide) rfl ⟨by omega, by omega⟩ (fun _ => ?_) (fun c => absurd c (by decide))
          refine g_goto (t := 1032) X dL_law_543 (by decide) ?_
          refine g_iinc (t := 1035) (lv1 := [(4, vi ((7 * (j : Int)) + 7)), (6, vi z9), (5, vi 2), (0, .ref b), (1, .ref (ad 4)), (2, .ref (am 0)), (3, .ref ao)]) X dL_law_1032 2 rfl (by decide) rfl rfl ?_
          refine g_goto (t := 23) X dL_law_1035 (by decide) ?_
          refine g_cs (c1 := 1000 + 400 * (j + 1)) (s1 := 2000 + 800 * (j + 1)) ?_ (by omega) (by omega)
          rw [show 7 * (j : Int) + 7 = 7 * ((j + 1 : Nat) : Int) by omega]
          exact g_lv (ih (j + 1) ad (bv, cp, bt, cnt, ml) E F Z Y V gs cap g W9 2 (by omega) (by omega) rfl hI hB hP hF hG) [0, 3, 4, 5, 6] rfl
        · obtain ⟨Z, h9, hS9, rfl⟩ := hw
          show G C K Q _ _ _ _ _ (lwW C am ao ad (bv, cp, bt, cnt, ml) E F Z Y h9 cap g1 Y V W th)
          refine g_istore (t := 491) (lv1 := [(5, vi 0), (4, vi (7 * (j : Int))), (0, .ref b), (1, .ref (ad 4)), (2, .ref (am 0)), (3, .ref ao)]) X dL_law_489 (by decide) rfl rfl ?_
          refine g_aload_n (t := 492) X dL_law_491 4 rfl rfl ?_
          refine g_aload_n (t := 493) X dL_law_492 2 rfl rfl ?_
          refine g_iload (t := 495) X dL_law_493 1 rfl rfl ?_
          refine g_iconst (t := 496) X dL_law_495 rfl ?_
          refine g_iadd (t := 497) X dL_law_496 rfl ?_
          refine g_sld (t := 498) X hx9 (by omega) (by omega) (by omega) dL_law_497 rfl ?_
          refine g_aload_n (t := 499) X dL_law_498 2 rfl rfl ?_
          refine g_iload (t := 501) X dL_law_499 1 rfl rfl ?_
          refine g_iconst (t := 502) X dL_law_501 rfl ?_
          refine g_iadd (t := 503) X dL_law_502 rfl ?_
          refine g_sld (t := 504) X hx9 (by omega) (by omega) (by omega) dL_law_503 rfl ?_
          refine g_aload_n (t := 505) X dL_law_504 2 rfl rfl ?_
          refine g_iload (t := 507) X dL_law_505 1 rfl rfl ?_
          refine g_iconst (t := 508) X dL_law_507 rfl ?_
          refine g_iadd (t := 509) X dL_law_508 rfl ?_
          refine g_sld (t := 510) X hx9 (by omega) (by omega) (by omega) dL_law_509 rfl ?_
          refine g_pm lw_pm ?_
          refine g_callV (t := 513) (mc := 0) (ms := 0) (rest := []) X mt_X5_where q5_118 q5_119 q5_120 0 wM_0 rfl (c_X5_where hfl hI (sx_rg _ _) (sx_rg _ _) (sx_rg _ _)) (by decide) (by omega) (by omega) (Nat.le_of_ble_eq_true rfl) rfl rfl dL_law_510 rfl (k_pu2_0 hA hB1 (fun W9 => ?_))
          show G C K Q _ _ _ _ _ (wM C am Y V W9 0 ++ lwC C ao ad (bv, cp, bt, cnt, ml) E F Z Y h9 cap g1)
          refine g_istore (t := 515) (lv1 := [(6, vi (if sx xs (7 * (j : Int) + 3) = 0 then riseF Y (sx xs (7 * (j : Int) + 1)) (sx xs (7 * (j : Int) + 2)) else if sx xs (7 * (j : Int) + 3) = 1 then lowF Y (sx xs (7 * (j : Int) + 1)) (sx xs (7 * (j : Int) + 2)) else highF Y (sx xs (7 * (j : Int) + 1)) (sx xs (7 * (j : Int) + 2)))), (5, vi 0), (4, vi (7 * (j : Int))), (0, .ref b), (1, .ref (ad 4)), (2, .ref (am 0)), (3, .ref ao)]) X dL_law_513 (by decide) rfl rfl ?_
          refine g_aload_n (t := 516) X dL_law_515 5 rfl rfl ?_
          refine g_callV (t := 519) (mc := 0) (ms := 0) (rest := []) X mt_X5_thrown q5_46 q5_47 q5_48 0 wM_0 rfl (c_X5_thrown hfl) (by decide) (by omega) (by omega) (Nat.le_of_ble_eq_true rfl) rfl rfl dL_law_516 rfl (k_rv ?_)
          refine g_pm lw_pm2 ?_
          refine g_iload (t := 521) X dL_law_519 1 rfl rfl ?_
          refine g_icmp_eq (t := 526) (u := 524) X dL_law_521 (by decide) rfl ⟨by omega, by omega⟩ ⟨by omega, by omega⟩ (fun _ => ?_) (fun c => absurd c (by decide))
          refine g_iload (t := 528) X dL_law_526 1 rfl rfl ?_
          refine g_if_ne (t := 543) (u := 531) X dL_law_528 (by decide) rfl ⟨by omega, by omega⟩ (fun c => absurd c (by decide)) (fun _ => ?_)
          refine g_aload_n (t := 532) X dL_law_531 6 rfl rfl ?_
          refine g_iconst (t := 533) X dL_law_532 rfl ?_
          refine g_lald (t := 534) X out_at dL_law_533 rfl ?_
          refine g_iload (t := 536) X dL_law_534 0 rfl rfl ?_
          refine g_i2l (t := 537) X dL_law_536 rfl ?_
          refine g_lcmp0 (t := 538) X hg dL_law_537 rfl ?_
          refine g_if_eq (t := 543) (u := 541) X dL_law_538 (by decide) rfl ⟨by omega, by omega⟩ (fun _ => ?_) (fun c => absurd c (by decide))
          refine g_goto (t := 1032) X dL_law_543 (by decide) ?_
          refine g_iinc (t := 1035) (lv1 := [(4, vi ((7 * (j : Int)) + 7)), (6, vi (if sx xs (7 * (j : Int) + 3) = 0 then riseF Y (sx xs (7 * (j : Int) + 1)) (sx xs (7 * (j : Int) + 2)) else if sx xs (7 * (j : Int) + 3) = 1 then lowF Y (sx xs (7 * (j : Int) + 1)) (sx xs (7 * (j : Int) + 2)) else highF Y (sx xs (7 * (j : Int) + 1)) (sx xs (7 * (j : Int) + 2)))), (5, vi 0), (0, .ref b), (1, .ref (ad 4)), (2, .ref (am 0)), (3, .ref ao)]) X dL_law_1032 2 rfl (by decide) rfl rfl ?_
          refine g_goto (t := 23) X dL_law_1035 (by decide) ?_
          refine g_cs (c1 := 1000 + 400 * (j + 1)) (s1 := 2000 + 800 * (j + 1)) ?_ (by omega) (by omega)
          rw [show 7 * (j : Int) + 7 = 7 * ((j + 1 : Nat) : Int) by omega]
          exact g_lv (ih (j + 1) ad (bv, cp, bt, cnt, ml) E F Z Y V h9 cap g1 W9 0 (by omega) (by omega) rfl hI hB hP hF hS9) [0, 3, 4, 5, 6] rfl
      · show G C K Q _ _ 40 _ [vi 5] _
        refine g_tin (t := 546) (off := 506) (z := 5) X dL_law_40 ⟨by omega, by omega⟩ (by omega) (by omega) rfl (by decide) ?_
        refine g_aload_n (t := 547) X dL_law_546 2 rfl rfl ?_
        refine g_aload_n (t := 548) X dL_law_547 1 rfl rfl ?_
        refine g_iload (t := 550) X dL_law_548 0 rfl rfl ?_
        refine g_iconst (t := 551) X dL_law_550 rfl ?_
        refine g_iadd (t := 552) X dL_law_551 rfl ?_
        refine g_sld (t := 553) X hx9 (by omega) (by omega) (by omega) dL_law_552 rfl ?_
        refine g_aload_n (t := 554) X dL_law_553 1 rfl rfl ?_
        refine g_iload (t := 556) X dL_law_554 0 rfl rfl ?_
        refine g_iconst (t := 557) X dL_law_556 rfl ?_
        refine g_iadd (t := 558) X dL_law_557 rfl ?_
        refine g_sld (t := 559) X hx9 (by omega) (by omega) (by omega) dL_law_558 rfl ?_
        refine g_aload_n (t := 560) X dL_law_559 1 rfl rfl ?_
        refine g_iload (t := 562) X dL_law_560 0 rfl rfl ?_
        refine g_iconst (t := 563) X dL_law_562 rfl ?_
        refine g_iadd (t := 564) X dL_law_563 rfl ?_
        refine g_sld (t := 565) X hx9 (by omega) (by omega) (by omega) dL_law_564 rfl ?_
        refine g_aload_n (t := 566) X dL_law_565 4 rfl rfl ?_
        refine g_callW (t := 569) (mc := 6) (ms := 40) (rest := []) (n9 := 5) (ret := some .int) X q3_64 q1_0 ⟨by decide +kernel, by decide +kernel⟩ (by decide +kernel) (by decide) q3_62 q3_63 (c_L_meet hfl hI hF hP hG (sx_rg _ _) (sx_rg _ _) (sx_rg _ _)) (by decide) (by omega) (by omega) (Nat.le_of_ble_eq_true rfl) rfl rfl dL_law_566 rfl (k_lw (fun hA Z => ?_) (fun hA hB1 Z => ?_) (fun _ _ h _ => absurd trivial h) (fun hA hB1 hD g1 hg w9 hw => ?_))
        · show G C K Q _ _ _ _ _ (lwW C am ao ad (bv, cp, bt, cnt, ml) E F Z Y gs cap g Y V W th)
          refine g_istore (t := 571) (lv1 := [(5, vi 1), (4, vi (7 * (j : Int))), (0, .ref b), (1, .ref (ad 4)), (2, .ref (am 0)), (3, .ref ao)]) X dL_law_569 (by decide) rfl rfl ?_
          refine g_aload_n (t := 572) X dL_law_571 4 rfl rfl ?_
          refine g_aload_n (t := 573) X dL_law_572 2 rfl rfl ?_
          refine g_iload (t := 575) X dL_law_573 1 rfl rfl ?_
          refine g_iconst (t := 576) X dL_law_575 rfl ?_
          refine g_iadd (t := 577) X dL_law_576 rfl ?_
          refine g_sld (t := 578) X hx9 (by omega) (by omega) (by omega) dL_law_577 rfl ?_
          refine g_aload_n (t := 579) X dL_law_578 2 rfl rfl ?_
          refine g_iload (t := 581) X dL_law_579 1 rfl rfl ?_
          refine g_iconst (t := 582) X dL_law_581 rfl ?_
          refine g_iadd (t := 583) X dL_law_582 rfl ?_
          refine g_sld (t := 584) X hx9 (by omega) (by omega) (by omega) dL_law_583 rfl ?_
          refine g_aload_n (t := 585) X dL_law_584 2 rfl rfl ?_
          refine g_iload (t := 587) X dL_law_585 1 rfl rfl ?_
          refine g_iconst (t := 588) X dL_law_587 rfl ?_
          refine g_iadd (t := 589) X dL_law_588 rfl ?_
          refine g_sld (t := 590) X hx9 (by omega) (by omega) (by omega) dL_law_589 rfl ?_
          refine g_pm lw_pm ?_
          refine g_callV (t := 593) (mc := 0) (ms := 0) (rest := []) X mt_X5_meet q5_126 q5_127 q5_128 0 wM_0 rfl (c_X5_meet hfl hI (sx_rg _ _) (sx_rg _ _) (sx_rg _ _)) (by decide) (by omega) (by omega) (Nat.le_of_ble_eq_true rfl) rfl rfl dL_law_590 rfl (k_pu2_1 hA (fun z9 W9 => ?_))
          show G C K Q _ _ _ _ _ (wM C am Y V W9 1 ++ lwC C ao ad (bv, cp, bt, cnt, ml) E F Z Y gs cap g)
          refine g_istore (t := 595) (lv1 := [(6, vi z9), (5, vi 1), (4, vi (7 * (j : Int))), (0, .ref b), (1, .ref (ad 4)), (2, .ref (am 0)), (3, .ref ao)]) X dL_law_593 (by decide) rfl rfl ?_
          refine g_aload_n (t := 596) X dL_law_595 5 rfl rfl ?_
          refine g_callV (t := 599) (mc := 0) (ms := 0) (rest := []) X mt_X5_thrown q5_46 q5_47 q5_48 0 wM_0 rfl (c_X5_thrown hfl) (by decide) (by omega) (by omega) (Nat.le_of_ble_eq_true rfl) rfl rfl dL_law_596 rfl (k_rv ?_)
          refine g_pm lw_pm2 ?_
          refine g_iload (t := 601) X dL_law_599 1 rfl rfl ?_
          refine g_icmp_eq (t := 606) (u := 604) X dL_law_601 (by decide) rfl ⟨by omega, by omega⟩ ⟨by omega, by omega⟩ (fun _ => ?_) (fun c => absurd c (by decide))
          refine g_iload (t := 608) X dL_law_606 1 rfl rfl ?_
          refine g_if_ne (t := 630) (u := 611) X dL_law_608 (by decide) rfl ⟨by omega, by omega⟩ (fun _ => ?_) (fun c => absurd c (by decide))
          refine g_goto (t := 1032) X dL_law_630 (by decide) ?_
          refine g_iinc (t := 1035) (lv1 := [(4, vi ((7 * (j : Int)) + 7)), (6, vi z9), (5, vi 1), (0, .ref b), (1, .ref (ad 4)), (2, .ref (am 0)), (3, .ref ao)]) X dL_law_1032 2 rfl (by decide) rfl rfl ?_
          refine g_goto (t := 23) X dL_law_1035 (by decide) ?_
          refine g_cs (c1 := 1000 + 400 * (j + 1)) (s1 := 2000 + 800 * (j + 1)) ?_ (by omega) (by omega)
          rw [show 7 * (j : Int) + 7 = 7 * ((j + 1 : Nat) : Int) by omega]
          exact g_lv (ih (j + 1) ad (bv, cp, bt, cnt, ml) E F Z Y V gs cap g W9 1 (by omega) (by omega) rfl hI hB hP hF hG) [0, 3, 4, 5, 6] rfl
        · show G C K Q _ _ _ _ _ (lwW C am ao ad (bv, cp, bt, cnt, ml) E F Z Y gs cap g Y V W th)
          refine g_istore (t := 571) (lv1 := [(5, vi 2), (4, vi (7 * (j : Int))), (0, .ref b), (1, .ref (ad 4)), (2, .ref (am 0)), (3, .ref ao)]) X dL_law_569 (by decide) rfl rfl ?_
          refine g_aload_n (t := 572) X dL_law_571 4 rfl rfl ?_
          refine g_aload_n (t := 573) X dL_law_572 2 rfl rfl ?_
          refine g_iload (t := 575) X dL_law_573 1 rfl rfl ?_
          refine g_iconst (t := 576) X dL_law_575 rfl ?_
          refine g_iadd (t := 577) X dL_law_576 rfl ?_
          refine g_sld (t := 578) X hx9 (by omega) (by omega) (by omega) dL_law_577 rfl ?_
          refine g_aload_n (t := 579) X dL_law_578 2 rfl rfl ?_
          refine g_iload (t := 581) X dL_law_579 1 rfl rfl ?_
          refine g_iconst (t := 582) X dL_law_581 rfl ?_
          refine g_iadd (t := 583) X dL_law_582 rfl ?_
          refine g_sld (t := 584) X hx9 (by omega) (by omega) (by omega) dL_law_583 rfl ?_
          refine g_aload_n (t := 585) X dL_law_584 2 rfl rfl ?_
          refine g_iload (t := 587) X dL_law_585 1 rfl rfl ?_
          refine g_iconst (t := 588) X dL_law_587 rfl ?_
          refine g_iadd (t := 589) X dL_law_588 rfl ?_
          refine g_sld (t := 590) X hx9 (by omega) (by omega) (by omega) dL_law_589 rfl ?_
          refine g_pm lw_pm ?_
          refine g_callV (t := 593) (mc := 0) (ms := 0) (rest := []) X mt_X5_meet q5_126 q5_127 q5_128 0 wM_0 rfl (c_X5_meet hfl hI (sx_rg _ _) (sx_rg _ _) (sx_rg _ _)) (by decide) (by omega) (by omega) (Nat.le_of_ble_eq_true rfl) rfl rfl dL_law_590 rfl (k_pu2_2 hB1 hA (fun z9 W9 => ?_))
          show G C K Q _ _ _ _ _ (wM C am Y V W9 2 ++ lwC C ao ad (bv, cp, bt, cnt, ml) E F Z Y gs cap g)
          refine g_istore (t := 595) (lv1 := [(6, vi z9), (5, vi 2), (4, vi (7 * (j : Int))), (0, .ref b), (1, .ref (ad 4)), (2, .ref (am 0)), (3, .ref ao)]) X dL_law_593 (by decide) rfl rfl ?_
          refine g_aload_n (t := 596) X dL_law_595 5 rfl rfl ?_
          refine g_callV (t := 599) (mc := 0) (ms := 0) (rest := []) X mt_X5_thrown q5_46 q5_47 q5_48 0 wM_0 rfl (c_X5_thrown hfl) (by decide) (by omega) (by omega) (Nat.le_of_ble_eq_true rfl) rfl rfl dL_law_596 rfl (k_rv ?_)
          refine g_pm lw_pm2 ?_
          refine g_iload (t := 601) X dL_law_599 1 rfl rfl ?_
          refine g_icmp_eq (t := 606) (u := 604) X dL_law_601 (by decide) rfl ⟨by omega, by omega⟩ ⟨by omega, by omega⟩ (fun _ => ?_) (fun c => absurd c (by decide))
          refine g_iload (t := 608) X dL_law_606 1 rfl rfl ?_
          refine g_if_ne (t := 630) (u := 611) X dL_law_608 (by decide) rfl ⟨by omega, by omega⟩ (fun _ => ?_) (fun c => absurd c (by decide))
          refine g_goto (t := 1032) X dL_law_630 (by decide) ?_
          refine g_iinc (t := 1035) (lv1 := [(4, vi ((7 * (j : Int)) + 7)), (6, vi z9), (5, vi 2), (0, .ref b), (1, .ref (ad 4)), (2, .ref (am 0)), (3, .ref ao)]) X dL_law_1032 2 rfl (by decide) rfl rfl ?_
          refine g_goto (t := 23) X dL_law_1035 (by decide) ?_
          refine g_cs (c1 := 1000 + 400 * (j + 1)) (s1 := 2000 + 800 * (j + 1)) ?_ (by omega) (by omega)
          rw [show 7 * (j : Int) + 7 = 7 * ((j + 1 : Nat) : Int) by omega]
          exact g_lv (ih (j + 1) ad (bv, cp, bt, cnt, ml) E F Z Y V gs cap g W9 2 (by omega) (by omega) rfl hI hB hP hF hG) [0, 3, 4, 5, 6] rfl
        · obtain ⟨Z, h9, hS9, rfl⟩ := hw
          show G C K Q _ _ _ _ _ (lwW C am ao ad (bv, cp, bt, cnt, ml) E F Z Y h9 cap g1 Y V W th)
          refine g_istore (t := 571) (lv1 := [(5, vi 0), (4, vi (7 * (j : Int))), (0, .ref b), (1, .ref (ad 4)), (2, .ref (am 0)), (3, .ref ao)]) X dL_law_569 (by decide) rfl rfl ?_
          refine g_aload_n (t := 572) X dL_law_571 4 rfl rfl ?_
          refine g_aload_n (t := 573) X dL_law_572 2 rfl rfl ?_
          refine g_iload (t := 575) X dL_law_573 1 rfl rfl ?_
          refine g_iconst (t := 576) X dL_law_575 rfl ?_
          refine g_iadd (t := 577) X dL_law_576 rfl ?_
          refine g_sld (t := 578) X hx9 (by omega) (by omega) (by omega) dL_law_577 rfl ?_
          refine g_aload_n (t := 579) X dL_law_578 2 rfl rfl ?_
          refine g_iload (t := 581) X dL_law_579 1 rfl rfl ?_
          refine g_iconst (t := 582) X dL_law_581 rfl ?_
          refine g_iadd (t := 583) X dL_law_582 rfl ?_
          refine g_sld (t := 584) X hx9 (by omega) (by omega) (by omega) dL_law_583 rfl ?_
          refine g_aload_n (t := 585) X dL_law_584 2 rfl rfl ?_
          refine g_iload (t := 587) X dL_law_585 1 rfl rfl ?_
          refine g_iconst (t := 588) X dL_law_587 rfl ?_
          refine g_iadd (t := 589) X dL_law_588 rfl ?_
          refine g_sld (t := 590) X hx9 (by omega) (by omega) (by omega) dL_law_589 rfl ?_
          refine g_pm lw_pm ?_
          refine g_callV (t := 593) (mc := 0) (ms := 0) (rest := []) X mt_X5_meet q5_126 q5_127 q5_128 0 wM_0 rfl (c_X5_meet hfl hI (sx_rg _ _) (sx_rg _ _) (sx_rg _ _)) (by decide) (by omega) (by omega) (Nat.le_of_ble_eq_true rfl) rfl rfl dL_law_590 rfl (k_pu2_0 hA hB1 (fun W9 => ?_))
          show G C K Q _ _ _ _ _ (wM C am Y V W9 0 ++ lwC C ao ad (bv, cp, bt, cnt, ml) E F Z Y h9 cap g1)
          refine g_istore (t := 595) (lv1 := [(6, vi (bF (meetF Y (sx xs (7 * (j : Int) + 1)) (sx xs (7 * (j : Int) + 2)) (sx xs (7 * (j : Int) + 3))))), (5, vi 0), (4, vi (7 * (j : Int))), (0, .ref b), (1, .ref (ad 4)), (2, .ref (am 0)), (3, .ref ao)]) X dL_law_593 (by decide) rfl rfl ?_
          refine g_aload_n (t := 596) X dL_law_595 5 rfl rfl ?_
          refine g_callV (t := 599) (mc := 0) (ms := 0) (rest := []) X mt_X5_thrown q5_46 q5_47 q5_48 0 wM_0 rfl (c_X5_thrown hfl) (by decide) (by omega) (by omega) (Nat.le_of_ble_eq_true rfl) rfl rfl dL_law_596 rfl (k_rv ?_)
          refine g_pm lw_pm2 ?_
          refine g_iload (t := 601) X dL_law_599 1 rfl rfl ?_
          refine g_icmp_eq (t := 606) (u := 604) X dL_law_601 (by decide) rfl ⟨by omega, by omega⟩ ⟨by omega, by omega⟩ (fun _ => ?_) (fun c => absurd c (by decide))
          refine g_iload (t := 608) X dL_law_606 1 rfl rfl ?_
          refine g_if_ne (t := 630) (u := 611) X dL_law_608 (by decide) rfl ⟨by omega, by omega⟩ (fun c => absurd c (by decide)) (fun _ => ?_)
          refine g_aload_n (t := 612) X dL_law_611 6 rfl rfl ?_
          refine g_iconst (t := 613) X dL_law_612 rfl ?_
          refine g_lald (t := 614) X out_at dL_law_613 rfl ?_
          refine g_iload (t := 616) X dL_law_614 0 rfl rfl ?_
          have hbf := bF_01 (meetF Y (sx xs (7 * (j : Int) + 1)) (sx xs (7 * (j : Int) + 2)) (sx xs (7 * (j : Int) + 3)))
          refine g_if_eq (t := 623) (u := 619) X dL_law_616 (by decide) rfl ⟨by omega, by omega⟩ (fun c_616 => ?_) (fun c_616 => ?_)
          · refine g_lconst (t := 624) (n := 0) X dL_law_623 rfl ?_
            refine g_lcmp0 (t := 625) X (by rw [hg]; rcases bF_01 (meetF Y (sx xs (7 * (j : Int) + 1)) (sx xs (7 * (j : Int) + 2)) (sx xs (7 * (j : Int) + 3))) with h | h <;> first | omega | (rw [h]; decide)) dL_law_624 rfl ?_
            refine g_if_eq (t := 630) (u := 628) X dL_law_625 (by decide) rfl ⟨by omega, by omega⟩ (fun _ => ?_) (fun c => absurd c (by decide))
            refine g_goto (t := 1032) X dL_law_630 (by decide) ?_
            refine g_iinc (t := 1035) (lv1 := [(4, vi ((7 * (j : Int)) + 7)), (6, vi (bF (meetF Y (sx xs (7 * (j : Int) + 1)) (sx xs (7 * (j : Int) + 2)) (sx xs (7 * (j : Int) + 3))))), (5, vi 0), (0, .ref b), (1, .ref (ad 4)), (2, .ref (am 0)), (3, .ref ao)]) X dL_law_1032 2 rfl (by decide) rfl rfl ?_
            refine g_goto (t := 23) X dL_law_1035 (by decide) ?_
            refine g_cs (c1 := 1000 + 400 * (j + 1)) (s1 := 2000 + 800 * (j + 1)) ?_ (by omega) (by omega)
            rw [show 7 * (j : Int) + 7 = 7 * ((j + 1 : Nat) : Int) by omega]
            exact g_lv (ih (j + 1) ad (bv, cp, bt, cnt, ml) E F Z Y V h9 cap g1 W9 0 (by omega) (by omega) rfl hI hB hP hF hS9) [0, 3, 4, 5, 6] rfl
          · refine g_lconst (t := 620) (n := 1) X dL_law_619 rfl ?_
            refine g_goto (t := 624) X dL_law_620 (by decide) ?_
            refine g_lcmp0 (t := 625) X (by rw [hg]; rcases bF_01 (meetF Y (sx xs (7 * (j : Int) + 1)) (sx xs (7 * (j : Int) + 2)) (sx xs (7 * (j : Int) + 3))) with h | h <;> first | omega | (rw [h]; decide)) dL_law_624 rfl ?_
            refine g_if_eq (t := 630) (u := 628) X dL_law_625 (by decide) rfl ⟨by omega, by omega⟩ (fun _ => ?_) (fun c => absurd c (by decide))
            refine g_goto (t := 1032) X dL_law_630 (by decide) ?_
            refine g_iinc (t := 1035) (lv1 := [(4, vi ((7 * (j : Int)) + 7)), (6, vi (bF (meetF Y (sx xs (7 * (j : Int) + 1)) (sx xs (7 * (j : Int) + 2)) (sx xs (7 * (j : Int) + 3))))), (5, vi 0), (0, .ref b), (1, .ref (ad 4)), (2, .ref (am 0)), (3, .ref ao)]) X dL_law_1032 2 rfl (by decide) rfl rfl ?_
            refine g_goto (t := 23) X dL_law_1035 (by decide) ?_
            refine g_cs (c1 := 1000 + 400 * (j + 1)) (s1 := 2000 + 800 * (j + 1)) ?_ (by omega) (by omega)
            rw [show 7 * (j : Int) + 7 = 7 * ((j + 1 : Nat) : Int) by omega]
            exact g_lv (ih (j + 1) ad (bv, cp, bt, cnt, ml) E F Z Y V h9 cap g1 W9 0 (by omega) (by omega) rfl hI hB hP hF hS9) [0, 3, 4, 5, 6] rfl
      · show G C K Q _ _ 40 _ [vi 6] _
        refine g_tin (t := 633) (off := 593) (z := 6) X dL_law_40 ⟨by omega, by omega⟩ (by omega) (by omega) rfl (by decide) ?_
        refine g_aload_n (t := 634) X dL_law_633 2 rfl rfl ?_
        refine g_callV (t := 637) (mc := 0) (ms := 0) (rest := []) X mt_X4_test q1_202 q1_203 q1_204 4 WW_4 rfl (c_X4_test hfl hI hF hP.lt) (by decide) (by omega) (by omega) (Nat.le_of_ble_eq_true rfl) rfl rfl dL_law_634 rfl (k_ex (fun Z hT => ?_))
        have ht9 := test_rg hT
        have hu9 : testF Y < 2147483648 := by rcases hT with ⟨h, _⟩ | ⟨j9, p9, h1, h2, h3, h4, h5, _⟩ <;> omega
        show G C K Q _ _ _ _ _ (lwW C am ao ad (bv, cp, bt, cnt, ml) E F Z Y gs cap g Y V W th)
        refine g_aload_n (t := 638) X dL_law_637 3 rfl rfl ?_
        refine g_pm lw_pm ?_
        refine g_callV (t := 641) (mc := 0) (ms := 0) (rest := [vi (testF Y)]) X mt_X5_test q5_130 q5_131 q5_132 0 wM_0 rfl (c_X5_test hfl hI) (by decide) (by omega) (by omega) (Nat.le_of_ble_eq_true rfl) rfl rfl dL_law_638 rfl (k_rw (fun W9 => ?_))
        show G C K Q _ _ _ _ _ (wM C am Y V W9 0 ++ lwC C ao ad (bv, cp, bt, cnt, ml) E F Z Y gs cap g)
        refine g_pm lw_pm2 ?_
        refine g_icmp_eq (t := 1032) (u := 644) X dL_law_641 (by decide) rfl ⟨by omega, by omega⟩ ⟨by omega, by omega⟩ (fun c_641 => ?_) (fun c_641 => absurd rfl c_641)
        refine g_iinc (t := 1035) (lv1 := [(4, vi ((7 * (j : Int)) + 7)), (0, .ref b), (1, .ref (ad 4)), (2, .ref (am 0)), (3, .ref ao)]) X dL_law_1032 0 rfl (by decide) rfl rfl ?_
        refine g_goto (t := 23) X dL_law_1035 (by decide) ?_
        refine g_cs (c1 := 1000 + 400 * (j + 1)) (s1 := 2000 + 800 * (j + 1)) ?_ (by omega) (by omega)
        rw [show 7 * (j : Int) + 7 = 7 * ((j + 1 : Nat) : Int) by omega]
        exact g_lv (ih (j + 1) ad (bv, cp, bt, cnt, ml) E F Z Y V gs cap g W9 0 (by omega) (by omega) rfl hI hB hP hF hG) [0, 1, 2, 3, 4] rfl
      · show G C K Q _ _ 40 _ [vi 7] _
        refine g_tin (t := 646) (off := 606) (z := 7) X dL_law_40 ⟨by omega, by omega⟩ (by omega) (by omega) rfl (by decide) ?_
        refine g_aload_n (t := 647) X dL_law_646 2 rfl rfl ?_
        refine g_callV (t := 650) (mc := 0) (ms := 0) (rest := []) X mt_X4_sheets q2_35 q2_36 q2_37 4 WW_4 rfl (c_X4_sheets hfl V hI hF hP.lt hG) (by decide) (by omega) (by omega) (Nat.le_of_ble_eq_true rfl) rfl rfl dL_law_647 rfl (k_po (fun Z h9 hS9 _ => ?_))
        have hl9 := LI_layN (V := V) hI (Y 10 0).toNat (by have := hI.2.2.1; omega)
        have hl8 := hl9.1.2.1
        have hl7 : 0 ≤ layF Y V 19 0 ∧ layF Y V 19 0 ≤ 16 := by unfold layF; have := hI.2.2.1; have := hl9.2; omega
        show G C K Q _ _ _ _ _ (lwW C am ao ad (bv, cp, bt, cnt, ml) E F Z Y h9 cap g Y V W th)
        refine g_aload_n (t := 651) X dL_law_650 3 rfl rfl ?_
        refine g_pm lw_pm ?_
        refine g_callV (t := 654) (mc := 0) (ms := 0) (rest := [vi (layF Y V 19 0)]) X mt_X5_sheets q5_134 q5_135 q5_136 0 wM_0 rfl (c_X5_sheets hfl hI) (by decide) (by omega) (by omega) (Nat.le_of_ble_eq_true rfl) rfl rfl dL_law_651 rfl (k_rv ?_)
        show G C K Q _ _ _ _ _ (wM C am Y (layF Y V) W 0 ++ lwC C ao ad (bv, cp, bt, cnt, ml) E F Z Y h9 cap g)
        refine g_pm lw_pm2 ?_
        refine g_icmp_eq (t := 1032) (u := 657) X dL_law_654 (by decide) rfl ⟨by omega, by omega⟩ ⟨by omega, by omega⟩ (fun c_654 => ?_) (fun c_654 => absurd rfl c_654)
        refine g_iinc (t := 1035) (lv1 := [(4, vi ((7 * (j : Int)) + 7)), (0, .ref b), (1, .ref (ad 4)), (2, .ref (am 0)), (3, .ref ao)]) X dL_law_1032 0 rfl (by decide) rfl rfl ?_
        refine g_goto (t := 23) X dL_law_1035 (by decide) ?_
        refine g_cs (c1 := 1000 + 400 * (j + 1)) (s1 := 2000 + 800 * (j + 1)) ?_ (by omega) (by omega)
        rw [show 7 * (j : Int) + 7 = 7 * ((j + 1 : Nat) : Int) by omega]
        exact g_lv (ih (j + 1) ad (bv, cp, bt, cnt, ml) E F Z Y (layF Y V) h9 cap g W 0 (by omega) (by omega) rfl hI hB hP hF hS9) [0, 1, 2, 3, 4] rfl
      · show G C K Q _ _ 40 _ [vi 8] _
        refine g_tin (t := 659) (off := 619) (z := 8) X dL_law_40 ⟨by omega, by omega⟩ (by omega) (by omega) rfl (by decide) ?_
        refine g_aload_n (t := 660) X dL_law_659 2 rfl rfl ?_
        refine g_aload_n (t := 661) X dL_law_660 1 rfl rfl ?_
        refine g_iload (t := 663) X dL_law_661 0 rfl rfl ?_
        refine g_iconst (t := 664) X dL_law_663 rfl ?_
        refine g_iadd (t := 665) X dL_law_664 rfl ?_
        refine g_sld (t := 666) X hx9 (by omega) (by omega) (by omega) dL_law_665 rfl ?_
        refine g_aload_n (t := 667) X dL_law_666 1 rfl rfl ?_
        refine g_iload (t := 669) X dL_law_667 0 rfl rfl ?_
        refine g_iconst (t := 670) X dL_law_669 rfl ?_
        refine g_iadd (t := 671) X dL_law_670 rfl ?_
        refine g_sld (t := 672) X hx9 (by omega) (by omega) (by omega) dL_law_671 rfl ?_
        refine g_aload_n (t := 673) X dL_law_672 4 rfl rfl ?_
        refine g_callW (t := 676) (mc := 6) (ms := 40) (rest := []) (n9 := 4) (ret := some .int) X q3_71 q1_0 ⟨by decide +kernel, by decide +kernel⟩ (by decide +kernel) (by decide) q3_69 q3_70 (c_L_laid hfl V hI hF hP hG (sx_rg _ _) (sx_rg _ _)) (by decide) (by omega) (by omega) (Nat.le_of_ble_eq_true rfl) rfl rfl dL_law_673 rfl (k_lw (fun hA Z => ?_) (fun hA hB1 Z => ?_) (fun _ _ h _ => absurd trivial h) (fun hA hB1 hD g1 hg w9 hw => ?_))
        · show G C K Q _ _ _ _ _ (lwW C am ao ad (bv, cp, bt, cnt, ml) E F Z Y gs cap g Y V W th)
          refine g_istore (t := 678) (lv1 := [(5, vi 1), (4, vi (7 * (j : Int))), (0, .ref b), (1, .ref (ad 4)), (2, .ref (am 0)), (3, .ref ao)]) X dL_law_676 (by decide) rfl rfl ?_
          refine g_aload_n (t := 679) X dL_law_678 4 rfl rfl ?_
          refine g_aload_n (t := 680) X dL_law_679 2 rfl rfl ?_
          refine g_iload (t := 682) X dL_law_680 1 rfl rfl ?_
          refine g_iconst (t := 683) X dL_law_682 rfl ?_
          refine g_iadd (t := 684) X dL_law_683 rfl ?_
          refine g_sld (t := 685) X hx9 (by omega) (by omega) (by omega) dL_law_684 rfl ?_
          refine g_aload_n (t := 686) X dL_law_685 2 rfl rfl ?_
          refine g_iload (t := 688) X dL_law_686 1 rfl rfl ?_
          refine g_iconst (t := 689) X dL_law_688 rfl ?_
          refine g_iadd (t := 690) X dL_law_689 rfl ?_
          refine g_sld (t := 691) X hx9 (by omega) (by omega) (by omega) dL_law_690 rfl ?_
          refine g_pm lw_pm ?_
          refine g_callV (t := 694) (mc := 0) (ms := 0) (rest := []) X mt_X5_laid q5_158 q5_159 q5_160 0 wM_0 rfl (c_X5_laid hfl hI (sx_rg _ _) (sx_rg _ _)) (by decide) (by omega) (by omega) (Nat.le_of_ble_eq_true rfl) rfl rfl dL_law_691 rfl (k_pu2_1 hA (fun z9 W9 => ?_))
          show G C K Q _ _ _ _ _ (wM C am Y V W9 1 ++ lwC C ao ad (bv, cp, bt, cnt, ml) E F Z Y gs cap g)
          refine g_istore (t := 696) (lv1 := [(6, vi z9), (5, vi 1), (4, vi (7 * (j : Int))), (0, .ref b), (1, .ref (ad 4)), (2, .ref (am 0)), (3, .ref ao)]) X dL_law_694 (by decide) rfl rfl ?_
          refine g_aload_n (t := 697) X dL_law_696 5 rfl rfl ?_
          refine g_callV (t := 700) (mc := 0) (ms := 0) (rest := []) X mt_X5_thrown q5_46 q5_47 q5_48 0 wM_0 rfl (c_X5_thrown hfl) (by decide) (by omega) (by omega) (Nat.le_of_ble_eq_true rfl) rfl rfl dL_law_697 rfl (k_rv ?_)
          refine g_pm lw_pm2 ?_
          refine g_iload (t := 702) X dL_law_700 1 rfl rfl ?_
          refine g_icmp_eq (t := 707) (u := 705) X dL_law_702 (by decide) rfl ⟨by omega, by omega⟩ ⟨by omega, by omega⟩ (fun _ => ?_) (fun c => absurd c (by decide))
          refine g_iload (t := 709) X dL_law_707 1 rfl rfl ?_
          refine g_if_ne (t := 724) (u := 712) X dL_law_709 (by decide) rfl ⟨by omega, by omega⟩ (fun _ => ?_) (fun c => absurd c (by decide))
          refine g_goto (t := 1032) X dL_law_724 (by decide) ?_
          refine g_iinc (t := 1035) (lv1 := [(4, vi ((7 * (j : Int)) + 7)), (6, vi z9), (5, vi 1), (0, .ref b), (1, .ref (ad 4)), (2, .ref (am 0)), (3, .ref ao)]) X dL_law_1032 2 rfl (by decide) rfl rfl ?_
          refine g_goto (t := 23) X dL_law_1035 (by decide) ?_
          refine g_cs (c1 := 1000 + 400 * (j + 1)) (s1 := 2000 + 800 * (j + 1)) ?_ (by omega) (by omega)
          rw [show 7 * (j : Int) + 7 = 7 * ((j + 1 : Nat) : Int) by omega]
          exact g_lv (ih (j + 1) ad (bv, cp, bt, cnt, ml) E F Z Y V gs cap g W9 1 (by omega) (by omega) rfl hI hB hP hF hG) [0, 3, 4, 5, 6] rfl
        · show G C K Q _ _ _ _ _ (lwW C am ao ad (bv, cp, bt, cnt, ml) E F Z Y gs cap g Y V W th)
          refine g_istore (t := 678) (lv1 := [(5, vi 2), (4, vi (7 * (j : Int))), (0, .ref b), (1, .ref (ad 4)), (2, .ref (am 0)), (3, .ref ao)]) X dL_law_676 (by decide) rfl rfl ?_
          refine g_aload_n (t := 679) X dL_law_678 4 rfl rfl ?_
          refine g_aload_n (t := 680) X dL_law_679 2 rfl rfl ?_
          refine g_iload (t := 682) X dL_law_680 1 rfl rfl ?_
          refine g_iconst (t := 683) X dL_law_682 rfl ?_
          refine g_iadd (t := 684) X dL_law_683 rfl ?_
          refine g_sld (t := 685) X hx9 (by omega) (by omega) (by omega) dL_law_684 rfl ?_
          refine g_aload_n (t := 686) X dL_law_685 2 rfl rfl ?_
          refine g_iload (t := 688) X dL_law_686 1 rfl rfl ?_
          refine g_iconst (t := 689) X dL_law_688 rfl ?_
          refine g_iadd (t := 690) X dL_law_689 rfl ?_
          refine g_sld (t := 691) X hx9 (by omega) (by omega) (by omega) dL_law_690 rfl ?_
          refine g_pm lw_pm ?_
          refine g_callV (t := 694) (mc := 0) (ms := 0) (rest := []) X mt_X5_laid q5_158 q5_159 q5_160 0 wM_0 rfl (c_X5_laid hfl hI (sx_rg _ _) (sx_rg _ _)) (by decide) (by omega) (by omega) (Nat.le_of_ble_eq_true rfl) rfl rfl dL_law_691 rfl (k_pu2_2 hB1 hA (fun z9 W9 => ?_))
          show G C K Q _ _ _ _ _ (wM C am Y V W9 2 ++ lwC C ao ad (bv, cp, bt, cnt, ml) E F Z Y gs cap g)
          refine g_istore (t := 696) (lv1 := [(6, vi z9), (5, vi 2), (4, vi (7 * (j : Int))), (0, .ref b), (1, .ref (ad 4)), (2, .ref (am 0)), (3, .ref ao)]) X dL_law_694 (by decide) rfl rfl ?_
          refine g_aload_n (t := 697) X dL_law_696 5 rfl rfl ?_
          refine g_callV (t := 700) (mc := 0) (ms := 0) (rest := []) X mt_X5_thrown q5_46 q5_47 q5_48 0 wM_0 rfl (c_X5_thrown hfl) (by decide) (by omega) (by omega) (Nat.le_of_ble_eq_true rfl) rfl rfl dL_law_697 rfl (k_rv ?_)
          refine g_pm lw_pm2 ?_
          refine g_iload (t := 702) X dL_law_700 1 rfl rfl ?_
          refine g_icmp_eq (t := 707) (u := 705) X dL_law_702 (by decide) rfl ⟨by omega, by omega⟩ ⟨by omega, by omega⟩ (fun _ => ?_) (fun c => absurd c (by decide))
          refine g_iload (t := 709) X dL_law_707 1 rfl rfl ?_
          refine g_if_ne (t := 724) (u := 712) X dL_law_709 (by decide) rfl ⟨by omega, by omega⟩ (fun _ => ?_) (fun c => absurd c (by decide))
          refine g_goto (t := 1032) X dL_law_724 (by decide) ?_
          refine g_iinc (t := 1035) (lv1 := [(4, vi ((7 * (j : Int)) + 7)), (6, vi z9), (5, vi 2), (0, .ref b), (1, .ref (ad 4)), (2, .ref (am 0)), (3, .ref ao)]) X dL_law_1032 2 rfl (by decide) rfl rfl ?_
          refine g_goto (t := 23) X dL_law_1035 (by decide) ?_
          refine g_cs (c1 := 1000 + 400 * (j + 1)) (s1 := 2000 + 800 * (j + 1)) ?_ (by omega) (by omega)
          rw [show 7 * (j : Int) + 7 = 7 * ((j + 1 : Nat) : Int) by omega]
          exact g_lv (ih (j + 1) ad (bv, cp, bt, cnt, ml) E F Z Y V gs cap g W9 2 (by omega) (by omega) rfl hI hB hP hF hG) [0, 3, 4, 5, 6] rfl
        · obtain ⟨Z, h9, hS9, rfl⟩ := hw
          show G C K Q _ _ _ _ _ (lwW C am ao ad (bv, cp, bt, cnt, ml) E F Z Y h9 cap g1 Y V W th)
          refine g_istore (t := 678) (lv1 := [(5, vi 0), (4, vi (7 * (j : Int))), (0, .ref b), (1, .ref (ad 4)), (2, .ref (am 0)), (3, .ref ao)]) X dL_law_676 (by decide) rfl rfl ?_
          refine g_aload_n (t := 679) X dL_law_678 4 rfl rfl ?_
          refine g_aload_n (t := 680) X dL_law_679 2 rfl rfl ?_
          refine g_iload (t := 682) X dL_law_680 1 rfl rfl ?_
          refine g_iconst (t := 683) X dL_law_682 rfl ?_
          refine g_iadd (t := 684) X dL_law_683 rfl ?_
          refine g_sld (t := 685) X hx9 (by omega) (by omega) (by omega) dL_law_684 rfl ?_
          refine g_aload_n (t := 686) X dL_law_685 2 rfl rfl ?_
          refine g_iload (t := 688) X dL_law_686 1 rfl rfl ?_
          refine g_iconst (t := 689) X dL_law_688 rfl ?_
          refine g_iadd (t := 690) X dL_law_689 rfl ?_
          refine g_sld (t := 691) X hx9 (by omega) (by omega) (by omega) dL_law_690 rfl ?_
          refine g_pm lw_pm ?_
          refine g_callV (t := 694) (mc := 0) (ms := 0) (rest := []) X mt_X5_laid q5_158 q5_159 q5_160 0 wM_0 rfl (c_X5_laid hfl hI (sx_rg _ _) (sx_rg _ _)) (by decide) (by omega) (by omega) (Nat.le_of_ble_eq_true rfl) rfl rfl dL_law_691 rfl (k_pu2_0 hA hB1 (fun W9 => ?_))
          show G C K Q _ _ _ _ _ (wM C am Y (layF Y V) W9 0 ++ lwC C ao ad (bv, cp, bt, cnt, ml) E F Z Y h9 cap g1)
          refine g_istore (t := 696) (lv1 := [(6, vi (if sx xs (7 * (j : Int) + 2) = 0 then layF Y V 20 (sx xs (7 * (j : Int) + 1)) else if sx xs (7 * (j : Int) + 2) = 1 then layF Y V 21 (sx xs (7 * (j : Int) + 1)) else layF Y V 22 (sx xs (7 * (j : Int) + 1)))), (5, vi 0), (4, vi (7 * (j : Int))), (0, .ref b), (1, .ref (ad 4)), (2, .ref (am 0)), (3, .ref ao)]) X dL_law_694 (by decide) rfl rfl ?_
          refine g_aload_n (t := 697) X dL_law_696 5 rfl rfl ?_
          refine g_callV (t := 700) (mc := 0) (ms := 0) (rest := []) X mt_X5_thrown q5_46 q5_47 q5_48 0 wM_0 rfl (c_X5_thrown hfl) (by decide) (by omega) (by omega) (Nat.le_of_ble_eq_true rfl) rfl rfl dL_law_697 rfl (k_rv ?_)
          refine g_pm lw_pm2 ?_
          refine g_iload (t := 702) X dL_law_700 1 rfl rfl ?_
          refine g_icmp_eq (t := 707) (u := 705) X dL_law_702 (by decide) rfl ⟨by omega, by omega⟩ ⟨by omega, by omega⟩ (fun _ => ?_) (fun c => absurd c (by decide))
          refine g_iload (t := 709) X dL_law_707 1 rfl rfl ?_
          refine g_if_ne (t := 724) (u := 712) X dL_law_709 (by decide) rfl ⟨by omega, by omega⟩ (fun c => absurd c (by decide)) (fun _ => ?_)
          refine g_aload_n (t := 713) X dL_law_712 6 rfl rfl ?_
          refine g_iconst (t := 714) X dL_law_713 rfl ?_
          refine g_lald (t := 715) X out_at dL_law_714 rfl ?_
          refine g_iload (t := 717) X dL_law_715 0 rfl rfl ?_
          refine g_i2l (t := 718) X dL_law_717 rfl ?_
          refine g_lcmp0 (t := 719) X hg dL_law_718 rfl ?_
          refine g_if_eq (t := 724) (u := 722) X dL_law_719 (by decide) rfl ⟨by omega, by omega⟩ (fun _ => ?_) (fun c => absurd c (by decide))
          refine g_goto (t := 1032) X dL_law_724 (by decide) ?_
          refine g_iinc (t := 1035) (lv1 := [(4, vi ((7 * (j : Int)) + 7)), (6, vi (if sx xs (7 * (j : Int) + 2) = 0 then layF Y V 20 (sx xs (7 * (j : Int) + 1)) else if sx xs (7 * (j : Int) + 2) = 1 then layF Y V 21 (sx xs (7 * (j : Int) + 1)) else layF Y V 22 (sx xs (7 * (j : Int) + 1)))), (5, vi 0), (0, .ref b), (1, .ref (ad 4)), (2, .ref (am 0)), (3, .ref ao)]) X dL_law_1032 2 rfl (by decide) rfl rfl ?_
          refine g_goto (t := 23) X dL_law_1035 (by decide) ?_
          refine g_cs (c1 := 1000 + 400 * (j + 1)) (s1 := 2000 + 800 * (j + 1)) ?_ (by omega) (by omega)
          rw [show 7 * (j : Int) + 7 = 7 * ((j + 1 : Nat) : Int) by omega]
          exact g_lv (ih (j + 1) ad (bv, cp, bt, cnt, ml) E F Z Y (layF Y V) h9 cap g1 W9 0 (by omega) (by omega) rfl hI hB hP hF hS9) [0, 3, 4, 5, 6] rfl
      · show G C K Q _ _ 40 _ [vi 9] _
        refine g_tin (t := 727) (off := 687) (z := 9) X dL_law_40 ⟨by omega, by omega⟩ (by omega) (by omega) rfl (by decide) ?_
        refine g_aload_n (t := 728) X dL_law_727 2 rfl rfl ?_
        refine g_aload_n (t := 729) X dL_law_728 1 rfl rfl ?_
        refine g_iload (t := 731) X dL_law_729 0 rfl rfl ?_
        refine g_iconst (t := 732) X dL_law_731 rfl ?_
        refine g_iadd (t := 733) X dL_law_732 rfl ?_
        refine g_sld (t := 734) X hx9 (by omega) (by omega) (by omega) dL_law_733 rfl ?_
        refine g_aload_n (t := 735) X dL_law_734 4 rfl rfl ?_
        refine g_callW (t := 738) (mc := 6) (ms := 40) (rest := []) (n9 := 3) (ret := some .int) X q3_78 q1_0 ⟨by decide +kernel, by decide +kernel⟩ (by decide +kernel) (by decide) q3_76 q3_77 (c_L_glue hfl hI hF hP hG (sx_rg _ _)) (by decide) (by omega) (by omega) (Nat.le_of_ble_eq_true rfl) rfl rfl dL_law_735 rfl (k_lw (fun hA Z => ?_) (fun hA hB1 Z => ?_) (fun _ _ h _ => absurd trivial h) (fun hA hB1 hD g1 hg w9 hw => ?_))
        · show G C K Q _ _ _ _ _ (lwW C am ao ad (bv, cp, bt, cnt, ml) E F Z Y gs cap g Y V W th)
          refine g_istore (t := 740) (lv1 := [(5, vi 1), (4, vi (7 * (j : Int))), (0, .ref b), (1, .ref (ad 4)), (2, .ref (am 0)), (3, .ref ao)]) X dL_law_738 (by decide) rfl rfl ?_
          refine g_aload_n (t := 741) X dL_law_740 4 rfl rfl ?_
          refine g_aload_n (t := 742) X dL_law_741 2 rfl rfl ?_
          refine g_iload (t := 744) X dL_law_742 1 rfl rfl ?_
          refine g_iconst (t := 745) X dL_law_744 rfl ?_
          refine g_iadd (t := 746) X dL_law_745 rfl ?_
          refine g_sld (t := 747) X hx9 (by omega) (by omega) (by omega) dL_law_746 rfl ?_
          refine g_pm lw_pm ?_
          refine g_callV (t := 750) (mc := 0) (ms := 0) (rest := []) X mt_X5_glue q5_162 q5_163 q5_164 0 wM_0 rfl (c_X5_glue hfl hI (sx_rg _ _)) (by decide) (by omega) (by omega) (Nat.le_of_ble_eq_true rfl) rfl rfl dL_law_747 rfl (k_pu2_1 hA (fun z9 W9 => ?_))
          show G C K Q _ _ _ _ _ (wM C am Y V W9 1 ++ lwC C ao ad (bv, cp, bt, cnt, ml) E F Z Y gs cap g)
          refine g_istore (t := 752) (lv1 := [(6, vi z9), (5, vi 1), (4, vi (7 * (j : Int))), (0, .ref b), (1, .ref (ad 4)), (2, .ref (am 0)), (3, .ref ao)]) X dL_law_750 (by decide) rfl rfl ?_
          refine g_aload_n (t := 753) X dL_law_752 5 rfl rfl ?_
          refine g_callV (t := 756) (mc := 0) (ms := 0) (rest := []) X mt_X5_thrown q5_46 q5_47 q5_48 0 wM_0 rfl (c_X5_thrown hfl) (by decide) (by omega) (by omega) (Nat.le_of_ble_eq_true rfl) rfl rfl dL_law_753 rfl (k_rv ?_)
          refine g_pm lw_pm2 ?_
          refine g_iload (t := 758) X dL_law_756 1 rfl rfl ?_
          refine g_icmp_eq (t := 763) (u := 761) X dL_law_758 (by decide) rfl ⟨by omega, by omega⟩ ⟨by omega, by omega⟩ (fun _ => ?_) (fun c => absurd c (by decide))
          refine g_iload (t := 765) X dL_law_763 1 rfl rfl ?_
          refine g_if_ne (t := 780) (u := 768) X dL_law_765 (by decide) rfl ⟨by omega, by omega⟩ (fun _ => ?_) (fun c => absurd c (by decide))
          refine g_goto (t := 1032) X dL_law_780 (by decide) ?_
          refine g_iinc (t := 1035) (lv1 := [(4, vi ((7 * (j : Int)) + 7)), (6, vi z9), (5, vi 1), (0, .ref b), (1, .ref (ad 4)), (2, .ref (am 0)), (3, .ref ao)]) X dL_law_1032 2 rfl (by decide) rfl rfl ?_
          refine g_goto (t := 23) X dL_law_1035 (by decide) ?_
          refine g_cs (c1 := 1000 + 400 * (j + 1)) (s1 := 2000 + 800 * (j + 1)) ?_ (by omega) (by omega)
          rw [show 7 * (j : Int) + 7 = 7 * ((j + 1 : Nat) : Int) by omega]
          exact g_lv (ih (j + 1) ad (bv, cp, bt, cnt, ml) E F Z Y V gs cap g W9 1 (by omega) (by omega) rfl hI hB hP hF hG) [0, 3, 4, 5, 6] rfl
        · show G C K Q _ _ _ _ _ (lwW C am ao ad (bv, cp, bt, cnt, ml) E F Z Y gs cap g Y V W th)
          refine g_istore (t := 740) (lv1 := [(5, vi 2), (4, vi (7 * (j : Int))), (0, .ref b), (1, .ref (ad 4)), (2, .ref (am 0)), (3, .ref ao)]) X dL_law_738 (by decide) rfl rfl ?_
          refine g_aload_n (t := 741) X dL_law_740 4 rfl rfl ?_
          refine g_aload_n (t := 742) X dL_law_741 2 rfl rfl ?_
          refine g_iload (t := 744) X dL_law_742 1 rfl rfl ?_
          refine g_iconst (t := 745) X dL_law_744 rfl ?_
          refine g_iadd (t := 746) X dL_law_745 rfl ?_
          refine g_sld (t := 747) X hx9 (by omega) (by omega) (by omega) dL_law_746 rfl ?_
          refine g_pm lw_pm ?_
          refine g_callV (t := 750) (mc := 0) (ms := 0) (rest := []) X mt_X5_glue q5_162 q5_163 q5_164 0 wM_0 rfl (c_X5_glue hfl hI (sx_rg _ _)) (by decide) (by omega) (by omega) (Nat.le_of_ble_eq_true rfl) rfl rfl dL_law_747 rfl (k_pu2_2 hB1 hA (fun z9 W9 => ?_))
          show G C K Q _ _ _ _ _ (wM C am Y V W9 2 ++ lwC C ao ad (bv, cp, bt, cnt, ml) E F Z Y gs cap g)
          refine g_istore (t := 752) (lv1 := [(6, vi z9), (5, vi 2), (4, vi (7 * (j : Int))), (0, .ref b), (1, .ref (ad 4)), (2, .ref (am 0)), (3, .ref ao)]) X dL_law_750 (by decide) rfl rfl ?_
          refine g_aload_n (t := 753) X dL_law_752 5 rfl rfl ?_
          refine g_callV (t := 756) (mc := 0) (ms := 0) (rest := []) X mt_X5_thrown q5_46 q5_47 q5_48 0 wM_0 rfl (c_X5_thrown hfl) (by decide) (by omega) (by omega) (Nat.le_of_ble_eq_true rfl) rfl rfl dL_law_753 rfl (k_rv ?_)
          refine g_pm lw_pm2 ?_
          refine g_iload (t := 758) X dL_law_756 1 rfl rfl ?_
          refine g_icmp_eq (t := 763) (u := 761) X dL_law_758 (by decide) rfl ⟨by omega, by omega⟩ ⟨by omega, by omega⟩ (fun _ => ?_) (fun c => absurd c (by decide))
          refine g_iload (t := 765) X dL_law_763 1 rfl rfl ?_
          refine g_if_ne (t := 780) (u := 768) X dL_law_765 (by decide) rfl ⟨by omega, by omega⟩ (fun _ => ?_) (fun c => absurd c (by decide))
          refine g_goto (t := 1032) X dL_law_780 (by decide) ?_
          refine g_iinc (t := 1035) (lv1 := [(4, vi ((7 * (j : Int)) + 7)), (6, vi z9), (5, vi 2), (0, .ref b), (1, .ref (ad 4)), (2, .ref (am 0)), (3, .ref ao)]) X dL_law_1032 2 rfl (by decide) rfl rfl ?_
          refine g_goto (t := 23) X dL_law_1035 (by decide) ?_
          refine g_cs (c1 := 1000 + 400 * (j + 1)) (s1 := 2000 + 800 * (j + 1)) ?_ (by omega) (by omega)
          rw [show 7 * (j : Int) + 7 = 7 * ((j + 1 : Nat) : Int) by omega]
          exact g_lv (ih (j + 1) ad (bv, cp, bt, cnt, ml) E F Z Y V gs cap g W9 2 (by omega) (by omega) rfl hI hB hP hF hG) [0, 3, 4, 5, 6] rfl
        · obtain ⟨Z, h9, hS9, rfl⟩ := hw
          show G C K Q _ _ _ _ _ (lwW C am ao ad (bv, cp, bt, cnt, ml) E F Z (u2 (u2 Y 11 (Y 12 0) (sx xs (7 * (j : Int) + 1))) 12 0 (Y 12 0 + 1)) h9 cap g1 Y V W th)
          refine g_istore (t := 740) (lv1 := [(5, vi 0), (4, vi (7 * (j : Int))), (0, .ref b), (1, .ref (ad 4)), (2, .ref (am 0)), (3, .ref ao)]) X dL_law_738 (by decide) rfl rfl ?_
          refine g_aload_n (t := 741) X dL_law_740 4 rfl rfl ?_
          refine g_aload_n (t := 742) X dL_law_741 2 rfl rfl ?_
          refine g_iload (t := 744) X dL_law_742 1 rfl rfl ?_
          refine g_iconst (t := 745) X dL_law_744 rfl ?_
          refine g_iadd (t := 746) X dL_law_745 rfl ?_
          refine g_sld (t := 747) X hx9 (by omega) (by omega) (by omega) dL_law_746 rfl ?_
          refine g_pm lw_pm ?_
          refine g_callV (t := 750) (mc := 0) (ms := 0) (rest := []) X mt_X5_glue q5_162 q5_163 q5_164 0 wM_0 rfl (c_X5_glue hfl hI (sx_rg _ _)) (by decide) (by omega) (by omega) (Nat.le_of_ble_eq_true rfl) rfl rfl dL_law_747 rfl (k_pu2_0 hA hB1 (fun W9 => ?_))
          show G C K Q _ _ _ _ _ (wM C am (u2 (u2 Y 11 (Y 12 0) (sx xs (7 * (j : Int) + 1))) 12 0 (Y 12 0 + 1)) V W9 0 ++ lwC C ao ad (bv, cp, bt, cnt, ml) E F Z (u2 (u2 Y 11 (Y 12 0) (sx xs (7 * (j : Int) + 1))) 12 0 (Y 12 0 + 1)) h9 cap g1)
          refine g_istore (t := 752) (lv1 := [(6, vi (Y 12 0 + 1)), (5, vi 0), (4, vi (7 * (j : Int))), (0, .ref b), (1, .ref (ad 4)), (2, .ref (am 0)), (3, .ref ao)]) X dL_law_750 (by decide) rfl rfl ?_
          refine g_aload_n (t := 753) X dL_law_752 5 rfl rfl ?_
          refine g_callV (t := 756) (mc := 0) (ms := 0) (rest := []) X mt_X5_thrown q5_46 q5_47 q5_48 0 wM_0 rfl (c_X5_thrown hfl) (by decide) (by omega) (by omega) (Nat.le_of_ble_eq_true rfl) rfl rfl dL_law_753 rfl (k_rv ?_)
          refine g_pm lw_pm2 ?_
          refine g_iload (t := 758) X dL_law_756 1 rfl rfl ?_
          refine g_icmp_eq (t := 763) (u := 761) X dL_law_758 (by decide) rfl ⟨by omega, by omega⟩ ⟨by omega, by omega⟩ (fun _ => ?_) (fun c => absurd c (by decide))
          refine g_iload (t := 765) X dL_law_763 1 rfl rfl ?_
          refine g_if_ne (t := 780) (u := 768) X dL_law_765 (by decide) rfl ⟨by omega, by omega⟩ (fun c => absurd c (by decide)) (fun _ => ?_)
          refine g_aload_n (t := 769) X dL_law_768 6 rfl rfl ?_
          refine g_iconst (t := 770) X dL_law_769 rfl ?_
          refine g_lald (t := 771) X out_at dL_law_770 rfl ?_
          refine g_iload (t := 773) X dL_law_771 0 rfl rfl ?_
          refine g_i2l (t := 774) X dL_law_773 rfl ?_
          refine g_lcmp0 (t := 775) X hg dL_law_774 rfl ?_
          refine g_if_eq (t := 780) (u := 778) X dL_law_775 (by decide) rfl ⟨by omega, by omega⟩ (fun _ => ?_) (fun c => absurd c (by decide))
          refine g_goto (t := 1032) X dL_law_780 (by decide) ?_
          refine g_iinc (t := 1035) (lv1 := [(4, vi ((7 * (j : Int)) + 7)), (6, vi (Y 12 0 + 1)), (5, vi 0), (0, .ref b), (1, .ref (ad 4)), (2, .ref (am 0)), (3, .ref ao)]) X dL_law_1032 2 rfl (by decide) rfl rfl ?_
          refine g_goto (t := 23) X dL_law_1035 (by decide) ?_
          refine g_cs (c1 := 1000 + 400 * (j + 1)) (s1 := 2000 + 800 * (j + 1)) ?_ (by omega) (by omega)
          rw [show 7 * (j : Int) + 7 = 7 * ((j + 1 : Nat) : Int) by omega]
          exact g_lv (ih (j + 1) ad (bv, cp, bt, cnt, ml) E F Z (u2 (u2 Y 11 (Y 12 0) (sx xs (7 * (j : Int) + 1))) 12 0 (Y 12 0 + 1)) V h9 cap g1 W9 0 (by omega) (by omega) rfl (hI.glue hA.1 hA.2 hB1.2.1) hB hP hF hS9) [0, 3, 4, 5, 6] rfl
      · show G C K Q _ _ 40 _ [vi 10] _
        refine g_tin (t := 783) (off := 743) (z := 10) X dL_law_40 ⟨by omega, by omega⟩ (by omega) (by omega) rfl (by decide) ?_
        refine g_aload_n (t := 784) X dL_law_783 2 rfl rfl ?_
        refine g_aload_n (t := 785) X dL_law_784 4 rfl rfl ?_
        refine g_callW (t := 788) (mc := 6) (ms := 40) (rest := []) (n9 := 2) (ret := some .int) X q3_103 q1_0 ⟨by decide +kernel, by decide +kernel⟩ (by decide +kernel) (by decide) q3_101 q3_102 (c_L_unglue hfl hI hF hP hG ) (by decide) (by omega) (by omega) (Nat.le_of_ble_eq_true rfl) rfl rfl dL_law_785 rfl (k_lw (fun hA Z => ?_) (fun _ h _ => absurd trivial h) (fun _ _ h _ => absurd trivial h) (fun hA hB1 hD g1 hg w9 hw => ?_))
        · show G C K Q _ _ _ _ _ (lwW C am ao ad (bv, cp, bt, cnt, ml) E F Z Y gs cap g Y V W th)
          refine g_istore (t := 790) (lv1 := [(5, vi 1), (4, vi (7 * (j : Int))), (0, .ref b), (1, .ref (ad 4)), (2, .ref (am 0)), (3, .ref ao)]) X dL_law_788 (by decide) rfl rfl ?_
          refine g_aload_n (t := 791) X dL_law_790 4 rfl rfl ?_
          refine g_pm lw_pm ?_
          refine g_callV (t := 794) (mc := 0) (ms := 0) (rest := []) X mt_X5_unglue q5_174 q5_175 q5_176 0 wM_0 rfl (c_X5_unglue hfl hI ) (by decide) (by omega) (by omega) (Nat.le_of_ble_eq_true rfl) rfl rfl dL_law_791 rfl (k_pu1_1 hA (fun z9 W9 => ?_))
          show G C K Q _ _ _ _ _ (wM C am Y V W9 1 ++ lwC C ao ad (bv, cp, bt, cnt, ml) E F Z Y gs cap g)
          refine g_istore (t := 796) (lv1 := [(6, vi z9), (5, vi 1), (4, vi (7 * (j : Int))), (0, .ref b), (1, .ref (ad 4)), (2, .ref (am 0)), (3, .ref ao)]) X dL_law_794 (by decide) rfl rfl ?_
          refine g_aload_n (t := 797) X dL_law_796 5 rfl rfl ?_
          refine g_callV (t := 800) (mc := 0) (ms := 0) (rest := []) X mt_X5_thrown q5_46 q5_47 q5_48 0 wM_0 rfl (c_X5_thrown hfl) (by decide) (by omega) (by omega) (Nat.le_of_ble_eq_true rfl) rfl rfl dL_law_797 rfl (k_rv ?_)
          refine g_pm lw_pm2 ?_
          refine g_iload (t := 802) X dL_law_800 1 rfl rfl ?_
          refine g_icmp_eq (t := 807) (u := 805) X dL_law_802 (by decide) rfl ⟨by omega, by omega⟩ ⟨by omega, by omega⟩ (fun _ => ?_) (fun c => absurd c (by decide))
          refine g_iload (t := 809) X dL_law_807 1 rfl rfl ?_
          refine g_if_ne (t := 824) (u := 812) X dL_law_809 (by decide) rfl ⟨by omega, by omega⟩ (fun _ => ?_) (fun c => absurd c (by decide))
          refine g_goto (t := 1032) X dL_law_824 (by decide) ?_
          refine g_iinc (t := 1035) (lv1 := [(4, vi ((7 * (j : Int)) + 7)), (6, vi z9), (5, vi 1), (0, .ref b), (1, .ref (ad 4)), (2, .ref (am 0)), (3, .ref ao)]) X dL_law_1032 2 rfl (by decide) rfl rfl ?_
          refine g_goto (t := 23) X dL_law_1035 (by decide) ?_
          refine g_cs (c1 := 1000 + 400 * (j + 1)) (s1 := 2000 + 800 * (j + 1)) ?_ (by omega) (by omega)
          rw [show 7 * (j : Int) + 7 = 7 * ((j + 1 : Nat) : Int) by omega]
          exact g_lv (ih (j + 1) ad (bv, cp, bt, cnt, ml) E F Z Y V gs cap g W9 1 (by omega) (by omega) rfl hI hB hP hF hG) [0, 3, 4, 5, 6] rfl
        · obtain ⟨Z, h9, hS9, rfl⟩ := hw
          show G C K Q _ _ _ _ _ (lwW C am ao ad (bv, cp, bt, cnt, ml) E F Z (u2 Y 12 0 (Y 12 0 - 1)) h9 cap g1 Y V W th)
          refine g_istore (t := 790) (lv1 := [(5, vi 0), (4, vi (7 * (j : Int))), (0, .ref b), (1, .ref (ad 4)), (2, .ref (am 0)), (3, .ref ao)]) X dL_law_788 (by decide) rfl rfl ?_
          refine g_aload_n (t := 791) X dL_law_790 4 rfl rfl ?_
          refine g_pm lw_pm ?_
          refine g_callV (t := 794) (mc := 0) (ms := 0) (rest := []) X mt_X5_unglue q5_174 q5_175 q5_176 0 wM_0 rfl (c_X5_unglue hfl hI ) (by decide) (by omega) (by omega) (Nat.le_of_ble_eq_true rfl) rfl rfl dL_law_791 rfl (k_pu1_0 hA (fun W9 => ?_))
          show G C K Q _ _ _ _ _ (wM C am (u2 Y 12 0 (Y 12 0 - 1)) V W9 0 ++ lwC C ao ad (bv, cp, bt, cnt, ml) E F Z (u2 Y 12 0 (Y 12 0 - 1)) h9 cap g1)
          refine g_istore (t := 796) (lv1 := [(6, vi (Y 11 (Y 12 0 - 1))), (5, vi 0), (4, vi (7 * (j : Int))), (0, .ref b), (1, .ref (ad 4)), (2, .ref (am 0)), (3, .ref ao)]) X dL_law_794 (by decide) rfl rfl ?_
          refine g_aload_n (t := 797) X dL_law_796 5 rfl rfl ?_
          refine g_callV (t := 800) (mc := 0) (ms := 0) (rest := []) X mt_X5_thrown q5_46 q5_47 q5_48 0 wM_0 rfl (c_X5_thrown hfl) (by decide) (by omega) (by omega) (Nat.le_of_ble_eq_true rfl) rfl rfl dL_law_797 rfl (k_rv ?_)
          refine g_pm lw_pm2 ?_
          refine g_iload (t := 802) X dL_law_800 1 rfl rfl ?_
          refine g_icmp_eq (t := 807) (u := 805) X dL_law_802 (by decide) rfl ⟨by omega, by omega⟩ ⟨by omega, by omega⟩ (fun _ => ?_) (fun c => absurd c (by decide))
          refine g_iload (t := 809) X dL_law_807 1 rfl rfl ?_
          refine g_if_ne (t := 824) (u := 812) X dL_law_809 (by decide) rfl ⟨by omega, by omega⟩ (fun c => absurd c (by decide)) (fun _ => ?_)
          refine g_aload_n (t := 813) X dL_law_812 6 rfl rfl ?_
          refine g_iconst (t := 814) X dL_law_813 rfl ?_
          refine g_lald (t := 815) X out_at dL_law_814 rfl ?_
          refine g_iload (t := 817) X dL_law_815 0 rfl rfl ?_
          refine g_i2l (t := 818) X dL_law_817 rfl ?_
          refine g_lcmp0 (t := 819) X hg dL_law_818 rfl ?_
          refine g_if_eq (t := 824) (u := 822) X dL_law_819 (by decide) rfl ⟨by omega, by omega⟩ (fun _ => ?_) (fun c => absurd c (by decide))
          refine g_goto (t := 1032) X dL_law_824 (by decide) ?_
          refine g_iinc (t := 1035) (lv1 := [(4, vi ((7 * (j : Int)) + 7)), (6, vi (Y 11 (Y 12 0 - 1))), (5, vi 0), (0, .ref b), (1, .ref (ad 4)), (2, .ref (am 0)), (3, .ref ao)]) X dL_law_1032 2 rfl (by decide) rfl rfl ?_
          refine g_goto (t := 23) X dL_law_1035 (by decide) ?_
          refine g_cs (c1 := 1000 + 400 * (j + 1)) (s1 := 2000 + 800 * (j + 1)) ?_ (by omega) (by omega)
          rw [show 7 * (j : Int) + 7 = 7 * ((j + 1 : Nat) : Int) by omega]
          exact g_lv (ih (j + 1) ad (bv, cp, bt, cnt, ml) E F Z (u2 Y 12 0 (Y 12 0 - 1)) V h9 cap g1 W9 0 (by omega) (by omega) rfl (hI.cut (z := Y 12 0 - 1) (by omega) (by omega)) hB hP hF hS9) [0, 3, 4, 5, 6] rfl
      · show G C K Q _ _ 40 _ [vi 11] _
        refine g_tin (t := 827) (off := 787) (z := 11) X dL_law_40 ⟨by omega, by omega⟩ (by omega) (by omega) rfl (by decide) ?_
        refine g_aload_n (t := 828) X dL_law_827 2 rfl rfl ?_
        refine g_aload_n (t := 829) X dL_law_828 1 rfl rfl ?_
        refine g_iload (t := 831) X dL_law_829 0 rfl rfl ?_
        refine g_iconst (t := 832) X dL_law_831 rfl ?_
        refine g_iadd (t := 833) X dL_law_832 rfl ?_
        refine g_sld (t := 834) X hx9 (by omega) (by omega) (by omega) dL_law_833 rfl ?_
        refine g_aload_n (t := 835) X dL_law_834 4 rfl rfl ?_
        refine g_callW (t := 838) (mc := 6) (ms := 40) (rest := []) (n9 := 3) (ret := some .int) X q3_119 q1_0 ⟨by decide +kernel, by decide +kernel⟩ (by decide +kernel) (by decide) q3_117 q3_118 (c_L_glued hfl hI hF hP hG (sx_rg _ _)) (by decide) (by omega) (by omega) (Nat.le_of_ble_eq_true rfl) rfl rfl dL_law_835 rfl (k_lw (fun hA Z => ?_) (fun _ h _ => absurd trivial h) (fun _ _ h _ => absurd trivial h) (fun hA hB1 hD g1 hg w9 hw => ?_))
        · show G C K Q _ _ _ _ _ (lwW C am ao ad (bv, cp, bt, cnt, ml) E F Z Y gs cap g Y V W th)
          refine g_istore (t := 840) (lv1 := [(5, vi 1), (4, vi (7 * (j : Int))), (0, .ref b), (1, .ref (ad 4)), (2, .ref (am 0)), (3, .ref ao)]) X dL_law_838 (by decide) rfl rfl ?_
          refine g_aload_n (t := 841) X dL_law_840 4 rfl rfl ?_
          refine g_aload_n (t := 842) X dL_law_841 2 rfl rfl ?_
          refine g_iload (t := 844) X dL_law_842 1 rfl rfl ?_
          refine g_iconst (t := 845) X dL_law_844 rfl ?_
          refine g_iadd (t := 846) X dL_law_845 rfl ?_
          refine g_sld (t := 847) X hx9 (by omega) (by omega) (by omega) dL_law_846 rfl ?_
          refine g_pm lw_pm ?_
          refine g_callV (t := 850) (mc := 0) (ms := 0) (rest := []) X mt_X5_glued q5_178 q5_179 q5_180 0 wM_0 rfl (c_X5_glued hfl hI (sx_rg _ _)) (by decide) (by omega) (by omega) (Nat.le_of_ble_eq_true rfl) rfl rfl dL_law_847 rfl (k_pu1_1 hA (fun z9 W9 => ?_))
          show G C K Q _ _ _ _ _ (wM C am Y V W9 1 ++ lwC C ao ad (bv, cp, bt, cnt, ml) E F Z Y gs cap g)
          refine g_istore (t := 852) (lv1 := [(6, vi z9), (5, vi 1), (4, vi (7 * (j : Int))), (0, .ref b), (1, .ref (ad 4)), (2, .ref (am 0)), (3, .ref ao)]) X dL_law_850 (by decide) rfl rfl ?_
          refine g_aload_n (t := 853) X dL_law_852 5 rfl rfl ?_
          refine g_callV (t := 856) (mc := 0) (ms := 0) (rest := []) X mt_X5_thrown q5_46 q5_47 q5_48 0 wM_0 rfl (c_X5_thrown hfl) (by decide) (by omega) (by omega) (Nat.le_of_ble_eq_true rfl) rfl rfl dL_law_853 rfl (k_rv ?_)
          refine g_pm lw_pm2 ?_
          refine g_iload (t := 858) X dL_law_856 1 rfl rfl ?_
          refine g_icmp_eq (t := 863) (u := 861) X dL_law_858 (by decide) rfl ⟨by omega, by omega⟩ ⟨by omega, by omega⟩ (fun _ => ?_) (fun c => absurd c (by decide))
          refine g_iload (t := 865) X dL_law_863 1 rfl rfl ?_
          refine g_if_ne (t := 880) (u := 868) X dL_law_865 (by decide) rfl ⟨by omega, by omega⟩ (fun _ => ?_) (fun c => absurd c (by decide))
          refine g_goto (t := 1032) X dL_law_880 (by decide) ?_
          refine g_iinc (t := 1035) (lv1 := [(4, vi ((7 * (j : Int)) + 7)), (6, vi z9), (5, vi 1), (0, .ref b), (1, .ref (ad 4)), (2, .ref (am 0)), (3, .ref ao)]) X dL_law_1032 2 rfl (by decide) rfl rfl ?_
          refine g_goto (t := 23) X dL_law_1035 (by decide) ?_
          refine g_cs (c1 := 1000 + 400 * (j + 1)) (s1 := 2000 + 800 * (j + 1)) ?_ (by omega) (by omega)
          rw [show 7 * (j : Int) + 7 = 7 * ((j + 1 : Nat) : Int) by omega]
          exact g_lv (ih (j + 1) ad (bv, cp, bt, cnt, ml) E F Z Y V gs cap g W9 1 (by omega) (by omega) rfl hI hB hP hF hG) [0, 3, 4, 5, 6] rfl
        · obtain ⟨Z, h9, hS9, rfl⟩ := hw
          show G C K Q _ _ _ _ _ (lwW C am ao ad (bv, cp, bt, cnt, ml) E F Z Y h9 cap g1 Y V W th)
          refine g_istore (t := 840) (lv1 := [(5, vi 0), (4, vi (7 * (j : Int))), (0, .ref b), (1, .ref (ad 4)), (2, .ref (am 0)), (3, .ref ao)]) X dL_law_838 (by decide) rfl rfl ?_
          refine g_aload_n (t := 841) X dL_law_840 4 rfl rfl ?_
          refine g_aload_n (t := 842) X dL_law_841 2 rfl rfl ?_
          refine g_iload (t := 844) X dL_law_842 1 rfl rfl ?_
          refine g_iconst (t := 845) X dL_law_844 rfl ?_
          refine g_iadd (t := 846) X dL_law_845 rfl ?_
          refine g_sld (t := 847) X hx9 (by omega) (by omega) (by omega) dL_law_846 rfl ?_
          refine g_pm lw_pm ?_
          refine g_callV (t := 850) (mc := 0) (ms := 0) (rest := []) X mt_X5_glued q5_178 q5_179 q5_180 0 wM_0 rfl (c_X5_glued hfl hI (sx_rg _ _)) (by decide) (by omega) (by omega) (Nat.le_of_ble_eq_true rfl) rfl rfl dL_law_847 rfl (k_pu1_0 hA (fun W9 => ?_))
          show G C K Q _ _ _ _ _ (wM C am Y V W9 0 ++ lwC C ao ad (bv, cp, bt, cnt, ml) E F Z Y h9 cap g1)
          refine g_istore (t := 852) (lv1 := [(6, vi (if sx xs (7 * (j : Int) + 1) < Y 12 0 then Y 11 (sx xs (7 * (j : Int) + 1)) else -1)), (5, vi 0), (4, vi (7 * (j : Int))), (0, .ref b), (1, .ref (ad 4)), (2, .ref (am 0)), (3, .ref ao)]) X dL_law_850 (by decide) rfl rfl ?_
          refine g_aload_n (t := 853) X dL_law_852 5 rfl rfl ?_
          refine g_callV (t := 856) (mc := 0) (ms := 0) (rest := []) X mt_X5_thrown q5_46 q5_47 q5_48 0 wM_0 rfl (c_X5_thrown hfl) (by decide) (by omega) (by omega) (Nat.le_of_ble_eq_true rfl) rfl rfl dL_law_853 rfl (k_rv ?_)
          refine g_pm lw_pm2 ?_
          refine g_iload (t := 858) X dL_law_856 1 rfl rfl ?_
          refine g_icmp_eq (t := 863) (u := 861) X dL_law_858 (by decide) rfl ⟨by omega, by omega⟩ ⟨by omega, by omega⟩ (fun _ => ?_) (fun c => absurd c (by decide))
          refine g_iload (t := 865) X dL_law_863 1 rfl rfl ?_
          refine g_if_ne (t := 880) (u := 868) X dL_law_865 (by decide) rfl ⟨by omega, by omega⟩ (fun c => absurd c (by decide)) (fun _ => ?_)
          refine g_aload_n (t := 869) X dL_law_868 6 rfl rfl ?_
          refine g_iconst (t := 870) X dL_law_869 rfl ?_
          refine g_lald (t := 871) X out_at dL_law_870 rfl ?_
          refine g_iload (t := 873) X dL_law_871 0 rfl rfl ?_
          refine g_i2l (t := 874) X dL_law_873 rfl ?_
          refine g_lcmp0 (t := 875) X hg dL_law_874 rfl ?_
          refine g_if_eq (t := 880) (u := 878) X dL_law_875 (by decide) rfl ⟨by omega, by omega⟩ (fun _ => ?_) (fun c => absurd c (by decide))
          refine g_goto (t := 1032) X dL_law_880 (by decide) ?_
          refine g_iinc (t := 1035) (lv1 := [(4, vi ((7 * (j : Int)) + 7)), (6, vi (if sx xs (7 * (j : Int) + 1) < Y 12 0 then Y 11 (sx xs (7 * (j : Int) + 1)) else -1)), (5, vi 0), (0, .ref b), (1, .ref (ad 4)), (2, .ref (am 0)), (3, .ref ao)]) X dL_law_1032 2 rfl (by decide) rfl rfl ?_
          refine g_goto (t := 23) X dL_law_1035 (by decide) ?_
          refine g_cs (c1 := 1000 + 400 * (j + 1)) (s1 := 2000 + 800 * (j + 1)) ?_ (by omega) (by omega)
          rw [show 7 * (j : Int) + 7 = 7 * ((j + 1 : Nat) : Int) by omega]
          exact g_lv (ih (j + 1) ad (bv, cp, bt, cnt, ml) E F Z Y V h9 cap g1 W9 0 (by omega) (by omega) rfl hI hB hP hF hS9) [0, 3, 4, 5, 6] rfl
      · show G C K Q _ _ 40 _ [vi 12] _
        refine g_tin (t := 883) (off := 843) (z := 12) X dL_law_40 ⟨by omega, by omega⟩ (by omega) (by omega) rfl (by decide) ?_
        refine g_aload_n (t := 884) X dL_law_883 2 rfl rfl ?_
        refine g_aload_n (t := 885) X dL_law_884 1 rfl rfl ?_
        refine g_iload (t := 887) X dL_law_885 0 rfl rfl ?_
        refine g_iconst (t := 888) X dL_law_887 rfl ?_
        refine g_iadd (t := 889) X dL_law_888 rfl ?_
        refine g_sld (t := 890) X hx9 (by omega) (by omega) (by omega) dL_law_889 rfl ?_
        refine g_aload_n (t := 891) X dL_law_890 1 rfl rfl ?_
        refine g_iload (t := 893) X dL_law_891 0 rfl rfl ?_
        refine g_iconst (t := 894) X dL_law_893 rfl ?_
        refine g_iadd (t := 895) X dL_law_894 rfl ?_
        refine g_sld (t := 896) X hx9 (by omega) (by omega) (by omega) dL_law_895 rfl ?_
        refine g_aload_n (t := 897) X dL_law_896 4 rfl rfl ?_
        refine g_callW (t := 900) (mc := 6) (ms := 40) (rest := []) (n9 := 4) (ret := some .int) X q3_127 q1_0 ⟨by decide +kernel, by decide +kernel⟩ (by decide +kernel) (by decide) q3_125 q3_126 (c_L_resize hfl hI hF hP hG (sx_rg _ _) (sx_rg _ _)) (by decide) (by omega) (by omega) (Nat.le_of_ble_eq_true rfl) rfl rfl dL_law_897 rfl (k_lw (fun hA Z => ?_) (fun hA hB1 Z => ?_) (fun _ _ h _ => absurd trivial h) (fun hA hB1 hD g1 hg w9 hw => ?_))
        · show G C K Q _ _ _ _ _ (lwW C am ao ad (bv, cp, bt, cnt, ml) E F Z Y gs cap g Y V W th)
          refine g_istore (t := 902) (lv1 := [(5, vi 1), (4, vi (7 * (j : Int))), (0, .ref b), (1, .ref (ad 4)), (2, .ref (am 0)), (3, .ref ao)]) X dL_law_900 (by decide) rfl rfl ?_
          refine g_aload_n (t := 903) X dL_law_902 4 rfl rfl ?_
          refine g_aload_n (t := 904) X dL_law_903 2 rfl rfl ?_
          refine g_iload (t := 906) X dL_law_904 1 rfl rfl ?_
          refine g_iconst (t := 907) X dL_law_906 rfl ?_
          refine g_iadd (t := 908) X dL_law_907 rfl ?_
          refine g_sld (t := 909) X hx9 (by omega) (by omega) (by omega) dL_law_908 rfl ?_
          refine g_aload_n (t := 910) X dL_law_909 2 rfl rfl ?_
          refine g_iload (t := 912) X dL_law_910 1 rfl rfl ?_
          refine g_iconst (t := 913) X dL_law_912 rfl ?_
          refine g_iadd (t := 914) X dL_law_913 rfl ?_
          refine g_sld (t := 915) X hx9 (by omega) (by omega) (by omega) dL_law_914 rfl ?_
          refine g_pm lw_pm ?_
          refine g_callV (t := 918) (mc := 0) (ms := 0) (rest := []) X mt_X5_resize q5_182 q5_183 q5_184 0 wM_0 rfl (c_X5_resize hfl hI (sx_rg _ _) (sx_rg _ _)) (by decide) (by omega) (by omega) (Nat.le_of_ble_eq_true rfl) rfl rfl dL_law_915 rfl (k_pu2_1 hA (fun z9 W9 => ?_))
          show G C K Q _ _ _ _ _ (wM C am Y V W9 1 ++ lwC C ao ad (bv, cp, bt, cnt, ml) E F Z Y gs cap g)
          refine g_istore (t := 920) (lv1 := [(6, vi z9), (5, vi 1), (4, vi (7 * (j : Int))), (0, .ref b), (1, .ref (ad 4)), (2, .ref (am 0)), (3, .ref ao)]) X dL_law_918 (by decide) rfl rfl ?_
          refine g_aload_n (t := 921) X dL_law_920 5 rfl rfl ?_
          refine g_callV (t := 924) (mc := 0) (ms := 0) (rest := []) X mt_X5_thrown q5_46 q5_47 q5_48 0 wM_0 rfl (c_X5_thrown hfl) (by decide) (by omega) (by omega) (Nat.le_of_ble_eq_true rfl) rfl rfl dL_law_921 rfl (k_rv ?_)
          refine g_pm lw_pm2 ?_
          refine g_iload (t := 926) X dL_law_924 1 rfl rfl ?_
          refine g_icmp_eq (t := 931) (u := 929) X dL_law_926 (by decide) rfl ⟨by omega, by omega⟩ ⟨by omega, by omega⟩ (fun _ => ?_) (fun c => absurd c (by decide))
          refine g_iload (t := 933) X dL_law_931 1 rfl rfl ?_
          refine g_if_ne (t := 948) (u := 936) X dL_law_933 (by decide) rfl ⟨by omega, by omega⟩ (fun _ => ?_) (fun c => absurd c (by decide))
          refine g_goto (t := 1032) X dL_law_948 (by decide) ?_
          refine g_iinc (t := 1035) (lv1 := [(4, vi ((7 * (j : Int)) + 7)), (6, vi z9), (5, vi 1), (0, .ref b), (1, .ref (ad 4)), (2, .ref (am 0)), (3, .ref ao)]) X dL_law_1032 2 rfl (by decide) rfl rfl ?_
          refine g_goto (t := 23) X dL_law_1035 (by decide) ?_
          refine g_cs (c1 := 1000 + 400 * (j + 1)) (s1 := 2000 + 800 * (j + 1)) ?_ (by omega) (by omega)
          rw [show 7 * (j : Int) + 7 = 7 * ((j + 1 : Nat) : Int) by omega]
          exact g_lv (ih (j + 1) ad (bv, cp, bt, cnt, ml) E F Z Y V gs cap g W9 1 (by omega) (by omega) rfl hI hB hP hF hG) [0, 3, 4, 5, 6] rfl
        · show G C K Q _ _ _ _ _ (lwW C am ao ad (bv, cp, bt, cnt, ml) E F Z Y gs cap g Y V W th)
          refine g_istore (t := 902) (lv1 := [(5, vi 2), (4, vi (7 * (j : Int))), (0, .ref b), (1, .ref (ad 4)), (2, .ref (am 0)), (3, .ref ao)]) X dL_law_900 (by decide) rfl rfl ?_
          refine g_aload_n (t := 903) X dL_law_902 4 rfl rfl ?_
          refine g_aload_n (t := 904) X dL_law_903 2 rfl rfl ?_
          refine g_iload (t := 906) X dL_law_904 1 rfl rfl ?_
          refine g_iconst (t := 907) X dL_law_906 rfl ?_
          refine g_iadd (t := 908) X dL_law_907 rfl ?_
          refine g_sld (t := 909) X hx9 (by omega) (by omega) (by omega) dL_law_908 rfl ?_
          refine g_aload_n (t := 910) X dL_law_909 2 rfl rfl ?_
          refine g_iload (t := 912) X dL_law_910 1 rfl rfl ?_
          refine g_iconst (t := 913) X dL_law_912 rfl ?_
          refine g_iadd (t := 914) X dL_law_913 rfl ?_
          refine g_sld (t := 915) X hx9 (by omega) (by omega) (by omega) dL_law_914 rfl ?_
          refine g_pm lw_pm ?_
          refine g_callV (t := 918) (mc := 0) (ms := 0) (rest := []) X mt_X5_resize q5_182 q5_183 q5_184 0 wM_0 rfl (c_X5_resize hfl hI (sx_rg _ _) (sx_rg _ _)) (by decide) (by omega) (by omega) (Nat.le_of_ble_eq_true rfl) rfl rfl dL_law_915 rfl (k_pu2_2 hB1 hA (fun z9 W9 => ?_))
          show G C K Q _ _ _ _ _ (wM C am Y V W9 2 ++ lwC C ao ad (bv, cp, bt, cnt, ml) E F Z Y gs cap g)
          refine g_istore (t := 920) (lv1 := [(6, vi z9), (5, vi 2), (4, vi (7 * (j : Int))), (0, .ref b), (1, .ref (ad 4)), (2, .ref (am 0)), (3, .ref ao)]) X dL_law_918 (by decide) rfl rfl ?_
          refine g_aload_n (t := 921) X dL_law_920 5 rfl rfl ?_
          refine g_callV (t := 924) (mc := 0) (ms := 0) (rest := []) X mt_X5_thrown q5_46 q5_47 q5_48 0 wM_0 rfl (c_X5_thrown hfl) (by decide) (by omega) (by omega) (Nat.le_of_ble_eq_true rfl) rfl rfl dL_law_921 rfl (k_rv ?_)
          refine g_pm lw_pm2 ?_
          refine g_iload (t := 926) X dL_law_924 1 rfl rfl ?_
          refine g_icmp_eq (t := 931) (u := 929) X dL_law_926 (by decide) rfl ⟨by omega, by omega⟩ ⟨by omega, by omega⟩ (fun _ => ?_) (fun c => absurd c (by decide))
          refine g_iload (t := 933) X dL_law_931 1 rfl rfl ?_
          refine g_if_ne (t := 948) (u := 936) X dL_law_933 (by decide) rfl ⟨by omega, by omega⟩ (fun _ => ?_) (fun c => absurd c (by decide))
          refine g_goto (t := 1032) X dL_law_948 (by decide) ?_
          refine g_iinc (t := 1035) (lv1 := [(4, vi ((7 * (j : Int)) + 7)), (6, vi z9), (5, vi 2), (0, .ref b), (1, .ref (ad 4)), (2, .ref (am 0)), (3, .ref ao)]) X dL_law_1032 2 rfl (by decide) rfl rfl ?_
          refine g_goto (t := 23) X dL_law_1035 (by decide) ?_
          refine g_cs (c1 := 1000 + 400 * (j + 1)) (s1 := 2000 + 800 * (j + 1)) ?_ (by omega) (by omega)
          rw [show 7 * (j : Int) + 7 = 7 * ((j + 1 : Nat) : Int) by omega]
          exact g_lv (ih (j + 1) ad (bv, cp, bt, cnt, ml) E F Z Y V gs cap g W9 2 (by omega) (by omega) rfl hI hB hP hF hG) [0, 3, 4, 5, 6] rfl
        · obtain ⟨Z, h9, hS9, rfl⟩ := hw
          show G C K Q _ _ _ _ _ (lwW C am ao ad (bv, cp, bt, cnt, ml) E F Z (u2 (u2 Y 6 (sx xs (7 * (j : Int) + 1)) (sx xs (7 * (j : Int) + 2))) 12 0 (Y 12 0 - cutN Y (sx xs (7 * (j : Int) + 1)))) h9 cap g1 Y V W th)
          refine g_istore (t := 902) (lv1 := [(5, vi 0), (4, vi (7 * (j : Int))), (0, .ref b), (1, .ref (ad 4)), (2, .ref (am 0)), (3, .ref ao)]) X dL_law_900 (by decide) rfl rfl ?_
          refine g_aload_n (t := 903) X dL_law_902 4 rfl rfl ?_
          refine g_aload_n (t := 904) X dL_law_903 2 rfl rfl ?_
          refine g_iload (t := 906) X dL_law_904 1 rfl rfl ?_
          refine g_iconst (t := 907) X dL_law_906 rfl ?_
          refine g_iadd (t := 908) X dL_law_907 rfl ?_
          refine g_sld (t := 909) X hx9 (by omega) (by omega) (by omega) dL_law_908 rfl ?_
          refine g_aload_n (t := 910) X dL_law_909 2 rfl rfl ?_
          refine g_iload (t := 912) X dL_law_910 1 rfl rfl ?_
          refine g_iconst (t := 913) X dL_law_912 rfl ?_
          refine g_iadd (t := 914) X dL_law_913 rfl ?_
          refine g_sld (t := 915) X hx9 (by omega) (by omega) (by omega) dL_law_914 rfl ?_
          refine g_pm lw_pm ?_
          refine g_callV (t := 918) (mc := 0) (ms := 0) (rest := []) X mt_X5_resize q5_182 q5_183 q5_184 0 wM_0 rfl (c_X5_resize hfl hI (sx_rg _ _) (sx_rg _ _)) (by decide) (by omega) (by omega) (Nat.le_of_ble_eq_true rfl) rfl rfl dL_law_915 rfl (k_pu2_0 hA hB1 (fun W9 => ?_))
          show G C K Q _ _ _ _ _ (wM C am (u2 (u2 Y 6 (sx xs (7 * (j : Int) + 1)) (sx xs (7 * (j : Int) + 2))) 12 0 (Y 12 0 - cutN Y (sx xs (7 * (j : Int) + 1)))) V W9 0 ++ lwC C ao ad (bv, cp, bt, cnt, ml) E F Z (u2 (u2 Y 6 (sx xs (7 * (j : Int) + 1)) (sx xs (7 * (j : Int) + 2))) 12 0 (Y 12 0 - cutN Y (sx xs (7 * (j : Int) + 1)))) h9 cap g1)
          refine g_istore (t := 920) (lv1 := [(6, vi (cutN Y (sx xs (7 * (j : Int) + 1)))), (5, vi 0), (4, vi (7 * (j : Int))), (0, .ref b), (1, .ref (ad 4)), (2, .ref (am 0)), (3, .ref ao)]) X dL_law_918 (by decide) rfl rfl ?_
          refine g_aload_n (t := 921) X dL_law_920 5 rfl rfl ?_
          refine g_callV (t := 924) (mc := 0) (ms := 0) (rest := []) X mt_X5_thrown q5_46 q5_47 q5_48 0 wM_0 rfl (c_X5_thrown hfl) (by decide) (by omega) (by omega) (Nat.le_of_ble_eq_true rfl) rfl rfl dL_law_921 rfl (k_rv ?_)
          refine g_pm lw_pm2 ?_
          refine g_iload (t := 926) X dL_law_924 1 rfl rfl ?_
          refine g_icmp_eq (t := 931) (u := 929) X dL_law_926 (by decide) rfl ⟨by omega, by omega⟩ ⟨by omega, by omega⟩ (fun _ => ?_) (fun c => absurd c (by decide))
          refine g_iload (t := 933) X dL_law_931 1 rfl rfl ?_
          refine g_if_ne (t := 948) (u := 936) X dL_law_933 (by decide) rfl ⟨by omega, by omega⟩ (fun c => absurd c (by decide)) (fun _ => ?_)
          refine g_aload_n (t := 937) X dL_law_936 6 rfl rfl ?_
          refine g_iconst (t := 938) X dL_law_937 rfl ?_
          refine g_lald (t := 939) X out_at dL_law_938 rfl ?_
          refine g_iload (t := 941) X dL_law_939 0 rfl rfl ?_
          refine g_i2l (t := 942) X dL_law_941 rfl ?_
          refine g_lcmp0 (t := 943) X hg dL_law_942 rfl ?_
          refine g_if_eq (t := 948) (u := 946) X dL_law_943 (by decide) rfl ⟨by omega, by omega⟩ (fun _ => ?_) (fun c => absurd c (by decide))
          refine g_goto (t := 1032) X dL_law_948 (by decide) ?_
          refine g_iinc (t := 1035) (lv1 := [(4, vi ((7 * (j : Int)) + 7)), (6, vi (cutN Y (sx xs (7 * (j : Int) + 1)))), (5, vi 0), (0, .ref b), (1, .ref (ad 4)), (2, .ref (am 0)), (3, .ref ao)]) X dL_law_1032 2 rfl (by decide) rfl rfl ?_
          refine g_goto (t := 23) X dL_law_1035 (by decide) ?_
          refine g_cs (c1 := 1000 + 400 * (j + 1)) (s1 := 2000 + 800 * (j + 1)) ?_ (by omega) (by omega)
          rw [show 7 * (j : Int) + 7 = 7 * ((j + 1 : Nat) : Int) by omega]
          exact g_lv (ih (j + 1) ad (bv, cp, bt, cnt, ml) E F Z (u2 (u2 Y 6 (sx xs (7 * (j : Int) + 1)) (sx xs (7 * (j : Int) + 2))) 12 0 (Y 12 0 - cutN Y (sx xs (7 * (j : Int) + 1)))) V h9 cap g1 W9 0 (by omega) (by omega) rfl ((hI.len hB1.1 hB1.2).cut (cut_rg hI _).1 (cut_rg hI _).2) hB hP hF hS9) [0, 3, 4, 5, 6] rfl
      · show G C K Q _ _ 40 _ [vi 13] _
        refine g_tin (t := 951) (off := 911) (z := 13) X dL_law_40 ⟨by omega, by omega⟩ (by omega) (by omega) rfl (by decide) ?_
        refine g_aload_n (t := 952) X dL_law_951 2 rfl rfl ?_
        refine g_callV (t := 955) (mc := 0) (ms := 0) (rest := []) X mt_X4_isBound q2_71 q2_72 q2_73 4 WW_4 rfl (c_X4_isBound hfl hI hF hP.lt) (by decide) (by omega) (by omega) (Nat.le_of_ble_eq_true rfl) rfl rfl dL_law_952 rfl (k_rbz (fun Z hb9 => ?_) (fun Z hb9 => ?_))
        · show G C K Q _ _ _ _ _ (lwW C am ao ad (bv, cp, bt, cnt, ml) E F Z Y gs cap g Y V W th)
          refine g_aload_n (t := 956) X dL_law_955 3 rfl rfl ?_
          refine g_pm lw_pm ?_
          refine g_callV (t := 959) (mc := 0) (ms := 0) (rest := [vi 1]) X mt_X5_isBound q5_186 q5_187 q5_188 0 wM_0 rfl (c_X5_isBound hfl hI) (by decide) (by omega) (by omega) (Nat.le_of_ble_eq_true rfl) rfl rfl dL_law_956 rfl (k_rbq1 hb9 (fun W9 => ?_))
          show G C K Q _ _ _ _ _ (wM C am Y V W9 0 ++ lwC C ao ad (bv, cp, bt, cnt, ml) E F Z Y gs cap g)
          refine g_pm lw_pm2 ?_
          refine g_icmp_eq (t := 1032) (u := 962) X dL_law_959 (by decide) rfl ⟨by omega, by omega⟩ ⟨by omega, by omega⟩ (fun _ => ?_) (fun c => absurd c (by decide))
          refine g_iinc (t := 1035) (lv1 := [(4, vi ((7 * (j : Int)) + 7)), (0, .ref b), (1, .ref (ad 4)), (2, .ref (am 0)), (3, .ref ao)]) X dL_law_1032 0 rfl (by decide) rfl rfl ?_
          refine g_goto (t := 23) X dL_law_1035 (by decide) ?_
          refine g_cs (c1 := 1000 + 400 * (j + 1)) (s1 := 2000 + 800 * (j + 1)) ?_ (by omega) (by omega)
          rw [show 7 * (j : Int) + 7 = 7 * ((j + 1 : Nat) : Int) by omega]
          exact g_lv (ih (j + 1) ad (bv, cp, bt, cnt, ml) E F Z Y V gs cap g W9 0 (by omega) (by omega) rfl hI hB hP hF hG) [0, 1, 2, 3, 4] rfl
        · show G C K Q _ _ _ _ _ (lwW C am ao ad (bv, cp, bt, cnt, ml) E F Z Y gs cap g Y V W th)
          refine g_aload_n (t := 956) X dL_law_955 3 rfl rfl ?_
          refine g_pm lw_pm ?_
          refine g_callV (t := 959) (mc := 0) (ms := 0) (rest := [vi 0]) X mt_X5_isBound q5_186 q5_187 q5_188 0 wM_0 rfl (c_X5_isBound hfl hI) (by decide) (by omega) (by omega) (Nat.le_of_ble_eq_true rfl) rfl rfl dL_law_956 rfl (k_rbq0 hb9 (fun W9 => ?_))
          show G C K Q _ _ _ _ _ (wM C am Y V W9 0 ++ lwC C ao ad (bv, cp, bt, cnt, ml) E F Z Y gs cap g)
          refine g_pm lw_pm2 ?_
          refine g_icmp_eq (t := 1032) (u := 962) X dL_law_959 (by decide) rfl ⟨by omega, by omega⟩ ⟨by omega, by omega⟩ (fun _ => ?_) (fun c => absurd c (by decide))
          refine g_iinc (t := 1035) (lv1 := [(4, vi ((7 * (j : Int)) + 7)), (0, .ref b), (1, .ref (ad 4)), (2, .ref (am 0)), (3, .ref ao)]) X dL_law_1032 0 rfl (by decide) rfl rfl ?_
          refine g_goto (t := 23) X dL_law_1035 (by decide) ?_
          refine g_cs (c1 := 1000 + 400 * (j + 1)) (s1 := 2000 + 800 * (j + 1)) ?_ (by omega) (by omega)
          rw [show 7 * (j : Int) + 7 = 7 * ((j + 1 : Nat) : Int) by omega]
          exact g_lv (ih (j + 1) ad (bv, cp, bt, cnt, ml) E F Z Y V gs cap g W9 0 (by omega) (by omega) rfl hI hB hP hF hG) [0, 1, 2, 3, 4] rfl
      · show G C K Q _ _ 40 _ [vi 14] _
        refine g_tin (t := 964) (off := 924) (z := 14) X dL_law_40 ⟨by omega, by omega⟩ (by omega) (by omega) rfl (by decide) ?_
        refine g_aload_n (t := 965) X dL_law_964 2 rfl rfl ?_
        refine g_aload_n (t := 966) X dL_law_965 1 rfl rfl ?_
        refine g_iload (t := 968) X dL_law_966 0 rfl rfl ?_
        refine g_iconst (t := 969) X dL_law_968 rfl ?_
        refine g_iadd (t := 970) X dL_law_969 rfl ?_
        refine g_sld (t := 971) X hx9 (by omega) (by omega) (by omega) dL_law_970 rfl ?_
        refine g_aload_n (t := 972) X dL_law_971 1 rfl rfl ?_
        refine g_iload (t := 974) X dL_law_972 0 rfl rfl ?_
        refine g_iconst (t := 975) X dL_law_974 rfl ?_
        refine g_iadd (t := 976) X dL_law_975 rfl ?_
        refine g_sld (t := 977) X hx9 (by omega) (by omega) (by omega) dL_law_976 rfl ?_
        refine g_aload_n (t := 978) X dL_law_977 4 rfl rfl ?_
        refine g_callW (t := 981) (mc := 310) (ms := 640) (rest := []) (n9 := 4) (ret := some .int) X q3_134 q1_0 ⟨by decide +kernel, by decide +kernel⟩ (by decide +kernel) (by decide) q3_132 q3_133 (c_L_tells (bv := bv) (cp := cp) (bt := bt) (cnt := cnt) (ml := ml) hfl hI hF hB.1.1 hB.1.2 hB.2.1.1 hB.2.1.2 hB.2.2 (sx_rg _ _) (sx_rg _ _)) (by decide) (by omega) (by omega) (Nat.le_of_ble_eq_true rfl) rfl rfl dL_law_978 rfl (k_lw (fun hA Z => ?_) (fun _ h _ => absurd trivial h) (fun _ _ h _ => absurd trivial h) (fun hA hB1 hD g1 hg w9 hw => ?_))
        · show G C K Q _ _ _ _ _ (lwW C am ao ad (bv, cp, bt, cnt, ml) E F Z Y gs cap g Y V W th)
          refine g_istore (t := 983) (lv1 := [(5, vi 1), (4, vi (7 * (j : Int))), (0, .ref b), (1, .ref (ad 4)), (2, .ref (am 0)), (3, .ref ao)]) X dL_law_981 (by decide) rfl rfl ?_
          refine g_aload_n (t := 984) X dL_law_983 4 rfl rfl ?_
          refine g_aload_n (t := 985) X dL_law_984 2 rfl rfl ?_
          refine g_iload (t := 987) X dL_law_985 1 rfl rfl ?_
          refine g_iconst (t := 988) X dL_law_987 rfl ?_
          refine g_iadd (t := 989) X dL_law_988 rfl ?_
          refine g_sld (t := 990) X hx9 (by omega) (by omega) (by omega) dL_law_989 rfl ?_
          refine g_aload_n (t := 991) X dL_law_990 2 rfl rfl ?_
          refine g_iload (t := 993) X dL_law_991 1 rfl rfl ?_
          refine g_iconst (t := 994) X dL_law_993 rfl ?_
          refine g_iadd (t := 995) X dL_law_994 rfl ?_
          refine g_sld (t := 996) X hx9 (by omega) (by omega) (by omega) dL_law_995 rfl ?_
          refine g_pm lw_pm ?_
          refine g_callV (t := 999) (mc := 0) (ms := 0) (rest := []) X mt_X5_tells q5_190 q5_191 q5_192 0 wM_0 rfl (c_X5_tells hfl hI (sx_rg _ _) (sx_rg _ _)) (by decide) (by omega) (by omega) (Nat.le_of_ble_eq_true rfl) rfl rfl dL_law_996 rfl (k_pu1_1 hA (fun z9 W9 => ?_))
          show G C K Q _ _ _ _ _ (wM C am Y V W9 1 ++ lwC C ao ad (bv, cp, bt, cnt, ml) E F Z Y gs cap g)
          refine g_istore (t := 1001) (lv1 := [(6, vi z9), (5, vi 1), (4, vi (7 * (j : Int))), (0, .ref b), (1, .ref (ad 4)), (2, .ref (am 0)), (3, .ref ao)]) X dL_law_999 (by decide) rfl rfl ?_
          refine g_aload_n (t := 1002) X dL_law_1001 5 rfl rfl ?_
          refine g_callV (t := 1005) (mc := 0) (ms := 0) (rest := []) X mt_X5_thrown q5_46 q5_47 q5_48 0 wM_0 rfl (c_X5_thrown hfl) (by decide) (by omega) (by omega) (Nat.le_of_ble_eq_true rfl) rfl rfl dL_law_1002 rfl (k_rv ?_)
          refine g_pm lw_pm2 ?_
          refine g_iload (t := 1007) X dL_law_1005 1 rfl rfl ?_
          refine g_icmp_eq (t := 1012) (u := 1010) X dL_law_1007 (by decide) rfl ⟨by omega, by omega⟩ ⟨by omega, by omega⟩ (fun _ => ?_) (fun c => absurd c (by decide))
          refine g_iload (t := 1014) X dL_law_1012 1 rfl rfl ?_
          refine g_if_ne (t := 1029) (u := 1017) X dL_law_1014 (by decide) rfl ⟨by omega, by omega⟩ (fun _ => ?_) (fun c => absurd c (by decide))
          refine g_goto (t := 1032) X dL_law_1029 (by decide) ?_
          refine g_iinc (t := 1035) (lv1 := [(4, vi ((7 * (j : Int)) + 7)), (6, vi z9), (5, vi 1), (0, .ref b), (1, .ref (ad 4)), (2, .ref (am 0)), (3, .ref ao)]) X dL_law_1032 2 rfl (by decide) rfl rfl ?_
          refine g_goto (t := 23) X dL_law_1035 (by decide) ?_
          refine g_cs (c1 := 1000 + 400 * (j + 1)) (s1 := 2000 + 800 * (j + 1)) ?_ (by omega) (by omega)
          rw [show 7 * (j : Int) + 7 = 7 * ((j + 1 : Nat) : Int) by omega]
          exact g_lv (ih (j + 1) ad (bv, cp, bt, cnt, ml) E F Z Y V gs cap g W9 1 (by omega) (by omega) rfl hI hB hP hF hG) [0, 3, 4, 5, 6] rfl
        · obtain ⟨B1, hB9, rfl⟩ := hw
          show G C K Q _ _ _ _ _ (lwW C am ao ad B1 E F S Y gs cap g1 Y V W th)
          refine g_istore (t := 983) (lv1 := [(5, vi 0), (4, vi (7 * (j : Int))), (0, .ref b), (1, .ref (ad 4)), (2, .ref (am 0)), (3, .ref ao)]) X dL_law_981 (by decide) rfl rfl ?_
          refine g_aload_n (t := 984) X dL_law_983 4 rfl rfl ?_
          refine g_aload_n (t := 985) X dL_law_984 2 rfl rfl ?_
          refine g_iload (t := 987) X dL_law_985 1 rfl rfl ?_
          refine g_iconst (t := 988) X dL_law_987 rfl ?_
          refine g_iadd (t := 989) X dL_law_988 rfl ?_
          refine g_sld (t := 990) X hx9 (by omega) (by omega) (by omega) dL_law_989 rfl ?_
          refine g_aload_n (t := 991) X dL_law_990 2 rfl rfl ?_
          refine g_iload (t := 993) X dL_law_991 1 rfl rfl ?_
          refine g_iconst (t := 994) X dL_law_993 rfl ?_
          refine g_iadd (t := 995) X dL_law_994 rfl ?_
          refine g_sld (t := 996) X hx9 (by omega) (by omega) (by omega) dL_law_995 rfl ?_
          refine g_pm lw_pm ?_
          refine g_callV (t := 999) (mc := 0) (ms := 0) (rest := []) X mt_X5_tells q5_190 q5_191 q5_192 0 wM_0 rfl (c_X5_tells hfl hI (sx_rg _ _) (sx_rg _ _)) (by decide) (by omega) (by omega) (Nat.le_of_ble_eq_true rfl) rfl rfl dL_law_996 rfl (k_pu1_0 hA (fun W9 => ?_))
          show G C K Q _ _ _ _ _ (wM C am Y V W9 0 ++ lwC C ao ad B1 E F S Y gs cap g1)
          refine g_istore (t := 1001) (lv1 := [(6, vi (tellF Y (sx xs (7 * (j : Int) + 1)) (sx xs (7 * (j : Int) + 2)))), (5, vi 0), (4, vi (7 * (j : Int))), (0, .ref b), (1, .ref (ad 4)), (2, .ref (am 0)), (3, .ref ao)]) X dL_law_999 (by decide) rfl rfl ?_
          refine g_aload_n (t := 1002) X dL_law_1001 5 rfl rfl ?_
          refine g_callV (t := 1005) (mc := 0) (ms := 0) (rest := []) X mt_X5_thrown q5_46 q5_47 q5_48 0 wM_0 rfl (c_X5_thrown hfl) (by decide) (by omega) (by omega) (Nat.le_of_ble_eq_true rfl) rfl rfl dL_law_1002 rfl (k_rv ?_)
          refine g_pm lw_pm2 ?_
          refine g_iload (t := 1007) X dL_law_1005 1 rfl rfl ?_
          refine g_icmp_eq (t := 1012) (u := 1010) X dL_law_1007 (by decide) rfl ⟨by omega, by omega⟩ ⟨by omega, by omega⟩ (fun _ => ?_) (fun c => absurd c (by decide))
          refine g_iload (t := 1014) X dL_law_1012 1 rfl rfl ?_
          refine g_if_ne (t := 1029) (u := 1017) X dL_law_1014 (by decide) rfl ⟨by omega, by omega⟩ (fun c => absurd c (by decide)) (fun _ => ?_)
          refine g_aload_n (t := 1018) X dL_law_1017 6 rfl rfl ?_
          refine g_iconst (t := 1019) X dL_law_1018 rfl ?_
          refine g_lald (t := 1020) X out_at dL_law_1019 rfl ?_
          refine g_iload (t := 1022) X dL_law_1020 0 rfl rfl ?_
          refine g_i2l (t := 1023) X dL_law_1022 rfl ?_
          refine g_lcmp0 (t := 1024) X hg dL_law_1023 rfl ?_
          refine g_if_eq (t := 1029) (u := 1027) X dL_law_1024 (by decide) rfl ⟨by omega, by omega⟩ (fun _ => ?_) (fun c => absurd c (by decide))
          refine g_goto (t := 1032) X dL_law_1029 (by decide) ?_
          refine g_iinc (t := 1035) (lv1 := [(4, vi ((7 * (j : Int)) + 7)), (6, vi (tellF Y (sx xs (7 * (j : Int) + 1)) (sx xs (7 * (j : Int) + 2)))), (5, vi 0), (0, .ref b), (1, .ref (ad 4)), (2, .ref (am 0)), (3, .ref ao)]) X dL_law_1032 2 rfl (by decide) rfl rfl ?_
          refine g_goto (t := 23) X dL_law_1035 (by decide) ?_
          refine g_cs (c1 := 1000 + 400 * (j + 1)) (s1 := 2000 + 800 * (j + 1)) ?_ (by omega) (by omega)
          rw [show 7 * (j : Int) + 7 = 7 * ((j + 1 : Nat) : Int) by omega]
          exact g_lv (ih (j + 1) ad B1 E F S Y V gs cap g1 W9 0 (by omega) (by omega) rfl hI hB9 hP hF hG) [0, 3, 4, 5, 6] rfl
      · show G C K Q _ _ 40 _ [vi 15] _
        refine g_tout (t := 1032) (z := 15) X dL_law_40 ⟨by omega, by omega⟩ (by omega) (by decide) ?_
        refine g_iinc (t := 1035) (lv1 := [(4, vi ((7 * (j : Int)) + 7)), (0, .ref b), (1, .ref (ad 4)), (2, .ref (am 0)), (3, .ref ao)]) X dL_law_1032 0 rfl (by decide) rfl rfl ?_
        refine g_goto (t := 23) X dL_law_1035 (by decide) ?_
        refine g_cs (c1 := 1000 + 400 * (j + 1)) (s1 := 2000 + 800 * (j + 1)) ?_ (by omega) (by omega)
        rw [show 7 * (j : Int) + 7 = 7 * ((j + 1 : Nat) : Int) by omega]
        exact g_lv (ih (j + 1) ad (bv, cp, bt, cnt, ml) E F S Y V gs cap g W th (by omega) (by omega) rfl hI hB hP hF hG) [0, 1, 2, 3, 4] rfl

