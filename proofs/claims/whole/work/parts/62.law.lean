/-! THE LAW: its loop over the script, with the class and the reference in one state -/
theorem eg_sldN {l : Launch} {E : eg_E} {y : eg_Mt} {d k n pc : Nat} {Q : Option Value → eg_G → eg_I → Prop} {lo : List (Option Value)} {st : List Value} {G : eg_G} {M : eg_I} {j : Nat} (hj : j < E.2.2.2.2.1) (hN : E.2.2.2.2.1 < 2 ^ 31) (hd : decode y.2.1 pc = .ok (.iaload, 1)) (kk : eg_J l E y d k n Q (pc + 1) lo (.int (E.2.2.2.2.2 j) :: st) G M) : eg_J l E y d k n Q (pc) lo (.int (nI j) :: .ref E.2.2.2.1 :: st) G M := by
  refine eg_sld (vp_in_nI hj hN) hd ?_
  rw [nI_clamp (by omega)]
  exact kk
theorem lw_gt {L i : Nat} (hL : L ≤ 2048) (hi : i ≤ 4096) : nI L - nI 4 < nI i ↔ L < i + 4 := by
  rw [Int32.lt_iff_toInt_lt, nI_toInt (n := i) (by omega)]
  have e : (nI L - nI 4).toInt = (L : Int) - 4 := by
    by_cases h : 4 ≤ L
    · rw [pk_sub h, nI_toInt (by omega)]
      omega
    · have : L = 0 ∨ L = 1 ∨ L = 2 ∨ L = 3 := by omega
      rcases this with rfl | rfl | rfl | rfl <;> decide
  rw [e]
  omega
theorem lw_and (x : Int32) : ∃ j, j < 16 ∧ x &&& nI 15 = nI j := by
  obtain ⟨j, hj, e⟩ := pk_andE x (m := nI (2 ^ 4 - 1)) 4 (pk_tn (by omega))
  exact ⟨j, hj, e⟩
theorem lw_inc (i : Nat) : nI i + Int32.ofInt 4 = nI (i + 4) := nI_add i 4
theorem sh_C.kp {G G' : eg_G} {b : Nat} (h : sh_C G b) (e : ∀ q, b ≤ q → q < b + 63 → G'.2.1 q = G.2.1 q ∧ G'.2.2 q = G.2.2 q) : sh_C G' b := by
  obtain ⟨k0, k1, k2, k3, k4, k5, kV, k6, kR, k7, kF, k8, k9, k10, kH⟩ := h
  refine ⟨?_, ?_, ?_, ?_, ?_, ?_, kV.kp (fun q z1 z2 => e q (by omega) (by omega)), ?_, kR.kp (fun q z1 z2 => e q (by omega) (by omega)), ?_, kF.kp (fun q z1 z2 => e q (by omega) (by omega)), ?_, ?_, ?_, kH.kp (fun q z1 z2 => e q (by omega) (by omega))⟩
  · rw [(e b (by omega) (by omega)).1]; exact k0
  · rw [(e b (by omega) (by omega)).2]; exact k1
  · rw [(e (b + 1) (by omega) (by omega)).1]; exact k2
  · rw [(e b (by omega) (by omega)).2]; exact k3
  · rw [(e (b + 2) (by omega) (by omega)).1]; exact k4
  · rw [(e b (by omega) (by omega)).2]; exact k5
  · rw [(e b (by omega) (by omega)).2]; exact k6
  · rw [(e b (by omega) (by omega)).2]; exact k7
  · rw [(e b (by omega) (by omega)).2]; exact k8
  · rw [(e (b + 31) (by omega) (by omega)).1]; exact k9
  · rw [(e b (by omega) (by omega)).2]; exact k10
theorem ci_I.eq {M M' : eg_I} {b : Nat} {S : st_T} (hok : st_ok S) (h : ci_I M b S) (e : ∀ q, b ≤ q → q < b + 63 → M' q = M q) : ci_I M' b S := by
  obtain ⟨-, -, o3, o4, o5, -, -, o8, -⟩ := hok
  have hl : (sP S).1 ≤ 12 := o8.1
  have hg : sG S ≤ 6 := by show S.1.2.1 + S.1.2.2 ≤ 6; omega
  obtain ⟨h1, h2, h3, h4, h5, h6, h7, h8, h9, h10, h11⟩ := h
  refine ⟨h1.eq (e _ (by omega) (by omega)), fun u s z1 z2 => ?_, fun o ho => ?_, fun s z => ?_, h5.eq (fun q z1 z2 => e q (by omega) (by omega)), ?_, fun z => (h7 z).eq (fun q z1 z2 => e q (by omega) (by omega)), ?_, ?_, ?_, ?_⟩
  · rw [e _ (by omega) (by omega)]; exact h2 u s z1 z2
  · rw [e _ (by omega) (by omega)]; exact h3 o ho
  · rw [e _ (by omega) (by omega)]; exact h4 s z
  · rw [e _ (by omega) (by omega)]; exact h6
  · rw [e _ (by omega) (by omega)]; exact h8
  · rw [e _ (by omega) (by omega)]; exact h9
  · rw [e _ (by omega) (by omega)]; exact h10
  · rw [e _ (by omega) (by omega)]; exact h11
theorem ri_I.eq {M M' : eg_I} {a : Nat} {S : st_T} (h : ri_I M a S) (e : ∀ q, a ≤ q → q < a + 19 → M' q = M q) : ri_I M' a S := by
  obtain ⟨h1, h2, h3, h4, h5, h6, h7, h8, h9, h10, h11⟩ := h
  refine ⟨h1.eq (fun j _ => by rw [e _ (by omega) (by omega)]) (e _ (by omega) (by omega)), fun u s z1 z2 => ?_, fun o ho => ?_, fun s z => ?_, h5.eq (by rw [e _ (by omega) (by omega)]) (by rw [e _ (by omega) (by omega)]) (fun q z1 z2 => e q (by omega) (by omega)), ?_, fun z => (h7 z).eq (by rw [e _ (by omega) (by omega)]) (by rw [e _ (by omega) (by omega)]) (fun q z1 z2 => e q (by omega) (by omega)), ?_, ?_, ?_, ?_⟩
  · rw [e _ (by omega) (by omega)]; exact h2 u s z1 z2
  · rw [e _ (by omega) (by omega)]; exact h3 o ho
  · rw [e _ (by omega) (by omega)]; exact h4 s z
  · rw [e _ (by omega) (by omega)]; exact h6
  · rw [e _ (by omega) (by omega)]; exact h8
  · rw [e _ (by omega) (by omega)]; exact h9
  · rw [e _ (by omega) (by omega)]; exact h10
  · rw [e _ (by omega) (by omega)]; exact h11
/-- the law, under whatever name its method has -/
abbrev mLx (nm : String) : eg_Mt := (⟨RL, nm, "([I)Z"⟩, cL_law, 4, some .boolean)
set_option maxHeartbeats 4000000 in
theorem lp_L_law {nm : String} {l : Launch} {E : eg_E} {d kb nb : Nat} {Q : Option Value → eg_G → eg_I → Prop} {G : eg_G} {b : Nat} (hd : 45 ≤ d) (hL : E.2.2.2.2.1 ≤ 2048) (hsC : sh_C G b) (hsM : sh_M G (b + 63)) (hQ : ∀ G M, Q (some (.int 1)) G M) : ∀ (t i : Nat) (S : st_T) (M : eg_I), i ≤ 2048 → E.2.2.2.2.1 < i + 4 * t + 4 → st_ok S → ci_I M b S → ri_I M (b + 63) S → eg_J l E (mLx nm) d kb nb Q 18 [some (.ref E.2.2.2.1), some (.ref b), some (.ref (b + 63)), some (.int (nI i))] [] G M := by
  intro t
  induction t with
  | zero =>
    intro i S M hi hit hok hC hR
    refine eg_iload_n dL_law_18 rfl rfl ?_
    refine eg_aload_n dL_law_19 rfl rfl ?_
    refine eg_slen dL_law_20 ?_
    refine eg_iconst dL_law_21 (v := nI 4) (by decide) ?_
    refine eg_isub dL_law_22 ?_
    refine eg_icmp_gt 546 dL_law_23 (by decide) (fun c23 => ?_) (fun c23 => absurd ((lw_gt hL (by omega)).mpr (by omega)) c23)
    refine eg_iconst dL_law_546 (v := nI 1) (by decide) ?_
    exact eg_zret rfl rfl dL_law_547 (hQ G M)
  | succ t ih =>
    intro i S M hi hit hok hC hR
    have kC := hsC.1
    have kM := hsM.1
    by_cases hb : E.2.2.2.2.1 < i + 4
    · refine eg_iload_n dL_law_18 rfl rfl ?_
      refine eg_aload_n dL_law_19 rfl rfl ?_
      refine eg_slen dL_law_20 ?_
      refine eg_iconst dL_law_21 (v := nI 4) (by decide) ?_
      refine eg_isub dL_law_22 ?_
      refine eg_icmp_gt 546 dL_law_23 (by decide) (fun c23 => ?_) (fun c23 => absurd ((lw_gt hL (by omega)).mpr hb) c23)
      refine eg_iconst dL_law_546 (v := nI 1) (by decide) ?_
      exact eg_zret rfl rfl dL_law_547 (hQ G M)
    · refine eg_iload_n dL_law_18 rfl rfl ?_
      refine eg_aload_n dL_law_19 rfl rfl ?_
      refine eg_slen dL_law_20 ?_
      refine eg_iconst dL_law_21 (v := nI 4) (by decide) ?_
      refine eg_isub dL_law_22 ?_
      refine eg_icmp_gt 546 dL_law_23 (by decide) (fun c23 => absurd c23 (fun q => absurd ((lw_gt hL (by omega)).mp q) hb)) (fun c23 => ?_)
      refine eg_aload_n dL_law_26 rfl rfl ?_
      refine eg_iload_n dL_law_27 rfl rfl ?_
      refine eg_sldN (by omega) (by omega) dL_law_28 ?_
      refine eg_bipush dL_law_29 (v := nI 15) (by decide) ?_
      refine eg_iand dL_law_31 ?_
      obtain ⟨j, hj, ej⟩ := lw_and (E.2.2.2.2.2 i)
      refine eg_topi ej ?_
      match j, hj with
      | 0, _ =>
        refine eg_tableIn 112 dL_law_32 (by decide) (by decide) rfl (by decide) ?_
        refine eg_aload_n dL_law_112 rfl rfl ?_
        refine eg_aload_n dL_law_113 rfl rfl ?_
        refine eg_iload_n dL_law_114 rfl rfl ?_
        refine eg_iconst dL_law_115 (v := nI 1) (by decide) ?_
        refine eg_iadd dL_law_116 ?_
        refine eg_topi (nI_add i 1) ?_
        refine eg_sldN (by omega) (by omega) dL_law_117 ?_
        refine eg_aload_n dL_law_118 rfl rfl ?_
        refine eg_iload_n dL_law_119 rfl rfl ?_
        refine eg_iconst dL_law_120 (v := nI 2) (by decide) ?_
        refine eg_iadd dL_law_121 ?_
        refine eg_topi (nI_add i 2) ?_
        refine eg_sldN (by omega) (by omega) dL_law_122 ?_
        refine eg_callV2 0 0 gk_X3_words gi_X3_words (by assumption) rfl gl_RL_13 rfl (Nat.le_of_ble_eq_true rfl) (Nat.le_of_ble_eq_true rfl) (Nat.zero_le _) (Nat.zero_le _) (by omega) dL_law_123 ?_
        refine ap_C_words hsC hok hC (by omega) (fun M1 h1 g1 => ?_)
        refine eg_aload_n dL_law_126 rfl rfl ?_
        refine eg_aload_n dL_law_127 rfl rfl ?_
        refine eg_iload_n dL_law_128 rfl rfl ?_
        refine eg_iconst dL_law_129 (v := nI 1) (by decide) ?_
        refine eg_iadd dL_law_130 ?_
        refine eg_topi (nI_add i 1) ?_
        refine eg_sldN (by omega) (by omega) dL_law_131 ?_
        refine eg_aload_n dL_law_132 rfl rfl ?_
        refine eg_iload_n dL_law_133 rfl rfl ?_
        refine eg_iconst dL_law_134 (v := nI 2) (by decide) ?_
        refine eg_iadd dL_law_135 ?_
        refine eg_topi (nI_add i 2) ?_
        refine eg_sldN (by omega) (by omega) dL_law_136 ?_
        refine eg_callV2 0 0 gk_X4_words gi_X4_words (by assumption) rfl gl_RL_17 rfl (Nat.le_of_ble_eq_true rfl) (Nat.le_of_ble_eq_true rfl) (Nat.zero_le _) (Nat.zero_le _) (by omega) dL_law_137 ?_
        refine ap_R_words hsM hok (hR.eq (fun q z1 z2 => g1 q (by omega))) (by omega) (fun M2 h2 g2 => ?_)
        refine eg_icmp_eq 540 dL_law_140 (by decide) (fun c140 => ?_) (fun c140 => absurd rfl c140)
        refine eg_iinc dL_law_540 (show 3 < 4 by decide) rfl (lw_inc i) rfl ?_
        refine eg_goto 18 dL_law_543 (by decide) ?_
        have hok2 := ok_words (x := E.2.2.2.2.2 (i + 1)) (y := E.2.2.2.2.2 (i + 2)) hok
        exact ih (i + 4) (ap_words S (E.2.2.2.2.2 (i + 1)) (E.2.2.2.2.2 (i + 2))).2 M2 (by omega) (by omega) hok2 (h1.eq hok2 (fun q z1 z2 => g2 q (by omega))) h2
      | 1, _ =>
        refine eg_tableIn 145 dL_law_32 (by decide) (by decide) rfl (by decide) ?_
        refine eg_aload_n dL_law_145 rfl rfl ?_
        refine eg_aload_n dL_law_146 rfl rfl ?_
        refine eg_iload_n dL_law_147 rfl rfl ?_
        refine eg_iconst dL_law_148 (v := nI 1) (by decide) ?_
        refine eg_iadd dL_law_149 ?_
        refine eg_topi (nI_add i 1) ?_
        refine eg_sldN (by omega) (by omega) dL_law_150 ?_
        refine eg_callV1 0 0 gk_X3_constant gi_X3_constant (by assumption) rfl gl_RL_18 rfl (Nat.le_of_ble_eq_true rfl) (Nat.le_of_ble_eq_true rfl) (Nat.zero_le _) (Nat.zero_le _) (by omega) dL_law_151 ?_
        refine ap_C_constant hsC hok hC (by omega) (fun M1 h1 g1 => ?_)
        refine eg_aload_n dL_law_154 rfl rfl ?_
        refine eg_aload_n dL_law_155 rfl rfl ?_
        refine eg_iload_n dL_law_156 rfl rfl ?_
        refine eg_iconst dL_law_157 (v := nI 1) (by decide) ?_
        refine eg_iadd dL_law_158 ?_
        refine eg_topi (nI_add i 1) ?_
        refine eg_sldN (by omega) (by omega) dL_law_159 ?_
        refine eg_callV1 0 0 gk_X4_constant gi_X4_constant (by assumption) rfl gl_RL_22 rfl (Nat.le_of_ble_eq_true rfl) (Nat.le_of_ble_eq_true rfl) (Nat.zero_le _) (Nat.zero_le _) (by omega) dL_law_160 ?_
        refine ap_R_constant hsM hok (hR.eq (fun q z1 z2 => g1 q (by omega))) (by omega) (fun M2 h2 g2 => ?_)
        refine eg_icmp_eq 540 dL_law_163 (by decide) (fun c163 => ?_) (fun c163 => absurd rfl c163)
        refine eg_iinc dL_law_540 (show 3 < 4 by decide) rfl (lw_inc i) rfl ?_
        refine eg_goto 18 dL_law_543 (by decide) ?_
        have hok2 := ok_constant (x := E.2.2.2.2.2 (i + 1)) hok
        exact ih (i + 4) (ap_constant S (E.2.2.2.2.2 (i + 1))).2 M2 (by omega) (by omega) hok2 (h1.eq hok2 (fun q z1 z2 => g2 q (by omega))) h2
      | 2, _ =>
        refine eg_tableIn 168 dL_law_32 (by decide) (by decide) rfl (by decide) ?_
        refine eg_aload_n dL_law_168 rfl rfl ?_
        refine eg_aload_n dL_law_169 rfl rfl ?_
        refine eg_iload_n dL_law_170 rfl rfl ?_
        refine eg_iconst dL_law_171 (v := nI 1) (by decide) ?_
        refine eg_iadd dL_law_172 ?_
        refine eg_topi (nI_add i 1) ?_
        refine eg_sldN (by omega) (by omega) dL_law_173 ?_
        refine eg_aload_n dL_law_174 rfl rfl ?_
        refine eg_iload_n dL_law_175 rfl rfl ?_
        refine eg_iconst dL_law_176 (v := nI 2) (by decide) ?_
        refine eg_iadd dL_law_177 ?_
        refine eg_topi (nI_add i 2) ?_
        refine eg_sldN (by omega) (by omega) dL_law_178 ?_
        refine eg_callV2 0 0 gk_X3_cost gi_X3_cost (by assumption) rfl gl_RL_23 rfl (Nat.le_of_ble_eq_true rfl) (Nat.le_of_ble_eq_true rfl) (Nat.zero_le _) (Nat.zero_le _) (by omega) dL_law_179 ?_
        refine ap_C_cost hsC hok hC (by omega) (fun M1 h1 g1 => ?_)
        refine eg_aload_n dL_law_182 rfl rfl ?_
        refine eg_aload_n dL_law_183 rfl rfl ?_
        refine eg_iload_n dL_law_184 rfl rfl ?_
        refine eg_iconst dL_law_185 (v := nI 1) (by decide) ?_
        refine eg_iadd dL_law_186 ?_
        refine eg_topi (nI_add i 1) ?_
        refine eg_sldN (by omega) (by omega) dL_law_187 ?_
        refine eg_aload_n dL_law_188 rfl rfl ?_
        refine eg_iload_n dL_law_189 rfl rfl ?_
        refine eg_iconst dL_law_190 (v := nI 2) (by decide) ?_
        refine eg_iadd dL_law_191 ?_
        refine eg_topi (nI_add i 2) ?_
        refine eg_sldN (by omega) (by omega) dL_law_192 ?_
        refine eg_callV2 0 0 gk_X4_cost gi_X4_cost (by assumption) rfl gl_RL_26 rfl (Nat.le_of_ble_eq_true rfl) (Nat.le_of_ble_eq_true rfl) (Nat.zero_le _) (Nat.zero_le _) (by omega) dL_law_193 ?_
        refine ap_R_cost hsM hok (hR.eq (fun q z1 z2 => g1 q (by omega))) (by omega) (fun M2 h2 g2 => ?_)
        refine eg_icmp_eq 540 dL_law_196 (by decide) (fun c196 => ?_) (fun c196 => absurd rfl c196)
        refine eg_iinc dL_law_540 (show 3 < 4 by decide) rfl (lw_inc i) rfl ?_
        refine eg_goto 18 dL_law_543 (by decide) ?_
        have hok2 := ok_cost (x := E.2.2.2.2.2 (i + 1)) (y := E.2.2.2.2.2 (i + 2)) hok
        exact ih (i + 4) (ap_cost S (E.2.2.2.2.2 (i + 1)) (E.2.2.2.2.2 (i + 2))).2 M2 (by omega) (by omega) hok2 (h1.eq hok2 (fun q z1 z2 => g2 q (by omega))) h2
      | 3, _ =>
        refine eg_tableIn 201 dL_law_32 (by decide) (by decide) rfl (by decide) ?_
        refine eg_aload_n dL_law_201 rfl rfl ?_
        refine eg_aload_n dL_law_202 rfl rfl ?_
        refine eg_iload_n dL_law_203 rfl rfl ?_
        refine eg_iconst dL_law_204 (v := nI 1) (by decide) ?_
        refine eg_iadd dL_law_205 ?_
        refine eg_topi (nI_add i 1) ?_
        refine eg_sldN (by omega) (by omega) dL_law_206 ?_
        refine eg_aload_n dL_law_207 rfl rfl ?_
        refine eg_iload_n dL_law_208 rfl rfl ?_
        refine eg_iconst dL_law_209 (v := nI 2) (by decide) ?_
        refine eg_iadd dL_law_210 ?_
        refine eg_topi (nI_add i 2) ?_
        refine eg_sldN (by omega) (by omega) dL_law_211 ?_
        refine eg_callV2 0 0 gk_X3_target gi_X3_target (by assumption) rfl gl_RL_27 rfl (Nat.le_of_ble_eq_true rfl) (Nat.le_of_ble_eq_true rfl) (Nat.zero_le _) (Nat.zero_le _) (by omega) dL_law_212 ?_
        refine ap_C_target hsC hok hC (by omega) (fun M1 h1 g1 => ?_)
        refine eg_aload_n dL_law_215 rfl rfl ?_
        refine eg_aload_n dL_law_216 rfl rfl ?_
        refine eg_iload_n dL_law_217 rfl rfl ?_
        refine eg_iconst dL_law_218 (v := nI 1) (by decide) ?_
        refine eg_iadd dL_law_219 ?_
        refine eg_topi (nI_add i 1) ?_
        refine eg_sldN (by omega) (by omega) dL_law_220 ?_
        refine eg_aload_n dL_law_221 rfl rfl ?_
        refine eg_iload_n dL_law_222 rfl rfl ?_
        refine eg_iconst dL_law_223 (v := nI 2) (by decide) ?_
        refine eg_iadd dL_law_224 ?_
        refine eg_topi (nI_add i 2) ?_
        refine eg_sldN (by omega) (by omega) dL_law_225 ?_
        refine eg_callV2 0 0 gk_X4_target gi_X4_target (by assumption) rfl gl_RL_30 rfl (Nat.le_of_ble_eq_true rfl) (Nat.le_of_ble_eq_true rfl) (Nat.zero_le _) (Nat.zero_le _) (by omega) dL_law_226 ?_
        refine ap_R_target hsM hok (hR.eq (fun q z1 z2 => g1 q (by omega))) (by omega) (fun M2 h2 g2 => ?_)
        refine eg_icmp_eq 540 dL_law_229 (by decide) (fun c229 => ?_) (fun c229 => absurd rfl c229)
        refine eg_iinc dL_law_540 (show 3 < 4 by decide) rfl (lw_inc i) rfl ?_
        refine eg_goto 18 dL_law_543 (by decide) ?_
        have hok2 := ok_target (x := E.2.2.2.2.2 (i + 1)) (y := E.2.2.2.2.2 (i + 2)) hok
        exact ih (i + 4) (ap_target S (E.2.2.2.2.2 (i + 1)) (E.2.2.2.2.2 (i + 2))).2 M2 (by omega) (by omega) hok2 (h1.eq hok2 (fun q z1 z2 => g2 q (by omega))) h2
      | 4, _ =>
        refine eg_tableIn 234 dL_law_32 (by decide) (by decide) rfl (by decide) ?_
        refine eg_aload_n dL_law_234 rfl rfl ?_
        refine eg_callV0 0 0 gk_X3_aim gi_X3_aim (by assumption) rfl gl_RL_31 rfl (Nat.le_of_ble_eq_true rfl) (Nat.le_of_ble_eq_true rfl) (Nat.zero_le _) (Nat.zero_le _) (by omega) dL_law_235 ?_
        refine ap_C_aim hsC hok hC (by omega) (fun M1 h1 g1 => ?_)
        refine eg_aload_n dL_law_238 rfl rfl ?_
        refine eg_callV0 0 0 gk_X4_aim gi_X4_aim (by assumption) rfl gl_RL_35 rfl (Nat.le_of_ble_eq_true rfl) (Nat.le_of_ble_eq_true rfl) (Nat.zero_le _) (Nat.zero_le _) (by omega) dL_law_239 ?_
        refine ap_R_aim hsM hok (hR.eq (fun q z1 z2 => g1 q (by omega))) (by omega) (fun M2 h2 g2 => ?_)
        refine eg_icmp_eq 540 dL_law_242 (by decide) (fun c242 => ?_) (fun c242 => absurd rfl c242)
        refine eg_iinc dL_law_540 (show 3 < 4 by decide) rfl (lw_inc i) rfl ?_
        refine eg_goto 18 dL_law_543 (by decide) ?_
        have hok2 := ok_aim hok
        exact ih (i + 4) (ap_aim S).2 M2 (by omega) (by omega) hok2 (h1.eq hok2 (fun q z1 z2 => g2 q (by omega))) h2
      | 5, _ =>
        refine eg_tableIn 247 dL_law_32 (by decide) (by decide) rfl (by decide) ?_
        refine eg_aload_n dL_law_247 rfl rfl ?_
        refine eg_aload_n dL_law_248 rfl rfl ?_
        refine eg_iload_n dL_law_249 rfl rfl ?_
        refine eg_iconst dL_law_250 (v := nI 1) (by decide) ?_
        refine eg_iadd dL_law_251 ?_
        refine eg_topi (nI_add i 1) ?_
        refine eg_sldN (by omega) (by omega) dL_law_252 ?_
        refine eg_aload_n dL_law_253 rfl rfl ?_
        refine eg_iload_n dL_law_254 rfl rfl ?_
        refine eg_iconst dL_law_255 (v := nI 2) (by decide) ?_
        refine eg_iadd dL_law_256 ?_
        refine eg_topi (nI_add i 2) ?_
        refine eg_sldN (by omega) (by omega) dL_law_257 ?_
        refine eg_aload_n dL_law_258 rfl rfl ?_
        refine eg_iload_n dL_law_259 rfl rfl ?_
        refine eg_iconst dL_law_260 (v := nI 3) (by decide) ?_
        refine eg_iadd dL_law_261 ?_
        refine eg_topi (nI_add i 3) ?_
        refine eg_sldN (by omega) (by omega) dL_law_262 ?_
        refine eg_callV3 0 0 gk_X3_add gi_X3_add (by assumption) rfl gl_RL_36 rfl (Nat.le_of_ble_eq_true rfl) (Nat.le_of_ble_eq_true rfl) (Nat.zero_le _) (Nat.zero_le _) (by omega) dL_law_263 ?_
        refine ap_C_add hsC hok hC (by omega) (fun M1 h1 g1 => ?_)
        refine eg_aload_n dL_law_266 rfl rfl ?_
        refine eg_aload_n dL_law_267 rfl rfl ?_
        refine eg_iload_n dL_law_268 rfl rfl ?_
        refine eg_iconst dL_law_269 (v := nI 1) (by decide) ?_
        refine eg_iadd dL_law_270 ?_
        refine eg_topi (nI_add i 1) ?_
        refine eg_sldN (by omega) (by omega) dL_law_271 ?_
        refine eg_aload_n dL_law_272 rfl rfl ?_
        refine eg_iload_n dL_law_273 rfl rfl ?_
        refine eg_iconst dL_law_274 (v := nI 2) (by decide) ?_
        refine eg_iadd dL_law_275 ?_
        refine eg_topi (nI_add i 2) ?_
        refine eg_sldN (by omega) (by omega) dL_law_276 ?_
        refine eg_aload_n dL_law_277 rfl rfl ?_
        refine eg_iload_n dL_law_278 rfl rfl ?_
        refine eg_iconst dL_law_279 (v := nI 3) (by decide) ?_
        refine eg_iadd dL_law_280 ?_
        refine eg_topi (nI_add i 3) ?_
        refine eg_sldN (by omega) (by omega) dL_law_281 ?_
        refine eg_callV3 0 0 gk_X4_add gi_X4_add (by assumption) rfl gl_RL_40 rfl (Nat.le_of_ble_eq_true rfl) (Nat.le_of_ble_eq_true rfl) (Nat.zero_le _) (Nat.zero_le _) (by omega) dL_law_282 ?_
        refine ap_R_add hsM hok (hR.eq (fun q z1 z2 => g1 q (by omega))) (by omega) (fun M2 h2 g2 => ?_)
        refine eg_icmp_eq 540 dL_law_285 (by decide) (fun c285 => ?_) (fun c285 => absurd rfl c285)
        refine eg_iinc dL_law_540 (show 3 < 4 by decide) rfl (lw_inc i) rfl ?_
        refine eg_goto 18 dL_law_543 (by decide) ?_
        have hok2 := ok_add (x := E.2.2.2.2.2 (i + 1)) (y := E.2.2.2.2.2 (i + 2)) (z := E.2.2.2.2.2 (i + 3)) hok
        exact ih (i + 4) (ap_add S (E.2.2.2.2.2 (i + 1)) (E.2.2.2.2.2 (i + 2)) (E.2.2.2.2.2 (i + 3))).2 M2 (by omega) (by omega) hok2 (h1.eq hok2 (fun q z1 z2 => g2 q (by omega))) h2
      | 6, _ =>
        refine eg_tableIn 290 dL_law_32 (by decide) (by decide) rfl (by decide) ?_
        refine eg_aload_n dL_law_290 rfl rfl ?_
        refine eg_callV0 0 0 gk_X3_drop gi_X3_drop (by assumption) rfl gl_RL_41 rfl (Nat.le_of_ble_eq_true rfl) (Nat.le_of_ble_eq_true rfl) (Nat.zero_le _) (Nat.zero_le _) (by omega) dL_law_291 ?_
        refine ap_C_drop hsC hok hC (by omega) (fun M1 h1 g1 => ?_)
        refine eg_aload_n dL_law_294 rfl rfl ?_
        refine eg_callV0 0 0 gk_X4_drop gi_X4_drop (by assumption) rfl gl_RL_44 rfl (Nat.le_of_ble_eq_true rfl) (Nat.le_of_ble_eq_true rfl) (Nat.zero_le _) (Nat.zero_le _) (by omega) dL_law_295 ?_
        refine ap_R_drop hsM hok (hR.eq (fun q z1 z2 => g1 q (by omega))) (by omega) (fun M2 h2 g2 => ?_)
        refine eg_icmp_eq 540 dL_law_298 (by decide) (fun c298 => ?_) (fun c298 => absurd rfl c298)
        refine eg_iinc dL_law_540 (show 3 < 4 by decide) rfl (lw_inc i) rfl ?_
        refine eg_goto 18 dL_law_543 (by decide) ?_
        have hok2 := ok_drop hok
        exact ih (i + 4) (ap_drop S).2 M2 (by omega) (by omega) hok2 (h1.eq hok2 (fun q z1 z2 => g2 q (by omega))) h2
      | 7, _ =>
        refine eg_tableIn 303 dL_law_32 (by decide) (by decide) rfl (by decide) ?_
        refine eg_aload_n dL_law_303 rfl rfl ?_
        refine eg_aload_n dL_law_304 rfl rfl ?_
        refine eg_iload_n dL_law_305 rfl rfl ?_
        refine eg_iconst dL_law_306 (v := nI 1) (by decide) ?_
        refine eg_iadd dL_law_307 ?_
        refine eg_topi (nI_add i 1) ?_
        refine eg_sldN (by omega) (by omega) dL_law_308 ?_
        refine eg_callV1 0 0 gk_X3_result gi_X3_result (by assumption) rfl gl_RL_45 rfl (Nat.le_of_ble_eq_true rfl) (Nat.le_of_ble_eq_true rfl) (Nat.zero_le _) (Nat.zero_le _) (by omega) dL_law_309 ?_
        refine ap_C_result hsC hok hC (by omega) (fun M1 h1 g1 => ?_)
        refine eg_aload_n dL_law_312 rfl rfl ?_
        refine eg_aload_n dL_law_313 rfl rfl ?_
        refine eg_iload_n dL_law_314 rfl rfl ?_
        refine eg_iconst dL_law_315 (v := nI 1) (by decide) ?_
        refine eg_iadd dL_law_316 ?_
        refine eg_topi (nI_add i 1) ?_
        refine eg_sldN (by omega) (by omega) dL_law_317 ?_
        refine eg_callV1 0 0 gk_X4_result gi_X4_result (by assumption) rfl gl_RL_48 rfl (Nat.le_of_ble_eq_true rfl) (Nat.le_of_ble_eq_true rfl) (Nat.zero_le _) (Nat.zero_le _) (by omega) dL_law_318 ?_
        refine ap_R_result hsM hok (hR.eq (fun q z1 z2 => g1 q (by omega))) (by omega) (fun M2 h2 g2 => ?_)
        refine eg_icmp_eq 540 dL_law_321 (by decide) (fun c321 => ?_) (fun c321 => absurd rfl c321)
        refine eg_iinc dL_law_540 (show 3 < 4 by decide) rfl (lw_inc i) rfl ?_
        refine eg_goto 18 dL_law_543 (by decide) ?_
        have hok2 := ok_result (x := E.2.2.2.2.2 (i + 1)) hok
        exact ih (i + 4) (ap_result S (E.2.2.2.2.2 (i + 1))).2 M2 (by omega) (by omega) hok2 (h1.eq hok2 (fun q z1 z2 => g2 q (by omega))) h2
      | 8, _ =>
        refine eg_tableIn 326 dL_law_32 (by decide) (by decide) rfl (by decide) ?_
        refine eg_aload_n dL_law_326 rfl rfl ?_
        refine eg_aload_n dL_law_327 rfl rfl ?_
        refine eg_iload_n dL_law_328 rfl rfl ?_
        refine eg_iconst dL_law_329 (v := nI 1) (by decide) ?_
        refine eg_iadd dL_law_330 ?_
        refine eg_topi (nI_add i 1) ?_
        refine eg_sldN (by omega) (by omega) dL_law_331 ?_
        refine eg_aload_n dL_law_332 rfl rfl ?_
        refine eg_iload_n dL_law_333 rfl rfl ?_
        refine eg_iconst dL_law_334 (v := nI 2) (by decide) ?_
        refine eg_iadd dL_law_335 ?_
        refine eg_topi (nI_add i 2) ?_
        refine eg_sldN (by omega) (by omega) dL_law_336 ?_
        refine eg_callV2 0 0 gk_X3_instruction gi_X3_instruction (by assumption) rfl gl_RL_49 rfl (Nat.le_of_ble_eq_true rfl) (Nat.le_of_ble_eq_true rfl) (Nat.zero_le _) (Nat.zero_le _) (by omega) dL_law_337 ?_
        refine ap_C_instr hsC hok hC (by omega) ?_
        refine eg_aload_n dL_law_340 rfl rfl ?_
        refine eg_aload_n dL_law_341 rfl rfl ?_
        refine eg_iload_n dL_law_342 rfl rfl ?_
        refine eg_iconst dL_law_343 (v := nI 1) (by decide) ?_
        refine eg_iadd dL_law_344 ?_
        refine eg_topi (nI_add i 1) ?_
        refine eg_sldN (by omega) (by omega) dL_law_345 ?_
        refine eg_aload_n dL_law_346 rfl rfl ?_
        refine eg_iload_n dL_law_347 rfl rfl ?_
        refine eg_iconst dL_law_348 (v := nI 2) (by decide) ?_
        refine eg_iadd dL_law_349 ?_
        refine eg_topi (nI_add i 2) ?_
        refine eg_sldN (by omega) (by omega) dL_law_350 ?_
        refine eg_callV2 0 0 gk_X4_instruction gi_X4_instruction (by assumption) rfl gl_RL_52 rfl (Nat.le_of_ble_eq_true rfl) (Nat.le_of_ble_eq_true rfl) (Nat.zero_le _) (Nat.zero_le _) (by omega) dL_law_351 ?_
        refine ap_R_instr hsM hok hR (by omega) ?_
        refine eg_icmp_eq 540 dL_law_354 (by decide) (fun c354 => ?_) (fun c354 => absurd rfl c354)
        refine eg_iinc dL_law_540 (show 3 < 4 by decide) rfl (lw_inc i) rfl ?_
        refine eg_goto 18 dL_law_543 (by decide) ?_
        exact ih (i + 4) S M (by omega) (by omega) hok hC hR
      | 9, _ =>
        refine eg_tableIn 359 dL_law_32 (by decide) (by decide) rfl (by decide) ?_
        refine eg_aload_n dL_law_359 rfl rfl ?_
        refine eg_aload_n dL_law_360 rfl rfl ?_
        refine eg_iload_n dL_law_361 rfl rfl ?_
        refine eg_iconst dL_law_362 (v := nI 1) (by decide) ?_
        refine eg_iadd dL_law_363 ?_
        refine eg_topi (nI_add i 1) ?_
        refine eg_sldN (by omega) (by omega) dL_law_364 ?_
        refine eg_callV1 0 0 gk_X3_count gi_X3_count (by assumption) rfl gl_RL_53 rfl (Nat.le_of_ble_eq_true rfl) (Nat.le_of_ble_eq_true rfl) (Nat.zero_le _) (Nat.zero_le _) (by omega) dL_law_365 ?_
        refine ap_C_count hsC hok hC (by omega) ?_
        refine eg_aload_n dL_law_368 rfl rfl ?_
        refine eg_aload_n dL_law_369 rfl rfl ?_
        refine eg_iload_n dL_law_370 rfl rfl ?_
        refine eg_iconst dL_law_371 (v := nI 1) (by decide) ?_
        refine eg_iadd dL_law_372 ?_
        refine eg_topi (nI_add i 1) ?_
        refine eg_sldN (by omega) (by omega) dL_law_373 ?_
        refine eg_callV1 0 0 gk_X4_count gi_X4_count (by assumption) rfl gl_RL_56 rfl (Nat.le_of_ble_eq_true rfl) (Nat.le_of_ble_eq_true rfl) (Nat.zero_le _) (Nat.zero_le _) (by omega) dL_law_374 ?_
        refine ap_R_count hsM hok hR (by omega) ?_
        refine eg_icmp_eq 540 dL_law_377 (by decide) (fun c377 => ?_) (fun c377 => absurd rfl c377)
        refine eg_iinc dL_law_540 (show 3 < 4 by decide) rfl (lw_inc i) rfl ?_
        refine eg_goto 18 dL_law_543 (by decide) ?_
        exact ih (i + 4) S M (by omega) (by omega) hok hC hR
      | 10, _ =>
        refine eg_tableIn 382 dL_law_32 (by decide) (by decide) rfl (by decide) ?_
        refine eg_aload_n dL_law_382 rfl rfl ?_
        refine eg_aload_n dL_law_383 rfl rfl ?_
        refine eg_iload_n dL_law_384 rfl rfl ?_
        refine eg_iconst dL_law_385 (v := nI 1) (by decide) ?_
        refine eg_iadd dL_law_386 ?_
        refine eg_topi (nI_add i 1) ?_
        refine eg_sldN (by omega) (by omega) dL_law_387 ?_
        refine eg_aload_n dL_law_388 rfl rfl ?_
        refine eg_iload_n dL_law_389 rfl rfl ?_
        refine eg_iconst dL_law_390 (v := nI 2) (by decide) ?_
        refine eg_iadd dL_law_391 ?_
        refine eg_topi (nI_add i 2) ?_
        refine eg_sldN (by omega) (by omega) dL_law_392 ?_
        refine eg_callV2 0 0 gk_X3_value gi_X3_value (by assumption) rfl gl_RL_57 rfl (Nat.le_of_ble_eq_true rfl) (Nat.le_of_ble_eq_true rfl) (Nat.zero_le _) (Nat.zero_le _) (by omega) dL_law_393 ?_
        refine ap_C_value hsC hok hC (by omega) ?_
        refine eg_aload_n dL_law_396 rfl rfl ?_
        refine eg_aload_n dL_law_397 rfl rfl ?_
        refine eg_iload_n dL_law_398 rfl rfl ?_
        refine eg_iconst dL_law_399 (v := nI 1) (by decide) ?_
        refine eg_iadd dL_law_400 ?_
        refine eg_topi (nI_add i 1) ?_
        refine eg_sldN (by omega) (by omega) dL_law_401 ?_
        refine eg_aload_n dL_law_402 rfl rfl ?_
        refine eg_iload_n dL_law_403 rfl rfl ?_
        refine eg_iconst dL_law_404 (v := nI 2) (by decide) ?_
        refine eg_iadd dL_law_405 ?_
        refine eg_topi (nI_add i 2) ?_
        refine eg_sldN (by omega) (by omega) dL_law_406 ?_
        refine eg_callV2 0 0 gk_X4_value gi_X4_value (by assumption) rfl gl_RL_60 rfl (Nat.le_of_ble_eq_true rfl) (Nat.le_of_ble_eq_true rfl) (Nat.zero_le _) (Nat.zero_le _) (by omega) dL_law_407 ?_
        refine ap_R_value hsM hok hR (by omega) ?_
        refine eg_icmp_eq 540 dL_law_410 (by decide) (fun c410 => ?_) (fun c410 => absurd rfl c410)
        refine eg_iinc dL_law_540 (show 3 < 4 by decide) rfl (lw_inc i) rfl ?_
        refine eg_goto 18 dL_law_543 (by decide) ?_
        exact ih (i + 4) S M (by omega) (by omega) hok hC hR
      | 11, _ =>
        refine eg_tableIn 415 dL_law_32 (by decide) (by decide) rfl (by decide) ?_
        refine eg_aload_n dL_law_415 rfl rfl ?_
        refine eg_aload_n dL_law_416 rfl rfl ?_
        refine eg_iload_n dL_law_417 rfl rfl ?_
        refine eg_iconst dL_law_418 (v := nI 1) (by decide) ?_
        refine eg_iadd dL_law_419 ?_
        refine eg_topi (nI_add i 1) ?_
        refine eg_sldN (by omega) (by omega) dL_law_420 ?_
        refine eg_aload_n dL_law_421 rfl rfl ?_
        refine eg_iload_n dL_law_422 rfl rfl ?_
        refine eg_iconst dL_law_423 (v := nI 2) (by decide) ?_
        refine eg_iadd dL_law_424 ?_
        refine eg_topi (nI_add i 2) ?_
        refine eg_sldN (by omega) (by omega) dL_law_425 ?_
        refine eg_callV2 0 0 gk_X3_differ gi_X3_differ (by assumption) rfl gl_RL_61 rfl (Nat.le_of_ble_eq_true rfl) (Nat.le_of_ble_eq_true rfl) (Nat.zero_le _) (Nat.zero_le _) (by omega) dL_law_426 ?_
        refine ap_C_differ hsC hok hC (by omega) ?_
        refine eg_aload_n dL_law_429 rfl rfl ?_
        refine eg_aload_n dL_law_430 rfl rfl ?_
        refine eg_iload_n dL_law_431 rfl rfl ?_
        refine eg_iconst dL_law_432 (v := nI 1) (by decide) ?_
        refine eg_iadd dL_law_433 ?_
        refine eg_topi (nI_add i 1) ?_
        refine eg_sldN (by omega) (by omega) dL_law_434 ?_
        refine eg_aload_n dL_law_435 rfl rfl ?_
        refine eg_iload_n dL_law_436 rfl rfl ?_
        refine eg_iconst dL_law_437 (v := nI 2) (by decide) ?_
        refine eg_iadd dL_law_438 ?_
        refine eg_topi (nI_add i 2) ?_
        refine eg_sldN (by omega) (by omega) dL_law_439 ?_
        refine eg_callV2 0 0 gk_X4_differ gi_X4_differ (by assumption) rfl gl_RL_64 rfl (Nat.le_of_ble_eq_true rfl) (Nat.le_of_ble_eq_true rfl) (Nat.zero_le _) (Nat.zero_le _) (by omega) dL_law_440 ?_
        refine ap_R_differ hsM hok hR (by omega) ?_
        refine eg_icmp_eq 540 dL_law_443 (by decide) (fun c443 => ?_) (fun c443 => absurd rfl c443)
        refine eg_iinc dL_law_540 (show 3 < 4 by decide) rfl (lw_inc i) rfl ?_
        refine eg_goto 18 dL_law_543 (by decide) ?_
        exact ih (i + 4) S M (by omega) (by omega) hok hC hR
      | 12, _ =>
        refine eg_tableIn 448 dL_law_32 (by decide) (by decide) rfl (by decide) ?_
        refine eg_aload_n dL_law_448 rfl rfl ?_
        refine eg_callV0 0 0 gk_X3_clean gi_X3_clean (by assumption) rfl gl_RL_65 rfl (Nat.le_of_ble_eq_true rfl) (Nat.le_of_ble_eq_true rfl) (Nat.zero_le _) (Nat.zero_le _) (by omega) dL_law_449 ?_
        refine ap_C_clean hsC hok hC (by omega) (fun M1 h1 g1 => ?_)
        refine eg_aload_n dL_law_452 rfl rfl ?_
        refine eg_callV0 0 0 gk_X4_clean gi_X4_clean (by assumption) rfl gl_RL_68 rfl (Nat.le_of_ble_eq_true rfl) (Nat.le_of_ble_eq_true rfl) (Nat.zero_le _) (Nat.zero_le _) (by omega) dL_law_453 ?_
        refine ap_R_clean hsM hok (hR.eq (fun q z1 z2 => g1 q (by omega))) (by omega) (fun M2 h2 g2 => ?_)
        refine eg_icmp_eq 540 dL_law_456 (by decide) (fun c456 => ?_) (fun c456 => absurd rfl c456)
        refine eg_iinc dL_law_540 (show 3 < 4 by decide) rfl (lw_inc i) rfl ?_
        refine eg_goto 18 dL_law_543 (by decide) ?_
        have hok2 := ok_clean hok
        exact ih (i + 4) (ap_clean S).2 M2 (by omega) (by omega) hok2 (h1.eq hok2 (fun q z1 z2 => g2 q (by omega))) h2
      | 13, _ =>
        refine eg_tableIn 461 dL_law_32 (by decide) (by decide) rfl (by decide) ?_
        refine eg_aload_n dL_law_461 rfl rfl ?_
        refine eg_aload_n dL_law_462 rfl rfl ?_
        refine eg_iload_n dL_law_463 rfl rfl ?_
        refine eg_iconst dL_law_464 (v := nI 1) (by decide) ?_
        refine eg_iadd dL_law_465 ?_
        refine eg_topi (nI_add i 1) ?_
        refine eg_sldN (by omega) (by omega) dL_law_466 ?_
        refine eg_aload_n dL_law_467 rfl rfl ?_
        refine eg_iload_n dL_law_468 rfl rfl ?_
        refine eg_iconst dL_law_469 (v := nI 2) (by decide) ?_
        refine eg_iadd dL_law_470 ?_
        refine eg_topi (nI_add i 2) ?_
        refine eg_sldN (by omega) (by omega) dL_law_471 ?_
        refine eg_aload_n dL_law_472 rfl rfl ?_
        refine eg_iload_n dL_law_473 rfl rfl ?_
        refine eg_iconst dL_law_474 (v := nI 3) (by decide) ?_
        refine eg_iadd dL_law_475 ?_
        refine eg_topi (nI_add i 3) ?_
        refine eg_sldN (by omega) (by omega) dL_law_476 ?_
        refine eg_callV3 0 0 gk_X3_search gi_X3_search (by assumption) rfl gl_RL_69 rfl (Nat.le_of_ble_eq_true rfl) (Nat.le_of_ble_eq_true rfl) (Nat.zero_le _) (Nat.zero_le _) (by omega) dL_law_477 ?_
        refine ap_C_search hsC hok hC (by omega) (fun M1 h1 g1 => ?_)
        refine eg_aload_n dL_law_480 rfl rfl ?_
        refine eg_aload_n dL_law_481 rfl rfl ?_
        refine eg_iload_n dL_law_482 rfl rfl ?_
        refine eg_iconst dL_law_483 (v := nI 1) (by decide) ?_
        refine eg_iadd dL_law_484 ?_
        refine eg_topi (nI_add i 1) ?_
        refine eg_sldN (by omega) (by omega) dL_law_485 ?_
        refine eg_aload_n dL_law_486 rfl rfl ?_
        refine eg_iload_n dL_law_487 rfl rfl ?_
        refine eg_iconst dL_law_488 (v := nI 2) (by decide) ?_
        refine eg_iadd dL_law_489 ?_
        refine eg_topi (nI_add i 2) ?_
        refine eg_sldN (by omega) (by omega) dL_law_490 ?_
        refine eg_aload_n dL_law_491 rfl rfl ?_
        refine eg_iload_n dL_law_492 rfl rfl ?_
        refine eg_iconst dL_law_493 (v := nI 3) (by decide) ?_
        refine eg_iadd dL_law_494 ?_
        refine eg_topi (nI_add i 3) ?_
        refine eg_sldN (by omega) (by omega) dL_law_495 ?_
        refine eg_callV3 0 0 gk_X4_search gi_X4_search (by assumption) rfl gl_RL_72 rfl (Nat.le_of_ble_eq_true rfl) (Nat.le_of_ble_eq_true rfl) (Nat.zero_le _) (Nat.zero_le _) (by omega) dL_law_496 ?_
        refine ap_R_search hsM hok (hR.eq (fun q z1 z2 => g1 q (by omega))) (by omega) (fun M2 h2 g2 => ?_)
        refine eg_icmp_eq 540 dL_law_499 (by decide) (fun c499 => ?_) (fun c499 => absurd rfl c499)
        refine eg_iinc dL_law_540 (show 3 < 4 by decide) rfl (lw_inc i) rfl ?_
        refine eg_goto 18 dL_law_543 (by decide) ?_
        have hok2 := ok_search (x := E.2.2.2.2.2 (i + 1)) (y := E.2.2.2.2.2 (i + 2)) (z := E.2.2.2.2.2 (i + 3)) hok
        exact ih (i + 4) (ap_search S (E.2.2.2.2.2 (i + 1)) (E.2.2.2.2.2 (i + 2)) (E.2.2.2.2.2 (i + 3))).2 M2 (by omega) (by omega) hok2 (h1.eq hok2 (fun q z1 z2 => g2 q (by omega))) h2
      | 14, _ =>
        refine eg_tableIn 504 dL_law_32 (by decide) (by decide) rfl (by decide) ?_
        refine eg_aload_n dL_law_504 rfl rfl ?_
        refine eg_aload_n dL_law_505 rfl rfl ?_
        refine eg_iload_n dL_law_506 rfl rfl ?_
        refine eg_iconst dL_law_507 (v := nI 1) (by decide) ?_
        refine eg_iadd dL_law_508 ?_
        refine eg_topi (nI_add i 1) ?_
        refine eg_sldN (by omega) (by omega) dL_law_509 ?_
        refine eg_callV1 0 0 gk_X3_told gi_X3_told (by assumption) rfl gl_RL_73 rfl (Nat.le_of_ble_eq_true rfl) (Nat.le_of_ble_eq_true rfl) (Nat.zero_le _) (Nat.zero_le _) (by omega) dL_law_510 ?_
        refine ap_C_told hsC hok hC (by omega) ?_
        refine eg_aload_n dL_law_513 rfl rfl ?_
        refine eg_aload_n dL_law_514 rfl rfl ?_
        refine eg_iload_n dL_law_515 rfl rfl ?_
        refine eg_iconst dL_law_516 (v := nI 1) (by decide) ?_
        refine eg_iadd dL_law_517 ?_
        refine eg_topi (nI_add i 1) ?_
        refine eg_sldN (by omega) (by omega) dL_law_518 ?_
        refine eg_callV1 0 0 gk_X4_told gi_X4_told (by assumption) rfl gl_RL_76 rfl (Nat.le_of_ble_eq_true rfl) (Nat.le_of_ble_eq_true rfl) (Nat.zero_le _) (Nat.zero_le _) (by omega) dL_law_519 ?_
        refine ap_R_told hsM hok hR (by omega) ?_
        refine eg_icmp_eq 540 dL_law_522 (by decide) (fun c522 => ?_) (fun c522 => absurd rfl c522)
        refine eg_iinc dL_law_540 (show 3 < 4 by decide) rfl (lw_inc i) rfl ?_
        refine eg_goto 18 dL_law_543 (by decide) ?_
        exact ih (i + 4) S M (by omega) (by omega) hok hC hR
      | 15, _ =>
        refine eg_tableIn 527 dL_law_32 (by decide) (by decide) rfl (by decide) ?_
        refine eg_aload_n dL_law_527 rfl rfl ?_
        refine eg_callV0 0 0 gk_X3_take gi_X3_take (by assumption) rfl gl_RL_77 rfl (Nat.le_of_ble_eq_true rfl) (Nat.le_of_ble_eq_true rfl) (Nat.zero_le _) (Nat.zero_le _) (by omega) dL_law_528 ?_
        refine ap_C_take hsC hok hC (by omega) (fun M1 h1 g1 => ?_)
        refine eg_aload_n dL_law_531 rfl rfl ?_
        refine eg_callV0 0 0 gk_X4_take gi_X4_take (by assumption) rfl gl_RL_80 rfl (Nat.le_of_ble_eq_true rfl) (Nat.le_of_ble_eq_true rfl) (Nat.zero_le _) (Nat.zero_le _) (by omega) dL_law_532 ?_
        refine ap_R_take hsM hok (hR.eq (fun q z1 z2 => g1 q (by omega))) (by omega) (fun M2 h2 g2 => ?_)
        refine eg_icmp_eq 540 dL_law_535 (by decide) (fun c535 => ?_) (fun c535 => absurd rfl c535)
        refine eg_iinc dL_law_540 (show 3 < 4 by decide) rfl (lw_inc i) rfl ?_
        refine eg_goto 18 dL_law_543 (by decide) ?_
        have hok2 := ok_take hok
        exact ih (i + 4) (ap_take S).2 M2 (by omega) (by omega) hok2 (h1.eq hok2 (fun q z1 z2 => g2 q (by omega))) h2
      | j + 16, hj => exact absurd hj (by omega)
set_option maxHeartbeats 2000000 in
theorem sp_L_law {nm : String} {l : Launch} {E : eg_E} {d kb nb : Nat} {Q : Option Value → eg_G → eg_I → Prop} {G : eg_G} {M : eg_I} (hd : 45 ≤ d) (hk : 82 ≤ kb) (hn : 19686 ≤ nb) (hL : E.2.2.2.2.1 ≤ 2048) (hQ : ∀ G M, Q (some (.int 1)) G M) : eg_J l E (mLx nm) d kb nb Q 0 [some (.ref E.2.2.2.1), none, none, none] [] G M := by
  refine eg_room (d' := d) (k' := 82) (n' := 19686) (Nat.le_refl _) hk hn ?_
  clear hk hn
  refine eg_newR (ci := 3) rfl gc_RL_7 (by omega) (by omega) dL_law_0 (fun G1 M1 s1 s2 s3 s4 s5 s6 => ?_)
  generalize hb : G.1 = b at s1 s2 s3 s4 s5 s6 ⊢
  refine eg_dup dL_law_3 rfl ?_
  refine eg_callI0 62 9996 gk_X3_init gi_X3_init rfl gl_RL_9 rfl (Nat.le_of_ble_eq_true rfl) (Nat.le_of_ble_eq_true rfl) (by omega) (by omega) (by omega) dL_law_4 ?_
  refine sp_X3_init (by omega) (by omega) (by omega) s2 s1 (s5 7) (fun G2 M2 z2 shC kG hC kM => ?_)
  clear s1 s2 s3 s4 s5 s6 kG kM
  refine eg_astore_n dL_law_7 rfl (show 1 < 4 by decide) rfl ?_
  refine eg_newR (ci := 4) rfl gc_RL_10 (by omega) (by omega) dL_law_8 (fun G3 M3 s1 s2 s3 s4 s5 s6 => ?_)
  rw [z2] at s1 s2 s3 s4 s5 s6 ⊢
  refine eg_dup dL_law_11 rfl ?_
  refine eg_callI0 18 9649 gk_X4_init gi_X4_init rfl gl_RL_12 rfl (Nat.le_of_ble_eq_true rfl) (Nat.le_of_ble_eq_true rfl) (by omega) (by omega) (by omega) dL_law_12 ?_
  refine sp_X4_init (by omega) (by omega) (by omega) s2 s1 s5 (fun G4 M4 z4 shM kG hR kM => ?_)
  have hsC : sh_C G4 b := shC.kp (fun q z1 z2 => ⟨by rw [kG.1 q (by omega), s3 q (by omega)], by rw [kG.2 q (by omega), s4 q (by omega)]⟩)
  have hC4 : ci_I M4 b st_0 := hC.eq st_0_ok (fun q z1 z2 => by rw [kM q (by omega), s6 q (by omega)])
  refine eg_astore_n dL_law_15 rfl (show 2 < 4 by decide) rfl ?_
  refine eg_iconst dL_law_16 (v := nI 0) (by decide) ?_
  refine eg_istore_n dL_law_17 rfl (show 3 < 4 by decide) rfl ?_
  exact lp_L_law hd hL hsC shM hQ 512 0 st_0 M4 (by omega) (by omega) st_0_ok hC4 hR
