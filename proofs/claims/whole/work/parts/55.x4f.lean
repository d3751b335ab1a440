/-! ShortestCodeModel: round -/
theorem eg_set_q {M : eg_I} {a j q i : Nat} {x : Int32} (h : ¬ (q = a ∧ i = j)) : eg_set M a j x q i = M q i := if_neg h
/-- what a round may change from place p on -/
def rx_F (M M' : eg_I) (a g p : Nat) : Prop := ∀ q j, ¬ (q = a ∧ (j = 21 ∨ j = 23 ∨ j = 29)) → ¬ (q = a + 8 ∧ 256 * (g + p) ≤ j) → ¬ (a + 12 ≤ q ∧ q < a + 15 ∧ p ≤ j) → ¬ (q = a + 15 ∧ p < j) → ¬ (a + 16 ≤ q ∧ q < a + 19) → M' q j = M q j
theorem rx_F.rf {M : eg_I} {a g p : Nat} : rx_F M M a g p := fun _ _ _ _ _ _ _ => rfl
theorem rx_F.tr {M M' M2 : eg_I} {a g p : Nat} (h : rx_F M M' a g p) (f : rx_F M' M2 a g p) : rx_F M M2 a g p := fun q j z1 z2 z3 z4 z5 => (f q j z1 z2 z3 z4 z5).trans (h q j z1 z2 z3 z4 z5)
theorem rx_F.up {M M' : eg_I} {a g p : Nat} (h : rx_F M M' a g (p + 1)) : rx_F M M' a g p := fun q j z1 z2 z3 z4 z5 => h q j z1 (by omega) (by omega) (by omega) z5
theorem ac_F.rx {M M' : eg_I} {a g p : Nat} (h : ac_F M M' a p) : rx_F M M' a g p := fun q j _ _ z3 _ _ => h q j (by omega)
def rv_I (M : eg_I) (a w n k : Nat) (cf : Nat → Int32) (co : Nat → Nat) (tg : Nat → Int32) (p r : Nat) (ro ra rb : Nat → Nat) (V : Nat → Nat → Int32) : Prop := in_M M a w n k cf ∧ (∀ o, o < 13 → M (a + 2) o = nI (co o)) ∧ (∀ s, s < 256 → M (a + 3) s = tg s) ∧ (∀ u s, u < n + k + p → s < 2 ^ (w * n) → M (a + 8) (256 * u + s) = V u s) ∧ (∀ u s, u < n + k + p → s < 2 ^ (w * n) → is_wd w (V u s)) ∧ (∀ j, j < p → M (a + 12) j = nI (ro j) ∧ M (a + 13) j = nI (ra j) ∧ M (a + 14) j = nI (rb j)) ∧ M (a + 15) p = nI r
theorem rv_I.eq {M M' : eg_I} {a w n k p r : Nat} {cf : Nat → Int32} {co : Nat → Nat} {tg : Nat → Int32} {ro ra rb : Nat → Nat} {V : Nat → Nat → Int32} (h : rv_I M a w n k cf co tg p r ro ra rb V) (f : rx_F M M' a (n + k) p) : rv_I M' a w n k cf co tg p r ro ra rb V := by
  obtain ⟨h1, h2, h3, h4, h5, h6, h7⟩ := h
  have hA := wd_asg h1.2.2.2.2.2.2.2.1 h1.2.2.2.2.2.2.2.2.2.1
  refine ⟨h1.eq (fun j _ => f _ _ (by omega) (by omega) (by omega) (by omega) (by omega)) (by funext j; exact f _ _ (by omega) (by omega) (by omega) (by omega) (by omega)), fun o ho => ?_, fun s hs => ?_, fun u s hu hs => ?_, h5, fun j hj => ?_, ?_⟩
  · rw [f _ _ (by omega) (by omega) (by omega) (by omega) (by omega)]; exact h2 o ho
  · rw [f _ _ (by omega) (by omega) (by omega) (by omega) (by omega)]; exact h3 s hs
  · rw [f _ _ (by omega) (by omega) (by omega) (by omega) (by omega)]; exact h4 u s hu hs
  · rw [f _ _ (by omega) (by omega) (by omega) (by omega) (by omega), f _ _ (by omega) (by omega) (by omega) (by omega) (by omega), f _ _ (by omega) (by omega) (by omega) (by omega) (by omega)]; exact h6 j hj
  · rw [f _ _ (by omega) (by omega) (by omega) (by omega) (by omega)]; exact h7
/-- tries, how many FOUND, the first one -/
def rh_S (M : eg_I) (a L : Nat) (σ : ss_S) : Prop := M a 21 = nI σ.1 ∧ σ.1 ≤ L ∧ M a 23 = nI σ.2.1 ∧ σ.2.1 ≤ σ.1 ∧ (0 < σ.2.1 → M a 29 = nI σ.2.2.2.1 ∧ 1 ≤ σ.2.2.2.1 ∧ σ.2.2.2.1 ≤ 12 ∧ ∀ j, j < σ.2.2.2.1 → M (a + 16) j = nI (σ.2.2.2.2.1 j) ∧ M (a + 17) j = nI (σ.2.2.2.2.2.1 j) ∧ M (a + 18) j = nI (σ.2.2.2.2.2.2 j))
theorem rh_S.eq {M M' : eg_I} {a L : Nat} {σ : ss_S} (h : rh_S M a L σ) (e1 : M' a 21 = M a 21) (e2 : M' a 23 = M a 23) (e3 : M' a 29 = M a 29) (e : ∀ q j, a + 16 ≤ q → q < a + 19 → M' q j = M q j) : rh_S M' a L σ := by
  unfold rh_S
  rw [e1, e2, e3]
  refine ⟨h.1, h.2.1, h.2.2.1, h.2.2.2.1, fun z => ?_⟩
  obtain ⟨q1, q2, q3, q4⟩ := h.2.2.2.2 z
  refine ⟨q1, q2, q3, fun j hj => ?_⟩
  rw [e _ _ (by omega) (by omega), e _ _ (by omega) (by omega), e _ _ (by omega) (by omega)]
  exact q4 j hj
set_option maxHeartbeats 2000000 in
theorem lp_X4_roundRow {l : Launch} {E : eg_E} {d kb nb : Nat} {Q : Option Value → eg_G → eg_I → Prop} {G : eg_G} {a w n k p o x y : Nat} {cf : Nat → Int32} {x1 x2 x3 : Int32} {V : Nat → Nat → Int32} (hd : 1 ≤ d) (hs : sh_M G a) (hp : p < 12) (ho : o < 13) (hx : x < n + k + p) (hy : y < n + k + p) (hwd : ∀ u s, u < n + k + p → s < 2 ^ (w * n) → is_wd w (V u s)) : ∀ (c s : Nat) (M : eg_I), in_M M a w n k cf → ac_C M a p o x y → s + c = 2 ^ (w * n) → (∀ u s, u < n + k + p → s < 2 ^ (w * n) → M (a + 8) (256 * u + s) = V u s) → (∀ z, z < s → M (a + 8) (256 * (n + k + p) + z) = wd_op w o (V x z) (V y z)) → (∀ M', (∀ z, z < 2 ^ (w * n) → M' (a + 8) (256 * (n + k + p) + z) = wd_op w o (V x z) (V y z)) → (∀ q j, ¬ (q = a + 8 ∧ 256 * (n + k + p) ≤ j) → M' q j = M q j) → eg_J l E mX4_round d kb nb Q 140 [some (.ref a), some (.int x1), some (.int x2), some (.int x3), some (.int (nI p)), some (.int (nI (n + k + p))), some (.int (nI (2 ^ (w * n))))] [] G M') → eg_J l E mX4_round d kb nb Q 62 [some (.ref a), some (.int x1), some (.int x2), some (.int x3), some (.int (nI p)), some (.int (nI (n + k + p))), some (.int (nI s))] [] G M := by
  intro c
  induction c with
  | zero =>
    intro s M h hC hst hrow hi kk
    obtain ⟨k0, ⟨x5, y5⟩, ⟨x6, y6⟩, ⟨x7, y7⟩, ⟨x9, y9⟩, ⟨x10, y10⟩, ⟨x11, y11⟩, ⟨x13, y13⟩, ⟨x14, y14⟩, ⟨x18, y18⟩, ⟨x19, y19⟩, ⟨x20, y20⟩, ⟨x25, y25⟩, ⟨x26, y26⟩, ⟨x27, y27⟩, ⟨x28, y28⟩, ⟨x30, y30⟩, ⟨x31, y31⟩, ⟨x32, y32⟩⟩ := id hs
    obtain ⟨m0, m1, m2, m3, m4, mc, hw1, hw4, hn1, hn2, hk4⟩ := id h
    have hA := wd_asg hw4 hn2
    refine eg_iload dX4_round_62 rfl ?_
    refine eg_aload_n dX4_round_64 rfl rfl ?_
    refine eg_getI gf_RX4_19 rfl (by assumption) dX4_round_65 ?_
    refine eg_topi m3 ?_
    refine eg_icmp_ge 140 dX4_round_68 (by decide) (fun c68 => ?_) (fun c68 => absurd (nI_le (by omega) (by omega)) c68)
    have e : s = 2 ^ (w * n) := by omega
    subst e
    exact kk M hi (fun _ _ _ => rfl)
  | succ c ih =>
    intro s M h hC hst hrow hi kk
    obtain ⟨k0, ⟨x5, y5⟩, ⟨x6, y6⟩, ⟨x7, y7⟩, ⟨x9, y9⟩, ⟨x10, y10⟩, ⟨x11, y11⟩, ⟨x13, y13⟩, ⟨x14, y14⟩, ⟨x18, y18⟩, ⟨x19, y19⟩, ⟨x20, y20⟩, ⟨x25, y25⟩, ⟨x26, y26⟩, ⟨x27, y27⟩, ⟨x28, y28⟩, ⟨x30, y30⟩, ⟨x31, y31⟩, ⟨x32, y32⟩⟩ := id hs
    obtain ⟨m0, m1, m2, m3, m4, mc, hw1, hw4, hn1, hn2, hk4⟩ := id h
    have hA := wd_asg hw4 hn2
    refine eg_iload dX4_round_62 rfl ?_
    refine eg_aload_n dX4_round_64 rfl rfl ?_
    refine eg_getI gf_RX4_19 rfl (by assumption) dX4_round_65 ?_
    refine eg_topi m3 ?_
    refine eg_icmp_ge 140 dX4_round_68 (by decide) (fun c68 => absurd c68 (nI_ge (by omega) (by omega))) (fun c68 => ?_)
    refine eg_aload_n dX4_round_71 rfl rfl ?_
    refine eg_getR gf_RX4_44 rfl (by assumption) (by assumption) dX4_round_72 ?_
    refine eg_sipush dX4_round_75 (v := nI 256) (by decide) ?_
    refine eg_iload dX4_round_78 rfl ?_
    refine eg_imul dX4_round_80 ?_
    refine eg_topi (pk_mul 256 (n + k + p)) ?_
    refine eg_iload dX4_round_81 rfl ?_
    refine eg_iadd dX4_round_83 ?_
    refine eg_topi (nI_add (256 * (n + k + p)) s) ?_
    refine eg_aload_n dX4_round_84 rfl rfl ?_
    refine eg_aload_n dX4_round_85 rfl rfl ?_
    refine eg_getR gf_RX4_59 rfl (by assumption) (by assumption) dX4_round_86 ?_
    refine eg_iload dX4_round_89 rfl ?_
    refine eg_ialdN (by assumption) (by omega) (by decide) dX4_round_91 ?_
    refine eg_topi hC.1 ?_
    refine eg_aload_n dX4_round_92 rfl rfl ?_
    refine eg_getR gf_RX4_44 rfl (by assumption) (by assumption) dX4_round_93 ?_
    refine eg_sipush dX4_round_96 (v := nI 256) (by decide) ?_
    refine eg_aload_n dX4_round_99 rfl rfl ?_
    refine eg_getR gf_RX4_62 rfl (by assumption) (by assumption) dX4_round_100 ?_
    refine eg_iload dX4_round_103 rfl ?_
    refine eg_ialdN (by assumption) (by omega) (by decide) dX4_round_105 ?_
    refine eg_topi hC.2.1 ?_
    refine eg_imul dX4_round_106 ?_
    refine eg_topi (pk_mul 256 x) ?_
    refine eg_iload dX4_round_107 rfl ?_
    refine eg_iadd dX4_round_109 ?_
    refine eg_topi (nI_add (256 * x) s) ?_
    refine eg_ialdN (by assumption) (by omega) (by decide) dX4_round_110 ?_
    refine eg_topi (hrow x s hx (by omega)) ?_
    refine eg_aload_n dX4_round_111 rfl rfl ?_
    refine eg_getR gf_RX4_44 rfl (by assumption) (by assumption) dX4_round_112 ?_
    refine eg_sipush dX4_round_115 (v := nI 256) (by decide) ?_
    refine eg_aload_n dX4_round_118 rfl rfl ?_
    refine eg_getR gf_RX4_65 rfl (by assumption) (by assumption) dX4_round_119 ?_
    refine eg_iload dX4_round_122 rfl ?_
    refine eg_ialdN (by assumption) (by omega) (by decide) dX4_round_124 ?_
    refine eg_topi hC.2.2 ?_
    refine eg_imul dX4_round_125 ?_
    refine eg_topi (pk_mul 256 y) ?_
    refine eg_iload dX4_round_126 rfl ?_
    refine eg_iadd dX4_round_128 ?_
    refine eg_topi (nI_add (256 * y) s) ?_
    refine eg_ialdN (by assumption) (by omega) (by decide) dX4_round_129 ?_
    refine eg_topi (hrow y s hy (by omega)) ?_
    refine eg_callV3 0 0 gk_X4_reckon gi_X4_reckon (by assumption) rfl gl_RX4_97 rfl (Nat.le_of_ble_eq_true rfl) (Nat.le_of_ble_eq_true rfl) (Nat.zero_le _) (Nat.zero_le _) (by omega) dX4_round_130 ?_
    refine sp_X4_reckon k0 h ho (hwd x s hx (by omega)) ?_
    refine eg_iastN (by assumption) (by omega) (by decide) dX4_round_133 ?_
    refine eg_iinc dX4_round_134 (by decide) rfl (eg_inc s) rfl ?_
    refine eg_goto 62 dX4_round_137 (by decide) ?_
    generalize hM1 : eg_set M (a + 8) (256 * (n + k + p) + s) (wd_op w o (V x s) (V y s)) = M1
    have o1 : ∀ q j, ¬ (q = a + 8 ∧ j = 256 * (n + k + p) + s) → M1 q j = M q j := fun q j z => by rw [← hM1, eg_set_q z]
    refine ih (s + 1) M1 (h.eq (fun j _ => o1 _ _ (by omega)) (by funext j; exact o1 _ _ (by omega))) ⟨by rw [o1 _ _ (by omega)]; exact hC.1, by rw [o1 _ _ (by omega)]; exact hC.2.1, by rw [o1 _ _ (by omega)]; exact hC.2.2⟩ (by omega) (fun u z z1 z2 => by rw [o1 _ _ (by omega)]; exact hrow u z z1 z2) (fun z hz => ?_) (fun M2 h2 h3 => kk M2 h2 (fun q j z => by rw [h3 q j z, o1 q j (by omega)]))
    by_cases e : z = s
    · subst e
      rw [← hM1, eg_set_eq]
    · rw [o1 _ _ (by omega)]
      exact hi z (by omega)
set_option maxHeartbeats 4000000 in
theorem lp_X4_round {l : Launch} {E : eg_E} {d kb nb : Nat} {Q : Option Value → eg_G → eg_I → Prop} {G : eg_G} {a w n k L : Nat} {cf tg : Nat → Int32} {co : Nat → Nat} {al : Bool} {x1 wz : Int32} (hd : 2 ≤ d) (hs : sh_M G a) (hL : L ≤ 30000) (hwz : wz = if al = true then 1 else 0) (hc9 : ∀ o, o < 13 → co o ≤ 9) : ∀ (f p r : Nat) (ro ra rb : Nat → Nat) (V : Nat → Nat → Int32) (l_ : List (Nat × Nat × Nat)) (σ : ss_S) (M : eg_I) (l5 l6 : Option Value), p + f = 11 → r ≤ 30 → rv_I M a w n k cf co tg p r ro ra rb V → rh_S M a L σ → rc_I M a co p r (n + k + p) l_ → ¬ ss_over al σ → (∀ M' l5 l6, ¬ ss_over al (l_.foldl (ss_stp w (2 ^ (w * n)) (n + k) co tg L al (ss_fill w (2 ^ (w * n)) (n + k) co tg L al f) p r ro ra rb V) σ) → rh_S M' a L (l_.foldl (ss_stp w (2 ^ (w * n)) (n + k) co tg L al (ss_fill w (2 ^ (w * n)) (n + k) co tg L al f) p r ro ra rb V) σ) → rx_F M M' a (n + k) p → eg_J l E mX4_round d kb nb Q 9 [some (.ref a), some (.int x1), some (.int (nI L)), some (.int wz), some (.int (nI p - nI 1)), l5, l6] [] G M') → (∀ M', ss_over al (l_.foldl (ss_stp w (2 ^ (w * n)) (n + k) co tg L al (ss_fill w (2 ^ (w * n)) (n + k) co tg L al f) p r ro ra rb V) σ) → rh_S M' a L (l_.foldl (ss_stp w (2 ^ (w * n)) (n + k) co tg L al (ss_fill w (2 ^ (w * n)) (n + k) co tg L al f) p r ro ra rb V) σ) → rx_F M M' a (n + k) p → Q (some (.int (if (l_.foldl (ss_stp w (2 ^ (w * n)) (n + k) co tg L al (ss_fill w (2 ^ (w * n)) (n + k) co tg L al f) p r ro ra rb V) σ).2.2.1 = true then -6 else 0))) G M') → eg_J l E mX4_round d kb nb Q 9 [some (.ref a), some (.int x1), some (.int (nI L)), some (.int wz), some (.int (nI p)), l5, l6] [] G M := by
  intro f
  induction f with
  | zero =>
    intro p r ro ra rb V l_
    induction l_ with
    | nil =>
      intro σ M l5 l6 hpf hr hv hS hcu hno kD kO
      obtain ⟨k0, ⟨x5, y5⟩, ⟨x6, y6⟩, ⟨x7, y7⟩, ⟨x9, y9⟩, ⟨x10, y10⟩, ⟨x11, y11⟩, ⟨x13, y13⟩, ⟨x14, y14⟩, ⟨x18, y18⟩, ⟨x19, y19⟩, ⟨x20, y20⟩, ⟨x25, y25⟩, ⟨x26, y26⟩, ⟨x27, y27⟩, ⟨x28, y28⟩, ⟨x30, y30⟩, ⟨x31, y31⟩, ⟨x32, y32⟩⟩ := id hs
      obtain ⟨m0, m1, m2, m3, m4, mc, hw1, hw4, hn1, hn2, hk4⟩ := id hv.1
      have hA := wd_asg hw4 hn2
      refine eg_iload dX4_round_9 rfl ?_
      refine eg_if_lt 220 dX4_round_11 (by decide) (fun c11 => absurd c11 (nI_pos (by omega))) (fun c11 => ?_)
      refine eg_aload_n dX4_round_14 rfl rfl ?_
      refine eg_iload dX4_round_15 rfl ?_
      refine eg_callV1 0 0 gk_X4_advance gi_X4_advance (by assumption) rfl gl_RX4_149 rfl (Nat.le_of_ble_eq_true rfl) (Nat.le_of_ble_eq_true rfl) (Nat.zero_le _) (Nat.zero_le _) (by omega) dX4_round_17 ?_
      refine sp_X4_advance (by omega) hs (by omega) hc9 hr hv.1 hv.2.1 hv.2.2.2.2.2.2 hcu (fun _ M1 hF => ?_) (fun o2 x2 y2 M1 hl => by cases hl)
      refine eg_if_ne 29 dX4_round_20 (by decide) (fun z => absurd (show nI 0 = 0 from rfl) z) (fun _ => ?_)
      refine eg_iinc dX4_round_23 (by decide) rfl (eg_dec1 p) rfl ?_
      refine eg_goto 9 dX4_round_26 (by decide) ?_
      exact kD M1 _ _ hno (hS.eq (hF _ _ (by omega)) (hF _ _ (by omega)) (hF _ _ (by omega)) (fun q j z1 z2 => hF _ _ (by omega))) hF.rx
    | cons c l_ ihl =>
      intro σ M l5 l6 hpf hr hv hS hcu hno kD kO
      obtain ⟨k0, ⟨x5, y5⟩, ⟨x6, y6⟩, ⟨x7, y7⟩, ⟨x9, y9⟩, ⟨x10, y10⟩, ⟨x11, y11⟩, ⟨x13, y13⟩, ⟨x14, y14⟩, ⟨x18, y18⟩, ⟨x19, y19⟩, ⟨x20, y20⟩, ⟨x25, y25⟩, ⟨x26, y26⟩, ⟨x27, y27⟩, ⟨x28, y28⟩, ⟨x30, y30⟩, ⟨x31, y31⟩, ⟨x32, y32⟩⟩ := id hs
      obtain ⟨m0, m1, m2, m3, m4, mc, hw1, hw4, hn1, hn2, hk4⟩ := id hv.1
      have hA := wd_asg hw4 hn2
      refine eg_iload dX4_round_9 rfl ?_
      refine eg_if_lt 220 dX4_round_11 (by decide) (fun c11 => absurd c11 (nI_pos (by omega))) (fun c11 => ?_)
      refine eg_aload_n dX4_round_14 rfl rfl ?_
      refine eg_iload dX4_round_15 rfl ?_
      refine eg_callV1 0 0 gk_X4_advance gi_X4_advance (by assumption) rfl gl_RX4_149 rfl (Nat.le_of_ble_eq_true rfl) (Nat.le_of_ble_eq_true rfl) (Nat.zero_le _) (Nat.zero_le _) (by omega) dX4_round_17 ?_
      refine sp_X4_advance (by omega) hs (by omega) hc9 hr hv.1 hv.2.1 hv.2.2.2.2.2.2 hcu (fun hl => by cases hl) (fun o x y M1 hl ho hx hy hz hc1 hc2 hC hF => ?_)
      have hl1 : c = (o, x, y) := by injection hl
      have hl2 : l_ = ss_rem co r (n + k + p) o x (y + 1) := by injection hl
      subst hl1
      have hS1 := (hS.eq (hF _ _ (by omega)) (hF _ _ (by omega)) (hF _ _ (by omega)) (fun q j z1 z2 => hF _ _ (by omega)))
      refine eg_if_ne 29 dX4_round_20 (by decide) (fun _ => ?_) (fun z => absurd z (by decide))
      refine eg_aload_n dX4_round_29 rfl rfl ?_
      refine eg_getI gf_RX4_152 rfl (by assumption) dX4_round_30 ?_
      refine eg_topi hS1.1 ?_
      refine eg_iload_n dX4_round_33 rfl rfl ?_
      refine eg_icmp_ne 40 dX4_round_34 (by decide) (fun e => ?_) (fun e => ?_)
      · have h0 : ¬ L ≤ σ.1 := fun q => e (by rw [show σ.1 = L from Nat.le_antisymm hS.2.1 q])
        refine eg_aload_n dX4_round_40 rfl rfl ?_
        refine eg_dup dX4_round_41 rfl ?_
        refine eg_getI gf_RX4_152 rfl (by assumption) dX4_round_42 ?_
        refine eg_topi hS1.1 ?_
        refine eg_iconst dX4_round_45 (v := nI 1) (by decide) ?_
        refine eg_iadd dX4_round_46 ?_
        refine eg_topi (nI_add σ.1 1) ?_
        refine eg_putI gp_RX4_152 (fun q => by cases q) rfl rfl rfl (by assumption) dX4_round_47 ?_
        generalize hM2 : eg_set M1 a 21 (nI (σ.1 + 1)) = M2
        have o2 : ∀ q j, ¬ (q = a ∧ j = 21) → M2 q j = M1 q j := fun q j z => by rw [← hM2, eg_set_q z]
        have F2 : rx_F M M2 a (n + k) p := (hF.rx).tr (fun q j z1 _ _ _ _ => o2 q j (by omega))
        have hv2 := hv.eq F2
        have hC2 : ac_C M2 a p o x y := ⟨by rw [o2 _ _ (by omega)]; exact hC.1, by rw [o2 _ _ (by omega)]; exact hC.2.1, by rw [o2 _ _ (by omega)]; exact hC.2.2⟩
        refine eg_aload_n dX4_round_50 rfl rfl ?_
        refine eg_callV0 0 0 gk_X4_firsts gi_X4_firsts (by assumption) rfl gl_RX4_86 rfl (Nat.le_of_ble_eq_true rfl) (Nat.le_of_ble_eq_true rfl) (Nat.zero_le _) (Nat.zero_le _) (by omega) dX4_round_51 ?_
        refine sp_X4_firsts k0 hv2.1 ?_
        refine eg_iload dX4_round_54 rfl ?_
        refine eg_iadd dX4_round_56 ?_
        refine eg_topi (nI_add (n + k) p) ?_
        refine eg_istore dX4_round_57 (by decide) rfl ?_
        refine eg_iconst dX4_round_59 (v := nI 0) (by decide) ?_
        refine eg_istore dX4_round_60 (by decide) rfl ?_
        refine lp_X4_roundRow (V := V) (by omega) hs (by omega) ho hx hy hv.2.2.2.2.1 (2 ^ (w * n)) 0 M2 hv2.1 hC2 (by omega) hv2.2.2.2.1 (fun z hz => absurd hz (by omega)) (fun M3 hrow h4 => ?_)
        have F3 : rx_F M M3 a (n + k) p := F2.tr (fun q j _ z2 _ _ _ => h4 q j (by omega))
        have hv3 := hv.eq F3
        have hC3 : ac_C M3 a p o x y := ⟨by rw [h4 _ _ (by omega)]; exact hC2.1, by rw [h4 _ _ (by omega)]; exact hC2.2.1, by rw [h4 _ _ (by omega)]; exact hC2.2.2⟩
        have hS3 : rh_S M3 a L (σ.1 + 1, σ.2) := by
          refine ⟨by rw [h4 _ _ (by omega), ← hM2, eg_set_eq], by show σ.1 + 1 ≤ L; omega, by rw [h4 _ _ (by omega), o2 _ _ (by omega)]; exact hS1.2.2.1, Nat.le_succ_of_le hS.2.2.2.1, fun z => ?_⟩
          obtain ⟨g1, g2, g3, g4⟩ := hS1.2.2.2.2 z
          refine ⟨by rw [h4 _ _ (by omega), o2 _ _ (by omega)]; exact g1, g2, g3, fun j hj => ?_⟩
          rw [h4 _ _ (by omega), h4 _ _ (by omega), h4 _ _ (by omega), o2 _ _ (by omega), o2 _ _ (by omega), o2 _ _ (by omega)]
          exact g4 j hj
        have hcu3 : rc_I M3 a co p r (n + k + p) l_ := Or.inr ⟨o, x, y, ho, hx, hy, hz, hc1, hc2, hC3, hl2⟩
        have hco9 := hc9 o ho
        refine eg_aload_n dX4_round_140 rfl rfl ?_
        refine eg_getR gf_RX4_68 rfl (by assumption) (by assumption) dX4_round_141 ?_
        refine eg_iload dX4_round_144 rfl ?_
        refine eg_ialdN (by assumption) (by omega) (by decide) dX4_round_146 ?_
        refine eg_topi hv3.2.2.2.2.2.2 ?_
        refine eg_aload_n dX4_round_147 rfl rfl ?_
        refine eg_getR gf_RX4_26 rfl (by assumption) (by assumption) dX4_round_148 ?_
        refine eg_aload_n dX4_round_151 rfl rfl ?_
        refine eg_getR gf_RX4_59 rfl (by assumption) (by assumption) dX4_round_152 ?_
        refine eg_iload dX4_round_155 rfl ?_
        refine eg_ialdN (by assumption) (by omega) (by decide) dX4_round_157 ?_
        refine eg_topi hC3.1 ?_
        refine eg_ialdN (by assumption) ho (by decide) dX4_round_158 ?_
        refine eg_topi (hv3.2.1 o ho) ?_
        refine eg_isub dX4_round_159 ?_
        refine eg_topi (pk_sub hc2) ?_
        refine eg_istore dX4_round_160 (by decide) rfl ?_
        refine eg_iload dX4_round_162 rfl ?_
        refine eg_if_ne 188 dX4_round_164 (by decide) (fun e2 => ?_) (fun e2 => ?_)
        · have hz0 : ¬ r - co o = 0 := fun q => e2 (by rw [q]; rfl)
          refine eg_iload dX4_round_188 rfl ?_
          refine eg_iconst dX4_round_190 (v := nI 1) (by decide) ?_
          refine eg_iadd dX4_round_191 ?_
          refine eg_topi (nI_add p 1) ?_
          refine eg_bipush dX4_round_192 (v := nI 12) (by decide) ?_
          refine eg_icmp_ge 217 dX4_round_194 (by decide) (fun c194 => ?_) (fun c194 => absurd (nI_le (a := 12) (by omega) (by omega)) c194)
          have es : (ss_stp w (2 ^ (w * n)) (n + k) co tg L al (ss_fill w (2 ^ (w * n)) (n + k) co tg L al 0) p r ro ra rb V) σ (o, x, y) = (σ.1 + 1, σ.2) := by
            rw [ss_stp_go hno]
            by_cases hn : ∀ u, u < n + k + p → ¬ ∀ s, s < 2 ^ (w * n) → V u s = wd_op w o (V x s) (V y s)
            · rw [ss_att_new h0 hz0 hn]
              rfl
            · rw [ss_att_old h0 hz0 hn]
          rw [List.foldl_cons, es] at kD kO
          refine eg_goto 9 dX4_round_217 (by decide) ?_
          exact ihl (σ.1 + 1, σ.2) M3 _ _ hpf hr hv3 hS3 hcu3 hno (fun M' l5 l6 z1 z2 z3 => kD M' l5 l6 z1 z2 (F3.tr z3)) (fun M' z1 z2 z3 => kO M' z1 z2 (F3.tr z3))
        · have hz0 : r - co o = 0 := (nI_eq (b := 0) (by omega) (by omega)).mp e2
          refine eg_aload_n dX4_round_167 rfl rfl ?_
          refine eg_iload dX4_round_168 rfl ?_
          refine eg_callV1 0 0 gk_X4_isTarget gi_X4_isTarget (by assumption) rfl gl_RX4_155 rfl (Nat.le_of_ble_eq_true rfl) (Nat.le_of_ble_eq_true rfl) (Nat.zero_le _) (Nat.zero_le _) (by omega) dX4_round_170 ?_
          refine sp_X4_isTarget hs hv3.1 (show n + k + p < 18 by omega) (fun hT => ?_) (fun hT => ?_)
          · refine eg_if_eq 217 dX4_round_173 (by decide) (fun z => absurd z (by decide)) (fun _ => ?_)
            have hh : ∀ s, s < 2 ^ (w * n) → wd_op w o (V x s) (V y s) = tg s := fun s z => by rw [← hrow s z, hT s z, hv3.2.2.1 s (by omega)]
            have es : (ss_stp w (2 ^ (w * n)) (n + k) co tg L al (ss_fill w (2 ^ (w * n)) (n + k) co tg L al 0) p r ro ra rb V) σ (o, x, y) = ss_hit p (ss_up ro p o) (ss_up ra p x) (ss_up rb p y) (σ.1 + 1, σ.2) := by rw [ss_stp_go hno, ss_att_hit h0 hz0 hh]
            have fin : ∀ (τ : ss_S) (M4 : eg_I), (ss_stp w (2 ^ (w * n)) (n + k) co tg L al (ss_fill w (2 ^ (w * n)) (n + k) co tg L al 0) p r ro ra rb V) σ (o, x, y) = τ → τ.2.2.1 = σ.2.2.1 → 0 < τ.2.1 → rh_S M4 a L τ → rx_F M3 M4 a (n + k) p → (∀ q, a + 12 ≤ q → q < a + 15 → M4 q p = M3 q p) → eg_J l E mX4_round d kb nb Q 182 [some (.ref a), some (.int x1), some (.int (nI L)), some (.int wz), some (.int (nI p)), some (.int (nI (n + k + p))), some (.int (nI (r - co o)))] [] G M4 := by
              intro τ M4 es ht1 ht2 hS4 F4 g4
              rw [List.foldl_cons, es] at kD kO
              refine eg_iload_n dX4_round_182 rfl rfl ?_
              refine eg_if_ne 217 dX4_round_183 (by decide) (fun e3 => ?_) (fun e3 => ?_)
              · have hal : al = true := Classical.byContradiction (fun z => e3 (by rw [hwz, if_neg z]))
                refine eg_goto 9 dX4_round_217 (by decide) ?_
                refine ihl τ M4 _ _ hpf hr (hv3.eq F4) hS4 (Or.inr ⟨o, x, y, ho, hx, hy, hz, hc1, hc2, ⟨?_, ?_, ?_⟩, hl2⟩) (fun z => z.elim (fun z => hno (Or.inl (ht1.symm.trans z))) (fun z => absurd (hal.symm.trans z.2) (by decide))) (fun M' l5 l6 z1 z2 z3 => kD M' l5 l6 z1 z2 ((F3.tr F4).tr z3)) (fun M' z1 z2 z3 => kO M' z1 z2 ((F3.tr F4).tr z3))
                · rw [g4 _ (by omega) (by omega)]; exact hC3.1
                · rw [g4 _ (by omega) (by omega)]; exact hC3.2.1
                · rw [g4 _ (by omega) (by omega)]; exact hC3.2.2
              · have hal : al = false := by
                  cases al with
                  | false => rfl
                  | true => rw [hwz] at e3; exact absurd e3 (by decide)
                have hov : ss_over al τ := Or.inr ⟨ht2, hal⟩
                rw [ss_fold_over hov] at kO
                refine eg_iconst dX4_round_186 (v := nI 0) (by decide) ?_
                refine eg_iret rfl dX4_round_187 ?_
                have z := kO M4 hov hS4 (F3.tr F4)
                rw [if_neg (fun z => hno (Or.inl (ht1.symm.trans z)))] at z
                exact z
            refine eg_aload_n dX4_round_176 rfl rfl ?_
            refine eg_iload dX4_round_177 rfl ?_
            refine eg_callV1 0 0 gk_X4_note gi_X4_note (by assumption) rfl gl_RX4_158 rfl (Nat.le_of_ble_eq_true rfl) (Nat.le_of_ble_eq_true rfl) (Nat.zero_le _) (Nat.zero_le _) (by omega) dX4_round_179 ?_
            refine sp_X4_note (f := σ.2.1) hs (by omega) hS3.2.2.1 (by have := hS.2.2.2.1; omega) (fun hf M4 n1 n2 n3 n4 => ?_) (fun hf => ?_)
            · refine fin _ M4 (es.trans (ss_hit_0 hf)) rfl (Nat.succ_pos _) ⟨?_, hS3.2.1, n3, Nat.succ_le_succ hS.2.2.2.1, fun _ => ⟨n1, Nat.succ_le_succ (Nat.zero_le _), show p + 1 ≤ 12 by omega, fun j hj => ?_⟩⟩ (fun q j z1 _ _ _ z5 => n4 q j (by omega) z5) (fun q z1 z2 => n4 _ _ (by omega) (by omega))
              · rw [n4 _ _ (by omega) (by omega)]; exact hS3.1
              · have hj2 : j < p + 1 := hj
                obtain ⟨g1, g2, g3⟩ := n2 j hj2
                show M4 (a + 16) j = nI (ss_up ro p o j) ∧ M4 (a + 17) j = nI (ss_up ra p x j) ∧ M4 (a + 18) j = nI (ss_up rb p y j)
                rw [g1, g2, g3]
                by_cases e : j = p
                · subst e
                  rw [ss_up_e, ss_up_e, ss_up_e]
                  exact hC3
                · rw [ss_up_n e, ss_up_n e, ss_up_n e]
                  exact hv3.2.2.2.2.2.1 j (by omega)
            · refine fin _ _ (es.trans (ss_hit_s hf)) rfl (Nat.succ_pos _) ⟨?_, hS3.2.1, eg_set_eq, Nat.succ_le_succ hS.2.2.2.1, fun _ => ?_⟩ (fun q j z1 _ _ _ z5 => eg_set_q (by omega)) (fun q z1 z2 => eg_set_q (by omega))
              · rw [eg_set_j (by decide)]; exact hS3.1
              · obtain ⟨g1, g2, g3, g4⟩ := hS3.2.2.2.2 (Nat.pos_of_ne_zero hf)
                refine ⟨by rw [eg_set_j (by decide)]; exact g1, g2, g3, fun j hj => ?_⟩
                rw [eg_set_ne (by omega), eg_set_ne (by omega), eg_set_ne (by omega)]
                exact g4 j hj
          · refine eg_if_eq 217 dX4_round_173 (by decide) (fun _ => ?_) (fun z => absurd (show nI 0 = 0 from rfl) z)
            have hh : ¬ ∀ s, s < 2 ^ (w * n) → wd_op w o (V x s) (V y s) = tg s := fun q => by
              obtain ⟨s, z1, z2⟩ := hT
              exact z2 (by rw [hrow s z1, q s z1, hv3.2.2.1 s (by omega)])
            have es : (ss_stp w (2 ^ (w * n)) (n + k) co tg L al (ss_fill w (2 ^ (w * n)) (n + k) co tg L al 0) p r ro ra rb V) σ (o, x, y) = (σ.1 + 1, σ.2) := by rw [ss_stp_go hno, ss_att_no h0 hz0 hh]
            rw [List.foldl_cons, es] at kD kO
            refine eg_goto 9 dX4_round_217 (by decide) ?_
            exact ihl (σ.1 + 1, σ.2) M3 _ _ hpf hr hv3 hS3 hcu3 hno (fun M' l5 l6 z1 z2 z3 => kD M' l5 l6 z1 z2 (F3.tr z3)) (fun M' z1 z2 z3 => kO M' z1 z2 (F3.tr z3))
      · have hS21 := hS.2.1
        have h0 : L ≤ σ.1 := Nat.le_of_eq ((nI_eq (by omega) (by omega)).mp e).symm
        have es : (ss_stp w (2 ^ (w * n)) (n + k) co tg L al (ss_fill w (2 ^ (w * n)) (n + k) co tg L al 0) p r ro ra rb V) σ (o, x, y) = (σ.1, σ.2.1, true, σ.2.2.2) := by rw [ss_stp_go hno, ss_att_sp h0]
        rw [List.foldl_cons, es, ss_fold_over (Or.inl rfl)] at kO
        refine eg_bipush dX4_round_37 (v := -6) (by decide) ?_
        refine eg_iret rfl dX4_round_39 ?_
        show Q (some (.int (if true = true then -6 else 0))) G M1
        exact kO M1 (Or.inl rfl) hS1 hF.rx
  | succ f ihf =>
    intro p r ro ra rb V l_
    induction l_ with
    | nil =>
      intro σ M l5 l6 hpf hr hv hS hcu hno kD kO
      obtain ⟨k0, ⟨x5, y5⟩, ⟨x6, y6⟩, ⟨x7, y7⟩, ⟨x9, y9⟩, ⟨x10, y10⟩, ⟨x11, y11⟩, ⟨x13, y13⟩, ⟨x14, y14⟩, ⟨x18, y18⟩, ⟨x19, y19⟩, ⟨x20, y20⟩, ⟨x25, y25⟩, ⟨x26, y26⟩, ⟨x27, y27⟩, ⟨x28, y28⟩, ⟨x30, y30⟩, ⟨x31, y31⟩, ⟨x32, y32⟩⟩ := id hs
      obtain ⟨m0, m1, m2, m3, m4, mc, hw1, hw4, hn1, hn2, hk4⟩ := id hv.1
      have hA := wd_asg hw4 hn2
      refine eg_iload dX4_round_9 rfl ?_
      refine eg_if_lt 220 dX4_round_11 (by decide) (fun c11 => absurd c11 (nI_pos (by omega))) (fun c11 => ?_)
      refine eg_aload_n dX4_round_14 rfl rfl ?_
      refine eg_iload dX4_round_15 rfl ?_
      refine eg_callV1 0 0 gk_X4_advance gi_X4_advance (by assumption) rfl gl_RX4_149 rfl (Nat.le_of_ble_eq_true rfl) (Nat.le_of_ble_eq_true rfl) (Nat.zero_le _) (Nat.zero_le _) (by omega) dX4_round_17 ?_
      refine sp_X4_advance (by omega) hs (by omega) hc9 hr hv.1 hv.2.1 hv.2.2.2.2.2.2 hcu (fun _ M1 hF => ?_) (fun o2 x2 y2 M1 hl => by cases hl)
      refine eg_if_ne 29 dX4_round_20 (by decide) (fun z => absurd (show nI 0 = 0 from rfl) z) (fun _ => ?_)
      refine eg_iinc dX4_round_23 (by decide) rfl (eg_dec1 p) rfl ?_
      refine eg_goto 9 dX4_round_26 (by decide) ?_
      exact kD M1 _ _ hno (hS.eq (hF _ _ (by omega)) (hF _ _ (by omega)) (hF _ _ (by omega)) (fun q j z1 z2 => hF _ _ (by omega))) hF.rx
    | cons c l_ ihl =>
      intro σ M l5 l6 hpf hr hv hS hcu hno kD kO
      obtain ⟨k0, ⟨x5, y5⟩, ⟨x6, y6⟩, ⟨x7, y7⟩, ⟨x9, y9⟩, ⟨x10, y10⟩, ⟨x11, y11⟩, ⟨x13, y13⟩, ⟨x14, y14⟩, ⟨x18, y18⟩, ⟨x19, y19⟩, ⟨x20, y20⟩, ⟨x25, y25⟩, ⟨x26, y26⟩, ⟨x27, y27⟩, ⟨x28, y28⟩, ⟨x30, y30⟩, ⟨x31, y31⟩, ⟨x32, y32⟩⟩ := id hs
      obtain ⟨m0, m1, m2, m3, m4, mc, hw1, hw4, hn1, hn2, hk4⟩ := id hv.1
      have hA := wd_asg hw4 hn2
      refine eg_iload dX4_round_9 rfl ?_
      refine eg_if_lt 220 dX4_round_11 (by decide) (fun c11 => absurd c11 (nI_pos (by omega))) (fun c11 => ?_)
      refine eg_aload_n dX4_round_14 rfl rfl ?_
      refine eg_iload dX4_round_15 rfl ?_
      refine eg_callV1 0 0 gk_X4_advance gi_X4_advance (by assumption) rfl gl_RX4_149 rfl (Nat.le_of_ble_eq_true rfl) (Nat.le_of_ble_eq_true rfl) (Nat.zero_le _) (Nat.zero_le _) (by omega) dX4_round_17 ?_
      refine sp_X4_advance (by omega) hs (by omega) hc9 hr hv.1 hv.2.1 hv.2.2.2.2.2.2 hcu (fun hl => by cases hl) (fun o x y M1 hl ho hx hy hz hc1 hc2 hC hF => ?_)
      have hl1 : c = (o, x, y) := by injection hl
      have hl2 : l_ = ss_rem co r (n + k + p) o x (y + 1) := by injection hl
      subst hl1
      have hS1 := (hS.eq (hF _ _ (by omega)) (hF _ _ (by omega)) (hF _ _ (by omega)) (fun q j z1 z2 => hF _ _ (by omega)))
      refine eg_if_ne 29 dX4_round_20 (by decide) (fun _ => ?_) (fun z => absurd z (by decide))
      refine eg_aload_n dX4_round_29 rfl rfl ?_
      refine eg_getI gf_RX4_152 rfl (by assumption) dX4_round_30 ?_
      refine eg_topi hS1.1 ?_
      refine eg_iload_n dX4_round_33 rfl rfl ?_
      refine eg_icmp_ne 40 dX4_round_34 (by decide) (fun e => ?_) (fun e => ?_)
      · have h0 : ¬ L ≤ σ.1 := fun q => e (by rw [show σ.1 = L from Nat.le_antisymm hS.2.1 q])
        refine eg_aload_n dX4_round_40 rfl rfl ?_
        refine eg_dup dX4_round_41 rfl ?_
        refine eg_getI gf_RX4_152 rfl (by assumption) dX4_round_42 ?_
        refine eg_topi hS1.1 ?_
        refine eg_iconst dX4_round_45 (v := nI 1) (by decide) ?_
        refine eg_iadd dX4_round_46 ?_
        refine eg_topi (nI_add σ.1 1) ?_
        refine eg_putI gp_RX4_152 (fun q => by cases q) rfl rfl rfl (by assumption) dX4_round_47 ?_
        generalize hM2 : eg_set M1 a 21 (nI (σ.1 + 1)) = M2
        have o2 : ∀ q j, ¬ (q = a ∧ j = 21) → M2 q j = M1 q j := fun q j z => by rw [← hM2, eg_set_q z]
        have F2 : rx_F M M2 a (n + k) p := (hF.rx).tr (fun q j z1 _ _ _ _ => o2 q j (by omega))
        have hv2 := hv.eq F2
        have hC2 : ac_C M2 a p o x y := ⟨by rw [o2 _ _ (by omega)]; exact hC.1, by rw [o2 _ _ (by omega)]; exact hC.2.1, by rw [o2 _ _ (by omega)]; exact hC.2.2⟩
        refine eg_aload_n dX4_round_50 rfl rfl ?_
        refine eg_callV0 0 0 gk_X4_firsts gi_X4_firsts (by assumption) rfl gl_RX4_86 rfl (Nat.le_of_ble_eq_true rfl) (Nat.le_of_ble_eq_true rfl) (Nat.zero_le _) (Nat.zero_le _) (by omega) dX4_round_51 ?_
        refine sp_X4_firsts k0 hv2.1 ?_
        refine eg_iload dX4_round_54 rfl ?_
        refine eg_iadd dX4_round_56 ?_
        refine eg_topi (nI_add (n + k) p) ?_
        refine eg_istore dX4_round_57 (by decide) rfl ?_
        refine eg_iconst dX4_round_59 (v := nI 0) (by decide) ?_
        refine eg_istore dX4_round_60 (by decide) rfl ?_
        refine lp_X4_roundRow (V := V) (by omega) hs (by omega) ho hx hy hv.2.2.2.2.1 (2 ^ (w * n)) 0 M2 hv2.1 hC2 (by omega) hv2.2.2.2.1 (fun z hz => absurd hz (by omega)) (fun M3 hrow h4 => ?_)
        have F3 : rx_F M M3 a (n + k) p := F2.tr (fun q j _ z2 _ _ _ => h4 q j (by omega))
        have hv3 := hv.eq F3
        have hC3 : ac_C M3 a p o x y := ⟨by rw [h4 _ _ (by omega)]; exact hC2.1, by rw [h4 _ _ (by omega)]; exact hC2.2.1, by rw [h4 _ _ (by omega)]; exact hC2.2.2⟩
        have hS3 : rh_S M3 a L (σ.1 + 1, σ.2) := by
          refine ⟨by rw [h4 _ _ (by omega), ← hM2, eg_set_eq], by show σ.1 + 1 ≤ L; omega, by rw [h4 _ _ (by omega), o2 _ _ (by omega)]; exact hS1.2.2.1, Nat.le_succ_of_le hS.2.2.2.1, fun z => ?_⟩
          obtain ⟨g1, g2, g3, g4⟩ := hS1.2.2.2.2 z
          refine ⟨by rw [h4 _ _ (by omega), o2 _ _ (by omega)]; exact g1, g2, g3, fun j hj => ?_⟩
          rw [h4 _ _ (by omega), h4 _ _ (by omega), h4 _ _ (by omega), o2 _ _ (by omega), o2 _ _ (by omega), o2 _ _ (by omega)]
          exact g4 j hj
        have hcu3 : rc_I M3 a co p r (n + k + p) l_ := Or.inr ⟨o, x, y, ho, hx, hy, hz, hc1, hc2, hC3, hl2⟩
        have hco9 := hc9 o ho
        refine eg_aload_n dX4_round_140 rfl rfl ?_
        refine eg_getR gf_RX4_68 rfl (by assumption) (by assumption) dX4_round_141 ?_
        refine eg_iload dX4_round_144 rfl ?_
        refine eg_ialdN (by assumption) (by omega) (by decide) dX4_round_146 ?_
        refine eg_topi hv3.2.2.2.2.2.2 ?_
        refine eg_aload_n dX4_round_147 rfl rfl ?_
        refine eg_getR gf_RX4_26 rfl (by assumption) (by assumption) dX4_round_148 ?_
        refine eg_aload_n dX4_round_151 rfl rfl ?_
        refine eg_getR gf_RX4_59 rfl (by assumption) (by assumption) dX4_round_152 ?_
        refine eg_iload dX4_round_155 rfl ?_
        refine eg_ialdN (by assumption) (by omega) (by decide) dX4_round_157 ?_
        refine eg_topi hC3.1 ?_
        refine eg_ialdN (by assumption) ho (by decide) dX4_round_158 ?_
        refine eg_topi (hv3.2.1 o ho) ?_
        refine eg_isub dX4_round_159 ?_
        refine eg_topi (pk_sub hc2) ?_
        refine eg_istore dX4_round_160 (by decide) rfl ?_
        refine eg_iload dX4_round_162 rfl ?_
        refine eg_if_ne 188 dX4_round_164 (by decide) (fun e2 => ?_) (fun e2 => ?_)
        · have hz0 : ¬ r - co o = 0 := fun q => e2 (by rw [q]; rfl)
          refine eg_iload dX4_round_188 rfl ?_
          refine eg_iconst dX4_round_190 (v := nI 1) (by decide) ?_
          refine eg_iadd dX4_round_191 ?_
          refine eg_topi (nI_add p 1) ?_
          refine eg_bipush dX4_round_192 (v := nI 12) (by decide) ?_
          refine eg_icmp_ge 217 dX4_round_194 (by decide) (fun c194 => absurd c194 (nI_ge (b := 12) (by omega) (by omega))) (fun c194 => ?_)
          refine eg_aload_n dX4_round_197 rfl rfl ?_
          refine eg_iload dX4_round_198 rfl ?_
          refine eg_callV1 0 0 gk_X4_isNew gi_X4_isNew (by assumption) rfl gl_RX4_162 rfl (Nat.le_of_ble_eq_true rfl) (Nat.le_of_ble_eq_true rfl) (Nat.zero_le _) (Nat.zero_le _) (by omega) dX4_round_200 ?_
          refine sp_X4_isNew (by omega) hs hv3.1 (show n + k + p < 18 by omega) (fun hT => ?_) (fun hT => ?_)
          · refine eg_if_eq 217 dX4_round_203 (by decide) (fun z => absurd z (by decide)) (fun _ => ?_)
            have hn : ∀ u, u < n + k + p → ¬ ∀ s, s < 2 ^ (w * n) → V u s = wd_op w o (V x s) (V y s) := fun u hu q => hT u hu (fun s z => by rw [hrow s z, hv3.2.2.2.1 u s hu z]; exact (q s z).symm)
            have es : (ss_stp w (2 ^ (w * n)) (n + k) co tg L al (ss_fill w (2 ^ (w * n)) (n + k) co tg L al (f + 1)) p r ro ra rb V) σ (o, x, y) = (ss_os co (r - co o) 0 (n + k + (p + 1))).foldl (ss_stp w (2 ^ (w * n)) (n + k) co tg L al (ss_fill w (2 ^ (w * n)) (n + k) co tg L al f) (p + 1) (r - co o) (ss_up ro p o) (ss_up ra p x) (ss_up rb p y) (ss_up V (n + k + p) (fun s => wd_op w o (V x s) (V y s)))) (σ.1 + 1, σ.2) := by
              rw [ss_stp_go hno, ss_att_new h0 hz0 hn]
              rfl
            refine eg_iinc dX4_round_206 (by decide) rfl (eg_inc p) rfl ?_
            refine eg_aload_n dX4_round_209 rfl rfl ?_
            refine eg_iload dX4_round_210 rfl ?_
            refine eg_iload dX4_round_212 rfl ?_
            refine eg_callV2 0 0 gk_X4_open gi_X4_open (by assumption) rfl gl_RX4_146 rfl (Nat.le_of_ble_eq_true rfl) (Nat.le_of_ble_eq_true rfl) (Nat.zero_le _) (Nat.zero_le _) (by omega) dX4_round_214 ?_
            refine sp_X4_open hs (by omega) (fun M4 o1 o2 o3 o4 o5 => ?_)
            refine eg_goto 9 dX4_round_217 (by decide) ?_
            have F4 : rx_F M3 M4 a (n + k) p := fun q j _ _ z3 z4 _ => o5 q j (by omega)
            have hv4 : rv_I M4 a w n k cf co tg (p + 1) (r - co o) (ss_up ro p o) (ss_up ra p x) (ss_up rb p y) (ss_up V (n + k + p) (fun s => wd_op w o (V x s) (V y s))) := by
              have g := hv3.eq F4
              refine ⟨g.1, g.2.1, g.2.2.1, fun u s z1 z2 => ?_, fun u s z1 z2 => ?_, fun j hj => ?_, o1⟩
              · by_cases e : u = n + k + p
                · subst e
                  rw [ss_up_e, o5 _ _ (by omega)]
                  exact hrow s z2
                · rw [ss_up_n e]
                  exact g.2.2.2.1 u s (by omega) z2
              · by_cases e : u = n + k + p
                · subst e
                  rw [ss_up_e]
                  exact wd_op_wd hw1 hw4 ho (hv.2.2.2.2.1 x s hx z2) (hv.2.2.2.2.1 y s hy z2)
                · rw [ss_up_n e]
                  exact g.2.2.2.2.1 u s (by omega) z2
              · by_cases e : j = p
                · subst e
                  rw [ss_up_e, ss_up_e, ss_up_e, o5 _ _ (by omega), o5 _ _ (by omega), o5 _ _ (by omega)]
                  exact hC3
                · rw [ss_up_n e, ss_up_n e, ss_up_n e]
                  exact g.2.2.2.2.2.1 j (by omega)
            refine ihf (p + 1) (r - co o) _ _ _ _ (ss_os co (r - co o) 0 (n + k + (p + 1))) (σ.1 + 1, σ.2) M4 _ _ (by omega) (by omega) hv4 (hS3.eq (o5 _ _ (by omega)) (o5 _ _ (by omega)) (o5 _ _ (by omega)) (fun q j z1 z2 => o5 _ _ (by omega))) (Or.inl ⟨o2, o3, o4, rfl⟩) hno (fun M5 l5 l6 z1 z2 z3 => ?_) (fun M5 z1 z2 z3 => ?_)
            · rw [← es] at z1 z2
              rw [show nI (p + 1) - nI 1 = nI p from pk_sub (by omega)]
              rw [List.foldl_cons] at kD kO
              have F5 : rx_F M M5 a (n + k) p := F3.tr (F4.tr z3.up)
              have gc : ∀ q, a + 12 ≤ q → q < a + 15 → M5 q p = M3 q p := fun q y1 y2 => by rw [z3 q p (by omega) (by omega) (by omega) (by omega) (by omega), o5 _ _ (by omega)]
              refine ihl _ M5 _ _ hpf hr (hv.eq F5) z2 (Or.inr ⟨o, x, y, ho, hx, hy, hz, hc1, hc2, ⟨?_, ?_, ?_⟩, hl2⟩) z1 (fun M' l5 l6 y1 y2 y3 => kD M' l5 l6 y1 y2 (F5.tr y3)) (fun M' y1 y2 y3 => kO M' y1 y2 (F5.tr y3))
              · rw [gc _ (by omega) (by omega)]; exact hC3.1
              · rw [gc _ (by omega) (by omega)]; exact hC3.2.1
              · rw [gc _ (by omega) (by omega)]; exact hC3.2.2
            · rw [← es] at z1 z2 ⊢
              rw [List.foldl_cons, ss_fold_over z1] at kO
              exact kO M5 z1 z2 (F3.tr (F4.tr z3.up))
          · refine eg_if_eq 217 dX4_round_203 (by decide) (fun _ => ?_) (fun z => absurd (show nI 0 = 0 from rfl) z)
            have hn : ¬ ∀ u, u < n + k + p → ¬ ∀ s, s < 2 ^ (w * n) → V u s = wd_op w o (V x s) (V y s) := fun q => by
              obtain ⟨u, z1, z2⟩ := hT
              exact q u z1 (fun s z => by rw [← hrow s z, z2 s z, hv3.2.2.2.1 u s z1 z])
            have es : (ss_stp w (2 ^ (w * n)) (n + k) co tg L al (ss_fill w (2 ^ (w * n)) (n + k) co tg L al (f + 1)) p r ro ra rb V) σ (o, x, y) = (σ.1 + 1, σ.2) := by rw [ss_stp_go hno, ss_att_old h0 hz0 hn]
            rw [List.foldl_cons, es] at kD kO
            refine eg_goto 9 dX4_round_217 (by decide) ?_
            exact ihl (σ.1 + 1, σ.2) M3 _ _ hpf hr hv3 hS3 hcu3 hno (fun M' l5 l6 z1 z2 z3 => kD M' l5 l6 z1 z2 (F3.tr z3)) (fun M' z1 z2 z3 => kO M' z1 z2 (F3.tr z3))
        · have hz0 : r - co o = 0 := (nI_eq (b := 0) (by omega) (by omega)).mp e2
          refine eg_aload_n dX4_round_167 rfl rfl ?_
          refine eg_iload dX4_round_168 rfl ?_
          refine eg_callV1 0 0 gk_X4_isTarget gi_X4_isTarget (by assumption) rfl gl_RX4_155 rfl (Nat.le_of_ble_eq_true rfl) (Nat.le_of_ble_eq_true rfl) (Nat.zero_le _) (Nat.zero_le _) (by omega) dX4_round_170 ?_
          refine sp_X4_isTarget hs hv3.1 (show n + k + p < 18 by omega) (fun hT => ?_) (fun hT => ?_)
          · refine eg_if_eq 217 dX4_round_173 (by decide) (fun z => absurd z (by decide)) (fun _ => ?_)
            have hh : ∀ s, s < 2 ^ (w * n) → wd_op w o (V x s) (V y s) = tg s := fun s z => by rw [← hrow s z, hT s z, hv3.2.2.1 s (by omega)]
            have es : (ss_stp w (2 ^ (w * n)) (n + k) co tg L al (ss_fill w (2 ^ (w * n)) (n + k) co tg L al (f + 1)) p r ro ra rb V) σ (o, x, y) = ss_hit p (ss_up ro p o) (ss_up ra p x) (ss_up rb p y) (σ.1 + 1, σ.2) := by rw [ss_stp_go hno, ss_att_hit h0 hz0 hh]
            have fin : ∀ (τ : ss_S) (M4 : eg_I), (ss_stp w (2 ^ (w * n)) (n + k) co tg L al (ss_fill w (2 ^ (w * n)) (n + k) co tg L al (f + 1)) p r ro ra rb V) σ (o, x, y) = τ → τ.2.2.1 = σ.2.2.1 → 0 < τ.2.1 → rh_S M4 a L τ → rx_F M3 M4 a (n + k) p → (∀ q, a + 12 ≤ q → q < a + 15 → M4 q p = M3 q p) → eg_J l E mX4_round d kb nb Q 182 [some (.ref a), some (.int x1), some (.int (nI L)), some (.int wz), some (.int (nI p)), some (.int (nI (n + k + p))), some (.int (nI (r - co o)))] [] G M4 := by
              intro τ M4 es ht1 ht2 hS4 F4 g4
              rw [List.foldl_cons, es] at kD kO
              refine eg_iload_n dX4_round_182 rfl rfl ?_
              refine eg_if_ne 217 dX4_round_183 (by decide) (fun e3 => ?_) (fun e3 => ?_)
              · have hal : al = true := Classical.byContradiction (fun z => e3 (by rw [hwz, if_neg z]))
                refine eg_goto 9 dX4_round_217 (by decide) ?_
                refine ihl τ M4 _ _ hpf hr (hv3.eq F4) hS4 (Or.inr ⟨o, x, y, ho, hx, hy, hz, hc1, hc2, ⟨?_, ?_, ?_⟩, hl2⟩) (fun z => z.elim (fun z => hno (Or.inl (ht1.symm.trans z))) (fun z => absurd (hal.symm.trans z.2) (by decide))) (fun M' l5 l6 z1 z2 z3 => kD M' l5 l6 z1 z2 ((F3.tr F4).tr z3)) (fun M' z1 z2 z3 => kO M' z1 z2 ((F3.tr F4).tr z3))
                · rw [g4 _ (by omega) (by omega)]; exact hC3.1
                · rw [g4 _ (by omega) (by omega)]; exact hC3.2.1
                · rw [g4 _ (by omega) (by omega)]; exact hC3.2.2
              · have hal : al = false := by
                  cases al with
                  | false => rfl
                  | true => rw [hwz] at e3; exact absurd e3 (by decide)
                have hov : ss_over al τ := Or.inr ⟨ht2, hal⟩
                rw [ss_fold_over hov] at kO
                refine eg_iconst dX4_round_186 (v := nI 0) (by decide) ?_
                refine eg_iret rfl dX4_round_187 ?_
                have z := kO M4 hov hS4 (F3.tr F4)
                rw [if_neg (fun z => hno (Or.inl (ht1.symm.trans z)))] at z
                exact z
            refine eg_aload_n dX4_round_176 rfl rfl ?_
            refine eg_iload dX4_round_177 rfl ?_
            refine eg_callV1 0 0 gk_X4_note gi_X4_note (by assumption) rfl gl_RX4_158 rfl (Nat.le_of_ble_eq_true rfl) (Nat.le_of_ble_eq_true rfl) (Nat.zero_le _) (Nat.zero_le _) (by omega) dX4_round_179 ?_
            refine sp_X4_note (f := σ.2.1) hs (by omega) hS3.2.2.1 (by have := hS.2.2.2.1; omega) (fun hf M4 n1 n2 n3 n4 => ?_) (fun hf => ?_)
            · refine fin _ M4 (es.trans (ss_hit_0 hf)) rfl (Nat.succ_pos _) ⟨?_, hS3.2.1, n3, Nat.succ_le_succ hS.2.2.2.1, fun _ => ⟨n1, Nat.succ_le_succ (Nat.zero_le _), show p + 1 ≤ 12 by omega, fun j hj => ?_⟩⟩ (fun q j z1 _ _ _ z5 => n4 q j (by omega) z5) (fun q z1 z2 => n4 _ _ (by omega) (by omega))
              · rw [n4 _ _ (by omega) (by omega)]; exact hS3.1
              · have hj2 : j < p + 1 := hj
                obtain ⟨g1, g2, g3⟩ := n2 j hj2
                show M4 (a + 16) j = nI (ss_up ro p o j) ∧ M4 (a + 17) j = nI (ss_up ra p x j) ∧ M4 (a + 18) j = nI (ss_up rb p y j)
                rw [g1, g2, g3]
                by_cases e : j = p
                · subst e
                  rw [ss_up_e, ss_up_e, ss_up_e]
                  exact hC3
                · rw [ss_up_n e, ss_up_n e, ss_up_n e]
                  exact hv3.2.2.2.2.2.1 j (by omega)
            · refine fin _ _ (es.trans (ss_hit_s hf)) rfl (Nat.succ_pos _) ⟨?_, hS3.2.1, eg_set_eq, Nat.succ_le_succ hS.2.2.2.1, fun _ => ?_⟩ (fun q j z1 _ _ _ z5 => eg_set_q (by omega)) (fun q z1 z2 => eg_set_q (by omega))
              · rw [eg_set_j (by decide)]; exact hS3.1
              · obtain ⟨g1, g2, g3, g4⟩ := hS3.2.2.2.2 (Nat.pos_of_ne_zero hf)
                refine ⟨by rw [eg_set_j (by decide)]; exact g1, g2, g3, fun j hj => ?_⟩
                rw [eg_set_ne (by omega), eg_set_ne (by omega), eg_set_ne (by omega)]
                exact g4 j hj
          · refine eg_if_eq 217 dX4_round_173 (by decide) (fun _ => ?_) (fun z => absurd (show nI 0 = 0 from rfl) z)
            have hh : ¬ ∀ s, s < 2 ^ (w * n) → wd_op w o (V x s) (V y s) = tg s := fun q => by
              obtain ⟨s, z1, z2⟩ := hT
              exact z2 (by rw [hrow s z1, q s z1, hv3.2.2.1 s (by omega)])
            have es : (ss_stp w (2 ^ (w * n)) (n + k) co tg L al (ss_fill w (2 ^ (w * n)) (n + k) co tg L al (f + 1)) p r ro ra rb V) σ (o, x, y) = (σ.1 + 1, σ.2) := by rw [ss_stp_go hno, ss_att_no h0 hz0 hh]
            rw [List.foldl_cons, es] at kD kO
            refine eg_goto 9 dX4_round_217 (by decide) ?_
            exact ihl (σ.1 + 1, σ.2) M3 _ _ hpf hr hv3 hS3 hcu3 hno (fun M' l5 l6 z1 z2 z3 => kD M' l5 l6 z1 z2 (F3.tr z3)) (fun M' z1 z2 z3 => kO M' z1 z2 (F3.tr z3))
      · have hS21 := hS.2.1
        have h0 : L ≤ σ.1 := Nat.le_of_eq ((nI_eq (by omega) (by omega)).mp e).symm
        have es : (ss_stp w (2 ^ (w * n)) (n + k) co tg L al (ss_fill w (2 ^ (w * n)) (n + k) co tg L al (f + 1)) p r ro ra rb V) σ (o, x, y) = (σ.1, σ.2.1, true, σ.2.2.2) := by rw [ss_stp_go hno, ss_att_sp h0]
        rw [List.foldl_cons, es, ss_fold_over (Or.inl rfl)] at kO
        refine eg_bipush dX4_round_37 (v := -6) (by decide) ?_
        refine eg_iret rfl dX4_round_39 ?_
        show Q (some (.int (if true = true then -6 else 0))) G M1
        exact kO M1 (Or.inl rfl) hS1 hF.rx
