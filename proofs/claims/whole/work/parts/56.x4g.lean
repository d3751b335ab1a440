/-! ShortestCodeModel: round, keepFirst, search -/
def rz_F (M M' : eg_I) (a g : Nat) : Prop := ∀ q j, ¬ (q = a ∧ (j = 21 ∨ j = 23 ∨ j = 29)) → ¬ (q = a + 8 ∧ 256 * g ≤ j) → ¬ (a + 12 ≤ q ∧ q < a + 19) → M' q j = M q j
theorem ss_fill_s {w A g : Nat} {co : Nat → Nat} {tg : Nat → Int32} {L : Nat} {al : Bool} {f p r : Nat} {ro ra rb : Nat → Nat} {V : Nat → Nat → Int32} {σ : ss_S} : ss_fill w A g co tg L al (f + 1) p r ro ra rb V σ = (ss_os co r 0 (g + p)).foldl (ss_stp w A g co tg L al (ss_fill w A g co tg L al f) p r ro ra rb V) σ := rfl
theorem ss_rds_stop {w A g : Nat} {co : Nat → Nat} {tg : Nat → Int32} {L : Nat} {al : Bool} {V : Nat → Nat → Int32} {σ : ss_S} (h : 0 < σ.2.1 ∨ σ.2.2.1 = true) : ∀ (t rd : Nat), ss_rds w A g co tg L al V t rd σ = (σ, rd)
  | 0, _ => rfl
  | _ + 1, _ => if_pos h
theorem ss_rds_go {w A g : Nat} {co : Nat → Nat} {tg : Nat → Int32} {L : Nat} {al : Bool} {V : Nat → Nat → Int32} {σ : ss_S} {t rd : Nat} (h : ¬ (0 < σ.2.1 ∨ σ.2.2.1 = true)) : ss_rds w A g co tg L al V (t + 1) rd σ = ss_rds w A g co tg L al V t (rd + 1) (ss_fill w A g co tg L al 12 0 (rd + 1) (fun _ => 0) (fun _ => 0) (fun _ => 0) V σ) := if_neg h
def rq_I (M : eg_I) (a w n k : Nat) (cf : Nat → Int32) (co : Nat → Nat) (tg : Nat → Int32) (V : Nat → Nat → Int32) : Prop := in_M M a w n k cf ∧ (∀ o, o < 13 → M (a + 2) o = nI (co o)) ∧ (∀ s, s < 256 → M (a + 3) s = tg s) ∧ (∀ u s, u < n + k → s < 2 ^ (w * n) → M (a + 8) (256 * u + s) = V u s)
theorem rq_I.eq {M M' : eg_I} {a w n k : Nat} {cf : Nat → Int32} {co : Nat → Nat} {tg : Nat → Int32} {V : Nat → Nat → Int32} (h : rq_I M a w n k cf co tg V) (e : ∀ q j, (q = a ∧ j < 5) ∨ (a + 1 ≤ q ∧ q < a + 4) ∨ (q = a + 8 ∧ j < 256 * (n + k)) → M' q j = M q j) : rq_I M' a w n k cf co tg V := by
  obtain ⟨h1, h2, h3, h4⟩ := h
  have hA := wd_asg h1.2.2.2.2.2.2.2.1 h1.2.2.2.2.2.2.2.2.2.1
  refine ⟨h1.eq (fun j _ => e _ _ (by omega)) (by funext j; exact e _ _ (by omega)), fun o ho => ?_, fun s hs => ?_, fun u s hu hs => ?_⟩
  · rw [e _ _ (by omega)]; exact h2 o ho
  · rw [e _ _ (by omega)]; exact h3 s hs
  · rw [e _ _ (by omega)]; exact h4 u s hu hs
/-- what a search may change, but for what was FOUND -/
def rw_F (M M' : eg_I) (a : Nat) : Prop := ∀ q j, ¬ (q = a ∧ (j = 15 ∨ j = 16 ∨ j = 17 ∨ j = 21 ∨ j = 22 ∨ j = 23 ∨ j = 24 ∨ j = 29)) → ¬ (a + 8 ≤ q ∧ q < a + 19) → M' q j = M q j
def rk_F (M M' : eg_I) (a : Nat) : Prop := (∀ j, j = 15 ∨ j = 16 ∨ j = 17 → M' a j = M a j) ∧ ∀ q j, a + 9 ≤ q → q < a + 12 → M' q j = M q j
set_option maxHeartbeats 2000000 in
theorem sp_X4_round {l : Launch} {E : eg_E} {d kb nb : Nat} {Q : Option Value → eg_G → eg_I → Prop} {G : eg_G} {M : eg_I} {a w n k L rd : Nat} {cf tg : Nat → Int32} {co : Nat → Nat} {al : Bool} {wz : Int32} {V : Nat → Nat → Int32} {σ τ : ss_S} (hd : 2 ≤ d) (hs : sh_M G a) (hL : L ≤ 30000) (hwz : wz = if al = true then 1 else 0) (hc9 : ∀ o, o < 13 → co o ≤ 9) (hr : rd ≤ 30) (h : rq_I M a w n k cf co tg V) (hwd : ∀ u s, u < n + k → s < 2 ^ (w * n) → is_wd w (V u s)) (hS : rh_S M a L σ) (hno : ¬ ss_over al σ) (hτ : ss_fill w (2 ^ (w * n)) (n + k) co tg L al 12 0 rd (fun _ => 0) (fun _ => 0) (fun _ => 0) V σ = τ) (hQ : ∀ M', rh_S M' a L τ → rz_F M M' a (n + k) → Q (some (.int (if τ.2.2.1 = true then -6 else 0))) G M') : eg_J l E mX4_round d kb nb Q 0 [some (.ref a), some (.int (nI rd)), some (.int (nI L)), some (.int wz), none, none, none] [] G M := by
  obtain ⟨k0, ⟨x5, y5⟩, ⟨x6, y6⟩, ⟨x7, y7⟩, ⟨x9, y9⟩, ⟨x10, y10⟩, ⟨x11, y11⟩, ⟨x13, y13⟩, ⟨x14, y14⟩, ⟨x18, y18⟩, ⟨x19, y19⟩, ⟨x20, y20⟩, ⟨x25, y25⟩, ⟨x26, y26⟩, ⟨x27, y27⟩, ⟨x28, y28⟩, ⟨x30, y30⟩, ⟨x31, y31⟩, ⟨x32, y32⟩⟩ := id hs
  refine eg_iconst dX4_round_0 (v := nI 0) (by decide) ?_
  refine eg_istore dX4_round_1 (by decide) rfl ?_
  refine eg_aload_n dX4_round_3 rfl rfl ?_
  refine eg_iconst dX4_round_4 (v := nI 0) (by decide) ?_
  refine eg_iload_n dX4_round_5 rfl rfl ?_
  refine eg_callV2 0 0 gk_X4_open gi_X4_open (by assumption) rfl gl_RX4_146 rfl (Nat.le_of_ble_eq_true rfl) (Nat.le_of_ble_eq_true rfl) (Nat.zero_le _) (Nat.zero_le _) (by omega) dX4_round_6 ?_
  refine sp_X4_open (p := 0) hs (by omega) (fun M1 o1 o2 o3 o4 o5 => ?_)
  have F1 : ∀ q j, ¬ (a + 12 ≤ q ∧ q < a + 16 ∧ j = 0) → M1 q j = M q j := o5
  have ef : (ss_os co rd 0 (n + k + 0)).foldl (ss_stp w (2 ^ (w * n)) (n + k) co tg L al (ss_fill w (2 ^ (w * n)) (n + k) co tg L al 11) 0 rd (fun _ => 0) (fun _ => 0) (fun _ => 0) V) σ = τ := (ss_fill_s (f := 11)).symm.trans hτ
  have hv1 : rv_I M1 a w n k cf co tg 0 rd (fun _ => 0) (fun _ => 0) (fun _ => 0) V := ⟨h.1.eq (fun j _ => F1 _ _ (by omega)) (by funext j; exact F1 _ _ (by omega)), fun o ho => by rw [F1 _ _ (by omega)]; exact h.2.1 o ho, fun s z => by rw [F1 _ _ (by omega)]; exact h.2.2.1 s z, fun u s z1 z2 => by rw [F1 _ _ (by omega)]; exact h.2.2.2 u s z1 z2, fun u s z1 z2 => hwd u s z1 z2, fun j hj => absurd hj (by omega), o1⟩
  refine lp_X4_round (al := al) hd hs hL hwz hc9 11 0 rd (fun _ => 0) (fun _ => 0) (fun _ => 0) V (ss_os co rd 0 (n + k + 0)) σ M1 _ _ rfl hr hv1 (hS.eq (F1 _ _ (by omega)) (F1 _ _ (by omega)) (F1 _ _ (by omega)) (fun q j z1 z2 => F1 _ _ (by omega))) (Or.inl ⟨o2, o3, o4, rfl⟩) hno (fun M2 l5 l6 z1 z2 z3 => ?_) (fun M2 z1 z2 z3 => ?_)
  · rw [ef] at z1 z2
    have hq := hQ M2 z2 (fun q j y1 y2 y3 => by rw [z3 q j y1 (by omega) (by omega) (by omega) (by omega), F1 q j (by omega)])
    rw [if_neg (fun z => z1 (Or.inl z))] at hq
    refine eg_iload dX4_round_9 rfl ?_
    refine eg_if_lt 220 dX4_round_11 (by decide) (fun c11 => ?_) (fun c11 => absurd (show nI 0 - nI 1 < 0 by decide) c11)
    refine eg_iconst dX4_round_220 (v := nI 0) (by decide) ?_
    exact eg_iret rfl dX4_round_221 hq
  · rw [ef] at z1 z2 ⊢
    exact hQ M2 z2 (fun q j y1 y2 y3 => by rw [z3 q j y1 (by omega) (by omega) (by omega) (by omega), F1 q j (by omega)])
set_option maxHeartbeats 2000000 in
theorem lp_X4_keepFirst {l : Launch} {E : eg_E} {d kb nb : Nat} {Q : Option Value → eg_G → eg_I → Prop} {G : eg_G} {a len : Nat} {x : Int32} (hs : sh_M G a) (hl : len ≤ 12) : ∀ (c s : Nat) (M : eg_I), M a 29 = nI len → s + c = len → (∀ M', (∀ j, s ≤ j → j < len → M' (a + 9) j = M (a + 16) j ∧ M' (a + 10) j = M (a + 17) j ∧ M' (a + 11) j = M (a + 18) j) → (∀ q j, ¬ (a + 9 ≤ q ∧ q < a + 12 ∧ s ≤ j) → M' q j = M q j) → eg_J l E mX4_keepFirst d kb nb Q 65 [some (.ref a), some (.int x), some (.int (nI len))] [] G M') → eg_J l E mX4_keepFirst d kb nb Q 15 [some (.ref a), some (.int x), some (.int (nI s))] [] G M := by
  intro c
  induction c with
  | zero =>
    intro s M h29 hst kk
    obtain ⟨k0, ⟨x5, y5⟩, ⟨x6, y6⟩, ⟨x7, y7⟩, ⟨x9, y9⟩, ⟨x10, y10⟩, ⟨x11, y11⟩, ⟨x13, y13⟩, ⟨x14, y14⟩, ⟨x18, y18⟩, ⟨x19, y19⟩, ⟨x20, y20⟩, ⟨x25, y25⟩, ⟨x26, y26⟩, ⟨x27, y27⟩, ⟨x28, y28⟩, ⟨x30, y30⟩, ⟨x31, y31⟩, ⟨x32, y32⟩⟩ := id hs
    refine eg_iload_n dX4_keepFirst_15 rfl rfl ?_
    refine eg_aload_n dX4_keepFirst_16 rfl rfl ?_
    refine eg_getI gf_RX4_143 rfl (by assumption) dX4_keepFirst_17 ?_
    refine eg_topi h29 ?_
    refine eg_icmp_ge 65 dX4_keepFirst_20 (by decide) (fun c20 => ?_) (fun c20 => absurd (nI_le (by omega) (by omega)) c20)
    have e : s = len := by omega
    subst e
    exact kk M (fun j z1 z2 => absurd z2 (by omega)) (fun _ _ _ => rfl)
  | succ c ih =>
    intro s M h29 hst kk
    obtain ⟨k0, ⟨x5, y5⟩, ⟨x6, y6⟩, ⟨x7, y7⟩, ⟨x9, y9⟩, ⟨x10, y10⟩, ⟨x11, y11⟩, ⟨x13, y13⟩, ⟨x14, y14⟩, ⟨x18, y18⟩, ⟨x19, y19⟩, ⟨x20, y20⟩, ⟨x25, y25⟩, ⟨x26, y26⟩, ⟨x27, y27⟩, ⟨x28, y28⟩, ⟨x30, y30⟩, ⟨x31, y31⟩, ⟨x32, y32⟩⟩ := id hs
    refine eg_iload_n dX4_keepFirst_15 rfl rfl ?_
    refine eg_aload_n dX4_keepFirst_16 rfl rfl ?_
    refine eg_getI gf_RX4_143 rfl (by assumption) dX4_keepFirst_17 ?_
    refine eg_topi h29 ?_
    refine eg_icmp_ge 65 dX4_keepFirst_20 (by decide) (fun c20 => absurd c20 (nI_ge (by omega) (by omega))) (fun c20 => ?_)
    refine eg_aload_n dX4_keepFirst_23 rfl rfl ?_
    refine eg_getR gf_RX4_47 rfl (by assumption) (by assumption) dX4_keepFirst_24 ?_
    refine eg_iload_n dX4_keepFirst_27 rfl rfl ?_
    refine eg_aload_n dX4_keepFirst_28 rfl rfl ?_
    refine eg_getR gf_RX4_71 rfl (by assumption) (by assumption) dX4_keepFirst_29 ?_
    refine eg_iload_n dX4_keepFirst_32 rfl rfl ?_
    refine eg_ialdN (by assumption) (by omega) (by decide) dX4_keepFirst_33 ?_
    refine eg_iastN (by assumption) (by omega) (by decide) dX4_keepFirst_34 ?_
    refine eg_aload_n dX4_keepFirst_35 rfl rfl ?_
    refine eg_getR gf_RX4_50 rfl (by assumption) (by assumption) dX4_keepFirst_36 ?_
    refine eg_iload_n dX4_keepFirst_39 rfl rfl ?_
    refine eg_aload_n dX4_keepFirst_40 rfl rfl ?_
    refine eg_getR gf_RX4_74 rfl (by assumption) (by assumption) dX4_keepFirst_41 ?_
    refine eg_iload_n dX4_keepFirst_44 rfl rfl ?_
    refine eg_ialdN (by assumption) (by omega) (by decide) dX4_keepFirst_45 ?_
    refine eg_topi (show _ = M (a + 17) s by rw [eg_set_ne (by omega)]) ?_
    refine eg_iastN (by assumption) (by omega) (by decide) dX4_keepFirst_46 ?_
    refine eg_aload_n dX4_keepFirst_47 rfl rfl ?_
    refine eg_getR gf_RX4_53 rfl (by assumption) (by assumption) dX4_keepFirst_48 ?_
    refine eg_iload_n dX4_keepFirst_51 rfl rfl ?_
    refine eg_aload_n dX4_keepFirst_52 rfl rfl ?_
    refine eg_getR gf_RX4_77 rfl (by assumption) (by assumption) dX4_keepFirst_53 ?_
    refine eg_iload_n dX4_keepFirst_56 rfl rfl ?_
    refine eg_ialdN (by assumption) (by omega) (by decide) dX4_keepFirst_57 ?_
    refine eg_topi (show _ = M (a + 18) s by rw [eg_set_ne (by omega), eg_set_ne (by omega)]) ?_
    refine eg_iastN (by assumption) (by omega) (by decide) dX4_keepFirst_58 ?_
    refine eg_iinc dX4_keepFirst_59 (by decide) rfl (eg_inc s) rfl ?_
    refine eg_goto 15 dX4_keepFirst_62 (by decide) ?_
    generalize hM1 : eg_set (eg_set (eg_set M (a + 9) s (M (a + 16) s)) (a + 10) s (M (a + 17) s)) (a + 11) s (M (a + 18) s) = M1
    have o1 : ∀ q j, ¬ (a + 9 ≤ q ∧ q < a + 12 ∧ j = s) → M1 q j = M q j := fun q j z => by
      rw [← hM1, eg_set_q (by omega), eg_set_q (by omega), eg_set_q (by omega)]
    refine ih (s + 1) M1 (by rw [o1 _ _ (by omega)]; exact h29) (by omega) (fun M2 h2 h3 => ?_)
    refine kk M2 (fun j z1 z2 => ?_) (fun q j z => by rw [h3 q j (by omega), o1 q j (by omega)])
    by_cases e : j = s
    · subst e
      rw [h3 _ _ (by omega), h3 _ _ (by omega), h3 _ _ (by omega), ← hM1]
      refine ⟨?_, ?_, ?_⟩
      · rw [eg_set_ne (by omega), eg_set_ne (by omega), eg_set_eq]
      · rw [eg_set_ne (by omega), eg_set_eq]
      · rw [eg_set_eq]
    · have := h2 j (by omega) z2
      rw [o1 _ _ (by omega), o1 _ _ (by omega), o1 _ _ (by omega)] at this
      exact this
set_option maxHeartbeats 2000000 in
theorem sp_X4_keepFirst {l : Launch} {E : eg_E} {d kb nb : Nat} {Q : Option Value → eg_G → eg_I → Prop} {G : eg_G} {M : eg_I} {a w n k len : Nat} {cf : Nat → Int32} {x : Int32} (hd : 1 ≤ d) (hs : sh_M G a) (h : in_M M a w n k cf) (h29 : M a 29 = nI len) (hl : len ≤ 12) (hQ : ∀ M', M' a 15 = nI 1 → M' a 16 = nI len → M' a 17 = nI (n + k + len - 1) → M' a 24 = x → (∀ j, j < len → M' (a + 9) j = M (a + 16) j ∧ M' (a + 10) j = M (a + 17) j ∧ M' (a + 11) j = M (a + 18) j) → (∀ q j, ¬ (q = a ∧ (j = 15 ∨ j = 16 ∨ j = 17 ∨ j = 24)) → ¬ (a + 9 ≤ q ∧ q < a + 12) → M' q j = M q j) → Q none G M') : eg_J l E mX4_keepFirst d kb nb Q 0 [some (.ref a), some (.int x), none] [] G M := by
  obtain ⟨k0, ⟨x5, y5⟩, ⟨x6, y6⟩, ⟨x7, y7⟩, ⟨x9, y9⟩, ⟨x10, y10⟩, ⟨x11, y11⟩, ⟨x13, y13⟩, ⟨x14, y14⟩, ⟨x18, y18⟩, ⟨x19, y19⟩, ⟨x20, y20⟩, ⟨x25, y25⟩, ⟨x26, y26⟩, ⟨x27, y27⟩, ⟨x28, y28⟩, ⟨x30, y30⟩, ⟨x31, y31⟩, ⟨x32, y32⟩⟩ := id hs
  obtain ⟨m0, m1, m2, m3, m4, mc, hw1, hw4, hn1, hn2, hk4⟩ := id h
  have hA := wd_asg hw4 hn2
  refine eg_aload_n dX4_keepFirst_0 rfl rfl ?_
  refine eg_iconst dX4_keepFirst_1 (v := nI 1) (by decide) ?_
  refine eg_putI gp_RX4_108 (fun q => by cases q) rfl rfl rfl (by assumption) dX4_keepFirst_2 ?_
  refine eg_aload_n dX4_keepFirst_5 rfl rfl ?_
  refine eg_aload_n dX4_keepFirst_6 rfl rfl ?_
  refine eg_getI gf_RX4_143 rfl (by assumption) dX4_keepFirst_7 ?_
  refine eg_topi (show _ = nI len by rw [eg_set_j (by decide)]; exact h29) ?_
  refine eg_putI gp_RX4_165 (fun q => by cases q) rfl rfl rfl (by assumption) dX4_keepFirst_10 ?_
  refine eg_iconst dX4_keepFirst_13 (v := nI 0) (by decide) ?_
  refine eg_istore_n dX4_keepFirst_14 rfl (by decide) rfl ?_
  generalize hM1 : eg_set (eg_set M a 15 (nI 1)) a 16 (nI len) = M1
  have o1 : ∀ q j, ¬ (q = a ∧ (j = 15 ∨ j = 16)) → M1 q j = M q j := fun q j z => by rw [← hM1, eg_set_q (by omega), eg_set_q (by omega)]
  have g29 : M1 a 29 = nI len := by rw [o1 _ _ (by omega)]; exact h29
  refine lp_X4_keepFirst hs hl len 0 M1 g29 (by omega) (fun M2 h1 h2 => ?_)
  have e2 : in_M M2 a w n k cf := h.eq (fun j _ => by rw [h2 _ _ (by omega), o1 _ _ (by omega)]) (by funext j; rw [h2 _ _ (by omega), o1 _ _ (by omega)])
  refine eg_aload_n dX4_keepFirst_65 rfl rfl ?_
  refine eg_aload_n dX4_keepFirst_66 rfl rfl ?_
  refine eg_callV0 0 0 gk_X4_firsts gi_X4_firsts (by assumption) rfl gl_RX4_86 rfl (Nat.le_of_ble_eq_true rfl) (Nat.le_of_ble_eq_true rfl) (Nat.zero_le _) (Nat.zero_le _) (by omega) dX4_keepFirst_67 ?_
  refine sp_X4_firsts k0 e2 ?_
  refine eg_aload_n dX4_keepFirst_70 rfl rfl ?_
  refine eg_getI gf_RX4_143 rfl (by assumption) dX4_keepFirst_71 ?_
  refine eg_topi (show _ = nI len by rw [h2 _ _ (by omega)]; exact g29) ?_
  refine eg_iadd dX4_keepFirst_74 ?_
  refine eg_topi (nI_add (n + k) len) ?_
  refine eg_iconst dX4_keepFirst_75 (v := nI 1) (by decide) ?_
  refine eg_isub dX4_keepFirst_76 ?_
  refine eg_topi (show nI (n + k + len) - nI 1 = nI (n + k + len - 1) from pk_sub (by omega)) ?_
  refine eg_putI gp_RX4_168 (fun q => by cases q) rfl rfl rfl (by assumption) dX4_keepFirst_77 ?_
  refine eg_aload_n dX4_keepFirst_80 rfl rfl ?_
  refine eg_iload_n dX4_keepFirst_81 rfl rfl ?_
  refine eg_putI gp_RX4_56 (fun q => by cases q) rfl rfl rfl (by assumption) dX4_keepFirst_82 ?_
  exact eg_vret rfl dX4_keepFirst_85 (hQ _ (by rw [eg_set_j (by decide), eg_set_j (by decide), h2 _ _ (by omega), ← hM1, eg_set_j (by decide), eg_set_eq]) (by rw [eg_set_j (by decide), eg_set_j (by decide), h2 _ _ (by omega), ← hM1, eg_set_eq]) (by rw [eg_set_j (by decide), eg_set_eq]) eg_set_eq (fun j hj => by
    rw [eg_set_ne (by omega), eg_set_ne (by omega), eg_set_ne (by omega), eg_set_ne (by omega), eg_set_ne (by omega), eg_set_ne (by omega)]
    have := h1 j (by omega) hj
    rw [o1 _ _ (by omega), o1 _ _ (by omega), o1 _ _ (by omega)] at this
    exact this) (fun q j z1 z2 => by rw [eg_set_q (by omega), eg_set_q (by omega), h2 _ _ (by omega), o1 _ _ (by omega)]))
set_option maxHeartbeats 2000000 in
theorem lp_X4_search1 {l : Launch} {E : eg_E} {d kb nb : Nat} {Q : Option Value → eg_G → eg_I → Prop} {G : eg_G} {M : eg_I} {a w n k : Nat} {cf : Nat → Int32} {x1 x2 x3 : Int32} (hd : 1 ≤ d) (hs : sh_M G a) (h : in_M M a w n k cf) (kN : (∀ u, u < n + k → ¬ (∀ s, s < 2 ^ (w * n) → M (a + 8) (256 * u + s) = M (a + 3) s)) → eg_J l E mX4_search d kb nb Q 114 [some (.ref a), some (.int x1), some (.int x2), some (.int x3), some (.int (nI (n + k)))] [] G M) (kS : ∀ v, v < n + k → (∀ s, s < 2 ^ (w * n) → M (a + 8) (256 * v + s) = M (a + 3) s) → (∀ u, u < v → ¬ (∀ s, s < 2 ^ (w * n) → M (a + 8) (256 * u + s) = M (a + 3) s)) → eg_J l E mX4_search d kb nb Q 77 [some (.ref a), some (.int x1), some (.int x2), some (.int x3), some (.int (nI v))] [] G M) : ∀ (c v : Nat), v + c = n + k → (∀ u, u < v → ¬ (∀ s, s < 2 ^ (w * n) → M (a + 8) (256 * u + s) = M (a + 3) s)) → eg_J l E mX4_search d kb nb Q 59 [some (.ref a), some (.int x1), some (.int x2), some (.int x3), some (.int (nI v))] [] G M := by
  intro c
  induction c with
  | zero =>
    intro v hvc hi
    obtain ⟨k0, ⟨x5, y5⟩, ⟨x6, y6⟩, ⟨x7, y7⟩, ⟨x9, y9⟩, ⟨x10, y10⟩, ⟨x11, y11⟩, ⟨x13, y13⟩, ⟨x14, y14⟩, ⟨x18, y18⟩, ⟨x19, y19⟩, ⟨x20, y20⟩, ⟨x25, y25⟩, ⟨x26, y26⟩, ⟨x27, y27⟩, ⟨x28, y28⟩, ⟨x30, y30⟩, ⟨x31, y31⟩, ⟨x32, y32⟩⟩ := id hs
    obtain ⟨m0, m1, m2, m3, m4, mc, hw1, hw4, hn1, hn2, hk4⟩ := id h
    have hA := wd_asg hw4 hn2
    refine eg_iload dX4_search_59 rfl ?_
    refine eg_aload_n dX4_search_61 rfl rfl ?_
    refine eg_callV0 0 0 gk_X4_firsts gi_X4_firsts (by assumption) rfl gl_RX4_86 rfl (Nat.le_of_ble_eq_true rfl) (Nat.le_of_ble_eq_true rfl) (Nat.zero_le _) (Nat.zero_le _) (by omega) dX4_search_62 ?_
    refine sp_X4_firsts k0 h ?_
    refine eg_icmp_ge 114 dX4_search_65 (by decide) (fun c65 => ?_) (fun c65 => absurd (nI_le (by omega) (by omega)) c65)
    have e : v = n + k := by omega
    subst e
    exact kN hi
  | succ c ih =>
    intro v hvc hi
    obtain ⟨k0, ⟨x5, y5⟩, ⟨x6, y6⟩, ⟨x7, y7⟩, ⟨x9, y9⟩, ⟨x10, y10⟩, ⟨x11, y11⟩, ⟨x13, y13⟩, ⟨x14, y14⟩, ⟨x18, y18⟩, ⟨x19, y19⟩, ⟨x20, y20⟩, ⟨x25, y25⟩, ⟨x26, y26⟩, ⟨x27, y27⟩, ⟨x28, y28⟩, ⟨x30, y30⟩, ⟨x31, y31⟩, ⟨x32, y32⟩⟩ := id hs
    obtain ⟨m0, m1, m2, m3, m4, mc, hw1, hw4, hn1, hn2, hk4⟩ := id h
    have hA := wd_asg hw4 hn2
    refine eg_iload dX4_search_59 rfl ?_
    refine eg_aload_n dX4_search_61 rfl rfl ?_
    refine eg_callV0 0 0 gk_X4_firsts gi_X4_firsts (by assumption) rfl gl_RX4_86 rfl (Nat.le_of_ble_eq_true rfl) (Nat.le_of_ble_eq_true rfl) (Nat.zero_le _) (Nat.zero_le _) (by omega) dX4_search_62 ?_
    refine sp_X4_firsts k0 h ?_
    refine eg_icmp_ge 114 dX4_search_65 (by decide) (fun c65 => absurd c65 (nI_ge (by omega) (by omega))) (fun c65 => ?_)
    refine eg_aload_n dX4_search_68 rfl rfl ?_
    refine eg_iload dX4_search_69 rfl ?_
    refine eg_callV1 0 0 gk_X4_isTarget gi_X4_isTarget (by assumption) rfl gl_RX4_155 rfl (Nat.le_of_ble_eq_true rfl) (Nat.le_of_ble_eq_true rfl) (Nat.zero_le _) (Nat.zero_le _) (by omega) dX4_search_71 ?_
    refine sp_X4_isTarget hs h (show v < 18 by omega) (fun hT => ?_) (fun hT => ?_)
    · refine eg_if_eq 108 dX4_search_74 (by decide) (fun z => absurd z (by decide)) (fun _ => ?_)
      exact kS v (by omega) hT hi
    · refine eg_if_eq 108 dX4_search_74 (by decide) (fun _ => ?_) (fun z => absurd (show nI 0 = 0 from rfl) z)
      refine eg_iinc dX4_search_108 (by decide) rfl (eg_inc v) rfl ?_
      refine eg_goto 59 dX4_search_111 (by decide) ?_
      refine ih (v + 1) (by omega) (fun u hu => ?_)
      by_cases e : u = v
      · subst e
        obtain ⟨s, z1, z2⟩ := hT
        exact fun q => z2 (q s z1)
      · exact hi u (by omega)
set_option maxHeartbeats 2000000 in
theorem lp_X4_searchX {l : Launch} {E : eg_E} {d kb nb : Nat} {Q : Option Value → eg_G → eg_I → Prop} {G : eg_G} {M : eg_I} {a m : Nat} {x1 x2 x3 v : Int32} (hs : sh_M G a) (h24 : M a 24 = v) (hv : ¬ v = -5) (hQ : Q (some (.int v)) G M) : eg_J l E mX4_search d kb nb Q 190 [some (.ref a), some (.int x1), some (.int x2), some (.int x3), some (.int (nI m))] [] G M := by
  obtain ⟨k0, ⟨x5, y5⟩, ⟨x6, y6⟩, ⟨x7, y7⟩, ⟨x9, y9⟩, ⟨x10, y10⟩, ⟨x11, y11⟩, ⟨x13, y13⟩, ⟨x14, y14⟩, ⟨x18, y18⟩, ⟨x19, y19⟩, ⟨x20, y20⟩, ⟨x25, y25⟩, ⟨x26, y26⟩, ⟨x27, y27⟩, ⟨x28, y28⟩, ⟨x30, y30⟩, ⟨x31, y31⟩, ⟨x32, y32⟩⟩ := id hs
  refine eg_iinc dX4_search_190 (by decide) rfl (eg_inc m) rfl ?_
  refine eg_goto 123 dX4_search_193 (by decide) ?_
  refine eg_iload dX4_search_123 rfl ?_
  refine eg_iload_n dX4_search_125 rfl rfl ?_
  refine eg_icmp_gt 196 dX4_search_126 (by decide) (fun e => ?_) (fun e => ?_)
  · refine eg_aload_n dX4_search_196 rfl rfl ?_
    refine eg_getI gf_RX4_56 rfl (by assumption) dX4_search_197 ?_
    refine eg_topi h24 ?_
    exact eg_iret rfl dX4_search_200 hQ
  · refine eg_aload_n dX4_search_129 rfl rfl ?_
    refine eg_getI gf_RX4_56 rfl (by assumption) dX4_search_130 ?_
    refine eg_topi h24 ?_
    refine eg_bipush dX4_search_133 (v := -5) (by decide) ?_
    refine eg_icmp_ne 196 dX4_search_135 (by decide) (fun c135 => ?_) (fun c135 => absurd c135 hv)
    refine eg_aload_n dX4_search_196 rfl rfl ?_
    refine eg_getI gf_RX4_56 rfl (by assumption) dX4_search_197 ?_
    refine eg_topi h24 ?_
    exact eg_iret rfl dX4_search_200 hQ
set_option maxHeartbeats 2000000 in
theorem lp_X4_search2 {l : Launch} {E : eg_E} {d kb nb : Nat} {Q : Option Value → eg_G → eg_I → Prop} {G : eg_G} {a w n k X Y : Nat} {cf tg : Nat → Int32} {co : Nat → Nat} {al : Bool} {z : Int32} {V : Nat → Nat → Int32} {M0 : eg_I} (hd : 3 ≤ d) (hs : sh_M G a) (hX : X ≤ 30) (hY : Y ≤ 30000) (hal : al = decide (z = 1)) (hc9 : ∀ o, o < 13 → co o ≤ 9) (hwd : ∀ u s, u < n + k → s < 2 ^ (w * n) → is_wd w (V u s)) : ∀ (c rd : Nat) (σ : ss_S) (M : eg_I), rd + c = X → rq_I M a w n k cf co tg V → rh_S M a Y σ → ¬ (0 < σ.2.1 ∨ σ.2.2.1 = true) → M a 22 = nI rd → M a 24 = -5 → rw_F M0 M a → rk_F M0 M a → (∀ M', rw_F M0 M' a → M' a 21 = nI (ss_rds w (2 ^ (w * n)) (n + k) co tg Y al V c rd σ).1.1 → M' a 22 = nI (ss_rds w (2 ^ (w * n)) (n + k) co tg Y al V c rd σ).2 → M' a 23 = nI (ss_rds w (2 ^ (w * n)) (n + k) co tg Y al V c rd σ).1.2.1 → M' a 24 = ss_ans (ss_rds w (2 ^ (w * n)) (n + k) co tg Y al V c rd σ) → ((ss_rds w (2 ^ (w * n)) (n + k) co tg Y al V c rd σ).1.2.2.1 = true ∨ (ss_rds w (2 ^ (w * n)) (n + k) co tg Y al V c rd σ).1.2.1 = 0 → rk_F M0 M' a) → (¬ ((ss_rds w (2 ^ (w * n)) (n + k) co tg Y al V c rd σ).1.2.2.1 = true ∨ (ss_rds w (2 ^ (w * n)) (n + k) co tg Y al V c rd σ).1.2.1 = 0) → M' a 15 = nI 1 ∧ in_F M' a (ss_rds w (2 ^ (w * n)) (n + k) co tg Y al V c rd σ).1.2.2.2.1 (ss_rds w (2 ^ (w * n)) (n + k) co tg Y al V c rd σ).1.2.2.2.2.1 (ss_rds w (2 ^ (w * n)) (n + k) co tg Y al V c rd σ).1.2.2.2.2.2.1 (ss_rds w (2 ^ (w * n)) (n + k) co tg Y al V c rd σ).1.2.2.2.2.2.2 (n + k + (ss_rds w (2 ^ (w * n)) (n + k) co tg Y al V c rd σ).1.2.2.2.1 - 1)) → Q (some (.int (ss_ans (ss_rds w (2 ^ (w * n)) (n + k) co tg Y al V c rd σ)))) G M') → eg_J l E mX4_search d kb nb Q 123 [some (.ref a), some (.int (nI X)), some (.int (nI Y)), some (.int z), some (.int (nI (rd + 1)))] [] G M := by
  intro c
  induction c with
  | zero =>
    intro rd σ M hrc h hS hz h22 h24 hW hK hQ
    obtain ⟨k0, ⟨x5, y5⟩, ⟨x6, y6⟩, ⟨x7, y7⟩, ⟨x9, y9⟩, ⟨x10, y10⟩, ⟨x11, y11⟩, ⟨x13, y13⟩, ⟨x14, y14⟩, ⟨x18, y18⟩, ⟨x19, y19⟩, ⟨x20, y20⟩, ⟨x25, y25⟩, ⟨x26, y26⟩, ⟨x27, y27⟩, ⟨x28, y28⟩, ⟨x30, y30⟩, ⟨x31, y31⟩, ⟨x32, y32⟩⟩ := id hs
    refine eg_iload dX4_search_123 rfl ?_
    refine eg_iload_n dX4_search_125 rfl rfl ?_
    refine eg_icmp_gt 196 dX4_search_126 (by decide) (fun c126 => ?_) (fun c126 => absurd (nI_lt (by omega) (by omega)) c126)
    refine eg_aload_n dX4_search_196 rfl rfl ?_
    refine eg_getI gf_RX4_56 rfl (by assumption) dX4_search_197 ?_
    refine eg_topi h24 ?_
    have ea : ss_ans (σ, rd) = -5 := by
      unfold ss_ans
      rw [if_neg (fun q => hz (Or.inr q)), if_pos (Nat.eq_zero_of_not_pos (fun q => hz (Or.inl q)))]
    replace hQ := hQ M hW hS.1 h22 hS.2.2.1 (h24.trans ea.symm) (fun _ => hK) (fun q => absurd (Or.inr (Nat.eq_zero_of_not_pos (fun q => hz (Or.inl q)))) q)
    rw [show ss_ans (ss_rds w (2 ^ (w * n)) (n + k) co tg Y al V 0 rd σ) = -5 from ea] at hQ
    exact eg_iret rfl dX4_search_200 hQ
  | succ c ih =>
    intro rd σ M hrc h hS hz h22 h24 hW hK hQ
    obtain ⟨k0, ⟨x5, y5⟩, ⟨x6, y6⟩, ⟨x7, y7⟩, ⟨x9, y9⟩, ⟨x10, y10⟩, ⟨x11, y11⟩, ⟨x13, y13⟩, ⟨x14, y14⟩, ⟨x18, y18⟩, ⟨x19, y19⟩, ⟨x20, y20⟩, ⟨x25, y25⟩, ⟨x26, y26⟩, ⟨x27, y27⟩, ⟨x28, y28⟩, ⟨x30, y30⟩, ⟨x31, y31⟩, ⟨x32, y32⟩⟩ := id hs
    refine eg_iload dX4_search_123 rfl ?_
    refine eg_iload_n dX4_search_125 rfl rfl ?_
    refine eg_icmp_gt 196 dX4_search_126 (by decide) (fun c126 => absurd c126 (fun q => absurd (nI_le (by omega) (by omega)) (Int32.not_le.mpr q))) (fun c126 => ?_)
    refine eg_aload_n dX4_search_129 rfl rfl ?_
    refine eg_getI gf_RX4_56 rfl (by assumption) dX4_search_130 ?_
    refine eg_topi h24 ?_
    refine eg_bipush dX4_search_133 (v := -5) (by decide) ?_
    refine eg_icmp_ne 196 dX4_search_135 (by decide) (fun c135 => absurd rfl c135) (fun c135 => ?_)
    refine eg_aload_n dX4_search_138 rfl rfl ?_
    refine eg_dup dX4_search_139 rfl ?_
    refine eg_getI gf_RX4_171 rfl (by assumption) dX4_search_140 ?_
    refine eg_topi h22 ?_
    refine eg_iconst dX4_search_143 (v := nI 1) (by decide) ?_
    refine eg_iadd dX4_search_144 ?_
    refine eg_topi (nI_add rd 1) ?_
    refine eg_putI gp_RX4_171 (fun q => by cases q) rfl rfl rfl (by assumption) dX4_search_145 ?_
    rw [ss_rds_go hz] at hQ
    generalize hτ : ss_fill w (2 ^ (w * n)) (n + k) co tg Y al 12 0 (rd + 1) (fun _ => 0) (fun _ => 0) (fun _ => 0) V σ = τ at hQ
    have h1 : rq_I (eg_set M a 22 (nI (rd + 1))) a w n k cf co tg V := h.eq (fun q j y => eg_set_q (by omega))
    refine eg_aload_n dX4_search_148 rfl rfl ?_
    refine eg_iload dX4_search_149 rfl ?_
    refine eg_iload_n dX4_search_151 rfl rfl ?_
    refine eg_iload_n dX4_search_152 rfl rfl ?_
    refine eg_iconst dX4_search_153 (v := nI 1) (by decide) ?_
    refine eg_icmp_ne 161 dX4_search_154 (by decide) (fun e1 => ?_) (fun e1 => ?_)
    · refine eg_iconst dX4_search_161 (v := nI 0) (by decide) ?_
      refine eg_callV3 0 0 gk_X4_round gi_X4_round (by assumption) rfl gl_RX4_174 rfl (Nat.le_of_ble_eq_true rfl) (Nat.le_of_ble_eq_true rfl) (Nat.zero_le _) (Nat.zero_le _) (by omega) dX4_search_162 ?_
      refine sp_X4_round (V := V) (σ := σ) (τ := τ) (al := al) (by omega) hs hY (show nI 0 = if al = true then 1 else 0 by rw [hal]; exact (if_neg (fun q => e1 (of_decide_eq_true q))).symm) hc9 (show rd + 1 ≤ 30 by omega) h1 hwd (hS.eq (eg_set_j (by decide)) (eg_set_j (by decide)) (eg_set_j (by decide)) (fun q j y1 y2 => by rw [eg_set_ne (by omega)])) (fun q => q.elim (fun q => hz (Or.inr q)) (fun q => hz (Or.inl q.1))) hτ (fun M2 hS2 F2 => ?_)
      have h2 : rq_I M2 a w n k cf co tg V := h1.eq (fun q j y => F2 q j (by omega) (by omega) (by omega))
      by_cases hsp : τ.2.2.1 = true
      · have eg := ss_rds_stop (w := w) (A := 2 ^ (w * n)) (g := n + k) (co := co) (tg := tg) (L := Y) (al := al) (V := V) (Or.inr hsp : 0 < τ.2.1 ∨ τ.2.2.1 = true) c (rd + 1)
        rw [eg] at hQ
        have ea : ss_ans (τ, rd + 1) = -6 := if_pos hsp
        rw [ea] at hQ
        refine eg_topi (if_pos hsp) ?_
        refine eg_if_eq 177 dX4_search_165 (by decide) (fun c165 => absurd c165 (show ¬ (-6 : Int32) = 0 by decide)) (fun c165 => ?_)
        refine eg_aload_n dX4_search_168 rfl rfl ?_
        refine eg_bipush dX4_search_169 (v := -6) (by decide) ?_
        refine eg_putI gp_RX4_56 (fun q => by cases q) rfl rfl rfl (by assumption) dX4_search_171 ?_
        refine eg_goto 190 dX4_search_174 (by decide) ?_
        refine lp_X4_searchX hs (v := -6) eg_set_eq (by decide) (hQ _ (fun q j y1 y2 => ?_) ?_ ?_ ?_ eg_set_eq (fun _ => ⟨fun j hj => ?_, fun q j y1 y2 => ?_⟩) (fun q => absurd (Or.inl hsp) q))
        · rw [eg_set_q (by omega), F2 q j (by omega) (by omega) (by omega), eg_set_q (by omega)]; exact hW q j y1 y2
        · rw [eg_set_j (by decide)]; exact hS2.1
        · rw [eg_set_j (by decide), F2 _ _ (by omega) (by omega) (by omega), eg_set_eq]
        · rw [eg_set_j (by decide)]; exact hS2.2.2.1
        · rw [eg_set_j (by omega), F2 _ _ (by omega) (by omega) (by omega), eg_set_j (by omega)]; exact hK.1 j hj
        · rw [eg_set_ne (by omega), F2 _ _ (by omega) (by omega) (by omega), eg_set_ne (by omega)]; exact hK.2 q j y1 y2
      · refine eg_topi (if_neg hsp) ?_
        refine eg_if_eq 177 dX4_search_165 (by decide) (fun c165 => ?_) (fun c165 => absurd (show (0 : Int32) = 0 from rfl) c165)
        refine eg_aload_n dX4_search_177 rfl rfl ?_
        refine eg_getI gf_RX4_140 rfl (by assumption) dX4_search_178 ?_
        refine eg_topi hS2.2.2.1 ?_
        refine eg_if_le 190 dX4_search_181 (by decide) (fun e2 => ?_) (fun e2 => ?_)
        · have hf0 : ¬ 0 < τ.2.1 := fun q => absurd e2 (nI_nle q (by have := hS2.2.2.2.1; have := hS2.2.1; omega))
          refine eg_iinc dX4_search_190 (by decide) rfl (eg_inc (rd + 1)) rfl ?_
          refine eg_goto 123 dX4_search_193 (by decide) ?_
          refine ih (rd + 1) τ M2 (by omega) h2 hS2 (fun q => q.elim hf0 hsp) ?_ ?_ (fun q j y1 y2 => ?_) ⟨fun j hj => ?_, fun q j y1 y2 => ?_⟩ hQ
          · rw [F2 _ _ (by omega) (by omega) (by omega), eg_set_eq]
          · rw [F2 _ _ (by omega) (by omega) (by omega), eg_set_j (by decide)]; exact h24
          · rw [F2 _ _ (by omega) (by omega) (by omega), eg_set_q (by omega)]; exact hW q j y1 y2
          · rw [F2 _ _ (by omega) (by omega) (by omega), eg_set_j (by omega)]; exact hK.1 j hj
          · rw [F2 _ _ (by omega) (by omega) (by omega), eg_set_ne (by omega)]; exact hK.2 q j y1 y2
        · have hf : 0 < τ.2.1 := Nat.pos_of_ne_zero (fun q => e2 (by rw [q]; decide))
          have eg := ss_rds_stop (w := w) (A := 2 ^ (w * n)) (g := n + k) (co := co) (tg := tg) (L := Y) (al := al) (V := V) (Or.inl hf : 0 < τ.2.1 ∨ τ.2.2.1 = true) c (rd + 1)
          rw [eg] at hQ
          have ea : ss_ans (τ, rd + 1) = nI (rd + 1) := by
            unfold ss_ans
            rw [if_neg hsp, if_neg (Nat.pos_iff_ne_zero.mp hf)]
          rw [ea] at hQ
          obtain ⟨g1, g2, g3, g4⟩ := hS2.2.2.2.2 hf
          refine eg_aload_n dX4_search_184 rfl rfl ?_
          refine eg_iload dX4_search_185 rfl ?_
          refine eg_callV1 0 0 gk_X4_keepFirst gi_X4_keepFirst (by assumption) rfl gl_RX4_178 rfl (Nat.le_of_ble_eq_true rfl) (Nat.le_of_ble_eq_true rfl) (Nat.zero_le _) (Nat.zero_le _) (by omega) dX4_search_187 ?_
          refine sp_X4_keepFirst (by omega) hs h2.1 g1 g3 (fun M3 j1 j2 j3 j4 j5 j6 => ?_)
          refine lp_X4_searchX hs (v := nI (rd + 1)) j4 (fun q => absurd (q ▸ nI_pos (n := rd + 1) (by omega) : ¬ (-5 : Int32) < 0) (by decide)) (hQ M3 (fun q j y1 y2 => ?_) ?_ ?_ ?_ j4 (fun q => absurd q (fun q => q.elim hsp (Nat.pos_iff_ne_zero.mp hf))) (fun _ => ⟨j1, j2, j3, g3, fun j hj => ?_⟩))
          · rw [j6 _ _ (by omega) (by omega), F2 q j (by omega) (by omega) (by omega), eg_set_q (by omega)]; exact hW q j y1 y2
          · rw [j6 _ _ (by omega) (by omega)]; exact hS2.1
          · rw [j6 _ _ (by omega) (by omega), F2 _ _ (by omega) (by omega) (by omega), eg_set_eq]
          · rw [j6 _ _ (by omega) (by omega)]; exact hS2.2.2.1
          · obtain ⟨i1, i2, i3⟩ := j5 j hj
            rw [i1, i2, i3]
            exact g4 j hj
    · refine eg_iconst dX4_search_157 (v := nI 1) (by decide) ?_
      refine eg_goto 162 dX4_search_158 (by decide) ?_
      refine eg_callV3 0 0 gk_X4_round gi_X4_round (by assumption) rfl gl_RX4_174 rfl (Nat.le_of_ble_eq_true rfl) (Nat.le_of_ble_eq_true rfl) (Nat.zero_le _) (Nat.zero_le _) (by omega) dX4_search_162 ?_
      refine sp_X4_round (V := V) (σ := σ) (τ := τ) (al := al) (by omega) hs hY (show nI 1 = if al = true then 1 else 0 by rw [hal]; exact (if_pos (decide_eq_true e1)).symm) hc9 (show rd + 1 ≤ 30 by omega) h1 hwd (hS.eq (eg_set_j (by decide)) (eg_set_j (by decide)) (eg_set_j (by decide)) (fun q j y1 y2 => by rw [eg_set_ne (by omega)])) (fun q => q.elim (fun q => hz (Or.inr q)) (fun q => hz (Or.inl q.1))) hτ (fun M2 hS2 F2 => ?_)
      have h2 : rq_I M2 a w n k cf co tg V := h1.eq (fun q j y => F2 q j (by omega) (by omega) (by omega))
      by_cases hsp : τ.2.2.1 = true
      · have eg := ss_rds_stop (w := w) (A := 2 ^ (w * n)) (g := n + k) (co := co) (tg := tg) (L := Y) (al := al) (V := V) (Or.inr hsp : 0 < τ.2.1 ∨ τ.2.2.1 = true) c (rd + 1)
        rw [eg] at hQ
        have ea : ss_ans (τ, rd + 1) = -6 := if_pos hsp
        rw [ea] at hQ
        refine eg_topi (if_pos hsp) ?_
        refine eg_if_eq 177 dX4_search_165 (by decide) (fun c165 => absurd c165 (show ¬ (-6 : Int32) = 0 by decide)) (fun c165 => ?_)
        refine eg_aload_n dX4_search_168 rfl rfl ?_
        refine eg_bipush dX4_search_169 (v := -6) (by decide) ?_
        refine eg_putI gp_RX4_56 (fun q => by cases q) rfl rfl rfl (by assumption) dX4_search_171 ?_
        refine eg_goto 190 dX4_search_174 (by decide) ?_
        refine lp_X4_searchX hs (v := -6) eg_set_eq (by decide) (hQ _ (fun q j y1 y2 => ?_) ?_ ?_ ?_ eg_set_eq (fun _ => ⟨fun j hj => ?_, fun q j y1 y2 => ?_⟩) (fun q => absurd (Or.inl hsp) q))
        · rw [eg_set_q (by omega), F2 q j (by omega) (by omega) (by omega), eg_set_q (by omega)]; exact hW q j y1 y2
        · rw [eg_set_j (by decide)]; exact hS2.1
        · rw [eg_set_j (by decide), F2 _ _ (by omega) (by omega) (by omega), eg_set_eq]
        · rw [eg_set_j (by decide)]; exact hS2.2.2.1
        · rw [eg_set_j (by omega), F2 _ _ (by omega) (by omega) (by omega), eg_set_j (by omega)]; exact hK.1 j hj
        · rw [eg_set_ne (by omega), F2 _ _ (by omega) (by omega) (by omega), eg_set_ne (by omega)]; exact hK.2 q j y1 y2
      · refine eg_topi (if_neg hsp) ?_
        refine eg_if_eq 177 dX4_search_165 (by decide) (fun c165 => ?_) (fun c165 => absurd (show (0 : Int32) = 0 from rfl) c165)
        refine eg_aload_n dX4_search_177 rfl rfl ?_
        refine eg_getI gf_RX4_140 rfl (by assumption) dX4_search_178 ?_
        refine eg_topi hS2.2.2.1 ?_
        refine eg_if_le 190 dX4_search_181 (by decide) (fun e2 => ?_) (fun e2 => ?_)
        · have hf0 : ¬ 0 < τ.2.1 := fun q => absurd e2 (nI_nle q (by have := hS2.2.2.2.1; have := hS2.2.1; omega))
          refine eg_iinc dX4_search_190 (by decide) rfl (eg_inc (rd + 1)) rfl ?_
          refine eg_goto 123 dX4_search_193 (by decide) ?_
          refine ih (rd + 1) τ M2 (by omega) h2 hS2 (fun q => q.elim hf0 hsp) ?_ ?_ (fun q j y1 y2 => ?_) ⟨fun j hj => ?_, fun q j y1 y2 => ?_⟩ hQ
          · rw [F2 _ _ (by omega) (by omega) (by omega), eg_set_eq]
          · rw [F2 _ _ (by omega) (by omega) (by omega), eg_set_j (by decide)]; exact h24
          · rw [F2 _ _ (by omega) (by omega) (by omega), eg_set_q (by omega)]; exact hW q j y1 y2
          · rw [F2 _ _ (by omega) (by omega) (by omega), eg_set_j (by omega)]; exact hK.1 j hj
          · rw [F2 _ _ (by omega) (by omega) (by omega), eg_set_ne (by omega)]; exact hK.2 q j y1 y2
        · have hf : 0 < τ.2.1 := Nat.pos_of_ne_zero (fun q => e2 (by rw [q]; decide))
          have eg := ss_rds_stop (w := w) (A := 2 ^ (w * n)) (g := n + k) (co := co) (tg := tg) (L := Y) (al := al) (V := V) (Or.inl hf : 0 < τ.2.1 ∨ τ.2.2.1 = true) c (rd + 1)
          rw [eg] at hQ
          have ea : ss_ans (τ, rd + 1) = nI (rd + 1) := by
            unfold ss_ans
            rw [if_neg hsp, if_neg (Nat.pos_iff_ne_zero.mp hf)]
          rw [ea] at hQ
          obtain ⟨g1, g2, g3, g4⟩ := hS2.2.2.2.2 hf
          refine eg_aload_n dX4_search_184 rfl rfl ?_
          refine eg_iload dX4_search_185 rfl ?_
          refine eg_callV1 0 0 gk_X4_keepFirst gi_X4_keepFirst (by assumption) rfl gl_RX4_178 rfl (Nat.le_of_ble_eq_true rfl) (Nat.le_of_ble_eq_true rfl) (Nat.zero_le _) (Nat.zero_le _) (by omega) dX4_search_187 ?_
          refine sp_X4_keepFirst (by omega) hs h2.1 g1 g3 (fun M3 j1 j2 j3 j4 j5 j6 => ?_)
          refine lp_X4_searchX hs (v := nI (rd + 1)) j4 (fun q => absurd (q ▸ nI_pos (n := rd + 1) (by omega) : ¬ (-5 : Int32) < 0) (by decide)) (hQ M3 (fun q j y1 y2 => ?_) ?_ ?_ ?_ j4 (fun q => absurd q (fun q => q.elim hsp (Nat.pos_iff_ne_zero.mp hf))) (fun _ => ⟨j1, j2, j3, g3, fun j hj => ?_⟩))
          · rw [j6 _ _ (by omega) (by omega), F2 q j (by omega) (by omega) (by omega), eg_set_q (by omega)]; exact hW q j y1 y2
          · rw [j6 _ _ (by omega) (by omega)]; exact hS2.1
          · rw [j6 _ _ (by omega) (by omega), F2 _ _ (by omega) (by omega) (by omega), eg_set_eq]
          · rw [j6 _ _ (by omega) (by omega)]; exact hS2.2.2.1
          · obtain ⟨i1, i2, i3⟩ := j5 j hj
            rw [i1, i2, i3]
            exact g4 j hj
set_option maxHeartbeats 2000000 in
theorem ap_R_search {l : Launch} {E : eg_E} {d kb nb : Nat} {Q : Option Value → eg_G → eg_I → Prop} {G : eg_G} {M : eg_I} {a : Nat} {S : st_T} (hs : sh_M G a) (hok : st_ok S) (hI : ri_I M a S) {x y z : Int32} (hd : 4 ≤ d) (hQ : ∀ M', ri_I M' a (ap_search S x y z).2 → ri_E M M' a → Q (some (.int (ap_search S x y z).1)) G M') : eg_J l E mX4_search d kb nb Q 0 [some (.ref a), some (.int x), some (.int y), some (.int z), none] [] G M := by
  obtain ⟨k0, ⟨x5, y5⟩, ⟨x6, y6⟩, ⟨x7, y7⟩, ⟨x9, y9⟩, ⟨x10, y10⟩, ⟨x11, y11⟩, ⟨x13, y13⟩, ⟨x14, y14⟩, ⟨x18, y18⟩, ⟨x19, y19⟩, ⟨x20, y20⟩, ⟨x25, y25⟩, ⟨x26, y26⟩, ⟨x27, y27⟩, ⟨x28, y28⟩, ⟨x30, y30⟩, ⟨x31, y31⟩, ⟨x32, y32⟩⟩ := id hs
  obtain ⟨⟨w, n, k⟩, cf, co, tg, ⟨len, op, lf, rt, res⟩, ⟨fnd, flen, fop, flf, frt, fres⟩, t0, t1, t2, t3⟩ := S
  replace hI : ri_U M a w n k cf co tg len op lf rt res fnd flen fop flf frt fres t0 t1 t2 t3 := hI
  replace hok : ok_U w n k cf co len op lf rt res fnd flen fop flf frt fres := hok
  obtain ⟨b1, b2, b3, b4, b5, b6, b7, b8, b9, b10, b11⟩ := id hI
  obtain ⟨m0, m1, m2, m3, m4, mc, hw1, hw4, hn1, hn2, hk4⟩ := id b1
  obtain ⟨p3, p4, pl, pa⟩ := id b5
  obtain ⟨-, -, -, -, -, cw, co9, pok, fok⟩ := id hok
  obtain ⟨-, pok2, pok3⟩ := id pok
  have hA := wd_asg hw4 hn2
  refine eg_iload_n dX4_search_0 rfl rfl ?_
  refine eg_iconst dX4_search_1 (v := nI 0) (by decide) ?_
  refine eg_bipush dX4_search_2 (v := nI 30) (by decide) ?_
  refine eg_callS3 0 0 gk_X4_within gi_X4_within gl_RX4_101 rfl (Nat.le_of_ble_eq_true rfl) (Nat.le_of_ble_eq_true rfl) (Nat.zero_le _) (Nat.zero_le _) (by omega) dX4_search_4 ?_
  refine sp_X4_within (fun z1 z2 => ?_) (fun zz => ?_)
  · refine eg_if_eq 30 dX4_search_7 (by decide) (fun z => absurd z (by decide)) (fun _ => ?_)
    refine eg_iload_n dX4_search_10 rfl rfl ?_
    refine eg_iconst dX4_search_11 (v := nI 0) (by decide) ?_
    refine eg_sipush dX4_search_12 (v := nI 30000) (by decide) ?_
    refine eg_callS3 0 0 gk_X4_within gi_X4_within gl_RX4_101 rfl (Nat.le_of_ble_eq_true rfl) (Nat.le_of_ble_eq_true rfl) (Nat.zero_le _) (Nat.zero_le _) (by omega) dX4_search_15 ?_
    refine sp_X4_within (fun y1 y2 => ?_) (fun yy => ?_)
    · refine eg_if_eq 30 dX4_search_18 (by decide) (fun z => absurd z (by decide)) (fun _ => ?_)
      refine eg_iload_n dX4_search_21 rfl rfl ?_
      refine eg_iconst dX4_search_22 (v := nI 0) (by decide) ?_
      refine eg_iconst dX4_search_23 (v := nI 1) (by decide) ?_
      refine eg_callS3 0 0 gk_X4_within gi_X4_within gl_RX4_101 rfl (Nat.le_of_ble_eq_true rfl) (Nat.le_of_ble_eq_true rfl) (Nat.zero_le _) (Nat.zero_le _) (by omega) dX4_search_24 ?_
      refine sp_X4_within (fun v1 v2 => ?_) (fun vv => ?_)
      · refine eg_if_ne 33 dX4_search_27 (by decide) (fun _ => ?_) (fun z => absurd z (by decide))
        obtain ⟨ex, hX⟩ := nI_cm z1 z2 (by omega)
        obtain ⟨ey, hY⟩ := nI_cm y1 y2 (by omega)
        have hz : z = 0 ∨ z = 1 := by
          obtain ⟨j, hj, e⟩ := nI_of v1
          have : j ≤ 1 := Nat.le_of_not_lt (fun q => v2 (by rw [e]; exact nI_lt q (by omega)))
          have : j = 0 ∨ j = 1 := by omega
          rcases this with q | q
          · exact Or.inl (by rw [e, q]; rfl)
          · exact Or.inr (by rw [e, q]; rfl)
        have hge : ¬ ((x < 0 ∨ nI 30 < x) ∨ (y < 0 ∨ nI 30000 < y) ∨ (¬ z = 0 ∧ ¬ z = 1)) := fun q => q.elim (fun q => q.elim z1 z2) (fun q => q.elim (fun q => q.elim y1 y2) (fun q => hz.elim q.1 q.2))
        unfold ap_search at hQ
        rw [if_neg hge] at hQ
        dsimp only at hQ
        generalize x.toNatClampNeg = X at ex hX hQ
        generalize y.toNatClampNeg = Y at ey hY hQ
        subst ex
        subst ey
        refine eg_aload_n dX4_search_33 rfl rfl ?_
        refine eg_iconst dX4_search_34 (v := nI 0) (by decide) ?_
        refine eg_putI gp_RX4_152 (fun q => by cases q) rfl rfl rfl (by assumption) dX4_search_35 ?_
        refine eg_aload_n dX4_search_38 rfl rfl ?_
        refine eg_iconst dX4_search_39 (v := nI 0) (by decide) ?_
        refine eg_putI gp_RX4_171 (fun q => by cases q) rfl rfl rfl (by assumption) dX4_search_40 ?_
        refine eg_aload_n dX4_search_43 rfl rfl ?_
        refine eg_iconst dX4_search_44 (v := nI 0) (by decide) ?_
        refine eg_putI gp_RX4_140 (fun q => by cases q) rfl rfl rfl (by assumption) dX4_search_45 ?_
        refine eg_aload_n dX4_search_48 rfl rfl ?_
        refine eg_aload_n dX4_search_49 rfl rfl ?_
        refine eg_getR gf_RX4_44 rfl (by assumption) (by assumption) dX4_search_50 ?_
        refine eg_callV1 0 0 gk_X4_layFirsts gi_X4_layFirsts (by assumption) rfl gl_RX4_93 rfl (Nat.le_of_ble_eq_true rfl) (Nat.le_of_ble_eq_true rfl) (Nat.zero_le _) (Nat.zero_le _) (by omega) dX4_search_53 ?_
        refine sp_X4_layFirsts (op := op) (lf := lf) (rt := rt) hs y14 (by omega) (b1.eq (fun j _ => by rw [eg_set_j (by omega), eg_set_j (by omega), eg_set_j (by omega)]) (by rw [eg_set_ne (by omega), eg_set_ne (by omega), eg_set_ne (by omega)])) (fun M3 h3 h4 => ?_)
        have o3 : ∀ q j, ¬ (q = a ∧ (j = 21 ∨ j = 22 ∨ j = 23)) → q ≠ a + 8 → M3 q j = M q j := fun q j z1 z2 => by rw [h4 q z2, eg_set_q (by omega), eg_set_q (by omega), eg_set_q (by omega)]
        have s21 : M3 a 21 = nI 0 := by rw [h4 _ (by omega), eg_set_j (by decide), eg_set_j (by decide), eg_set_eq]
        have s22 : M3 a 22 = nI 0 := by rw [h4 _ (by omega), eg_set_j (by decide), eg_set_eq]
        have s23 : M3 a 23 = nI 0 := by rw [h4 _ (by omega), eg_set_eq]
        have t3 : ∀ s, s < 256 → M3 (a + 3) s = tg s := fun s q => by rw [o3 _ _ (by omega) (by omega)]; exact b4 s q
        have c3 : in_M M3 a w n k cf := b1.eq (fun j _ => o3 _ _ (by omega) (by omega)) (by funext j; exact o3 _ _ (by omega) (by omega))
        refine eg_iconst dX4_search_56 (v := nI 0) (by decide) ?_
        refine eg_istore dX4_search_57 (by decide) rfl ?_
        refine lp_X4_search1 (by omega) hs c3 (fun u1 => ?_) (fun v u1 u2 u3 => ?_) (n + k) 0 (by omega) (fun u hu => absurd hu (by omega))
        · have eg : lst (fun u => ∀ s, s < 2 ^ (w * n) → sv w n k cf op lf rt u s = tg s) (n + k) 0 = none := lst_none (fun u _ q1 q2 => u1 u (by omega) (fun s q => by rw [h3 u s (by omega) q, q2 s q, t3 s (by omega)]))
          rw [eg] at hQ
          replace hQ : ∀ M', ri_I M' a ((w, n, k), cf, co, tg, (len, op, lf, rt, res), (if (ss_rds w (2 ^ (w * n)) (n + k) co tg Y (decide (z = 1)) (sv w n k cf op lf rt) X 0 ss_0).1.2.2.1 = true ∨ (ss_rds w (2 ^ (w * n)) (n + k) co tg Y (decide (z = 1)) (sv w n k cf op lf rt) X 0 ss_0).1.2.1 = 0 then (fnd, flen, fop, flf, frt, fres) else (true, (ss_rds w (2 ^ (w * n)) (n + k) co tg Y (decide (z = 1)) (sv w n k cf op lf rt) X 0 ss_0).1.2.2.2.1, (ss_rds w (2 ^ (w * n)) (n + k) co tg Y (decide (z = 1)) (sv w n k cf op lf rt) X 0 ss_0).1.2.2.2.2.1, (ss_rds w (2 ^ (w * n)) (n + k) co tg Y (decide (z = 1)) (sv w n k cf op lf rt) X 0 ss_0).1.2.2.2.2.2.1, (ss_rds w (2 ^ (w * n)) (n + k) co tg Y (decide (z = 1)) (sv w n k cf op lf rt) X 0 ss_0).1.2.2.2.2.2.2, n + k + (ss_rds w (2 ^ (w * n)) (n + k) co tg Y (decide (z = 1)) (sv w n k cf op lf rt) X 0 ss_0).1.2.2.2.1 - 1)), (nI (ss_rds w (2 ^ (w * n)) (n + k) co tg Y (decide (z = 1)) (sv w n k cf op lf rt) X 0 ss_0).1.1, nI (ss_rds w (2 ^ (w * n)) (n + k) co tg Y (decide (z = 1)) (sv w n k cf op lf rt) X 0 ss_0).2, nI (ss_rds w (2 ^ (w * n)) (n + k) co tg Y (decide (z = 1)) (sv w n k cf op lf rt) X 0 ss_0).1.2.1, ss_ans (ss_rds w (2 ^ (w * n)) (n + k) co tg Y (decide (z = 1)) (sv w n k cf op lf rt) X 0 ss_0))) → ri_E M M' a → Q (some (.int (ss_ans (ss_rds w (2 ^ (w * n)) (n + k) co tg Y (decide (z = 1)) (sv w n k cf op lf rt) X 0 ss_0)))) G M' := hQ
          refine eg_aload_n dX4_search_114 rfl rfl ?_
          refine eg_bipush dX4_search_115 (v := -5) (by decide) ?_
          refine eg_putI gp_RX4_56 (fun q => by cases q) rfl rfl rfl (by assumption) dX4_search_117 ?_
          refine eg_iconst dX4_search_120 (v := nI 1) (by decide) ?_
          refine eg_istore dX4_search_121 (by decide) rfl ?_
          have o4 : ∀ q j, ¬ (q = a ∧ (j = 21 ∨ j = 22 ∨ j = 23 ∨ j = 24)) → q ≠ a + 8 → eg_set M3 a 24 (-5) q j = M q j := fun q j z1 z2 => by rw [eg_set_q (by omega), o3 q j (by omega) z2]
          refine lp_X4_search2 (V := sv w n k cf op lf rt) (al := decide (z = 1)) (cf := cf) (tg := tg) (co := co) (M0 := M) (by omega) hs hX hY rfl co9 (fun u s z1 z2 => sv_wd hw1 hw4 cw (fun j hj => ⟨(pok2 j hj).1, (pok2 j hj).2.1, (pok2 j hj).2.2.1⟩) s _ u (Nat.lt_succ_self _) (by omega)) X 0 ss_0 _ (by omega) ⟨b1.eq (fun j _ => o4 _ _ (by omega) (by omega)) (by funext j; exact o4 _ _ (by omega) (by omega)), fun o ho => by rw [o4 _ _ (by omega) (by omega)]; exact b3 o ho, fun s z => by rw [o4 _ _ (by omega) (by omega)]; exact b4 s z, fun u s z1 z2 => by rw [eg_set_ne (by omega)]; exact h3 u s z1 z2⟩ ⟨by rw [eg_set_j (by decide)]; exact s21, Nat.zero_le _, by rw [eg_set_j (by decide)]; exact s23, Nat.le_refl _, fun q => absurd q (by decide)⟩ (fun q => q.elim (fun q => absurd q (by decide)) (fun q => absurd q (by decide))) (by rw [eg_set_j (by decide)]; exact s22) eg_set_eq (fun q j y1 y2 => o4 q j (by omega) (by omega)) ⟨fun j hj => o4 _ _ (by omega) (by omega), fun q j y1 y2 => o4 _ _ (by omega) (by omega)⟩ (fun M5 i1 i2 i3 i4 i5 i6 i7 => ?_)
          generalize (ss_rds w (2 ^ (w * n)) (n + k) co tg Y (decide (z = 1)) (sv w n k cf op lf rt) X 0 ss_0) = qq at hQ i2 i3 i4 i5 i6 i7 ⊢
          obtain ⟨⟨tt, hh, sp, fl2, fo2, fa2, fb2⟩, rd⟩ := qq
          have oq : ∀ q, q ≠ a → ¬ (a + 8 ≤ q ∧ q < a + 19) → M5 q = M q := fun q z1 z2 => by funext j; exact i1 q j (by omega) z2
          by_cases hns : sp = true ∨ hh = 0
          · rw [show (if ((tt, hh, sp, fl2, fo2, fa2, fb2), rd).1.2.2.1 = true ∨ ((tt, hh, sp, fl2, fo2, fa2, fb2), rd).1.2.1 = 0 then (fnd, flen, fop, flf, frt, fres) else _) = (fnd, flen, fop, flf, frt, fres) from if_pos hns] at hQ
            generalize ss_ans ((tt, hh, sp, fl2, fo2, fa2, fb2), rd) = an at i5 hQ ⊢
            replace hQ : ∀ M', ri_U M' a w n k cf co tg len op lf rt res fnd flen fop flf frt fres (nI tt) (nI rd) (nI hh) an → ri_E M M' a → Q (some (.int (an))) G M' := hQ
            obtain ⟨k1, k2⟩ := i6 hns
            exact hQ M5 ⟨b1.eq (fun j hj => by rw [i1 _ _ (by omega) (by omega)]) (by rw [oq _ (by omega) (by omega)]), fun u s q1 q2 => by rw [oq _ (by omega) (by omega)]; exact b2 u s q1 q2, fun o ho => by rw [oq _ (by omega) (by omega)]; exact b3 o ho, fun s q => by rw [oq _ (by omega) (by omega)]; exact b4 s q, b5.eq (by rw [i1 _ _ (by omega) (by omega)]) (by rw [i1 _ _ (by omega) (by omega)]) (fun q q1 q2 => by rw [oq _ (by omega) (by omega)]), by rw [k1 15 (by omega)]; exact b6, fun q => (b7 q).eq (k1 16 (by omega)) (k1 17 (by omega)) (fun q q1 q2 => by funext j; exact k2 q j q1 q2), i2, i3, i4, i5⟩ (fun q z => oq q (by omega) (by omega))
          · rw [show (if ((tt, hh, sp, fl2, fo2, fa2, fb2), rd).1.2.2.1 = true ∨ ((tt, hh, sp, fl2, fo2, fa2, fb2), rd).1.2.1 = 0 then (fnd, flen, fop, flf, frt, fres) else (true, fl2, fo2, fa2, fb2, n + k + fl2 - 1)) = (true, fl2, fo2, fa2, fb2, n + k + fl2 - 1) from if_neg hns] at hQ
            generalize ss_ans ((tt, hh, sp, fl2, fo2, fa2, fb2), rd) = an at i5 hQ ⊢
            replace hQ : ∀ M', ri_U M' a w n k cf co tg len op lf rt res true fl2 fo2 fa2 fb2 (n + k + fl2 - 1) (nI tt) (nI rd) (nI hh) an → ri_E M M' a → Q (some (.int (an))) G M' := hQ
            obtain ⟨k1, k2⟩ := i7 hns
            exact hQ M5 ⟨b1.eq (fun j hj => by rw [i1 _ _ (by omega) (by omega)]) (by rw [oq _ (by omega) (by omega)]), fun u s q1 q2 => by rw [oq _ (by omega) (by omega)]; exact b2 u s q1 q2, fun o ho => by rw [oq _ (by omega) (by omega)]; exact b3 o ho, fun s q => by rw [oq _ (by omega) (by omega)]; exact b4 s q, b5.eq (by rw [i1 _ _ (by omega) (by omega)]) (by rw [i1 _ _ (by omega) (by omega)]) (fun q q1 q2 => by rw [oq _ (by omega) (by omega)]), k1, fun _ => k2, i2, i3, i4, i5⟩ (fun q z => oq q (by omega) (by omega))
        · have eg : lst (fun u => ∀ s, s < 2 ^ (w * n) → sv w n k cf op lf rt u s = tg s) (n + k) 0 = some v := lst_some (by omega) (by omega) (fun s q => by rw [← h3 v s u1 q, u2 s q, t3 s (by omega)]) (fun u _ q1 q2 => u3 u q1 (fun s q => by rw [h3 u s (by omega) q, q2 s q, t3 s (by omega)]))
          rw [eg] at hQ
          replace hQ : ∀ M', ri_U M' a w n k cf co tg len op lf rt res true 0 ((fun _ => 0)) ((fun _ => 0)) ((fun _ => 0)) v 0 0 1 0 → ri_E M M' a → Q (some (.int (0))) G M' := hQ
          refine eg_aload_n dX4_search_77 rfl rfl ?_
          refine eg_iconst dX4_search_78 (v := nI 1) (by decide) ?_
          refine eg_putI gp_RX4_140 (fun q => by cases q) rfl rfl rfl (by assumption) dX4_search_79 ?_
          refine eg_aload_n dX4_search_82 rfl rfl ?_
          refine eg_iconst dX4_search_83 (v := nI 1) (by decide) ?_
          refine eg_putI gp_RX4_108 (fun q => by cases q) rfl rfl rfl (by assumption) dX4_search_84 ?_
          refine eg_aload_n dX4_search_87 rfl rfl ?_
          refine eg_iconst dX4_search_88 (v := nI 0) (by decide) ?_
          refine eg_putI gp_RX4_165 (fun q => by cases q) rfl rfl rfl (by assumption) dX4_search_89 ?_
          refine eg_aload_n dX4_search_92 rfl rfl ?_
          refine eg_iload dX4_search_93 rfl ?_
          refine eg_putI gp_RX4_168 (fun q => by cases q) rfl rfl rfl (by assumption) dX4_search_95 ?_
          refine eg_aload_n dX4_search_98 rfl rfl ?_
          refine eg_iconst dX4_search_99 (v := nI 0) (by decide) ?_
          refine eg_putI gp_RX4_56 (fun q => by cases q) rfl rfl rfl (by assumption) dX4_search_100 ?_
          refine eg_aload_n dX4_search_103 rfl rfl ?_
          refine eg_getI gf_RX4_56 rfl (by assumption) dX4_search_104 ?_
          refine eg_topi (show _ = nI 0 from eg_set_eq) ?_
          generalize hM4 : eg_set (eg_set (eg_set (eg_set (eg_set M3 a 23 (nI 1)) a 15 (nI 1)) a 16 (nI 0)) a 17 (nI v)) a 24 (nI 0) = M4
          have o4 : ∀ q j, ¬ (q = a ∧ (j = 15 ∨ j = 16 ∨ j = 17 ∨ j = 21 ∨ j = 22 ∨ j = 23 ∨ j = 24)) → q ≠ a + 8 → M4 q j = M q j := fun q j z1 z2 => by rw [← hM4, eg_set_q (by omega), eg_set_q (by omega), eg_set_q (by omega), eg_set_q (by omega), eg_set_q (by omega), o3 q j (by omega) z2]
          have oq : ∀ q, q ≠ a → q ≠ a + 8 → M4 q = M q := fun q z1 z2 => by funext j; exact o4 q j (by omega) z2
          have q15 : M4 a 15 = nI 1 := by rw [← hM4, eg_set_j (by decide), eg_set_j (by decide), eg_set_j (by decide), eg_set_eq]
          have q16 : M4 a 16 = nI 0 := by rw [← hM4, eg_set_j (by decide), eg_set_j (by decide), eg_set_eq]
          have q17 : M4 a 17 = nI v := by rw [← hM4, eg_set_j (by decide), eg_set_eq]
          have q24 : M4 a 24 = nI 0 := by rw [← hM4, eg_set_eq]
          have q23 : M4 a 23 = nI 1 := by rw [← hM4, eg_set_j (by decide), eg_set_j (by decide), eg_set_j (by decide), eg_set_j (by decide), eg_set_eq]
          have q21 : M4 a 21 = nI 0 := by rw [← hM4, eg_set_j (by decide), eg_set_j (by decide), eg_set_j (by decide), eg_set_j (by decide), eg_set_j (by decide)]; exact s21
          have q22 : M4 a 22 = nI 0 := by rw [← hM4, eg_set_j (by decide), eg_set_j (by decide), eg_set_j (by decide), eg_set_j (by decide), eg_set_j (by decide)]; exact s22
          exact eg_iret rfl dX4_search_107 (hQ M4 ⟨b1.eq (fun j hj => by rw [o4 _ _ (by omega) (by omega)]) (by rw [oq _ (by omega) (by omega)]), fun u s q1 q2 => by rw [oq _ (by omega) (by omega)]; exact b2 u s q1 q2, fun o ho => by rw [oq _ (by omega) (by omega)]; exact b3 o ho, fun s q => by rw [oq _ (by omega) (by omega)]; exact b4 s q, b5.eq (by rw [o4 _ _ (by omega) (by omega)]) (by rw [o4 _ _ (by omega) (by omega)]) (fun q q1 q2 => by rw [oq _ (by omega) (by omega)]), q15, fun _ => ⟨q16, q17, by omega, fun j hj => absurd hj (by omega)⟩, q21, q22, q23, q24⟩ (fun q z => oq q (by omega) (by omega)))
      · refine eg_if_ne 33 dX4_search_27 (by decide) (fun z => absurd (show nI 0 = 0 from rfl) z) (fun _ => ?_)
        have e : ap_search ((w, n, k), cf, co, tg, (len, op, lf, rt, res), (fnd, flen, fop, flf, frt, fres), t0, t1, t2, t3) x y z = (-2, ((w, n, k), cf, co, tg, (len, op, lf, rt, res), (fnd, flen, fop, flf, frt, fres), t0, t1, t2, t3)) := if_pos (Or.inr (Or.inr (vv.elim (fun q => ⟨fun w1 => absurd q (by rw [w1]; decide), fun w1 => absurd q (by rw [w1]; decide)⟩) (fun q => ⟨fun w1 => absurd q (by rw [w1]; decide), fun w1 => absurd q (by rw [w1]; decide)⟩))))
        rw [e] at hQ
        refine eg_bipush dX4_search_30 (v := -2) (by decide) ?_
        exact eg_iret rfl dX4_search_32 (hQ M hI ri_E.rf)
    · refine eg_if_eq 30 dX4_search_18 (by decide) (fun _ => ?_) (fun z => absurd (show nI 0 = 0 from rfl) z)
      have e : ap_search ((w, n, k), cf, co, tg, (len, op, lf, rt, res), (fnd, flen, fop, flf, frt, fres), t0, t1, t2, t3) x y z = (-2, ((w, n, k), cf, co, tg, (len, op, lf, rt, res), (fnd, flen, fop, flf, frt, fres), t0, t1, t2, t3)) := if_pos (Or.inr (Or.inl yy))
      rw [e] at hQ
      refine eg_bipush dX4_search_30 (v := -2) (by decide) ?_
      exact eg_iret rfl dX4_search_32 (hQ M hI ri_E.rf)
  · refine eg_if_eq 30 dX4_search_7 (by decide) (fun _ => ?_) (fun z => absurd (show nI 0 = 0 from rfl) z)
    have e : ap_search ((w, n, k), cf, co, tg, (len, op, lf, rt, res), (fnd, flen, fop, flf, frt, fres), t0, t1, t2, t3) x y z = (-2, ((w, n, k), cf, co, tg, (len, op, lf, rt, res), (fnd, flen, fop, flf, frt, fres), t0, t1, t2, t3)) := if_pos (Or.inl zz)
    rw [e] at hQ
    refine eg_bipush dX4_search_30 (v := -2) (by decide) ?_
    exact eg_iret rfl dX4_search_32 (hQ M hI ri_E.rf)
