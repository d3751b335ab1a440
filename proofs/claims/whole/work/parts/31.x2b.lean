/-! ShortestCode$Values: loops -/
theorem lp_X2_make {l : Launch} {E : eg_E} {d kb nb : Nat} {Q : Option Value → eg_G → eg_I → Prop} {G : eg_G} {v w n k o a b c : Nat} (hd : 2 ≤ d) (hs : sh_V G v) (ho : o < 13) (ha : a < 18) (hb : b < 18) (hc : c < 18) : ∀ (t s : Nat) (M : eg_I), in_V M v w n k → s + t = 2 ^ (w * n) → Q none G (eg_fl M (v + 2 + c) s (2 ^ (w * n)) (fun j => wd_op w o (M (v + 2 + a) j) (M (v + 2 + b) j))) → eg_J l E mX2_make d kb nb Q 28 [some (.ref v), some (.int (nI c)), some (.int (nI o)), some (.int (nI a)), some (.int (nI b)), some (.ref (v + 2 + a)), some (.ref (v + 2 + b)), some (.ref (v + 2 + c)), some (.int (nI s))] [] G M := by
  intro t
  induction t with
  | zero =>
    intro s M h hst hQ
    obtain ⟨hs1, hs2, hs3, hs4⟩ := id hs
    obtain ⟨h1, h2, h3, h4, h5, hw1, hw4, hn1, hn2, hk4⟩ := id h
    have hA := wd_asg hw4 hn2
    refine eg_iload dX2_make_28 rfl ?_
    refine eg_aload_n dX2_make_30 rfl rfl ?_
    refine eg_getI gf_RX2_26 rfl (by assumption) dX2_make_31 ?_
    refine eg_topi h5 ?_
    refine eg_icmp_ge 63 dX2_make_34 (by decide) (fun c34 => ?_) (fun c34 => absurd (nI_le (by omega) (by omega)) c34)
    exact eg_vret rfl dX2_make_63 (by rw [eg_fl_0 (by omega)] at hQ; exact hQ)
  | succ t ih =>
    intro s M h hst hQ
    obtain ⟨hs1, hs2, hs3, hs4⟩ := id hs
    obtain ⟨h1, h2, h3, h4, h5, hw1, hw4, hn1, hn2, hk4⟩ := id h
    have hA := wd_asg hw4 hn2
    refine eg_iload dX2_make_28 rfl ?_
    refine eg_aload_n dX2_make_30 rfl rfl ?_
    refine eg_getI gf_RX2_26 rfl (by assumption) dX2_make_31 ?_
    refine eg_topi h5 ?_
    refine eg_icmp_ge 63 dX2_make_34 (by decide) (fun c34 => absurd c34 (nI_ge (by omega) (by omega))) (fun c34 => ?_)
    refine eg_aload dX2_make_37 rfl ?_
    refine eg_iload dX2_make_39 rfl ?_
    refine eg_aload_n dX2_make_41 rfl rfl ?_
    refine eg_iload_n dX2_make_42 rfl rfl ?_
    refine eg_aload dX2_make_43 rfl ?_
    refine eg_iload dX2_make_45 rfl ?_
    refine eg_ialdN (hs4 a ha).2 (by omega) (by decide) dX2_make_47 ?_
    refine eg_aload dX2_make_48 rfl ?_
    refine eg_iload dX2_make_50 rfl ?_
    refine eg_ialdN (hs4 b hb).2 (by omega) (by decide) dX2_make_52 ?_
    refine eg_callV3 0 0 gk_X2_reckon gi_X2_reckon (by assumption) rfl gl_RX2_42 rfl (Nat.le_of_ble_eq_true rfl) (Nat.le_of_ble_eq_true rfl) (Nat.zero_le _) (Nat.zero_le _) (by omega) dX2_make_53 ?_
    refine sp_X2_reckon (by omega) hs1 h ho ?_
    refine eg_iastN (hs4 c hc).2 (by omega) (by decide) dX2_make_56 ?_
    refine eg_iinc dX2_make_57 (by decide) rfl (eg_inc s) rfl ?_
    refine eg_goto 28 dX2_make_60 (by decide) ?_
    exact ih (s + 1) _ (h.eq (eg_set_ne (by omega))) (by omega) (eg_fl_q (P := Q none G) (f := (fun j => wd_op w o (M (v + 2 + a) j) (M (v + 2 + b) j))) (by omega) (fun j g1 _ => by simp only [eg_set_jj (show j ≠ s by omega)]) hQ)
theorem sp_X2_make {l : Launch} {E : eg_E} {d kb nb : Nat} {Q : Option Value → eg_G → eg_I → Prop} {G : eg_G} {M : eg_I} {v w n k o a b c : Nat} (hd : 2 ≤ d) (hs : sh_V G v) (ho : o < 13) (ha : a < 18) (hb : b < 18) (hc : c < 18) (h : in_V M v w n k) (hQ : Q none G (eg_fl M (v + 2 + c) 0 (2 ^ (w * n)) (fun j => wd_op w o (M (v + 2 + a) j) (M (v + 2 + b) j)))) : eg_J l E mX2_make d kb nb Q 0 [some (.ref v), some (.int (nI c)), some (.int (nI o)), some (.int (nI a)), some (.int (nI b)), none, none, none, none] [] G M := by
  obtain ⟨hs1, hs2, hs3, hs4⟩ := id hs
  refine eg_aload_n dX2_make_0 rfl rfl ?_
  refine eg_getR gf_RX2_11 rfl (by assumption) (by assumption) dX2_make_1 ?_
  refine eg_iload_n dX2_make_4 rfl rfl ?_
  refine eg_aaldN rfl (by assumption) ha (by decide) (hs4 a ha).1 dX2_make_5 ?_
  refine eg_astore dX2_make_6 (by decide) rfl ?_
  refine eg_aload_n dX2_make_8 rfl rfl ?_
  refine eg_getR gf_RX2_11 rfl (by assumption) (by assumption) dX2_make_9 ?_
  refine eg_iload dX2_make_12 rfl ?_
  refine eg_aaldN rfl (by assumption) hb (by decide) (hs4 b hb).1 dX2_make_14 ?_
  refine eg_astore dX2_make_15 (by decide) rfl ?_
  refine eg_aload_n dX2_make_17 rfl rfl ?_
  refine eg_getR gf_RX2_11 rfl (by assumption) (by assumption) dX2_make_18 ?_
  refine eg_iload_n dX2_make_21 rfl rfl ?_
  refine eg_aaldN rfl (by assumption) hc (by decide) (hs4 c hc).1 dX2_make_22 ?_
  refine eg_astore dX2_make_23 (by decide) rfl ?_
  refine eg_iconst dX2_make_25 (v := nI 0) (by decide) ?_
  refine eg_istore dX2_make_26 (by decide) rfl ?_
  exact lp_X2_make hd hs ho ha hb hc (2 ^ (w * n)) 0 M h (by omega) hQ
theorem lp_X2_makes {l : Launch} {E : eg_E} {d kb nb : Nat} {Q : Option Value → eg_G → eg_I → Prop} {G : eg_G} {v w n k o a b tg : Nat} (hd : 2 ≤ d) (hs : sh_V G v) (ho : o < 13) (ha : a < 18) (hb : b < 18) (htg : G.2.1 tg = some (.inr (.int, 256))) : ∀ (t s : Nat) (M : eg_I), in_V M v w n k → s + t = 2 ^ (w * n) → (∀ j, j < s → wd_op w o (M (v + 2 + a) j) (M (v + 2 + b) j) = M tg j) → ((∀ j, j < 2 ^ (w * n) → wd_op w o (M (v + 2 + a) j) (M (v + 2 + b) j) = M tg j) → Q (some (.int 1)) G M) → ((∃ j, j < 2 ^ (w * n) ∧ ¬ wd_op w o (M (v + 2 + a) j) (M (v + 2 + b) j) = M tg j) → Q (some (.int 0)) G M) → eg_J l E mX2_makes d kb nb Q 20 [some (.ref v), some (.ref tg), some (.int (nI o)), some (.int (nI a)), some (.int (nI b)), some (.ref (v + 2 + a)), some (.ref (v + 2 + b)), some (.int (nI s))] [] G M := by
  intro t
  induction t with
  | zero =>
    intro s M h hst hp hT hF
    obtain ⟨hs1, hs2, hs3, hs4⟩ := id hs
    obtain ⟨h1, h2, h3, h4, h5, hw1, hw4, hn1, hn2, hk4⟩ := id h
    have hA := wd_asg hw4 hn2
    refine eg_iload dX2_makes_20 rfl ?_
    refine eg_aload_n dX2_makes_22 rfl rfl ?_
    refine eg_getI gf_RX2_26 rfl (by assumption) dX2_makes_23 ?_
    refine eg_topi h5 ?_
    refine eg_icmp_ge 59 dX2_makes_26 (by decide) (fun c26 => ?_) (fun c26 => absurd (nI_le (by omega) (by omega)) c26)
    refine eg_iconst dX2_makes_59 (v := nI 1) (by decide) ?_
    exact eg_zret rfl rfl dX2_makes_60 (hT (fun j hj => hp j (by omega)))
  | succ t ih =>
    intro s M h hst hp hT hF
    obtain ⟨hs1, hs2, hs3, hs4⟩ := id hs
    obtain ⟨h1, h2, h3, h4, h5, hw1, hw4, hn1, hn2, hk4⟩ := id h
    have hA := wd_asg hw4 hn2
    refine eg_iload dX2_makes_20 rfl ?_
    refine eg_aload_n dX2_makes_22 rfl rfl ?_
    refine eg_getI gf_RX2_26 rfl (by assumption) dX2_makes_23 ?_
    refine eg_topi h5 ?_
    refine eg_icmp_ge 59 dX2_makes_26 (by decide) (fun c26 => absurd c26 (nI_ge (by omega) (by omega))) (fun c26 => ?_)
    refine eg_aload_n dX2_makes_29 rfl rfl ?_
    refine eg_iload_n dX2_makes_30 rfl rfl ?_
    refine eg_aload dX2_makes_31 rfl ?_
    refine eg_iload dX2_makes_33 rfl ?_
    refine eg_ialdN (hs4 a ha).2 (by omega) (by decide) dX2_makes_35 ?_
    refine eg_aload dX2_makes_36 rfl ?_
    refine eg_iload dX2_makes_38 rfl ?_
    refine eg_ialdN (hs4 b hb).2 (by omega) (by decide) dX2_makes_40 ?_
    refine eg_callV3 0 0 gk_X2_reckon gi_X2_reckon (by assumption) rfl gl_RX2_42 rfl (Nat.le_of_ble_eq_true rfl) (Nat.le_of_ble_eq_true rfl) (Nat.zero_le _) (Nat.zero_le _) (by omega) dX2_makes_41 ?_
    refine sp_X2_reckon (by omega) hs1 h ho ?_
    refine eg_aload_n dX2_makes_44 rfl rfl ?_
    refine eg_iload dX2_makes_45 rfl ?_
    refine eg_ialdN (by assumption) (by omega) (by decide) dX2_makes_47 ?_
    refine eg_icmp_eq 53 dX2_makes_48 (by decide) (fun c => ?_) (fun c => ?_)
    · refine eg_iinc dX2_makes_53 (by decide) rfl (eg_inc s) rfl ?_
      refine eg_goto 20 dX2_makes_56 (by decide) ?_
      exact ih (s + 1) M h (by omega) (lt_s hp c) hT hF
    · refine eg_iconst dX2_makes_51 (v := nI 0) (by decide) ?_
      exact eg_zret rfl rfl dX2_makes_52 (hF ⟨s, by omega, c⟩)
theorem sp_X2_makes {l : Launch} {E : eg_E} {d kb nb : Nat} {Q : Option Value → eg_G → eg_I → Prop} {G : eg_G} {M : eg_I} {v w n k o a b tg : Nat} (hd : 2 ≤ d) (hs : sh_V G v) (ho : o < 13) (ha : a < 18) (hb : b < 18) (htg : G.2.1 tg = some (.inr (.int, 256))) (h : in_V M v w n k) (hT : ((∀ j, j < 2 ^ (w * n) → wd_op w o (M (v + 2 + a) j) (M (v + 2 + b) j) = M tg j) → Q (some (.int 1)) G M)) (hF : ((∃ j, j < 2 ^ (w * n) ∧ ¬ wd_op w o (M (v + 2 + a) j) (M (v + 2 + b) j) = M tg j) → Q (some (.int 0)) G M)) : eg_J l E mX2_makes d kb nb Q 0 [some (.ref v), some (.ref tg), some (.int (nI o)), some (.int (nI a)), some (.int (nI b)), none, none, none] [] G M := by
  obtain ⟨hs1, hs2, hs3, hs4⟩ := id hs
  refine eg_aload_n dX2_makes_0 rfl rfl ?_
  refine eg_getR gf_RX2_11 rfl (by assumption) (by assumption) dX2_makes_1 ?_
  refine eg_iload_n dX2_makes_4 rfl rfl ?_
  refine eg_aaldN rfl (by assumption) ha (by decide) (hs4 a ha).1 dX2_makes_5 ?_
  refine eg_astore dX2_makes_6 (by decide) rfl ?_
  refine eg_aload_n dX2_makes_8 rfl rfl ?_
  refine eg_getR gf_RX2_11 rfl (by assumption) (by assumption) dX2_makes_9 ?_
  refine eg_iload dX2_makes_12 rfl ?_
  refine eg_aaldN rfl (by assumption) hb (by decide) (hs4 b hb).1 dX2_makes_14 ?_
  refine eg_astore dX2_makes_15 (by decide) rfl ?_
  refine eg_iconst dX2_makes_17 (v := nI 0) (by decide) ?_
  refine eg_istore dX2_makes_18 (by decide) rfl ?_
  exact lp_X2_makes hd hs ho ha hb htg (2 ^ (w * n)) 0 M h (by omega) lt_0 hT hF
theorem lp_X2_firstDifference {l : Launch} {E : eg_E} {d kb nb : Nat} {Q : Option Value → eg_G → eg_I → Prop} {G : eg_G} {v w n k p q : Nat} (hv : G.2.1 v = some (.inl 2)) (hp : G.2.1 p = some (.inr (.int, 256))) (hq : G.2.1 q = some (.inr (.int, 256))) : ∀ (t s : Nat) (M : eg_I), in_V M v w n k → s + t = 2 ^ (w * n) → (∀ j, j < s → M p j = M q j) → ((∀ j, j < 2 ^ (w * n) → M p j = M q j) → Q (some (.int (-1))) G M) → (∀ s, s < 2 ^ (w * n) → (∀ j, j < s → M p j = M q j) → ¬ M p s = M q s → Q (some (.int (nI s))) G M) → eg_J l E mX2_firstDifference d kb nb Q 2 [some (.ref v), some (.ref p), some (.ref q), some (.int (nI s))] [] G M := by
  intro t
  induction t with
  | zero =>
    intro s M h hst he hN hS
    obtain ⟨h1, h2, h3, h4, h5, hw1, hw4, hn1, hn2, hk4⟩ := id h
    have hA := wd_asg hw4 hn2
    refine eg_iload_n dX2_firstDifference_2 rfl rfl ?_
    refine eg_aload_n dX2_firstDifference_3 rfl rfl ?_
    refine eg_getI gf_RX2_26 rfl (by assumption) dX2_firstDifference_4 ?_
    refine eg_topi h5 ?_
    refine eg_icmp_ge 27 dX2_firstDifference_7 (by decide) (fun c7 => ?_) (fun c7 => absurd (nI_le (by omega) (by omega)) c7)
    refine eg_iconst dX2_firstDifference_27 (v := -1) (by decide) ?_
    exact eg_iret rfl dX2_firstDifference_28 (hN (fun j hj => he j (by omega)))
  | succ t ih =>
    intro s M h hst he hN hS
    obtain ⟨h1, h2, h3, h4, h5, hw1, hw4, hn1, hn2, hk4⟩ := id h
    have hA := wd_asg hw4 hn2
    refine eg_iload_n dX2_firstDifference_2 rfl rfl ?_
    refine eg_aload_n dX2_firstDifference_3 rfl rfl ?_
    refine eg_getI gf_RX2_26 rfl (by assumption) dX2_firstDifference_4 ?_
    refine eg_topi h5 ?_
    refine eg_icmp_ge 27 dX2_firstDifference_7 (by decide) (fun c7 => absurd c7 (nI_ge (by omega) (by omega))) (fun c7 => ?_)
    refine eg_aload_n dX2_firstDifference_10 rfl rfl ?_
    refine eg_iload_n dX2_firstDifference_11 rfl rfl ?_
    refine eg_ialdN (by assumption) (by omega) (by decide) dX2_firstDifference_12 ?_
    refine eg_aload_n dX2_firstDifference_13 rfl rfl ?_
    refine eg_iload_n dX2_firstDifference_14 rfl rfl ?_
    refine eg_ialdN (by assumption) (by omega) (by decide) dX2_firstDifference_15 ?_
    refine eg_icmp_eq 21 dX2_firstDifference_16 (by decide) (fun c => ?_) (fun c => ?_)
    · refine eg_iinc dX2_firstDifference_21 (by decide) rfl (eg_inc s) rfl ?_
      refine eg_goto 2 dX2_firstDifference_24 (by decide) ?_
      exact ih (s + 1) M h (by omega) (lt_s he c) hN hS
    · refine eg_iload_n dX2_firstDifference_19 rfl rfl ?_
      exact eg_iret rfl dX2_firstDifference_20 (hS s (by omega) he c)
theorem sp_X2_firstDifference {l : Launch} {E : eg_E} {d kb nb : Nat} {Q : Option Value → eg_G → eg_I → Prop} {G : eg_G} {M : eg_I} {v w n k p q : Nat} (hv : G.2.1 v = some (.inl 2)) (hp : G.2.1 p = some (.inr (.int, 256))) (hq : G.2.1 q = some (.inr (.int, 256))) (h : in_V M v w n k) (hN : ((∀ j, j < 2 ^ (w * n) → M p j = M q j) → Q (some (.int (-1))) G M)) (hS : (∀ s, s < 2 ^ (w * n) → (∀ j, j < s → M p j = M q j) → ¬ M p s = M q s → Q (some (.int (nI s))) G M)) : eg_J l E mX2_firstDifference d kb nb Q 0 [some (.ref v), some (.ref p), some (.ref q), none] [] G M := by
  refine eg_iconst dX2_firstDifference_0 (v := nI 0) (by decide) ?_
  refine eg_istore_n dX2_firstDifference_1 rfl (by decide) rfl ?_
  exact lp_X2_firstDifference hv hp hq (2 ^ (w * n)) 0 M h (by omega) lt_0 hN hS
theorem lp_X2_leastBelow {l : Launch} {E : eg_E} {d kb nb : Nat} {Q : Option Value → eg_G → eg_I → Prop} {G : eg_G} {v w n k p e : Nat} (hd : 1 ≤ d) (hs : sh_V G v) (hp : G.2.1 p = some (.inr (.int, 256))) (he : e ≤ 18) : ∀ (t s : Nat) (M : eg_I), in_V M v w n k → s + t = e → (∀ u, u < s → (∃ j, j < 2 ^ (w * n) ∧ ¬ M (v + 2 + u) j = M p j)) → ((∀ u, u < e → (∃ j, j < 2 ^ (w * n) ∧ ¬ M (v + 2 + u) j = M p j)) → Q (some (.int (-1))) G M) → (∀ s, s < e → (∀ u, u < s → (∃ j, j < 2 ^ (w * n) ∧ ¬ M (v + 2 + u) j = M p j)) → (∀ j, j < 2 ^ (w * n) → M (v + 2 + s) j = M p j) → Q (some (.int (nI s))) G M) → eg_J l E mX2_leastBelow d kb nb Q 2 [some (.ref v), some (.int (nI e)), some (.ref p), some (.int (nI s))] [] G M := by
  intro t
  induction t with
  | zero =>
    intro s M h hst hb hN hS
    obtain ⟨hs1, hs2, hs3, hs4⟩ := id hs
    obtain ⟨h1, h2, h3, h4, h5, hw1, hw4, hn1, hn2, hk4⟩ := id h
    have hA := wd_asg hw4 hn2
    refine eg_iload_n dX2_leastBelow_2 rfl rfl ?_
    refine eg_iload_n dX2_leastBelow_3 rfl rfl ?_
    refine eg_icmp_ge 29 dX2_leastBelow_4 (by decide) (fun c4 => ?_) (fun c4 => absurd (nI_le (by omega) (by omega)) c4)
    refine eg_iconst dX2_leastBelow_29 (v := -1) (by decide) ?_
    exact eg_iret rfl dX2_leastBelow_30 (hN (fun u hu => hb u (by omega)))
  | succ t ih =>
    intro s M h hst hb hN hS
    obtain ⟨hs1, hs2, hs3, hs4⟩ := id hs
    obtain ⟨h1, h2, h3, h4, h5, hw1, hw4, hn1, hn2, hk4⟩ := id h
    have hA := wd_asg hw4 hn2
    refine eg_iload_n dX2_leastBelow_2 rfl rfl ?_
    refine eg_iload_n dX2_leastBelow_3 rfl rfl ?_
    refine eg_icmp_ge 29 dX2_leastBelow_4 (by decide) (fun c4 => absurd c4 (nI_ge (by omega) (by omega))) (fun c4 => ?_)
    refine eg_aload_n dX2_leastBelow_7 rfl rfl ?_
    refine eg_aload_n dX2_leastBelow_8 rfl rfl ?_
    refine eg_getR gf_RX2_11 rfl (by assumption) (by assumption) dX2_leastBelow_9 ?_
    refine eg_iload_n dX2_leastBelow_12 rfl rfl ?_
    refine eg_aaldN rfl (by assumption) (by omega) (by decide) (hs4 s (by omega)).1 dX2_leastBelow_13 ?_
    refine eg_aload_n dX2_leastBelow_14 rfl rfl ?_
    refine eg_callV2 0 0 gk_X2_firstDifference gi_X2_firstDifference (by assumption) rfl gl_RX2_46 rfl (Nat.le_of_ble_eq_true rfl) (Nat.le_of_ble_eq_true rfl) (Nat.zero_le _) (Nat.zero_le _) (by omega) dX2_leastBelow_15 ?_
    refine sp_X2_firstDifference (k := k) hs1 (hs4 s (by omega)).2 hp h (fun hall => ?_) (fun z hz _ hne => ?_)
    · refine eg_if_ge 23 dX2_leastBelow_18 (by decide) (fun c => absurd c (by decide)) (fun c => ?_)
      refine eg_iload_n dX2_leastBelow_21 rfl rfl ?_
      exact eg_iret rfl dX2_leastBelow_22 (hS s (by omega) hb hall)
    · refine eg_if_ge 23 dX2_leastBelow_18 (by decide) (fun c => ?_) (fun c => absurd (nI_pos' (by omega)) c)
      refine eg_iinc dX2_leastBelow_23 (by decide) rfl (eg_inc s) rfl ?_
      refine eg_goto 2 dX2_leastBelow_26 (by decide) ?_
      exact ih (s + 1) M h (by omega) (lt_s hb ⟨z, hz, hne⟩) hN hS
theorem sp_X2_leastBelow {l : Launch} {E : eg_E} {d kb nb : Nat} {Q : Option Value → eg_G → eg_I → Prop} {G : eg_G} {M : eg_I} {v w n k p e : Nat} (hd : 1 ≤ d) (hs : sh_V G v) (hp : G.2.1 p = some (.inr (.int, 256))) (he : e ≤ 18) (h : in_V M v w n k) (hN : ((∀ u, u < e → (∃ j, j < 2 ^ (w * n) ∧ ¬ M (v + 2 + u) j = M p j)) → Q (some (.int (-1))) G M)) (hS : (∀ s, s < e → (∀ u, u < s → (∃ j, j < 2 ^ (w * n) ∧ ¬ M (v + 2 + u) j = M p j)) → (∀ j, j < 2 ^ (w * n) → M (v + 2 + s) j = M p j) → Q (some (.int (nI s))) G M)) : eg_J l E mX2_leastBelow d kb nb Q 0 [some (.ref v), some (.int (nI e)), some (.ref p), none] [] G M := by
  refine eg_iconst dX2_leastBelow_0 (v := nI 0) (by decide) ?_
  refine eg_istore_n dX2_leastBelow_1 rfl (by decide) rfl ?_
  exact lp_X2_leastBelow hd hs hp he e 0 M h (by omega) lt_0 hN hS
theorem sp_X2_leastSame {l : Launch} {E : eg_E} {d kb nb : Nat} {Q : Option Value → eg_G → eg_I → Prop} {G : eg_G} {M : eg_I} {v w n k e : Nat} (hd : 2 ≤ d) (hs : sh_V G v) (he : e < 18) (h : in_V M v w n k) (hN : ((∀ u, u < e → (∃ j, j < 2 ^ (w * n) ∧ ¬ M (v + 2 + u) j = M (v + 2 + e) j)) → Q (some (.int (-1))) G M)) (hS : (∀ s, s < e → (∀ u, u < s → (∃ j, j < 2 ^ (w * n) ∧ ¬ M (v + 2 + u) j = M (v + 2 + e) j)) → (∀ j, j < 2 ^ (w * n) → M (v + 2 + s) j = M (v + 2 + e) j) → Q (some (.int (nI s))) G M)) : eg_J l E mX2_leastSame d kb nb Q 0 [some (.ref v), some (.int (nI e))] [] G M := by
  obtain ⟨hs1, hs2, hs3, hs4⟩ := id hs
  refine eg_aload_n dX2_leastSame_0 rfl rfl ?_
  refine eg_iload_n dX2_leastSame_1 rfl rfl ?_
  refine eg_aload_n dX2_leastSame_2 rfl rfl ?_
  refine eg_getR gf_RX2_11 rfl (by assumption) (by assumption) dX2_leastSame_3 ?_
  refine eg_iload_n dX2_leastSame_6 rfl rfl ?_
  refine eg_aaldN rfl (by assumption) he (by decide) (hs4 e he).1 dX2_leastSame_7 ?_
  refine eg_callV2 0 0 gk_X2_leastBelow gi_X2_leastBelow (by assumption) rfl gl_RX2_50 rfl (Nat.le_of_ble_eq_true rfl) (Nat.le_of_ble_eq_true rfl) (Nat.zero_le _) (Nat.zero_le _) (by omega) dX2_leastSame_8 ?_
  refine sp_X2_leastBelow (k := k) (by omega) hs (hs4 e he).2 (by omega) h (fun g => ?_) (fun z g1 g2 g3 => ?_)
  · exact eg_iret rfl dX2_leastSame_11 (hN g)
  · exact eg_iret rfl dX2_leastSame_11 (hS z g1 g2 g3)
