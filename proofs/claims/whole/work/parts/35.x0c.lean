/-! THE SEARCH of the class: fillWith, fill -/
set_option maxHeartbeats 4000000 in
theorem lp_X0_fillWith1 {l : Launch} {E : eg_E} {G : eg_G} {h w n k : Nat} {co : Nat → Nat} {tg : Nat → Int32} {L : Nat} {al : Bool} {f p o r : Nat} {ro ra rb : Nat → Nat} {V : Nat → Nat → Int32} {d kb nb : Nat} {Q : Option Value → eg_G → eg_I → Prop} (hFS : FS l E G h w n k co tg L al f) (hd : 3 * f + 8 ≤ d) (hpf : p + (f + 1) = 12) (ho : o < 13) (hr : r ≤ 30) (hs : sh_H G h) {a : Nat} {x6 : Int32} (ha : a < (n + k + p)) : ∀ (t b : Nat) (σ : ss_S) (M : eg_I), b + t = ss_be o (n + k + p) → hu_C M h w n k co tg L al → hu_P M h (2 ^ (w * n)) (n + k) p ro ra rb V → hu_S M h (n + k) L σ → (∀ M', hu_F M M' h → hu_P M' h (2 ^ (w * n)) (n + k) p ro ra rb V → hu_S M' h (n + k) L (List.foldl (ss_stp w (2 ^ (w * n)) (n + k) co tg L al (ss_fill w (2 ^ (w * n)) (n + k) co tg L al f) p r ro ra rb V) σ (ss_bs o a b (n + k + p))) → eg_J l E mX0_fillWith d kb nb Q 87 [some (.ref h), some (.int (nI o)), some (.int (nI p)), some (.int (nI (r - co o))), some (.int (nI (n + k + p))), some (.int (nI (ss_be o (n + k + p)))), some (.int x6), some (.int (nI a)), some (.int (nI (ss_be o (n + k + p))))] [] G M') → (∀ M' σ', hu_F M M' h → hu_P M' h (2 ^ (w * n)) (n + k) p ro ra rb V → hu_S M' h (n + k) L σ' → ss_over al σ' → (List.foldl (ss_stp w (2 ^ (w * n)) (n + k) co tg L al (ss_fill w (2 ^ (w * n)) (n + k) co tg L al f) p r ro ra rb V) σ (ss_bs o a b (n + k + p))) = σ' → Q none G M') → eg_J l E mX0_fillWith d kb nb Q 55 [some (.ref h), some (.int (nI o)), some (.int (nI p)), some (.int (nI (r - co o))), some (.int (nI (n + k + p))), some (.int (nI (ss_be o (n + k + p)))), some (.int x6), some (.int (nI a)), some (.int (nI b))] [] G M := by
  intro t
  induction t with
  | zero =>
    intro b σ M hbt hc hP hS kx kr
    obtain ⟨g0, g1, g2, g3, g4, g5, gV, g6, gR, g7, gF⟩ := id hs
    obtain ⟨gv1, gv2, gv3, gv4⟩ := id gV
    obtain ⟨gr0, gr1, gr2, gr3, gr4, gr5, gr6⟩ := id gR
    obtain ⟨gf0, gf1, gf2, gf3, gf4, gf5, gf6⟩ := id gF
    obtain ⟨c1, c2, c3, c4, c5, c6⟩ := id hc
    obtain ⟨e1, e2, e3, e4, e5, e6⟩ := id hS
    obtain ⟨v1, v2, v3, v4, v5, hw1, hw4, hn1, hn2, hk4⟩ := id c1
    have hA := wd_asg hw4 hn2
    have hbe : ss_be o (n + k + p) ≤ 18 := by unfold ss_be; split <;> omega
    have hbN : ss_be o (n + k + p) ≤ n + k + p := by unfold ss_be; split <;> omega
    refine eg_iload dX0_fillWith_55 rfl ?_
    refine eg_iload dX0_fillWith_57 rfl ?_
    refine eg_icmp_ge 87 dX0_fillWith_59 (by decide) (fun c59 => ?_) (fun c59 => absurd (nI_le (by omega) (by omega)) c59)
    have e : b = ss_be o (n + k + p) := by omega
    subst e
    exact kx M hu_F.rf hP (by rw [ss_bs_0 (Nat.le_refl _)]; exact hS)
  | succ t ih =>
    intro b σ M hbt hc hP hS kx kr
    obtain ⟨g0, g1, g2, g3, g4, g5, gV, g6, gR, g7, gF⟩ := id hs
    obtain ⟨gv1, gv2, gv3, gv4⟩ := id gV
    obtain ⟨gr0, gr1, gr2, gr3, gr4, gr5, gr6⟩ := id gR
    obtain ⟨gf0, gf1, gf2, gf3, gf4, gf5, gf6⟩ := id gF
    obtain ⟨c1, c2, c3, c4, c5, c6⟩ := id hc
    obtain ⟨e1, e2, e3, e4, e5, e6⟩ := id hS
    obtain ⟨v1, v2, v3, v4, v5, hw1, hw4, hn1, hn2, hk4⟩ := id c1
    have hA := wd_asg hw4 hn2
    have hbe : ss_be o (n + k + p) ≤ 18 := by unfold ss_be; split <;> omega
    have hbN : ss_be o (n + k + p) ≤ n + k + p := by unfold ss_be; split <;> omega
    refine eg_iload dX0_fillWith_55 rfl ?_
    refine eg_iload dX0_fillWith_57 rfl ?_
    refine eg_icmp_ge 87 dX0_fillWith_59 (by decide) (fun c59 => absurd c59 (nI_ge (by omega) (by omega))) (fun c59 => ?_)
    refine eg_aload_n dX0_fillWith_62 rfl rfl ?_
    refine eg_callV0 0 0 gk_X0_isOver gi_X0_isOver (by assumption) rfl gl_RX0_87 rfl (Nat.le_of_ble_eq_true rfl) (Nat.le_of_ble_eq_true rfl) (Nat.zero_le _) (Nat.zero_le _) (by omega) dX0_fillWith_63 ?_
    refine sp_X0_isOver (k := k) hs hc hS (fun hov => ?_) (fun hov => ?_)
    · refine eg_if_eq 70 dX0_fillWith_66 (by decide) (fun z => absurd z (by decide)) (fun _ => ?_)
      exact eg_vret rfl dX0_fillWith_69 (kr M σ hu_F.rf hP hS hov (ss_fold_over hov _))
    · refine eg_if_eq 70 dX0_fillWith_66 (by decide) (fun _ => ?_) (fun z => absurd (show nI 0 = 0 from rfl) z)
      refine eg_aload_n dX0_fillWith_70 rfl rfl ?_
      refine eg_iload_n dX0_fillWith_71 rfl rfl ?_
      refine eg_iload_n dX0_fillWith_72 rfl rfl ?_
      refine eg_iload dX0_fillWith_73 rfl ?_
      refine eg_iload dX0_fillWith_75 rfl ?_
      refine eg_iload_n dX0_fillWith_77 rfl rfl ?_
      refine eg_callV5 0 0 gk_X0_attempt gi_X0_attempt g0 rfl gl_RX0_102 rfl (Nat.le_of_ble_eq_true rfl) (Nat.le_of_ble_eq_true rfl) (Nat.zero_le _) (Nat.zero_le _) (by omega) dX0_fillWith_78 ?_
      refine sp_X0_attempt (r := r - co o) hFS (by omega) hpf ho ha (by omega) (by omega) hs hc hP hS (fun M2 f2 p2 s2 => ?_)
      refine eg_iinc dX0_fillWith_81 (by decide) rfl (eg_inc b) rfl ?_
      refine eg_goto 55 dX0_fillWith_84 (by decide) ?_
      have e : List.foldl (ss_stp w (2 ^ (w * n)) (n + k) co tg L al (ss_fill w (2 ^ (w * n)) (n + k) co tg L al f) p r ro ra rb V) σ (ss_bs o a b (n + k + p)) = List.foldl (ss_stp w (2 ^ (w * n)) (n + k) co tg L al (ss_fill w (2 ^ (w * n)) (n + k) co tg L al f) p r ro ra rb V) (ss_att w (2 ^ (w * n)) (n + k) tg L (ss_fill w (2 ^ (w * n)) (n + k) co tg L al f) p o a b (r - co o) ro ra rb V σ) (ss_bs o a (b + 1) (n + k + p)) := by
        rw [ss_bs_s (by omega), List.foldl_cons, ss_stp_go hov]
      refine ih (b + 1) _ M2 (by omega) (hc.fr f2) p2 s2 (fun M3 f3 p3 s3 => ?_) (fun M3 σ3 f3 p3 s3 y1 y2 => ?_)
      · exact kx M3 (f2.tr f3) p3 (by rw [e]; exact s3)
      · exact kr M3 σ3 (f2.tr f3) p3 s3 y1 (by rw [e]; exact y2)
set_option maxHeartbeats 4000000 in
theorem lp_X0_fillWith {l : Launch} {E : eg_E} {G : eg_G} {h w n k : Nat} {co : Nat → Nat} {tg : Nat → Int32} {L : Nat} {al : Bool} {f p o r : Nat} {ro ra rb : Nat → Nat} {V : Nat → Nat → Int32} {d kb nb : Nat} {Q : Option Value → eg_G → eg_I → Prop} (hFS : FS l E G h w n k co tg L al f) (hd : 3 * f + 8 ≤ d) (hpf : p + (f + 1) = 12) (ho : o < 13) (hr : r ≤ 30) (hs : sh_H G h) {x6 : Int32} (hx : x6 = if o = 2 ∨ o = 3 ∨ o = 4 ∨ o = 5 ∨ o = 7 ∨ o = 12 then 1 else 0) : ∀ (t a : Nat) (σ : ss_S) (M : eg_I) (l8 : Option Value), a + t = (n + k + p) → hu_C M h w n k co tg L al → hu_P M h (2 ^ (w * n)) (n + k) p ro ra rb V → hu_S M h (n + k) L σ → (∀ M', hu_F M M' h → hu_P M' h (2 ^ (w * n)) (n + k) p ro ra rb V → hu_S M' h (n + k) L (List.foldl (ss_stp w (2 ^ (w * n)) (n + k) co tg L al (ss_fill w (2 ^ (w * n)) (n + k) co tg L al f) p r ro ra rb V) σ (ss_as o a (n + k + p))) → Q none G M') → eg_J l E mX0_fillWith d kb nb Q 35 [some (.ref h), some (.int (nI o)), some (.int (nI p)), some (.int (nI (r - co o))), some (.int (nI (n + k + p))), some (.int (nI (ss_be o (n + k + p)))), some (.int x6), some (.int (nI a)), l8] [] G M := by
  intro t
  induction t with
  | zero =>
    intro a σ M l8 hat hc hP hS kr
    obtain ⟨g0, g1, g2, g3, g4, g5, gV, g6, gR, g7, gF⟩ := id hs
    obtain ⟨gv1, gv2, gv3, gv4⟩ := id gV
    obtain ⟨gr0, gr1, gr2, gr3, gr4, gr5, gr6⟩ := id gR
    obtain ⟨gf0, gf1, gf2, gf3, gf4, gf5, gf6⟩ := id gF
    obtain ⟨c1, c2, c3, c4, c5, c6⟩ := id hc
    obtain ⟨e1, e2, e3, e4, e5, e6⟩ := id hS
    obtain ⟨v1, v2, v3, v4, v5, hw1, hw4, hn1, hn2, hk4⟩ := id c1
    have hA := wd_asg hw4 hn2
    refine eg_iload dX0_fillWith_35 rfl ?_
    refine eg_iload dX0_fillWith_37 rfl ?_
    refine eg_icmp_ge 93 dX0_fillWith_39 (by decide) (fun c39 => ?_) (fun c39 => absurd (nI_le (by omega) (by omega)) c39)
    exact eg_vret rfl dX0_fillWith_93 (kr M hu_F.rf hP (by rw [ss_as_0 (by omega)]; exact hS))
  | succ t ih =>
    intro a σ M l8 hat hc hP hS kr
    obtain ⟨g0, g1, g2, g3, g4, g5, gV, g6, gR, g7, gF⟩ := id hs
    obtain ⟨gv1, gv2, gv3, gv4⟩ := id gV
    obtain ⟨gr0, gr1, gr2, gr3, gr4, gr5, gr6⟩ := id gR
    obtain ⟨gf0, gf1, gf2, gf3, gf4, gf5, gf6⟩ := id gF
    obtain ⟨c1, c2, c3, c4, c5, c6⟩ := id hc
    obtain ⟨e1, e2, e3, e4, e5, e6⟩ := id hS
    obtain ⟨v1, v2, v3, v4, v5, hw1, hw4, hn1, hn2, hk4⟩ := id c1
    have hA := wd_asg hw4 hn2
    refine eg_iload dX0_fillWith_35 rfl ?_
    refine eg_iload dX0_fillWith_37 rfl ?_
    refine eg_icmp_ge 93 dX0_fillWith_39 (by decide) (fun c39 => absurd c39 (nI_ge (by omega) (by omega))) (fun c39 => ?_)
    refine eg_iload dX0_fillWith_42 rfl ?_
    by_cases hord : o = 2 ∨ o = 3 ∨ o = 4 ∨ o = 5 ∨ o = 7 ∨ o = 12
    · have hx6 : x6 = 1 := by rw [hx, if_pos hord]
      have eb : ss_b0 o a = a := if_pos hord
      refine eg_if_eq 52 dX0_fillWith_44 (by decide) (fun z => absurd (hx6.symm.trans z) (by decide)) (fun _ => ?_)
      refine eg_iload dX0_fillWith_47 rfl ?_
      refine eg_goto 53 dX0_fillWith_49 (by decide) ?_
      refine eg_topi (show nI a = nI (ss_b0 o a) by rw [eb]) ?_
      refine eg_istore dX0_fillWith_53 (by decide) rfl ?_
      have e : ∀ σ1, List.foldl (ss_stp w (2 ^ (w * n)) (n + k) co tg L al (ss_fill w (2 ^ (w * n)) (n + k) co tg L al f) p r ro ra rb V) σ (ss_bs o a (ss_b0 o a) (n + k + p)) = σ1 → List.foldl (ss_stp w (2 ^ (w * n)) (n + k) co tg L al (ss_fill w (2 ^ (w * n)) (n + k) co tg L al f) p r ro ra rb V) σ (ss_as o a (n + k + p)) = List.foldl (ss_stp w (2 ^ (w * n)) (n + k) co tg L al (ss_fill w (2 ^ (w * n)) (n + k) co tg L al f) p r ro ra rb V) σ1 (ss_as o (a + 1) (n + k + p)) := fun σ1 z => by rw [ss_as_s (by omega), List.foldl_append, z]
      have hb0 : ss_b0 o a ≤ ss_be o (n + k + p) := by unfold ss_b0 ss_be; split <;> split <;> omega
      refine lp_X0_fillWith1 hFS hd hpf ho hr hs (by omega) (ss_be o (n + k + p) - ss_b0 o a) (ss_b0 o a) σ M (by omega) hc hP hS (fun M2 f2 p2 s2 => ?_) (fun M2 σ2 f2 p2 s2 y1 y2 => ?_)
      · refine eg_iinc dX0_fillWith_87 (by decide) rfl (eg_inc a) rfl ?_
        refine eg_goto 35 dX0_fillWith_90 (by decide) ?_
        refine ih (a + 1) _ M2 _ (by omega) (hc.fr f2) p2 s2 (fun M3 f3 p3 s3 => ?_)
        exact kr M3 (f2.tr f3) p3 (by rw [e _ rfl]; exact s3)
      · exact kr M2 f2 p2 (by rw [e _ y2, ss_fold_over y1]; exact s2)
    · have hx6 : x6 = 0 := by rw [hx, if_neg hord]
      have eb : ss_b0 o a = 0 := if_neg hord
      refine eg_if_eq 52 dX0_fillWith_44 (by decide) (fun _ => ?_) (fun z => absurd hx6 z)
      refine eg_iconst dX0_fillWith_52 (v := nI 0) (by decide) ?_
      refine eg_topi (show nI 0 = nI (ss_b0 o a) by rw [eb]) ?_
      refine eg_istore dX0_fillWith_53 (by decide) rfl ?_
      have e : ∀ σ1, List.foldl (ss_stp w (2 ^ (w * n)) (n + k) co tg L al (ss_fill w (2 ^ (w * n)) (n + k) co tg L al f) p r ro ra rb V) σ (ss_bs o a (ss_b0 o a) (n + k + p)) = σ1 → List.foldl (ss_stp w (2 ^ (w * n)) (n + k) co tg L al (ss_fill w (2 ^ (w * n)) (n + k) co tg L al f) p r ro ra rb V) σ (ss_as o a (n + k + p)) = List.foldl (ss_stp w (2 ^ (w * n)) (n + k) co tg L al (ss_fill w (2 ^ (w * n)) (n + k) co tg L al f) p r ro ra rb V) σ1 (ss_as o (a + 1) (n + k + p)) := fun σ1 z => by rw [ss_as_s (by omega), List.foldl_append, z]
      have hb0 : ss_b0 o a ≤ ss_be o (n + k + p) := by unfold ss_b0 ss_be; split <;> split <;> omega
      refine lp_X0_fillWith1 hFS hd hpf ho hr hs (by omega) (ss_be o (n + k + p) - ss_b0 o a) (ss_b0 o a) σ M (by omega) hc hP hS (fun M2 f2 p2 s2 => ?_) (fun M2 σ2 f2 p2 s2 y1 y2 => ?_)
      · refine eg_iinc dX0_fillWith_87 (by decide) rfl (eg_inc a) rfl ?_
        refine eg_goto 35 dX0_fillWith_90 (by decide) ?_
        refine ih (a + 1) _ M2 _ (by omega) (hc.fr f2) p2 s2 (fun M3 f3 p3 s3 => ?_)
        exact kr M3 (f2.tr f3) p3 (by rw [e _ rfl]; exact s3)
      · exact kr M2 f2 p2 (by rw [e _ y2, ss_fold_over y1]; exact s2)
set_option maxHeartbeats 4000000 in
theorem sp_X0_fillWith {l : Launch} {E : eg_E} {G : eg_G} {h w n k : Nat} {co : Nat → Nat} {tg : Nat → Int32} {L : Nat} {al : Bool} {f p o r : Nat} {ro ra rb : Nat → Nat} {V : Nat → Nat → Int32} {d kb nb : Nat} {Q : Option Value → eg_G → eg_I → Prop} (hFS : FS l E G h w n k co tg L al f) (hd : 3 * f + 8 ≤ d) (hpf : p + (f + 1) = 12) (ho : o < 13) (hr : r ≤ 30) (hs : sh_H G h) {σ : ss_S} {M : eg_I} (hc : hu_C M h w n k co tg L al) (hP : hu_P M h (2 ^ (w * n)) (n + k) p ro ra rb V) (hS : hu_S M h (n + k) L σ) (kr : (∀ M', hu_F M M' h → hu_P M' h (2 ^ (w * n)) (n + k) p ro ra rb V → hu_S M' h (n + k) L (List.foldl (ss_stp w (2 ^ (w * n)) (n + k) co tg L al (ss_fill w (2 ^ (w * n)) (n + k) co tg L al f) p r ro ra rb V) σ (ss_as o 0 (n + k + p))) → Q none G M')) : eg_J l E mX0_fillWith d kb nb Q 0 [some (.ref h), some (.int (nI o)), some (.int (nI p)), some (.int (nI (r - co o))), none, none, none, none, none] [] G M := by
  obtain ⟨g0, g1, g2, g3, g4, g5, gV, g6, gR, g7, gF⟩ := id hs
  obtain ⟨gv1, gv2, gv3, gv4⟩ := id gV
  obtain ⟨gr0, gr1, gr2, gr3, gr4, gr5, gr6⟩ := id gR
  obtain ⟨gf0, gf1, gf2, gf3, gf4, gf5, gf6⟩ := id gF
  obtain ⟨c1, c2, c3, c4, c5, c6⟩ := id hc
  obtain ⟨e1, e2, e3, e4, e5, e6⟩ := id hS
  obtain ⟨v1, v2, v3, v4, v5, hw1, hw4, hn1, hn2, hk4⟩ := id c1
  have hA := wd_asg hw4 hn2
  refine eg_aload_n dX0_fillWith_0 rfl rfl ?_
  refine eg_getR gf_RX0_21 rfl (by assumption) (by assumption) dX0_fillWith_1 ?_
  refine eg_callV0 0 0 gk_X2_given gi_X2_given (by assumption) rfl gl_RX0_75 rfl (Nat.le_of_ble_eq_true rfl) (Nat.le_of_ble_eq_true rfl) (Nat.zero_le _) (Nat.zero_le _) (by omega) dX0_fillWith_4 ?_
  refine sp_X2_given gv1 c1 ?_
  refine eg_iload_n dX0_fillWith_7 rfl rfl ?_
  refine eg_iadd dX0_fillWith_8 ?_
  refine eg_topi (nI_add (n + k) p) ?_
  refine eg_istore dX0_fillWith_9 (by decide) rfl ?_
  refine eg_iload_n dX0_fillWith_11 rfl rfl ?_
  refine eg_callS1 0 0 gk_X3_takesOne gi_X3_takesOne gl_RX0_95 rfl (Nat.le_of_ble_eq_true rfl) (Nat.le_of_ble_eq_true rfl) (Nat.zero_le _) (Nat.zero_le _) (by omega) dX0_fillWith_12 ?_
  refine sp_X3_takesOne ho (fun h1 => ?_) (fun h1 => ?_)
  · refine eg_if_eq 22 dX0_fillWith_15 (by decide) (fun z => absurd z (by decide)) (fun _ => ?_)
    refine eg_iconst dX0_fillWith_18 (v := nI 1) (by decide) ?_
    refine eg_goto 24 dX0_fillWith_19 (by decide) ?_
    refine eg_topi (show nI 1 = nI (ss_be o (n + k + p)) by unfold ss_be; rw [if_pos h1]) ?_
    refine eg_istore dX0_fillWith_24 (by decide) rfl ?_
    refine eg_iload_n dX0_fillWith_26 rfl rfl ?_
    refine eg_callS1 0 0 gk_X3_isOrdered gi_X3_isOrdered gl_RX0_99 rfl (Nat.le_of_ble_eq_true rfl) (Nat.le_of_ble_eq_true rfl) (Nat.zero_le _) (Nat.zero_le _) (by omega) dX0_fillWith_27 ?_
    refine sp_X3_isOrdered ho (fun hord => ?_) (fun hord => ?_)
    · have hx : (1 : Int32) = if o = 2 ∨ o = 3 ∨ o = 4 ∨ o = 5 ∨ o = 7 ∨ o = 12 then 1 else 0 := by rw [if_pos hord]
      refine eg_istore dX0_fillWith_30 (by decide) rfl ?_
      refine eg_iconst dX0_fillWith_32 (v := nI 0) (by decide) ?_
      refine eg_istore dX0_fillWith_33 (by decide) rfl ?_
      exact lp_X0_fillWith hFS hd hpf ho hr hs hx (n + k + p) 0 σ M _ (by omega) hc hP hS kr
    · have hx : (0 : Int32) = if o = 2 ∨ o = 3 ∨ o = 4 ∨ o = 5 ∨ o = 7 ∨ o = 12 then 1 else 0 := by rw [if_neg hord]
      refine eg_istore dX0_fillWith_30 (by decide) rfl ?_
      refine eg_iconst dX0_fillWith_32 (v := nI 0) (by decide) ?_
      refine eg_istore dX0_fillWith_33 (by decide) rfl ?_
      exact lp_X0_fillWith hFS hd hpf ho hr hs hx (n + k + p) 0 σ M _ (by omega) hc hP hS kr
  · refine eg_if_eq 22 dX0_fillWith_15 (by decide) (fun _ => ?_) (fun z => absurd (show nI 0 = 0 from rfl) z)
    refine eg_iload dX0_fillWith_22 rfl ?_
    refine eg_topi (show nI (n + k + p) = nI (ss_be o (n + k + p)) by unfold ss_be; rw [if_neg h1]) ?_
    refine eg_istore dX0_fillWith_24 (by decide) rfl ?_
    refine eg_iload_n dX0_fillWith_26 rfl rfl ?_
    refine eg_callS1 0 0 gk_X3_isOrdered gi_X3_isOrdered gl_RX0_99 rfl (Nat.le_of_ble_eq_true rfl) (Nat.le_of_ble_eq_true rfl) (Nat.zero_le _) (Nat.zero_le _) (by omega) dX0_fillWith_27 ?_
    refine sp_X3_isOrdered ho (fun hord => ?_) (fun hord => ?_)
    · have hx : (1 : Int32) = if o = 2 ∨ o = 3 ∨ o = 4 ∨ o = 5 ∨ o = 7 ∨ o = 12 then 1 else 0 := by rw [if_pos hord]
      refine eg_istore dX0_fillWith_30 (by decide) rfl ?_
      refine eg_iconst dX0_fillWith_32 (v := nI 0) (by decide) ?_
      refine eg_istore dX0_fillWith_33 (by decide) rfl ?_
      exact lp_X0_fillWith hFS hd hpf ho hr hs hx (n + k + p) 0 σ M _ (by omega) hc hP hS kr
    · have hx : (0 : Int32) = if o = 2 ∨ o = 3 ∨ o = 4 ∨ o = 5 ∨ o = 7 ∨ o = 12 then 1 else 0 := by rw [if_neg hord]
      refine eg_istore dX0_fillWith_30 (by decide) rfl ?_
      refine eg_iconst dX0_fillWith_32 (v := nI 0) (by decide) ?_
      refine eg_istore dX0_fillWith_33 (by decide) rfl ?_
      exact lp_X0_fillWith hFS hd hpf ho hr hs hx (n + k + p) 0 σ M _ (by omega) hc hP hS kr
set_option maxHeartbeats 4000000 in
theorem lp_X0_fill {l : Launch} {E : eg_E} {G : eg_G} {h w n k : Nat} {co : Nat → Nat} {tg : Nat → Int32} {L : Nat} {al : Bool} {f p r : Nat} {ro ra rb : Nat → Nat} {V : Nat → Nat → Int32} {d kb nb : Nat} {Q : Option Value → eg_G → eg_I → Prop} (hFS : FS l E G h w n k co tg L al f) (hd : 3 * f + 9 ≤ d) (hpf : p + (f + 1) = 12) (hr : r ≤ 30) (hs : sh_H G h) : ∀ (t o : Nat) (σ : ss_S) (M : eg_I) (l4 : Option Value), o + t = 13 → hu_C M h w n k co tg L al → hu_P M h (2 ^ (w * n)) (n + k) p ro ra rb V → hu_S M h (n + k) L σ → (∀ M', hu_F M M' h → hu_P M' h (2 ^ (w * n)) (n + k) p ro ra rb V → hu_S M' h (n + k) L (List.foldl (ss_stp w (2 ^ (w * n)) (n + k) co tg L al (ss_fill w (2 ^ (w * n)) (n + k) co tg L al f) p r ro ra rb V) σ (ss_os co r o (n + k + p))) → Q none G M') → eg_J l E mX0_fill d kb nb Q 9 [some (.ref h), some (.int (nI p)), some (.int (nI r)), some (.int (nI o)), l4] [] G M := by
  intro t
  induction t with
  | zero =>
    intro o σ M l4 hot hc hP hS kr
    obtain ⟨g0, g1, g2, g3, g4, g5, gV, g6, gR, g7, gF⟩ := id hs
    obtain ⟨gv1, gv2, gv3, gv4⟩ := id gV
    obtain ⟨gr0, gr1, gr2, gr3, gr4, gr5, gr6⟩ := id gR
    obtain ⟨gf0, gf1, gf2, gf3, gf4, gf5, gf6⟩ := id gF
    obtain ⟨c1, c2, c3, c4, c5, c6⟩ := id hc
    obtain ⟨e1, e2, e3, e4, e5, e6⟩ := id hS
    obtain ⟨v1, v2, v3, v4, v5, hw1, hw4, hn1, hn2, hk4⟩ := id c1
    have hA := wd_asg hw4 hn2
    refine eg_iload_n dX0_fill_9 rfl rfl ?_
    refine eg_bipush dX0_fill_10 (v := nI 13) (by decide) ?_
    refine eg_icmp_ge 57 dX0_fill_12 (by decide) (fun c12 => ?_) (fun c12 => absurd (nI_le (a := 13) (by omega) (by omega)) c12)
    exact eg_vret rfl dX0_fill_57 (kr M hu_F.rf hP (by rw [ss_os_0 (by omega)]; exact hS))
  | succ t ih =>
    intro o σ M l4 hot hc hP hS kr
    obtain ⟨g0, g1, g2, g3, g4, g5, gV, g6, gR, g7, gF⟩ := id hs
    obtain ⟨gv1, gv2, gv3, gv4⟩ := id gV
    obtain ⟨gr0, gr1, gr2, gr3, gr4, gr5, gr6⟩ := id gR
    obtain ⟨gf0, gf1, gf2, gf3, gf4, gf5, gf6⟩ := id gF
    obtain ⟨c1, c2, c3, c4, c5, c6⟩ := id hc
    obtain ⟨e1, e2, e3, e4, e5, e6⟩ := id hS
    obtain ⟨v1, v2, v3, v4, v5, hw1, hw4, hn1, hn2, hk4⟩ := id c1
    have hA := wd_asg hw4 hn2
    refine eg_iload_n dX0_fill_9 rfl rfl ?_
    refine eg_bipush dX0_fill_10 (v := nI 13) (by decide) ?_
    refine eg_icmp_ge 57 dX0_fill_12 (by decide) (fun c12 => absurd c12 (nI_ge (b := 13) (by omega) (by omega))) (fun c12 => ?_)
    refine eg_aload_n dX0_fill_15 rfl rfl ?_
    refine eg_callV0 0 0 gk_X0_isOver gi_X0_isOver (by assumption) rfl gl_RX0_87 rfl (Nat.le_of_ble_eq_true rfl) (Nat.le_of_ble_eq_true rfl) (Nat.zero_le _) (Nat.zero_le _) (by omega) dX0_fill_16 ?_
    refine sp_X0_isOver (k := k) hs hc hS (fun hov => ?_) (fun hov => ?_)
    · refine eg_if_ne 57 dX0_fill_19 (by decide) (fun _ => ?_) (fun z => absurd z (by decide))
      exact eg_vret rfl dX0_fill_57 (kr M hu_F.rf hP (by rw [ss_fold_over hov]; exact hS))
    · refine eg_if_ne 57 dX0_fill_19 (by decide) (fun z => absurd (show nI 0 = 0 from rfl) z) (fun _ => ?_)
      refine eg_aload_n dX0_fill_22 rfl rfl ?_
      refine eg_getR gf_RX0_9 rfl g0 g1 dX0_fill_23 ?_
      refine eg_iload_n dX0_fill_26 rfl rfl ?_
      refine eg_ialdN g2 (by omega) (by decide) dX0_fill_27 ?_
      have hco := c2 o (by omega)
      refine eg_topi hco.1 ?_
      refine eg_istore dX0_fill_28 (by decide) rfl ?_
      refine eg_iload dX0_fill_30 rfl ?_
      refine eg_if_le 51 dX0_fill_32 (by decide) (fun c => ?_) (fun c => ?_)
      · have hz : ¬ 0 < co o := fun z => absurd c (nI_nle z (by omega))
        refine eg_iinc dX0_fill_51 (by decide) rfl (eg_inc o) rfl ?_
        refine eg_goto 9 dX0_fill_54 (by decide) ?_
        refine ih (o + 1) _ M _ (by omega) hc hP hS (fun M3 f3 p3 s3 => ?_)
        refine kr M3 f3 p3 ?_
        rw [ss_os_s (by omega), if_neg (by omega), List.nil_append]
        exact s3
      · have hz : 0 < co o := Nat.pos_of_ne_zero (fun z => c (by rw [z]; decide))
        refine eg_iload dX0_fill_35 rfl ?_
        refine eg_iload_n dX0_fill_37 rfl rfl ?_
        refine eg_icmp_gt 51 dX0_fill_38 (by decide) (fun c' => ?_) (fun c' => ?_)
        · have hz2 : ¬ co o ≤ r := fun z => absurd c' (nI_nlt z (by omega))
          refine eg_iinc dX0_fill_51 (by decide) rfl (eg_inc o) rfl ?_
          refine eg_goto 9 dX0_fill_54 (by decide) ?_
          refine ih (o + 1) _ M _ (by omega) hc hP hS (fun M3 f3 p3 s3 => ?_)
          refine kr M3 f3 p3 ?_
          rw [ss_os_s (by omega), if_neg (by omega), List.nil_append]
          exact s3
        · have hz2 : co o ≤ r := Nat.le_of_not_lt (fun z => c' (nI_lt z (by omega)))
          refine eg_aload_n dX0_fill_41 rfl rfl ?_
          refine eg_iload_n dX0_fill_42 rfl rfl ?_
          refine eg_iload_n dX0_fill_43 rfl rfl ?_
          refine eg_iload_n dX0_fill_44 rfl rfl ?_
          refine eg_iload dX0_fill_45 rfl ?_
          refine eg_isub dX0_fill_47 ?_
          refine eg_topi (pk_sub hz2) ?_
          refine eg_callV3 0 0 gk_X0_fillWith gi_X0_fillWith g0 rfl gl_RX0_91 rfl (Nat.le_of_ble_eq_true rfl) (Nat.le_of_ble_eq_true rfl) (Nat.zero_le _) (Nat.zero_le _) (by omega) dX0_fill_48 ?_
          refine sp_X0_fillWith hFS (by omega) hpf (by omega) hr hs hc hP hS (fun M2 f2 p2 s2 => ?_)
          refine eg_iinc dX0_fill_51 (by decide) rfl (eg_inc o) rfl ?_
          refine eg_goto 9 dX0_fill_54 (by decide) ?_
          refine ih (o + 1) _ M2 _ (by omega) (hc.fr f2) p2 s2 (fun M3 f3 p3 s3 => ?_)
          refine kr M3 (f2.tr f3) p3 ?_
          rw [ss_os_s (by omega), if_pos ⟨hz, hz2⟩, List.foldl_append]
          exact s3
theorem sp_FS {l : Launch} {E : eg_E} {G : eg_G} {h w n k : Nat} {co : Nat → Nat} {tg : Nat → Int32} {L : Nat} {al : Bool} (hs : sh_H G h) : ∀ f, FS l E G h w n k co tg L al f := by
  intro f
  induction f with
  | zero =>
    intro d kb nb Q p r ro ra rb V σ M hd hpf hr hc hP hS hQ
    refine eg_iload_n dX0_fill_0 rfl rfl ?_
    refine eg_bipush dX0_fill_1 (v := nI 12) (by decide) ?_
    refine eg_icmp_lt 7 dX0_fill_3 (by decide) (fun c3 => absurd c3 (nI_nlt (by omega) (by omega))) (fun c3 => ?_)
    exact eg_vret rfl dX0_fill_6 (hQ M hu_F.rf hP hS)
  | succ f ih =>
    intro d kb nb Q p r ro ra rb V σ M hd hpf hr hc hP hS hQ
    refine eg_iload_n dX0_fill_0 rfl rfl ?_
    refine eg_bipush dX0_fill_1 (v := nI 12) (by decide) ?_
    refine eg_icmp_lt 7 dX0_fill_3 (by decide) (fun c3 => ?_) (fun c3 => absurd (nI_lt (by omega) (by omega)) c3)
    refine eg_iconst dX0_fill_7 (v := nI 0) (by decide) ?_
    refine eg_istore_n dX0_fill_8 rfl (by decide) rfl ?_
    exact lp_X0_fill ih (by omega) (by omega) hr hs 13 0 σ M _ (by omega) hc hP hS hQ
