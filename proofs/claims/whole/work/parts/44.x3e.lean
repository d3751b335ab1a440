/-! ShortestCode: markNeeded, takeOutNeedless, clean, search -/
theorem eg_dec1 (x : Nat) : nI x + Int32.ofInt (-1) = nI x - nI 1 := by rw [Int32.sub_eq_add_neg]; rfl
def nb_I (M : eg_I) (b g len : Nat) (lf rt : Nat → Nat) (res x : Nat) : Prop := (∀ v, v < 18 → M (b + 31) v = 0 ∨ M (b + 31) v = 1) ∧ ∀ v, v < 18 → (M (b + 31) v = 1 ↔ (res = v ∨ ∃ i, x ≤ i ∧ i < len ∧ M (b + 31) (g + i) = 1 ∧ (lf i = v ∨ rt i = v)))
theorem cl_id_us {g len res t : Nat} {lf rt : Nat → Nat} (h : cl_us g len lf rt res t) : cl_id g len lf rt res (t + 1) = cl_id g len lf rt res t := if_pos h
theorem cl_id_no {g len res t : Nat} {lf rt : Nat → Nat} (h : ¬ cl_us g len lf rt res t) : cl_id g len lf rt res (t + 1) = some t := if_neg h
set_option maxHeartbeats 2000000 in
theorem lp_X3_markNeeded1 {l : Launch} {E : eg_E} {d kb nb : Nat} {Q : Option Value → eg_G → eg_I → Prop} {G : eg_G} {b : Nat} (hs : sh_C G b) : ∀ (t s : Nat) (M : eg_I), s + t = 18 → eg_J l E mX3_markNeeded d kb nb Q 21 [some (.ref b), some (.int (nI 18)), none] [] G (eg_fl M (b + 31) s 18 (fun _ => nI 0)) → eg_J l E mX3_markNeeded d kb nb Q 2 [some (.ref b), some (.int (nI s)), none] [] G M := by
  intro t
  induction t with
  | zero =>
    intro s M hst hQ
    obtain ⟨k0, k1, k2, k3, k4, k5, kV, k6, kR, k7, kF, k8, k9, k10, kH⟩ := id hs
    obtain ⟨gv1, gv2, gv3, gv4⟩ := id kV
    obtain ⟨gr0, gr1, gr2, gr3, gr4, gr5, gr6⟩ := id kR
    obtain ⟨gf0, gf1, gf2, gf3, gf4, gf5, gf6⟩ := id kF
    have kh0 := kH.1
    refine eg_iload_n dX3_markNeeded_2 rfl rfl ?_
    refine eg_bipush dX3_markNeeded_3 (v := nI 18) (by decide) ?_
    refine eg_icmp_ge 21 dX3_markNeeded_5 (by decide) (fun c5 => ?_) (fun c5 => absurd (nI_le (a := 18) (by omega) (by omega)) c5)
    have e : s = 18 := by omega
    subst e
    rw [eg_fl_0 (by omega)] at hQ
    exact hQ
  | succ t ih =>
    intro s M hst hQ
    obtain ⟨k0, k1, k2, k3, k4, k5, kV, k6, kR, k7, kF, k8, k9, k10, kH⟩ := id hs
    obtain ⟨gv1, gv2, gv3, gv4⟩ := id kV
    obtain ⟨gr0, gr1, gr2, gr3, gr4, gr5, gr6⟩ := id kR
    obtain ⟨gf0, gf1, gf2, gf3, gf4, gf5, gf6⟩ := id kF
    have kh0 := kH.1
    refine eg_iload_n dX3_markNeeded_2 rfl rfl ?_
    refine eg_bipush dX3_markNeeded_3 (v := nI 18) (by decide) ?_
    refine eg_icmp_ge 21 dX3_markNeeded_5 (by decide) (fun c5 => absurd c5 (nI_ge (b := 18) (by omega) (by omega))) (fun c5 => ?_)
    refine eg_aload_n dX3_markNeeded_8 rfl rfl ?_
    refine eg_getR gf_RX3_33 rfl (by assumption) (by assumption) dX3_markNeeded_9 ?_
    refine eg_iload_n dX3_markNeeded_12 rfl rfl ?_
    refine eg_iconst dX3_markNeeded_13 (v := nI 0) (by decide) ?_
    refine eg_zastN (by assumption) (by omega) (by decide) rfl dX3_markNeeded_14 ?_
    refine eg_iinc dX3_markNeeded_15 (by decide) rfl (eg_inc s) rfl ?_
    refine eg_goto 2 dX3_markNeeded_18 (by decide) ?_
    exact ih (s + 1) _ (by omega) (eg_fl_q (P := fun z => eg_J l E mX3_markNeeded d kb nb Q 21 [some (.ref b), some (.int (nI 18)), none] [] G z) (f := fun _ => nI 0) (by omega) (fun j g1 _ => rfl) hQ)
set_option maxHeartbeats 2000000 in
theorem lp_X3_markNeeded2 {l : Launch} {E : eg_E} {d kb nb : Nat} {Q : Option Value → eg_G → eg_I → Prop} {G : eg_G} {b w n k len res : Nat} {op lf rt : Nat → Nat} {M0 : eg_I} (hs : sh_C G b) (hpk : pg_ok (n + k) len op lf rt res) (hnk : n + k ≤ 6) (hn1 : 1 ≤ n) : ∀ (t : Nat) (M : eg_I), t ≤ len → in_R M (b + 23) len op lf rt res → nb_I M b (n + k) len lf rt res t → (∀ q, q ≠ b + 31 → M q = M0 q) → (∀ M', nb_I M' b (n + k) len lf rt res 0 → (∀ q, q ≠ b + 31 → M' q = M0 q) → Q none G M') → eg_J l E mX3_markNeeded d kb nb Q 52 [some (.ref b), some (.int (nI (n + k))), some (.int (nI t - nI 1))] [] G M := by
  intro t
  induction t with
  | zero =>
    intro M htl hr hnb hfr hQ
    obtain ⟨k0, k1, k2, k3, k4, k5, kV, k6, kR, k7, kF, k8, k9, k10, kH⟩ := id hs
    obtain ⟨gv1, gv2, gv3, gv4⟩ := id kV
    obtain ⟨gr0, gr1, gr2, gr3, gr4, gr5, gr6⟩ := id kR
    obtain ⟨gf0, gf1, gf2, gf3, gf4, gf5, gf6⟩ := id kF
    have kh0 := kH.1
    obtain ⟨p3, p4, pl, pa⟩ := id hr
    obtain ⟨-, pok2, pok3⟩ := id hpk
    refine eg_iload_n dX3_markNeeded_52 rfl rfl ?_
    refine eg_if_lt 103 dX3_markNeeded_53 (by decide) (fun c53 => ?_) (fun c53 => absurd (show nI 0 - nI 1 < 0 by decide) c53)
    exact eg_vret rfl dX3_markNeeded_103 (hQ M hnb hfr)
  | succ t ih =>
    intro M htl hr hnb hfr hQ
    obtain ⟨k0, k1, k2, k3, k4, k5, kV, k6, kR, k7, kF, k8, k9, k10, kH⟩ := id hs
    obtain ⟨gv1, gv2, gv3, gv4⟩ := id kV
    obtain ⟨gr0, gr1, gr2, gr3, gr4, gr5, gr6⟩ := id kR
    obtain ⟨gf0, gf1, gf2, gf3, gf4, gf5, gf6⟩ := id kF
    have kh0 := kH.1
    obtain ⟨p3, p4, pl, pa⟩ := id hr
    obtain ⟨-, pok2, pok3⟩ := id hpk
    rw [show nI (t + 1) - nI 1 = nI t from pk_sub (by omega)]
    refine eg_iload_n dX3_markNeeded_52 rfl rfl ?_
    refine eg_if_lt 103 dX3_markNeeded_53 (by decide) (fun c53 => absurd c53 (nI_pos (by omega))) (fun c53 => ?_)
    refine eg_aload_n dX3_markNeeded_56 rfl rfl ?_
    refine eg_getR gf_RX3_33 rfl (by assumption) (by assumption) dX3_markNeeded_57 ?_
    refine eg_iload_n dX3_markNeeded_60 rfl rfl ?_
    refine eg_iload_n dX3_markNeeded_61 rfl rfl ?_
    refine eg_iadd dX3_markNeeded_62 ?_
    refine eg_topi (nI_add (n + k) t) ?_
    refine eg_zaldN (by assumption) (by omega) (by decide) dX3_markNeeded_63 ?_
    refine eg_if_eq 97 dX3_markNeeded_64 (by decide) (fun c => ?_) (fun c => ?_)
    · refine eg_iinc dX3_markNeeded_97 (by decide) rfl (eg_dec1 t) rfl ?_
      refine eg_goto 52 dX3_markNeeded_100 (by decide) ?_
      refine ih M (by omega) hr ⟨hnb.1, fun v hv => ?_⟩ hfr hQ
      rw [hnb.2 v hv]
      constructor
      · rintro (z | ⟨i, z1, z2⟩)
        · exact Or.inl z
        · exact Or.inr ⟨i, by omega, z2⟩
      · rintro (z | ⟨i, z1, z2, z3, z4⟩)
        · exact Or.inl z
        · by_cases e : i = t
          · subst e
            rw [c] at z3
            exact absurd z3 (by decide)
          · exact Or.inr ⟨i, by omega, z2, z3, z4⟩
    · have hp := pok2 t (by omega)
      have c1 : M (b + 31) (n + k + t) = 1 := (hnb.1 _ (by omega)).elim (fun z => absurd z c) id
      refine eg_aload_n dX3_markNeeded_67 rfl rfl ?_
      refine eg_getR gf_RX3_33 rfl (by assumption) (by assumption) dX3_markNeeded_68 ?_
      refine eg_aload_n dX3_markNeeded_71 rfl rfl ?_
      refine eg_getR gf_RX3_26 rfl (by assumption) (by assumption) dX3_markNeeded_72 ?_
      refine eg_getR gf_RX3_109 rfl (by assumption) (by assumption) dX3_markNeeded_75 ?_
      refine eg_iload_n dX3_markNeeded_78 rfl rfl ?_
      refine eg_ialdN (by assumption) (by omega) (by decide) dX3_markNeeded_79 ?_
      refine eg_topi (pa t (by omega)).2.1 ?_
      refine eg_iconst dX3_markNeeded_80 (v := nI 1) (by decide) ?_
      refine eg_zastN (by assumption) (by omega) (by decide) rfl dX3_markNeeded_81 ?_
      refine eg_aload_n dX3_markNeeded_82 rfl rfl ?_
      refine eg_getR gf_RX3_33 rfl (by assumption) (by assumption) dX3_markNeeded_83 ?_
      refine eg_aload_n dX3_markNeeded_86 rfl rfl ?_
      refine eg_getR gf_RX3_26 rfl (by assumption) (by assumption) dX3_markNeeded_87 ?_
      refine eg_getR gf_RX3_112 rfl (by assumption) (by assumption) dX3_markNeeded_90 ?_
      refine eg_iload_n dX3_markNeeded_93 rfl rfl ?_
      refine eg_ialdN (by assumption) (by omega) (by decide) dX3_markNeeded_94 ?_
      refine eg_topi (show _ = nI (rt t) by rw [eg_set_ne (by omega)]; exact (pa t (by omega)).2.2) ?_
      refine eg_iconst dX3_markNeeded_95 (v := nI 1) (by decide) ?_
      refine eg_zastN (by assumption) (by omega) (by decide) rfl dX3_markNeeded_96 ?_
      refine eg_iinc dX3_markNeeded_97 (by decide) rfl (eg_dec1 t) rfl ?_
      refine eg_goto 52 dX3_markNeeded_100 (by decide) ?_
      generalize hM1 : eg_set (eg_set M (b + 31) (lf t) (nI 1)) (b + 31) (rt t) (nI 1) = M1
      have o1 : ∀ q, q ≠ b + 31 → M1 q = M q := fun q z => by rw [← hM1, eg_set_ne z, eg_set_ne z]
      have m1 : ∀ v, M1 (b + 31) v = if v = lf t ∨ v = rt t then 1 else M (b + 31) v := fun v => by
        rw [← hM1]
        by_cases e1 : v = rt t
        · rw [e1, eg_set_eq, if_pos (Or.inr rfl)]; rfl
        · rw [eg_set_j e1]
          by_cases e2 : v = lf t
          · rw [e2, eg_set_eq, if_pos (Or.inl rfl)]; rfl
          · rw [eg_set_j e2, if_neg (fun z => z.elim e2 e1)]
      have m2 : ∀ i, t ≤ i → M1 (b + 31) (n + k + i) = M (b + 31) (n + k + i) := fun i hi => by rw [m1, if_neg (by omega)]
      refine ih M1 (by omega) (hr.eq (fun q z1 z2 => o1 q (by omega))) ⟨fun v hv => ?_, fun v hv => ?_⟩ (fun q z => by rw [o1 q z]; exact hfr q z) hQ
      · rw [m1]
        split
        · exact Or.inr rfl
        · exact hnb.1 v hv
      · rw [m1]
        by_cases e : v = lf t ∨ v = rt t
        · rw [if_pos e]
          refine ⟨fun _ => Or.inr ⟨t, by omega, by omega, by rw [m2 t (by omega)]; exact c1, e.elim (fun z => Or.inl z.symm) (fun z => Or.inr z.symm)⟩, fun _ => rfl⟩
        · rw [if_neg e, hnb.2 v hv]
          constructor
          · rintro (z | ⟨i, z1, z2, z3, z4⟩)
            · exact Or.inl z
            · exact Or.inr ⟨i, by omega, z2, by rw [m2 i (by omega)]; exact z3, z4⟩
          · rintro (z | ⟨i, z1, z2, z3, z4⟩)
            · exact Or.inl z
            · by_cases e2 : i = t
              · subst e2
                exact absurd (z4.elim (fun z => Or.inl z.symm) (fun z => Or.inr z.symm)) e
              · rw [m2 i (by omega)] at z3
                exact Or.inr ⟨i, by omega, z2, z3, z4⟩
set_option maxHeartbeats 2000000 in
theorem sp_X3_markNeeded {l : Launch} {E : eg_E} {d kb nb : Nat} {Q : Option Value → eg_G → eg_I → Prop} {G : eg_G} {M : eg_I} {b w n k len res : Nat} {op lf rt : Nat → Nat} (hs : sh_C G b) (hpk : pg_ok (n + k) len op lf rt res) (hd : 1 ≤ d) (h : in_V M (b + 3) w n k) (hr : in_R M (b + 23) len op lf rt res) (hQ : (∀ M', nb_I M' b (n + k) len lf rt res 0 → (∀ q, q ≠ b + 31 → M' q = M q) → Q none G M')) : eg_J l E mX3_markNeeded d kb nb Q 0 [some (.ref b), none, none] [] G M := by
  obtain ⟨k0, k1, k2, k3, k4, k5, kV, k6, kR, k7, kF, k8, k9, k10, kH⟩ := id hs
  obtain ⟨gv1, gv2, gv3, gv4⟩ := id kV
  obtain ⟨gr0, gr1, gr2, gr3, gr4, gr5, gr6⟩ := id kR
  obtain ⟨gf0, gf1, gf2, gf3, gf4, gf5, gf6⟩ := id kF
  have kh0 := kH.1
  obtain ⟨i1, i2, i3, i4, i5, hw1, hw4, hn1, hn2, hk4⟩ := id h
  obtain ⟨p3, p4, pl, pa⟩ := id hr
  obtain ⟨-, pok2, pok3⟩ := id hpk
  refine eg_iconst dX3_markNeeded_0 (v := nI 0) (by decide) ?_
  refine eg_istore_n dX3_markNeeded_1 rfl (by decide) rfl ?_
  refine lp_X3_markNeeded1 hs 18 0 M (by omega) ?_
  generalize hM1 : eg_fl M (b + 31) 0 18 (fun _ => nI 0) = M1
  have o1 : ∀ q, q ≠ b + 31 → M1 q = M q := fun q z => by rw [← hM1, eg_fl_ne z]
  have m1 : ∀ v, v < 18 → M1 (b + 31) v = 0 := fun v z => by rw [← hM1, eg_fl_in (by omega) z]; rfl
  refine eg_aload_n dX3_markNeeded_21 rfl rfl ?_
  refine eg_getR gf_RX3_33 rfl (by assumption) (by assumption) dX3_markNeeded_22 ?_
  refine eg_aload_n dX3_markNeeded_25 rfl rfl ?_
  refine eg_getR gf_RX3_26 rfl (by assumption) (by assumption) dX3_markNeeded_26 ?_
  refine eg_getI gf_RX3_87 rfl (by assumption) dX3_markNeeded_29 ?_
  refine eg_topi (show _ = nI res by rw [o1 _ (by omega)]; exact p4) ?_
  refine eg_iconst dX3_markNeeded_32 (v := nI 1) (by decide) ?_
  refine eg_zastN (by assumption) (by omega) (by decide) rfl dX3_markNeeded_33 ?_
  refine eg_aload_n dX3_markNeeded_34 rfl rfl ?_
  refine eg_getR gf_RX3_19 rfl (by assumption) (by assumption) dX3_markNeeded_35 ?_
  refine eg_callV0 0 0 gk_X2_given gi_X2_given (by assumption) rfl gl_RX3_73 rfl (Nat.le_of_ble_eq_true rfl) (Nat.le_of_ble_eq_true rfl) (Nat.zero_le _) (Nat.zero_le _) (by omega) dX3_markNeeded_38 ?_
  refine sp_X2_given gv1 (h.eq (by rw [eg_set_ne (by omega)]; exact o1 _ (by omega))) ?_
  refine eg_istore_n dX3_markNeeded_41 rfl (by decide) rfl ?_
  refine eg_aload_n dX3_markNeeded_42 rfl rfl ?_
  refine eg_getR gf_RX3_26 rfl (by assumption) (by assumption) dX3_markNeeded_43 ?_
  refine eg_getI gf_RX3_64 rfl (by assumption) dX3_markNeeded_46 ?_
  refine eg_topi (show _ = nI len by rw [eg_set_ne (by omega), o1 _ (by omega)]; exact p3) ?_
  refine eg_iconst dX3_markNeeded_49 (v := nI 1) (by decide) ?_
  refine eg_isub dX3_markNeeded_50 ?_
  refine eg_istore_n dX3_markNeeded_51 rfl (by decide) rfl ?_
  refine lp_X3_markNeeded2 (M0 := M) (w := w) hs hpk (by omega) hn1 len _ (Nat.le_refl _) (hr.eq (fun q z1 z2 => by rw [eg_set_ne (by omega)]; exact o1 q (by omega))) ⟨fun v hv => ?_, fun v hv => ?_⟩ (fun q z => by rw [eg_set_ne z]; exact o1 q z) hQ
  · by_cases e : v = res
    · subst e; rw [eg_set_eq]; exact Or.inr rfl
    · rw [eg_set_j e]; exact Or.inl (m1 v hv)
  · by_cases e : v = res
    · subst e; rw [eg_set_eq]; exact ⟨fun _ => Or.inl rfl, fun _ => rfl⟩
    · rw [eg_set_j e, m1 v hv]
      refine ⟨fun z => absurd z (by decide), fun z => z.elim (fun z => absurd z.symm e) (fun ⟨i, z1, z2, _⟩ => absurd z1 (by omega))⟩
set_option maxHeartbeats 2000000 in
theorem lp_X3_takeOutNeedless {l : Launch} {E : eg_E} {d kb nb : Nat} {Q : Option Value → eg_G → eg_I → Prop} {G : eg_G} {M : eg_I} {b w n k : Nat} {cf : Nat → Int32} {p : pg_T} (hs : sh_C G b) (hI : cl_I M b w n k cf p) {M0 : eg_I} (hd : 5 ≤ d) (hfr : cl_F M0 M b) (hnb : nb_I M b (n + k) p.1 p.2.2.1 p.2.2.2.1 p.2.2.2.2 0) : ∀ (t : Nat), t ≤ p.1 → (∀ i, t ≤ i → i < p.1 → M (b + 31) (n + k + i) = 1) → (∀ j M', cl_id (n + k) p.1 p.2.2.1 p.2.2.2.1 p.2.2.2.2 t = some j → cl_I M' b w n k cf (pg_rm (n + k) j 0 p) → j < p.1 → cl_F M0 M' b → Q (some (.int 1)) G M') → (∀ M', cl_id (n + k) p.1 p.2.2.1 p.2.2.2.1 p.2.2.2.2 t = none → cl_I M' b w n k cf p → cl_F M0 M' b → Q (some (.int 0)) G M') → eg_J l E mX3_takeOutNeedless d kb nb Q 22 [some (.ref b), some (.int (nI (n + k))), some (.int (nI t - nI 1))] [] G M := by
  intro t
  induction t with
  | zero =>
    intro htl hall hT hN
    obtain ⟨k0, k1, k2, k3, k4, k5, kV, k6, kR, k7, kF, k8, k9, k10, kH⟩ := id hs
    obtain ⟨gv1, gv2, gv3, gv4⟩ := id kV
    obtain ⟨gr0, gr1, gr2, gr3, gr4, gr5, gr6⟩ := id kR
    obtain ⟨gf0, gf1, gf2, gf3, gf4, gf5, gf6⟩ := id kF
    have kh0 := kH.1
    obtain ⟨len, op, lf, rt, res⟩ := p
    obtain ⟨c1, c2, c3, c4⟩ := id hI
    replace c2 : in_R M (b + 23) len op lf rt res := c2
    replace c3 : ∀ u s, u < n + k + len → s < 2 ^ (w * n) → M (b + 3 + 2 + u) s = sv w n k cf op lf rt u s := c3
    replace c4 : pg_ok (n + k) len op lf rt res := c4
    obtain ⟨i1, i2, i3, i4, i5, hw1, hw4, hn1, hn2, hk4⟩ := id c1
    obtain ⟨p3, p4, pl, pa⟩ := id c2
    obtain ⟨-, pok2, pok3⟩ := id c4
    have hA := wd_asg hw4 hn2
    replace hnb : nb_I M b (n + k) len lf rt res 0 := hnb
    replace hall : ∀ i, 0 ≤ i → i < len → M (b + 31) (n + k + i) = 1 := hall
    replace htl : 0 ≤ len := htl
    refine eg_iload_n dX3_takeOutNeedless_22 rfl rfl ?_
    refine eg_if_lt 51 dX3_takeOutNeedless_23 (by decide) (fun c23 => ?_) (fun c23 => absurd (show nI 0 - nI 1 < 0 by decide) c23)
    refine eg_iconst dX3_takeOutNeedless_51 (v := nI 0) (by decide) ?_
    exact eg_zret rfl rfl dX3_takeOutNeedless_52 (hN M rfl hI hfr)
  | succ t ih =>
    intro htl hall hT hN
    obtain ⟨k0, k1, k2, k3, k4, k5, kV, k6, kR, k7, kF, k8, k9, k10, kH⟩ := id hs
    obtain ⟨gv1, gv2, gv3, gv4⟩ := id kV
    obtain ⟨gr0, gr1, gr2, gr3, gr4, gr5, gr6⟩ := id kR
    obtain ⟨gf0, gf1, gf2, gf3, gf4, gf5, gf6⟩ := id kF
    have kh0 := kH.1
    obtain ⟨len, op, lf, rt, res⟩ := p
    obtain ⟨c1, c2, c3, c4⟩ := id hI
    replace c2 : in_R M (b + 23) len op lf rt res := c2
    replace c3 : ∀ u s, u < n + k + len → s < 2 ^ (w * n) → M (b + 3 + 2 + u) s = sv w n k cf op lf rt u s := c3
    replace c4 : pg_ok (n + k) len op lf rt res := c4
    obtain ⟨i1, i2, i3, i4, i5, hw1, hw4, hn1, hn2, hk4⟩ := id c1
    obtain ⟨p3, p4, pl, pa⟩ := id c2
    obtain ⟨-, pok2, pok3⟩ := id c4
    have hA := wd_asg hw4 hn2
    replace hnb : nb_I M b (n + k) len lf rt res 0 := hnb
    replace hall : ∀ i, (t + 1) ≤ i → i < len → M (b + 31) (n + k + i) = 1 := hall
    replace htl : (t + 1) ≤ len := htl
    rw [show nI (t + 1) - nI 1 = nI t from pk_sub (by omega)]
    refine eg_iload_n dX3_takeOutNeedless_22 rfl rfl ?_
    refine eg_if_lt 51 dX3_takeOutNeedless_23 (by decide) (fun c23 => absurd c23 (nI_pos (by omega))) (fun c23 => ?_)
    refine eg_aload_n dX3_takeOutNeedless_26 rfl rfl ?_
    refine eg_getR gf_RX3_33 rfl (by assumption) (by assumption) dX3_takeOutNeedless_27 ?_
    refine eg_iload_n dX3_takeOutNeedless_30 rfl rfl ?_
    refine eg_iload_n dX3_takeOutNeedless_31 rfl rfl ?_
    refine eg_iadd dX3_takeOutNeedless_32 ?_
    refine eg_topi (nI_add (n + k) t) ?_
    refine eg_zaldN (by assumption) (by omega) (by decide) dX3_takeOutNeedless_33 ?_
    have hus : cl_us (n + k) len lf rt res t ↔ M (b + 31) (n + k + t) = 1 := by
      rw [hnb.2 _ (by omega)]
      unfold cl_us
      constructor
      · rintro (z | ⟨i, z1, z2, z3⟩)
        · exact Or.inl z
        · exact Or.inr ⟨i, by omega, z1, hall i (by omega) z1, z3⟩
      · rintro (z | ⟨i, z1, z2, z3, z4⟩)
        · exact Or.inl z
        · have := pok2 i z2
          exact Or.inr ⟨i, z2, by omega, z4⟩
    refine eg_if_ne 45 dX3_takeOutNeedless_34 (by decide) (fun c => ?_) (fun c => ?_)
    · have c1 : M (b + 31) (n + k + t) = 1 := (hnb.1 _ (by omega)).elim (fun z => absurd z c) id
      have er := cl_id_us (hus.mpr c1)
      refine eg_iinc dX3_takeOutNeedless_45 (by decide) rfl (eg_dec1 t) rfl ?_
      refine eg_goto 22 dX3_takeOutNeedless_48 (by decide) ?_
      refine ih (show t ≤ len by omega) (fun i z1 z2 => ?_) (fun j M2 y1 => hT j M2 (er.trans y1)) (fun M2 y => hN M2 (er.trans y))
      by_cases e : i = t
      · subst e; exact c1
      · exact hall i (by omega) z2
    · have er := cl_id_no (g := n + k) (fun z => absurd ((hus.mp z).symm.trans c) (by decide))
      refine eg_aload_n dX3_takeOutNeedless_37 rfl rfl ?_
      refine eg_iload_n dX3_takeOutNeedless_38 rfl rfl ?_
      refine eg_iconst dX3_takeOutNeedless_39 (v := nI 0) (by decide) ?_
      refine eg_callV2 0 0 gk_X3_takeOut gi_X3_takeOut (by assumption) rfl gl_RX3_169 rfl (Nat.le_of_ble_eq_true rfl) (Nat.le_of_ble_eq_true rfl) (Nat.zero_le _) (Nat.zero_le _) (by omega) dX3_takeOutNeedless_40 ?_
      refine sp_X3_takeOut hs hI (by omega) (show t < len by omega) (by omega) (fun M2 h2 h3 => ?_)
      refine eg_iconst dX3_takeOutNeedless_43 (v := nI 1) (by decide) ?_
      exact eg_zret rfl rfl dX3_takeOutNeedless_44 (hT t M2 er h2 (show t < len by omega) (hfr.tr h3))
set_option maxHeartbeats 2000000 in
theorem sp_X3_takeOutNeedless {l : Launch} {E : eg_E} {d kb nb : Nat} {Q : Option Value → eg_G → eg_I → Prop} {G : eg_G} {M : eg_I} {b w n k : Nat} {cf : Nat → Int32} {p : pg_T} (hs : sh_C G b) (hI : cl_I M b w n k cf p) (hd : 5 ≤ d) (hT : (∀ j M', cl_id (n + k) p.1 p.2.2.1 p.2.2.2.1 p.2.2.2.2 p.1 = some j → cl_I M' b w n k cf (pg_rm (n + k) j 0 p) → j < p.1 → cl_F M M' b → Q (some (.int 1)) G M')) (hN : (∀ M', cl_id (n + k) p.1 p.2.2.1 p.2.2.2.1 p.2.2.2.2 p.1 = none → cl_I M' b w n k cf p → cl_F M M' b → Q (some (.int 0)) G M')) : eg_J l E mX3_takeOutNeedless d kb nb Q 0 [some (.ref b), none, none] [] G M := by
  obtain ⟨k0, k1, k2, k3, k4, k5, kV, k6, kR, k7, kF, k8, k9, k10, kH⟩ := id hs
  obtain ⟨gv1, gv2, gv3, gv4⟩ := id kV
  obtain ⟨gr0, gr1, gr2, gr3, gr4, gr5, gr6⟩ := id kR
  obtain ⟨gf0, gf1, gf2, gf3, gf4, gf5, gf6⟩ := id kF
  have kh0 := kH.1
  obtain ⟨len, op, lf, rt, res⟩ := p
  obtain ⟨c1, c2, c3, c4⟩ := id hI
  replace c2 : in_R M (b + 23) len op lf rt res := c2
  replace c3 : ∀ u s, u < n + k + len → s < 2 ^ (w * n) → M (b + 3 + 2 + u) s = sv w n k cf op lf rt u s := c3
  replace c4 : pg_ok (n + k) len op lf rt res := c4
  obtain ⟨i1, i2, i3, i4, i5, hw1, hw4, hn1, hn2, hk4⟩ := id c1
  obtain ⟨p3, p4, pl, pa⟩ := id c2
  obtain ⟨-, pok2, pok3⟩ := id c4
  have hA := wd_asg hw4 hn2
  refine eg_aload_n dX3_takeOutNeedless_0 rfl rfl ?_
  refine eg_callV0 0 0 gk_X3_markNeeded gi_X3_markNeeded (by assumption) rfl gl_RX3_172 rfl (Nat.le_of_ble_eq_true rfl) (Nat.le_of_ble_eq_true rfl) (Nat.zero_le _) (Nat.zero_le _) (by omega) dX3_takeOutNeedless_1 ?_
  refine sp_X3_markNeeded (w := w) hs c4 (by omega) c1 c2 (fun M1 h1 h2 => ?_)
  have hI1 : cl_I M1 b w n k cf (len, op, lf, rt, res) := ⟨c1.eq (h2 _ (by omega)), c2.eq (fun q z1 z2 => h2 q (by omega)), fun u s z1 z2 => by rw [h2 _ (by omega)]; exact c3 u s z1 z2, c4⟩
  refine eg_aload_n dX3_takeOutNeedless_4 rfl rfl ?_
  refine eg_getR gf_RX3_19 rfl (by assumption) (by assumption) dX3_takeOutNeedless_5 ?_
  refine eg_callV0 0 0 gk_X2_given gi_X2_given (by assumption) rfl gl_RX3_73 rfl (Nat.le_of_ble_eq_true rfl) (Nat.le_of_ble_eq_true rfl) (Nat.zero_le _) (Nat.zero_le _) (by omega) dX3_takeOutNeedless_8 ?_
  refine sp_X2_given gv1 hI1.1 ?_
  refine eg_istore_n dX3_takeOutNeedless_11 rfl (by decide) rfl ?_
  refine eg_aload_n dX3_takeOutNeedless_12 rfl rfl ?_
  refine eg_getR gf_RX3_26 rfl (by assumption) (by assumption) dX3_takeOutNeedless_13 ?_
  refine eg_getI gf_RX3_64 rfl (by assumption) dX3_takeOutNeedless_16 ?_
  refine eg_topi hI1.2.1.1 ?_
  refine eg_iconst dX3_takeOutNeedless_19 (v := nI 1) (by decide) ?_
  refine eg_isub dX3_takeOutNeedless_20 ?_
  refine eg_istore_n dX3_takeOutNeedless_21 rfl (by decide) rfl ?_
  exact lp_X3_takeOutNeedless (M0 := M) hs hI1 hd (fun q z1 z2 => h2 q z2) h1 len (Nat.le_refl _) (fun i z1 z2 => absurd z1 (Nat.not_le.mpr z2)) hT hN
set_option maxHeartbeats 2000000 in
theorem lp_X3_clean {l : Launch} {E : eg_E} {d kb nb : Nat} {Q : Option Value → eg_G → eg_I → Prop} {G : eg_G} {b w n k len0 : Nat} {cf : Nat → Int32} {M0 : eg_I} (hs : sh_C G b) (hd : 6 ≤ d) (hlen : len0 ≤ 12) : ∀ (t s : Nat) (p : pg_T) (M : eg_I), s + t = len0 → p.1 = t → cl_I M b w n k cf p → cl_F M0 M b → (∀ M', cl_I M' b w n k cf (cl_all w n k cf t p) → cl_F M0 M' b → Q (some (.int (nI (len0 - (cl_all w n k cf t p).1)))) G M') → eg_J l E mX3_clean d kb nb Q 10 [some (.ref b), some (.int (nI len0)), some (.int (nI s))] [] G M := by
  intro t
  induction t with
  | zero =>
    intro s p M hst hp hI hfr hQ
    obtain ⟨k0, k1, k2, k3, k4, k5, kV, k6, kR, k7, kF, k8, k9, k10, kH⟩ := id hs
    obtain ⟨gv1, gv2, gv3, gv4⟩ := id kV
    obtain ⟨gr0, gr1, gr2, gr3, gr4, gr5, gr6⟩ := id kR
    obtain ⟨gf0, gf1, gf2, gf3, gf4, gf5, gf6⟩ := id kF
    have kh0 := kH.1
    refine eg_iload_n dX3_clean_10 rfl rfl ?_
    refine eg_iload_n dX3_clean_11 rfl rfl ?_
    refine eg_icmp_ge 38 dX3_clean_12 (by decide) (fun c12 => ?_) (fun c12 => absurd (nI_le (by omega) (by omega)) c12)
    refine eg_iload_n dX3_clean_38 rfl rfl ?_
    refine eg_aload_n dX3_clean_39 rfl rfl ?_
    refine eg_getR gf_RX3_26 rfl k0 k6 dX3_clean_40 ?_
    refine eg_getI gf_RX3_64 rfl gr0 dX3_clean_43 ?_
    refine eg_topi (hI.2.1.1) ?_
    refine eg_isub dX3_clean_46 ?_
    refine eg_topi (pk_sub (by omega)) ?_
    exact eg_iret rfl dX3_clean_47 (hQ M hI hfr)
  | succ t ih =>
    intro s p M hst hp hI hfr hQ
    obtain ⟨k0, k1, k2, k3, k4, k5, kV, k6, kR, k7, kF, k8, k9, k10, kH⟩ := id hs
    obtain ⟨gv1, gv2, gv3, gv4⟩ := id kV
    obtain ⟨gr0, gr1, gr2, gr3, gr4, gr5, gr6⟩ := id kR
    obtain ⟨gf0, gf1, gf2, gf3, gf4, gf5, gf6⟩ := id kF
    have kh0 := kH.1
    refine eg_iload_n dX3_clean_10 rfl rfl ?_
    refine eg_iload_n dX3_clean_11 rfl rfl ?_
    refine eg_icmp_ge 38 dX3_clean_12 (by decide) (fun c12 => absurd c12 (nI_ge (by omega) (by omega))) (fun c12 => ?_)
    refine eg_aload_n dX3_clean_15 rfl rfl ?_
    refine eg_callV0 0 0 gk_X3_takeOutRepeated gi_X3_takeOutRepeated (by assumption) rfl gl_RX3_128 rfl (Nat.le_of_ble_eq_true rfl) (Nat.le_of_ble_eq_true rfl) (Nat.zero_le _) (Nat.zero_le _) (by omega) dX3_clean_16 ?_
    refine sp_X3_takeOutRepeated hs hI (by omega) (fun q M2 h1 h2 h3 h4 => ?_) (fun h1 => ?_)
    · have es : cl_step w n k cf p = some (pg_rm (n + k) q.1 q.2 p) := by unfold cl_step; rw [h1]
      refine eg_if_ne 32 dX3_clean_19 (by decide) (fun _ => ?_) (fun z => absurd z (by decide))
      refine eg_iinc dX3_clean_32 (by decide) rfl (eg_inc s) rfl ?_
      refine eg_goto 10 dX3_clean_35 (by decide) ?_
      have ea : cl_all w n k cf (t + 1) p = cl_all w n k cf t (pg_rm (n + k) q.1 q.2 p) := by rw [cl_all, es]
      rw [ea] at hQ
      refine ih (s + 1) _ M2 (by omega) ?_ h2 (hfr.tr h4) hQ
      show p.1 - 1 = t
      omega
    · refine eg_if_ne 32 dX3_clean_19 (by decide) (fun z => absurd (show nI 0 = 0 from rfl) z) (fun _ => ?_)
      refine eg_aload_n dX3_clean_22 rfl rfl ?_
      refine eg_callV0 0 0 gk_X3_takeOutNeedless gi_X3_takeOutNeedless k0 rfl gl_RX3_132 rfl (Nat.le_of_ble_eq_true rfl) (Nat.le_of_ble_eq_true rfl) (Nat.zero_le _) (Nat.zero_le _) (by omega) dX3_clean_23 ?_
      refine sp_X3_takeOutNeedless hs hI (by omega) (fun j M2 h2' h2 h3 h4 => ?_) (fun M2 h2 h3 h4 => ?_)
      · have es : cl_step w n k cf p = some (pg_rm (n + k) j 0 p) := by unfold cl_step; rw [h1]; dsimp only; rw [h2']
        refine eg_if_ne 32 dX3_clean_26 (by decide) (fun _ => ?_) (fun z => absurd z (by decide))
        refine eg_iinc dX3_clean_32 (by decide) rfl (eg_inc s) rfl ?_
        refine eg_goto 10 dX3_clean_35 (by decide) ?_
        have ea : cl_all w n k cf (t + 1) p = cl_all w n k cf t (pg_rm (n + k) j 0 p) := by rw [cl_all, es]
        rw [ea] at hQ
        refine ih (s + 1) _ M2 (by omega) ?_ h2 (hfr.tr h4) hQ
        show p.1 - 1 = t
        omega
      · have es : cl_step w n k cf p = none := by unfold cl_step; rw [h1]; dsimp only; rw [h2]
        have ea : cl_all w n k cf (t + 1) p = p := by rw [cl_all, es]
        rw [ea] at hQ
        refine eg_if_ne 32 dX3_clean_26 (by decide) (fun z => absurd (show nI 0 = 0 from rfl) z) (fun _ => ?_)
        refine eg_goto 38 dX3_clean_29 (by decide) ?_
        refine eg_iload_n dX3_clean_38 rfl rfl ?_
        refine eg_aload_n dX3_clean_39 rfl rfl ?_
        refine eg_getR gf_RX3_26 rfl k0 k6 dX3_clean_40 ?_
        refine eg_getI gf_RX3_64 rfl gr0 dX3_clean_43 ?_
        refine eg_topi (h3.2.1.1) ?_
        refine eg_isub dX3_clean_46 ?_
        refine eg_topi (pk_sub (by omega)) ?_
        exact eg_iret rfl dX3_clean_47 (hQ M2 h3 (hfr.tr h4))
set_option maxHeartbeats 2000000 in
theorem ap_C_clean {l : Launch} {E : eg_E} {d kb nb : Nat} {Q : Option Value → eg_G → eg_I → Prop} {G : eg_G} {M : eg_I} {b : Nat} {S : st_T} (hs : sh_C G b) (hok : st_ok S) (hI : ci_I M b S) (hd : 6 ≤ d) (hQ : ∀ M', ci_I M' b (ap_clean S).2 → ci_E M M' b → Q (some (.int (ap_clean S).1)) G M') : eg_J l E mX3_clean d kb nb Q 0 [some (.ref b), none, none] [] G M := by
  obtain ⟨k0, k1, k2, k3, k4, k5, kV, k6, kR, k7, kF, k8, k9, k10, kH⟩ := id hs
  obtain ⟨gv1, gv2, gv3, gv4⟩ := id kV
  obtain ⟨gr0, gr1, gr2, gr3, gr4, gr5, gr6⟩ := id kR
  obtain ⟨gf0, gf1, gf2, gf3, gf4, gf5, gf6⟩ := id kF
  have kh0 := kH.1
  obtain ⟨⟨w, n, k⟩, cf, co, tg, ⟨len, op, lf, rt, res⟩, ⟨fnd, flen, fop, flf, frt, fres⟩, t0, t1, t2, t3⟩ := S
  replace hI : ci_U M b w n k cf co tg len op lf rt res fnd flen fop flf frt fres t0 t1 t2 t3 := hI
  replace hok : ok_U w n k cf co len op lf rt res fnd flen fop flf frt fres := hok
  obtain ⟨a1, a2, a3, a4, a5, a6, a7, a8, a9, a10, a11⟩ := id hI
  obtain ⟨i1, i2, i3, i4, i5, hw1, hw4, hn1, hn2, hk4⟩ := id a1
  obtain ⟨p3, p4, pl, pa⟩ := id a5
  obtain ⟨-, -, -, -, -, cw, co9, pok, fok⟩ := id hok
  obtain ⟨-, pok2, pok3⟩ := id pok
  have hA := wd_asg hw4 hn2
  refine eg_aload_n dX3_clean_0 rfl rfl ?_
  refine eg_getR gf_RX3_26 rfl (by assumption) (by assumption) dX3_clean_1 ?_
  refine eg_getI gf_RX3_64 rfl (by assumption) dX3_clean_4 ?_
  refine eg_topi p3 ?_
  refine eg_istore_n dX3_clean_7 rfl (by decide) rfl ?_
  refine eg_iconst dX3_clean_8 (v := nI 0) (by decide) ?_
  refine eg_istore_n dX3_clean_9 rfl (by decide) rfl ?_
  refine lp_X3_clean (cf := cf) (M0 := M) (w := w) (n := n) (k := k) hs hd pl len 0 (len, op, lf, rt, res) M (by omega) rfl ⟨a1, a5, a2, pok⟩ cl_F.rf (fun M2 h2 h3 => ?_)
  replace hQ : ∀ M', ci_I M' b (((w, n, k), cf, co, tg, ((cl_all w n k cf len (len, op, lf, rt, res)).1, (cl_all w n k cf len (len, op, lf, rt, res)).2.1, (cl_all w n k cf len (len, op, lf, rt, res)).2.2.1, (cl_all w n k cf len (len, op, lf, rt, res)).2.2.2.1, (cl_all w n k cf len (len, op, lf, rt, res)).2.2.2.2), (fnd, flen, fop, flf, frt, fres), t0, t1, t2, t3)) → ci_E M M' b → Q (some (.int (nI (len - (cl_all w n k cf len (len, op, lf, rt, res)).1)))) G M' := hQ
  generalize cl_all w n k cf len (len, op, lf, rt, res) = p2 at h2 hQ ⊢
  obtain ⟨len2, op2, lf2, rt2, res2⟩ := p2
  obtain ⟨d1, d2, d3, d4⟩ := h2
  replace hQ : ∀ M', ci_U M' b w n k cf co tg len2 op2 lf2 rt2 res2 fnd flen fop flf frt fres t0 t1 t2 t3 → ci_E M M' b → Q (some (.int (nI (len - len2)))) G M' := hQ
  exact hQ M2 (⟨d1, d3, fun o ho => by rw [h3 _ (by omega) (by omega)]; exact a3 o ho, fun s q => by rw [h3 _ (by omega) (by omega)]; exact a4 s q, d2, by rw [h3 _ (by omega) (by omega)]; exact a6, fun q => (a7 q).eq (fun q q1 q2 => by rw [h3 _ (by omega) (by omega)]), by rw [h3 _ (by omega) (by omega)]; exact a8, by rw [h3 _ (by omega) (by omega)]; exact a9, by rw [h3 _ (by omega) (by omega)]; exact a10, by rw [h3 _ (by omega) (by omega)]; exact a11⟩) (fun q z => h3 q (by omega) (by omega))
