/-! ShortestCode: makeFrom, words, constant, aim, add, reads -/
set_option maxHeartbeats 2000000 in
theorem lp_X3_makeFrom {l : Launch} {E : eg_E} {d kb nb : Nat} {Q : Option Value → eg_G → eg_I → Prop} {G : eg_G} {b w n k len res : Nat} {cf : Nat → Int32} {op lf rt : Nat → Nat} {M0 : eg_I} (hd : 3 ≤ d) (hs : sh_C G b) (hpk : ∀ j, j < len → op j < 13 ∧ lf j < n + k + j ∧ rt j < n + k + j) : ∀ (t x : Nat) (M : eg_I) (l1 : Option Value), in_V M (b + 3) w n k → in_R M (b + 23) len op lf rt res → x + t = len → (∀ u s, u < n + k + x → s < 2 ^ (w * n) → M (b + 3 + 2 + u) s = sv w n k cf op lf rt u s) → (∀ q, ¬ (b + 5 ≤ q ∧ q < b + 23) → M q = M0 q) → (∀ M', (∀ u s, u < n + k + len → s < 2 ^ (w * n) → M' (b + 3 + 2 + u) s = sv w n k cf op lf rt u s) → (∀ q, ¬ (b + 5 ≤ q ∧ q < b + 23) → M' q = M0 q) → Q none G M') → eg_J l E mX3_makeFrom d kb nb Q 10 [some (.ref b), l1, some (.int (nI (n + k))), some (.int (nI x))] [] G M := by
  intro t
  induction t with
  | zero =>
    intro x M l1 h hr hxt hrow hfr hQ
    obtain ⟨k0, k1, k2, k3, k4, k5, kV, k6, kR, k7, kF, k8, k9, k10, kH⟩ := id hs
    obtain ⟨gv1, gv2, gv3, gv4⟩ := id kV
    obtain ⟨gr0, gr1, gr2, gr3, gr4, gr5, gr6⟩ := id kR
    obtain ⟨gf0, gf1, gf2, gf3, gf4, gf5, gf6⟩ := id kF
    have kh0 := kH.1
    obtain ⟨i1, i2, i3, i4, i5, hw1, hw4, hn1, hn2, hk4⟩ := id h
    obtain ⟨p3, p4, pl, pa⟩ := id hr
    have hA := wd_asg hw4 hn2
    refine eg_iload_n dX3_makeFrom_10 rfl rfl ?_
    refine eg_aload_n dX3_makeFrom_11 rfl rfl ?_
    refine eg_getR gf_RX3_26 rfl (by assumption) (by assumption) dX3_makeFrom_12 ?_
    refine eg_getI gf_RX3_64 rfl (by assumption) dX3_makeFrom_15 ?_
    refine eg_topi p3 ?_
    refine eg_icmp_ge 64 dX3_makeFrom_18 (by decide) (fun c18 => ?_) (fun c18 => absurd (nI_le (by omega) (by omega)) c18)
    exact eg_vret rfl dX3_makeFrom_64 (hQ M (fun u s z1 z2 => hrow u s (by omega) z2) hfr)
  | succ t ih =>
    intro x M l1 h hr hxt hrow hfr hQ
    obtain ⟨k0, k1, k2, k3, k4, k5, kV, k6, kR, k7, kF, k8, k9, k10, kH⟩ := id hs
    obtain ⟨gv1, gv2, gv3, gv4⟩ := id kV
    obtain ⟨gr0, gr1, gr2, gr3, gr4, gr5, gr6⟩ := id kR
    obtain ⟨gf0, gf1, gf2, gf3, gf4, gf5, gf6⟩ := id kF
    have kh0 := kH.1
    obtain ⟨i1, i2, i3, i4, i5, hw1, hw4, hn1, hn2, hk4⟩ := id h
    obtain ⟨p3, p4, pl, pa⟩ := id hr
    have hA := wd_asg hw4 hn2
    refine eg_iload_n dX3_makeFrom_10 rfl rfl ?_
    refine eg_aload_n dX3_makeFrom_11 rfl rfl ?_
    refine eg_getR gf_RX3_26 rfl (by assumption) (by assumption) dX3_makeFrom_12 ?_
    refine eg_getI gf_RX3_64 rfl (by assumption) dX3_makeFrom_15 ?_
    refine eg_topi p3 ?_
    refine eg_icmp_ge 64 dX3_makeFrom_18 (by decide) (fun c18 => absurd c18 (nI_ge (by omega) (by omega))) (fun c18 => ?_)
    refine eg_aload_n dX3_makeFrom_21 rfl rfl ?_
    refine eg_getR gf_RX3_19 rfl (by assumption) (by assumption) dX3_makeFrom_22 ?_
    refine eg_iload_n dX3_makeFrom_25 rfl rfl ?_
    refine eg_iload_n dX3_makeFrom_26 rfl rfl ?_
    refine eg_iadd dX3_makeFrom_27 ?_
    refine eg_topi (nI_add (n + k) x) ?_
    refine eg_aload_n dX3_makeFrom_28 rfl rfl ?_
    refine eg_getR gf_RX3_26 rfl (by assumption) (by assumption) dX3_makeFrom_29 ?_
    refine eg_getR gf_RX3_106 rfl (by assumption) (by assumption) dX3_makeFrom_32 ?_
    refine eg_iload_n dX3_makeFrom_35 rfl rfl ?_
    refine eg_ialdN (by assumption) (by omega) (by decide) dX3_makeFrom_36 ?_
    refine eg_topi (pa x (by omega)).1 ?_
    refine eg_aload_n dX3_makeFrom_37 rfl rfl ?_
    refine eg_getR gf_RX3_26 rfl (by assumption) (by assumption) dX3_makeFrom_38 ?_
    refine eg_getR gf_RX3_109 rfl (by assumption) (by assumption) dX3_makeFrom_41 ?_
    refine eg_iload_n dX3_makeFrom_44 rfl rfl ?_
    refine eg_ialdN (by assumption) (by omega) (by decide) dX3_makeFrom_45 ?_
    refine eg_topi (pa x (by omega)).2.1 ?_
    refine eg_aload_n dX3_makeFrom_46 rfl rfl ?_
    refine eg_getR gf_RX3_26 rfl (by assumption) (by assumption) dX3_makeFrom_47 ?_
    refine eg_getR gf_RX3_112 rfl (by assumption) (by assumption) dX3_makeFrom_50 ?_
    refine eg_iload_n dX3_makeFrom_53 rfl rfl ?_
    refine eg_ialdN (by assumption) (by omega) (by decide) dX3_makeFrom_54 ?_
    refine eg_topi (pa x (by omega)).2.2 ?_
    have hp := hpk x (by omega)
    refine eg_callV4 0 0 gk_X2_make gi_X2_make (by assumption) rfl gl_RX3_162 rfl (Nat.le_of_ble_eq_true rfl) (Nat.le_of_ble_eq_true rfl) (Nat.zero_le _) (Nat.zero_le _) (by omega) dX3_makeFrom_55 ?_
    refine sp_X2_make (by omega) kV hp.1 (by omega) (by omega) (by omega) h ?_
    refine eg_iinc dX3_makeFrom_58 (by decide) rfl (eg_inc x) rfl ?_
    refine eg_goto 10 dX3_makeFrom_61 (by decide) ?_
    refine ih (x + 1) _ _ (h.eq (eg_fl_ne (by omega))) (hr.eq (fun q z1 z2 => eg_fl_ne (by omega))) (by omega) (fun u s z1 z2 => ?_) (fun q z => ?_) hQ
    · by_cases e : u = n + k + x
      · subst e
        rw [eg_fl_in (by omega) z2, sv_op (fun j hj => (hpk j hj).2) (show x < len by omega), hrow _ s (by omega) z2, hrow _ s (by omega) z2]
      · rw [eg_fl_ne (by omega)]
        exact hrow u s (by omega) z2
    · rw [eg_fl_ne (by omega)]
      exact hfr q z
set_option maxHeartbeats 2000000 in
theorem sp_X3_makeFrom {l : Launch} {E : eg_E} {d kb nb : Nat} {Q : Option Value → eg_G → eg_I → Prop} {G : eg_G} {M : eg_I} {b w n k len res : Nat} {cf : Nat → Int32} {op lf rt : Nat → Nat} (hd : 3 ≤ d) (hs : sh_C G b) (hpk : ∀ j, j < len → op j < 13 ∧ lf j < n + k + j ∧ rt j < n + k + j) {x : Nat} (h : in_V M (b + 3) w n k) (hr : in_R M (b + 23) len op lf rt res) (hx : x ≤ len) (hrow : ∀ u s, u < n + k + x → s < 2 ^ (w * n) → M (b + 3 + 2 + u) s = sv w n k cf op lf rt u s) (hQ : (∀ M', (∀ u s, u < n + k + len → s < 2 ^ (w * n) → M' (b + 3 + 2 + u) s = sv w n k cf op lf rt u s) → (∀ q, ¬ (b + 5 ≤ q ∧ q < b + 23) → M' q = M q) → Q none G M')) : eg_J l E mX3_makeFrom d kb nb Q 0 [some (.ref b), some (.int (nI x)), none, none] [] G M := by
  obtain ⟨k0, k1, k2, k3, k4, k5, kV, k6, kR, k7, kF, k8, k9, k10, kH⟩ := id hs
  obtain ⟨gv1, gv2, gv3, gv4⟩ := id kV
  obtain ⟨gr0, gr1, gr2, gr3, gr4, gr5, gr6⟩ := id kR
  obtain ⟨gf0, gf1, gf2, gf3, gf4, gf5, gf6⟩ := id kF
  have kh0 := kH.1
  refine eg_aload_n dX3_makeFrom_0 rfl rfl ?_
  refine eg_getR gf_RX3_19 rfl (by assumption) (by assumption) dX3_makeFrom_1 ?_
  refine eg_callV0 0 0 gk_X2_given gi_X2_given (by assumption) rfl gl_RX3_73 rfl (Nat.le_of_ble_eq_true rfl) (Nat.le_of_ble_eq_true rfl) (Nat.zero_le _) (Nat.zero_le _) (by omega) dX3_makeFrom_4 ?_
  refine sp_X2_given gv1 h ?_
  refine eg_istore_n dX3_makeFrom_7 rfl (by decide) rfl ?_
  refine eg_iload_n dX3_makeFrom_8 rfl rfl ?_
  refine eg_istore_n dX3_makeFrom_9 rfl (by decide) rfl ?_
  exact lp_X3_makeFrom hd hs hpk (len - x) x M _ h hr (by omega) hrow (fun _ _ => rfl) hQ
set_option maxHeartbeats 2000000 in
theorem lp_X3_words {l : Launch} {E : eg_E} {d kb nb : Nat} {Q : Option Value → eg_G → eg_I → Prop} {G : eg_G} {b : Nat} {x y : Int32} (hs : sh_C G b) : ∀ (t s : Nat) (M : eg_I), s + t = 256 → eg_J l E mX3_words d kb nb Q 62 [some (.ref b), some (.int x), some (.int y), some (.int (nI 256))] [] G (eg_fl M (b + 2) s 256 (fun _ => nI 0)) → eg_J l E mX3_words d kb nb Q 42 [some (.ref b), some (.int x), some (.int y), some (.int (nI s))] [] G M := by
  intro t
  induction t with
  | zero =>
    intro s M hst hQ
    obtain ⟨k0, k1, k2, k3, k4, k5, kV, k6, kR, k7, kF, k8, k9, k10, kH⟩ := id hs
    obtain ⟨gv1, gv2, gv3, gv4⟩ := id kV
    obtain ⟨gr0, gr1, gr2, gr3, gr4, gr5, gr6⟩ := id kR
    obtain ⟨gf0, gf1, gf2, gf3, gf4, gf5, gf6⟩ := id kF
    have kh0 := kH.1
    refine eg_iload_n dX3_words_42 rfl rfl ?_
    refine eg_sipush dX3_words_43 (v := nI 256) (by decide) ?_
    refine eg_icmp_ge 62 dX3_words_46 (by decide) (fun c46 => ?_) (fun c46 => absurd (nI_le (a := 256) (by omega) (by omega)) c46)
    have e : s = 256 := by omega
    subst e
    rw [eg_fl_0 (by omega)] at hQ
    exact hQ
  | succ t ih =>
    intro s M hst hQ
    obtain ⟨k0, k1, k2, k3, k4, k5, kV, k6, kR, k7, kF, k8, k9, k10, kH⟩ := id hs
    obtain ⟨gv1, gv2, gv3, gv4⟩ := id kV
    obtain ⟨gr0, gr1, gr2, gr3, gr4, gr5, gr6⟩ := id kR
    obtain ⟨gf0, gf1, gf2, gf3, gf4, gf5, gf6⟩ := id kF
    have kh0 := kH.1
    refine eg_iload_n dX3_words_42 rfl rfl ?_
    refine eg_sipush dX3_words_43 (v := nI 256) (by decide) ?_
    refine eg_icmp_ge 62 dX3_words_46 (by decide) (fun c46 => absurd c46 (nI_ge (b := 256) (by omega) (by omega))) (fun c46 => ?_)
    refine eg_aload_n dX3_words_49 rfl rfl ?_
    refine eg_getR gf_RX3_13 rfl (by assumption) (by assumption) dX3_words_50 ?_
    refine eg_iload_n dX3_words_53 rfl rfl ?_
    refine eg_iconst dX3_words_54 (v := nI 0) (by decide) ?_
    refine eg_iastN (by assumption) (by omega) (by decide) dX3_words_55 ?_
    refine eg_iinc dX3_words_56 (by decide) rfl (eg_inc s) rfl ?_
    refine eg_goto 42 dX3_words_59 (by decide) ?_
    exact ih (s + 1) _ (by omega) (eg_fl_q (P := fun z => eg_J l E mX3_words d kb nb Q 62 [some (.ref b), some (.int x), some (.int y), some (.int (nI 256))] [] G z) (f := fun _ => nI 0) (by omega) (fun j g1 _ => rfl) hQ)
set_option maxHeartbeats 2000000 in
theorem ap_C_words {l : Launch} {E : eg_E} {d kb nb : Nat} {Q : Option Value → eg_G → eg_I → Prop} {G : eg_G} {M : eg_I} {b : Nat} {S : st_T} (hs : sh_C G b) (hok : st_ok S) (hI : ci_I M b S) {x y : Int32} (hd : 1 ≤ d) (hQ : ∀ M', ci_I M' b (ap_words S x y).2 → ci_E M M' b → Q (some (.int (ap_words S x y).1)) G M') : eg_J l E mX3_words d kb nb Q 0 [some (.ref b), some (.int x), some (.int y), none] [] G M := by
  obtain ⟨k0, k1, k2, k3, k4, k5, kV, k6, kR, k7, kF, k8, k9, k10, kH⟩ := id hs
  obtain ⟨gv1, gv2, gv3, gv4⟩ := id kV
  obtain ⟨gr0, gr1, gr2, gr3, gr4, gr5, gr6⟩ := id kR
  obtain ⟨gf0, gf1, gf2, gf3, gf4, gf5, gf6⟩ := id kF
  have kh0 := kH.1
  obtain ⟨⟨w, n, k⟩, cf, co, tg, ⟨len, op, lf, rt, res⟩, ⟨fnd, flen, fop, flf, frt, fres⟩, t0, t1, t2, t3⟩ := S
  replace hI : ci_U M b w n k cf co tg len op lf rt res fnd flen fop flf frt fres t0 t1 t2 t3 := hI
  replace hok : ok_U w n k cf co len op lf rt res fnd flen fop flf frt fres := hok
  obtain ⟨a1, a2, a3, a4, a5, a6, a7, a8, a9, a10, a11⟩ := id hI
  obtain ⟨i1, i2, i3, i4, i5, hw1, hw4, hn1, hn2, hk4⟩ := id a1
  obtain ⟨p3, p4, pl, pa⟩ := id a5
  obtain ⟨-, -, -, -, -, cw, co9, pok, fok⟩ := id hok
  obtain ⟨-, pok2, pok3⟩ := id pok
  have hA := wd_asg hw4 hn2
  refine eg_iload_n dX3_words_0 rfl rfl ?_
  refine eg_iconst dX3_words_1 (v := nI 1) (by decide) ?_
  refine eg_icmp_lt 20 dX3_words_2 (by decide) (fun c1 => ?_) (fun c1 => ?_)
  · refine eg_bipush dX3_words_20 (v := -2) (by decide) ?_
    exact eg_iret rfl dX3_words_22 (by
          have e : ap_words ((w, n, k), cf, co, tg, (len, op, lf, rt, res), (fnd, flen, fop, flf, frt, fres), t0, t1, t2, t3) x y = (-2, ((w, n, k), cf, co, tg, (len, op, lf, rt, res), (fnd, flen, fop, flf, frt, fres), t0, t1, t2, t3)) := if_pos (by first | exact Or.inl c1 | exact Or.inr (Or.inl c2) | exact Or.inr (Or.inr (Or.inl c3)) | exact Or.inr (Or.inr (Or.inr (Int32.not_le.mp c4))))
          rw [e] at hQ
          exact hQ M hI ci_E.rf)
  · refine eg_iload_n dX3_words_5 rfl rfl ?_
    refine eg_iconst dX3_words_6 (v := nI 4) (by decide) ?_
    refine eg_icmp_gt 20 dX3_words_7 (by decide) (fun c2 => ?_) (fun c2 => ?_)
    · refine eg_bipush dX3_words_20 (v := -2) (by decide) ?_
      exact eg_iret rfl dX3_words_22 (by
            have e : ap_words ((w, n, k), cf, co, tg, (len, op, lf, rt, res), (fnd, flen, fop, flf, frt, fres), t0, t1, t2, t3) x y = (-2, ((w, n, k), cf, co, tg, (len, op, lf, rt, res), (fnd, flen, fop, flf, frt, fres), t0, t1, t2, t3)) := if_pos (by first | exact Or.inl c1 | exact Or.inr (Or.inl c2) | exact Or.inr (Or.inr (Or.inl c3)) | exact Or.inr (Or.inr (Or.inr (Int32.not_le.mp c4))))
            rw [e] at hQ
            exact hQ M hI ci_E.rf)
    · refine eg_iload_n dX3_words_10 rfl rfl ?_
      refine eg_iconst dX3_words_11 (v := nI 1) (by decide) ?_
      refine eg_icmp_lt 20 dX3_words_12 (by decide) (fun c3 => ?_) (fun c3 => ?_)
      · refine eg_bipush dX3_words_20 (v := -2) (by decide) ?_
        exact eg_iret rfl dX3_words_22 (by
              have e : ap_words ((w, n, k), cf, co, tg, (len, op, lf, rt, res), (fnd, flen, fop, flf, frt, fres), t0, t1, t2, t3) x y = (-2, ((w, n, k), cf, co, tg, (len, op, lf, rt, res), (fnd, flen, fop, flf, frt, fres), t0, t1, t2, t3)) := if_pos (by first | exact Or.inl c1 | exact Or.inr (Or.inl c2) | exact Or.inr (Or.inr (Or.inl c3)) | exact Or.inr (Or.inr (Or.inr (Int32.not_le.mp c4))))
              rw [e] at hQ
              exact hQ M hI ci_E.rf)
      · refine eg_iload_n dX3_words_15 rfl rfl ?_
        refine eg_iconst dX3_words_16 (v := nI 2) (by decide) ?_
        refine eg_icmp_le 23 dX3_words_17 (by decide) (fun c4 => ?_) (fun c4 => ?_)
        · have e : ap_words ((w, n, k), cf, co, tg, (len, op, lf, rt, res), (fnd, flen, fop, flf, frt, fres), t0, t1, t2, t3) x y = (nI (2 ^ (x.toNatClampNeg * y.toNatClampNeg)), ((x.toNatClampNeg, y.toNatClampNeg, 0), cf, co, (fun _ => 0), (0, op, lf, rt, 0), (false, flen, fop, flf, frt, fres), t0, t1, t2, t3)) := if_neg (fun q => q.elim c1 (fun q => q.elim c2 (fun q => q.elim c3 (Int32.not_lt.mpr c4))))
          rw [e] at hQ
          obtain ⟨X, rfl, hX1, hX4⟩ := nI_rng c1 c2 (by omega) (by omega)
          obtain ⟨Y, rfl, hY1, hY2⟩ := nI_rng c3 (Int32.not_lt.mpr c4) (by omega) (by omega)
          rw [nI_clamp (by omega), nI_clamp (by omega)] at hQ
          replace hQ : ∀ M', ci_U M' b X Y 0 cf co ((fun _ => 0)) 0 op lf rt 0 false flen fop flf frt fres t0 t1 t2 t3 → ci_E M M' b → Q (some (.int (nI (2 ^ (X * Y))))) G M' := hQ
          refine eg_aload_n dX3_words_23 rfl rfl ?_
          refine eg_getR gf_RX3_19 rfl (by assumption) (by assumption) dX3_words_24 ?_
          refine eg_iload_n dX3_words_27 rfl rfl ?_
          refine eg_iload_n dX3_words_28 rfl rfl ?_
          refine eg_callV2 0 0 gk_X2_setInputs gi_X2_setInputs (by assumption) rfl gl_RX3_44 rfl (Nat.le_of_ble_eq_true rfl) (Nat.le_of_ble_eq_true rfl) (Nat.zero_le _) (Nat.zero_le _) (by omega) dX3_words_29 ?_
          refine sp_X2_setInputs kV hX1 hX4 hY1 hY2 (fun M1 h1 => ?_)
          refine eg_aload_n dX3_words_32 rfl rfl ?_
          refine eg_getR gf_RX3_26 rfl (by assumption) (by assumption) dX3_words_33 ?_
          refine eg_iconst dX3_words_36 (v := nI 0) (by decide) ?_
          refine eg_callV1 0 0 gk_X1_empty gi_X1_empty (by assumption) rfl gl_RX3_48 rfl (Nat.le_of_ble_eq_true rfl) (Nat.le_of_ble_eq_true rfl) (Nat.zero_le _) (Nat.zero_le _) (by omega) dX3_words_37 ?_
          refine sp_X1_empty kR ?_
          refine eg_iconst dX3_words_40 (v := nI 0) (by decide) ?_
          refine eg_istore_n dX3_words_41 rfl (by decide) rfl ?_
          refine lp_X3_words hs 256 0 _ (by omega) ?_
          refine eg_aload_n dX3_words_62 rfl rfl ?_
          refine eg_iconst dX3_words_63 (v := nI 0) (by decide) ?_
          refine eg_putI gp_RX3_52 (fun q => by cases q) rfl rfl rfl k0 dX3_words_64 ?_
          generalize hM3 : eg_set (eg_fl (eg_set (eg_set M1 (b + 23) 3 (nI 0)) (b + 23) 4 (nI 0)) (b + 2) 0 256 (fun _ => nI 0)) b 7 (nI 0) = M3
          have o3 : ∀ q, q ≠ b → q ≠ b + 2 → q ≠ b + 23 → M3 q = M1 q := fun q z1 z2 z3 => by rw [← hM3, eg_set_ne z1, eg_fl_ne z2, eg_set_ne z3, eg_set_ne z3]
          have b1 := h1.1.eq (o3 (b + 3) (by omega) (by omega) (by omega))
          refine eg_aload_n dX3_words_67 rfl rfl ?_
          refine eg_getR gf_RX3_19 rfl k0 k5 dX3_words_68 ?_
          refine eg_getI gf_RX3_56 rfl gv1 dX3_words_71 ?_
          refine eg_topi b1.2.2.2.2.1 ?_
          have oo : ∀ q, ¬ (b + 3 ≤ q ∧ q < b + 23) → q ≠ b → q ≠ b + 2 → q ≠ b + 23 → M3 q = M q := fun q z1 z2 z3 z4 => by rw [o3 q z2 z3 z4, h1.2.2 q (by omega) (by omega)]
          refine eg_iret rfl dX3_words_74 (hQ M3 ⟨b1, fun u s q1 q2 => ?_, fun o ho => ?_, fun s q => ?_, ⟨?_, ?_, by omega, fun j hj => absurd hj (by omega)⟩, ?_, fun q => absurd q (by decide), ?_, ?_, ?_, ?_⟩ (fun q z => oo q (by omega) (by omega) (by omega) (by omega)))
          · rw [o3 _ (by omega) (by omega) (by omega), h1.2.1 u s (by omega) q2, sv_in (by omega)]
          · rw [oo _ (by omega) (by omega) (by omega) (by omega)]; exact a3 o ho
          · rw [← hM3, eg_set_ne (by omega), eg_fl_in (by omega) q]; rfl
          · rw [← hM3, eg_set_ne (by omega), eg_fl_ne (by omega), eg_set_j (by decide), eg_set_eq]
          · rw [← hM3, eg_set_ne (by omega), eg_fl_ne (by omega), eg_set_eq]
          · rw [← hM3, eg_set_eq]; rfl
          · rw [oo _ (by omega) (by omega) (by omega) (by omega)]; exact a8
          · rw [oo _ (by omega) (by omega) (by omega) (by omega)]; exact a9
          · rw [oo _ (by omega) (by omega) (by omega) (by omega)]; exact a10
          · rw [oo _ (by omega) (by omega) (by omega) (by omega)]; exact a11
        · refine eg_bipush dX3_words_20 (v := -2) (by decide) ?_
          exact eg_iret rfl dX3_words_22 (by
                have e : ap_words ((w, n, k), cf, co, tg, (len, op, lf, rt, res), (fnd, flen, fop, flf, frt, fres), t0, t1, t2, t3) x y = (-2, ((w, n, k), cf, co, tg, (len, op, lf, rt, res), (fnd, flen, fop, flf, frt, fres), t0, t1, t2, t3)) := if_pos (by first | exact Or.inl c1 | exact Or.inr (Or.inl c2) | exact Or.inr (Or.inr (Or.inl c3)) | exact Or.inr (Or.inr (Or.inr (Int32.not_le.mp c4))))
                rw [e] at hQ
                exact hQ M hI ci_E.rf)
set_option maxHeartbeats 2000000 in
theorem ap_C_constant {l : Launch} {E : eg_E} {d kb nb : Nat} {Q : Option Value → eg_G → eg_I → Prop} {G : eg_G} {M : eg_I} {b : Nat} {S : st_T} (hs : sh_C G b) (hok : st_ok S) (hI : ci_I M b S) {x : Int32} (hd : 2 ≤ d) (hQ : ∀ M', ci_I M' b (ap_constant S x).2 → ci_E M M' b → Q (some (.int (ap_constant S x).1)) G M') : eg_J l E mX3_constant d kb nb Q 0 [some (.ref b), some (.int x)] [] G M := by
  obtain ⟨k0, k1, k2, k3, k4, k5, kV, k6, kR, k7, kF, k8, k9, k10, kH⟩ := id hs
  obtain ⟨gv1, gv2, gv3, gv4⟩ := id kV
  obtain ⟨gr0, gr1, gr2, gr3, gr4, gr5, gr6⟩ := id kR
  obtain ⟨gf0, gf1, gf2, gf3, gf4, gf5, gf6⟩ := id kF
  have kh0 := kH.1
  obtain ⟨⟨w, n, k⟩, cf, co, tg, ⟨len, op, lf, rt, res⟩, ⟨fnd, flen, fop, flf, frt, fres⟩, t0, t1, t2, t3⟩ := S
  replace hI : ci_U M b w n k cf co tg len op lf rt res fnd flen fop flf frt fres t0 t1 t2 t3 := hI
  replace hok : ok_U w n k cf co len op lf rt res fnd flen fop flf frt fres := hok
  obtain ⟨a1, a2, a3, a4, a5, a6, a7, a8, a9, a10, a11⟩ := id hI
  obtain ⟨i1, i2, i3, i4, i5, hw1, hw4, hn1, hn2, hk4⟩ := id a1
  obtain ⟨p3, p4, pl, pa⟩ := id a5
  obtain ⟨-, -, -, -, -, cw, co9, pok, fok⟩ := id hok
  obtain ⟨-, pok2, pok3⟩ := id pok
  have hA := wd_asg hw4 hn2
  refine eg_aload_n dX3_constant_0 rfl rfl ?_
  refine eg_getR gf_RX3_19 rfl (by assumption) (by assumption) dX3_constant_1 ?_
  refine eg_iload_n dX3_constant_4 rfl rfl ?_
  refine eg_callV1 0 0 gk_X2_isWord gi_X2_isWord (by assumption) rfl gl_RX3_60 rfl (Nat.le_of_ble_eq_true rfl) (Nat.le_of_ble_eq_true rfl) (Nat.zero_le _) (Nat.zero_le _) (by omega) dX3_constant_5 ?_
  refine sp_X2_isWord gv1 a1 (fun z1 z2 => ?_) (fun z => ?_)
  · refine eg_if_ne 14 dX3_constant_8 (by decide) (fun _ => ?_) (fun z => absurd z (by decide))
    refine eg_aload_n dX3_constant_14 rfl rfl ?_
    refine eg_getR gf_RX3_26 rfl (by assumption) (by assumption) dX3_constant_15 ?_
    refine eg_getI gf_RX3_64 rfl (by assumption) dX3_constant_18 ?_
    refine eg_topi p3 ?_
    refine eg_if_le 27 dX3_constant_21 (by decide) (fun c1 => ?_) (fun c1 => ?_)
    · have hl : ¬ 0 < len := fun q => absurd c1 (nI_nle q (by omega))
      refine eg_aload_n dX3_constant_27 rfl rfl ?_
      refine eg_getR gf_RX3_19 rfl (by assumption) (by assumption) dX3_constant_28 ?_
      refine eg_getI gf_RX3_67 rfl (by assumption) dX3_constant_31 ?_
      refine eg_topi i4 ?_
      refine eg_iconst dX3_constant_34 (v := nI 4) (by decide) ?_
      refine eg_icmp_lt 41 dX3_constant_35 (by decide) (fun c2 => ?_) (fun c2 => ?_)
      · have hk : ¬ 4 ≤ k := fun q => absurd c2 (nI_nlt q (by omega))
        have e : ap_constant ((w, n, k), cf, co, tg, (len, op, lf, rt, res), (fnd, flen, fop, flf, frt, fres), t0, t1, t2, t3) x = (nI (n + k), ((w, n, k + 1), ss_up cf k x, co, tg, (len, op, lf, rt, res), (false, flen, fop, flf, frt, fres), t0, t1, t2, t3)) := by
          unfold ap_constant
          rw [if_neg (fun q => q.elim z1 z2), if_neg hl, if_neg hk]
        rw [e] at hQ
        replace hQ : ∀ M', ci_U M' b w n (k + 1) (ss_up cf k x) co tg len op lf rt res false flen fop flf frt fres t0 t1 t2 t3 → ci_E M M' b → Q (some (.int (nI (n + k)))) G M' := hQ
        refine eg_aload_n dX3_constant_41 rfl rfl ?_
        refine eg_getR gf_RX3_19 rfl (by assumption) (by assumption) dX3_constant_42 ?_
        refine eg_iload_n dX3_constant_45 rfl rfl ?_
        refine eg_callV1 0 0 gk_X2_appendConstant gi_X2_appendConstant (by assumption) rfl gl_RX3_70 rfl (Nat.le_of_ble_eq_true rfl) (Nat.le_of_ble_eq_true rfl) (Nat.zero_le _) (Nat.zero_le _) (by omega) dX3_constant_46 ?_
        refine sp_X2_appendConstant (by omega) kV a1 ?_
        refine eg_aload_n dX3_constant_49 rfl rfl ?_
        refine eg_iconst dX3_constant_50 (v := nI 0) (by decide) ?_
        refine eg_putI gp_RX3_52 (fun q => by cases q) rfl rfl rfl (by assumption) dX3_constant_51 ?_
        generalize hM2 : eg_set (eg_set (eg_fl M (b + 3 + 2 + (n + k)) 0 (2 ^ (w * n)) (fun _ => x)) (b + 3) 4 (nI (k + 1))) b 7 (nI 0) = M2
        have o2 : ∀ q, q ≠ b → q ≠ b + 3 → q ≠ b + 3 + 2 + (n + k) → M2 q = M q := fun q y1 y2 y3 => by rw [← hM2, eg_set_ne y1, eg_set_ne y2, eg_fl_ne y3]
        have hf : ∀ j, j ≠ 4 → M2 (b + 3) j = M (b + 3) j := fun j y => by rw [← hM2, eg_set_ne (by omega), eg_set_j y, eg_fl_ne (by omega)]
        have b1 : in_V M2 (b + 3) w n (k + 1) := ⟨by rw [hf 1 (by decide)]; exact i1, by rw [hf 2 (by decide)]; exact i2, by rw [hf 3 (by decide)]; exact i3, by rw [← hM2, eg_set_ne (by omega), eg_set_eq], by rw [hf 5 (by decide)]; exact i5, hw1, hw4, hn1, hn2, by omega⟩
        refine eg_aload_n dX3_constant_54 rfl rfl ?_
        refine eg_getR gf_RX3_19 rfl (by assumption) (by assumption) dX3_constant_55 ?_
        refine eg_callV0 0 0 gk_X2_given gi_X2_given (by assumption) rfl gl_RX3_73 rfl (Nat.le_of_ble_eq_true rfl) (Nat.le_of_ble_eq_true rfl) (Nat.zero_le _) (Nat.zero_le _) (by omega) dX3_constant_58 ?_
        refine sp_X2_given gv1 b1 ?_
        refine eg_iconst dX3_constant_61 (v := nI 1) (by decide) ?_
        refine eg_isub dX3_constant_62 ?_
        refine eg_topi (show nI (n + (k + 1)) - nI 1 = nI (n + k) from pk_sub (by omega)) ?_
        exact eg_iret rfl dX3_constant_63 (hQ M2 (⟨b1, fun u s q1 q2 => by
              by_cases e : u = n + k
              · subst e
                rw [← hM2, eg_set_ne (by omega), eg_set_ne (by omega), eg_fl_in (by omega) q2, sv_c (by omega), ss_up_e]
              · rw [o2 _ (by omega) (by omega) (by omega), a2 u s (by omega) q2]
                by_cases e2 : u < n
                · rw [sv_in e2, sv_in e2]
                · obtain ⟨v, rfl⟩ : ∃ v, u = n + v := ⟨u - n, by omega⟩
                  rw [sv_c (by omega), sv_c (by omega), ss_up_n (by omega)], fun o ho => by rw [o2 _ (by omega) (by omega) (by omega)]; exact a3 o ho, fun s q => by rw [o2 _ (by omega) (by omega) (by omega)]; exact a4 s q, a5.eq (fun q q1 q2 => by rw [o2 _ (by omega) (by omega) (by omega)]), by rw [← hM2, eg_set_eq]; rfl, fun q => absurd q (by decide), by rw [o2 _ (by omega) (by omega) (by omega)]; exact a8, by rw [o2 _ (by omega) (by omega) (by omega)]; exact a9, by rw [o2 _ (by omega) (by omega) (by omega)]; exact a10, by rw [o2 _ (by omega) (by omega) (by omega)]; exact a11⟩) (fun q z => o2 q (by omega) (by omega) (by omega)))
      · refine eg_bipush dX3_constant_38 (v := -4) (by decide) ?_
        exact eg_iret rfl dX3_constant_40 (by
              have hk : 4 ≤ k := Nat.le_of_not_lt (fun q => c2 (nI_lt q (by omega)))
              have e : ap_constant ((w, n, k), cf, co, tg, (len, op, lf, rt, res), (fnd, flen, fop, flf, frt, fres), t0, t1, t2, t3) x = (-4, ((w, n, k), cf, co, tg, (len, op, lf, rt, res), (fnd, flen, fop, flf, frt, fres), t0, t1, t2, t3)) := by
                unfold ap_constant
                rw [if_neg (fun q => q.elim z1 z2), if_neg hl, if_pos hk]
              rw [e] at hQ
              exact hQ M hI ci_E.rf)
    · refine eg_bipush dX3_constant_24 (v := -3) (by decide) ?_
      exact eg_iret rfl dX3_constant_26 (by
            have hl : 0 < len := Nat.pos_of_ne_zero (fun q => c1 (by rw [q]; decide))
            have e : ap_constant ((w, n, k), cf, co, tg, (len, op, lf, rt, res), (fnd, flen, fop, flf, frt, fres), t0, t1, t2, t3) x = (-3, ((w, n, k), cf, co, tg, (len, op, lf, rt, res), (fnd, flen, fop, flf, frt, fres), t0, t1, t2, t3)) := by
              unfold ap_constant
              rw [if_neg (fun q => q.elim z1 z2), if_pos hl]
            rw [e] at hQ
            exact hQ M hI ci_E.rf)
  · refine eg_if_ne 14 dX3_constant_8 (by decide) (fun z => absurd (show nI 0 = 0 from rfl) z) (fun _ => ?_)
    refine eg_bipush dX3_constant_11 (v := -2) (by decide) ?_
    have e : ap_constant ((w, n, k), cf, co, tg, (len, op, lf, rt, res), (fnd, flen, fop, flf, frt, fres), t0, t1, t2, t3) x = (-2, ((w, n, k), cf, co, tg, (len, op, lf, rt, res), (fnd, flen, fop, flf, frt, fres), t0, t1, t2, t3)) := if_pos z
    rw [e] at hQ
    exact eg_iret rfl dX3_constant_13 (hQ M hI ci_E.rf)
set_option maxHeartbeats 2000000 in
theorem lp_X3_aim {l : Launch} {E : eg_E} {d kb nb : Nat} {Q : Option Value → eg_G → eg_I → Prop} {G : eg_G} {b w n k res : Nat} {M0 : eg_I} (hs : sh_C G b) (hres : res < 18) : ∀ (t s : Nat) (M : eg_I), in_V M (b + 3) w n k → s + t = 2 ^ (w * n) → M = eg_fl M0 (b + 2) 0 s (fun j => M0 (b + 3 + 2 + res) j) → (∀ M', M' = eg_fl M0 (b + 2) 0 (2 ^ (w * n)) (fun j => M0 (b + 3 + 2 + res) j) → Q (some (.int (nI (cnt (fun s => ¬ M0 (b + 2) s = M0 (b + 3 + 2 + res) s) (2 ^ (w * n)))))) G M') → eg_J l E mX3_aim d kb nb Q 20 [some (.ref b), some (.ref (b + 3 + 2 + res)), some (.int (nI (cnt (fun s => ¬ M0 (b + 2) s = M0 (b + 3 + 2 + res) s) s))), some (.int (nI s))] [] G M := by
  intro t
  induction t with
  | zero =>
    intro s M h hst hM hQ
    obtain ⟨k0, k1, k2, k3, k4, k5, kV, k6, kR, k7, kF, k8, k9, k10, kH⟩ := id hs
    obtain ⟨gv1, gv2, gv3, gv4⟩ := id kV
    obtain ⟨gr0, gr1, gr2, gr3, gr4, gr5, gr6⟩ := id kR
    obtain ⟨gf0, gf1, gf2, gf3, gf4, gf5, gf6⟩ := id kF
    have kh0 := kH.1
    obtain ⟨i1, i2, i3, i4, i5, hw1, hw4, hn1, hn2, hk4⟩ := id h
    have hA := wd_asg hw4 hn2
    have er : ∀ j, M (b + 3 + 2 + res) j = M0 (b + 3 + 2 + res) j := fun j => by rw [hM, eg_fl_ne (by omega)]
    have et : ∀ j, s ≤ j → M (b + 2) j = M0 (b + 2) j := fun j hj => by rw [hM, eg_fl_out (Or.inr hj)]
    refine eg_iload_n dX3_aim_20 rfl rfl ?_
    refine eg_aload_n dX3_aim_21 rfl rfl ?_
    refine eg_getR gf_RX3_19 rfl (by assumption) (by assumption) dX3_aim_22 ?_
    refine eg_getI gf_RX3_56 rfl (by assumption) dX3_aim_25 ?_
    refine eg_topi i5 ?_
    refine eg_icmp_ge 61 dX3_aim_28 (by decide) (fun c28 => ?_) (fun c28 => absurd (nI_le (by omega) (by omega)) c28)
    refine eg_iload_n dX3_aim_61 rfl rfl ?_
    have e : s = 2 ^ (w * n) := by omega
    rw [e] at hM ⊢
    exact eg_iret rfl dX3_aim_62 (hQ M hM)
  | succ t ih =>
    intro s M h hst hM hQ
    obtain ⟨k0, k1, k2, k3, k4, k5, kV, k6, kR, k7, kF, k8, k9, k10, kH⟩ := id hs
    obtain ⟨gv1, gv2, gv3, gv4⟩ := id kV
    obtain ⟨gr0, gr1, gr2, gr3, gr4, gr5, gr6⟩ := id kR
    obtain ⟨gf0, gf1, gf2, gf3, gf4, gf5, gf6⟩ := id kF
    have kh0 := kH.1
    obtain ⟨i1, i2, i3, i4, i5, hw1, hw4, hn1, hn2, hk4⟩ := id h
    have hA := wd_asg hw4 hn2
    have er : ∀ j, M (b + 3 + 2 + res) j = M0 (b + 3 + 2 + res) j := fun j => by rw [hM, eg_fl_ne (by omega)]
    have et : ∀ j, s ≤ j → M (b + 2) j = M0 (b + 2) j := fun j hj => by rw [hM, eg_fl_out (Or.inr hj)]
    refine eg_iload_n dX3_aim_20 rfl rfl ?_
    refine eg_aload_n dX3_aim_21 rfl rfl ?_
    refine eg_getR gf_RX3_19 rfl (by assumption) (by assumption) dX3_aim_22 ?_
    refine eg_getI gf_RX3_56 rfl (by assumption) dX3_aim_25 ?_
    refine eg_topi i5 ?_
    refine eg_icmp_ge 61 dX3_aim_28 (by decide) (fun c28 => absurd c28 (nI_ge (by omega) (by omega))) (fun c28 => ?_)
    refine eg_aload_n dX3_aim_31 rfl rfl ?_
    refine eg_getR gf_RX3_13 rfl (by assumption) (by assumption) dX3_aim_32 ?_
    refine eg_iload_n dX3_aim_35 rfl rfl ?_
    refine eg_ialdN (by assumption) (by omega) (by decide) dX3_aim_36 ?_
    refine eg_topi (et s (Nat.le_refl _)) ?_
    refine eg_aload_n dX3_aim_37 rfl rfl ?_
    refine eg_iload_n dX3_aim_38 rfl rfl ?_
    refine eg_ialdN (gv4 res hres).2 (by omega) (by decide) dX3_aim_39 ?_
    refine eg_topi (er s) ?_
    refine eg_icmp_eq 55 dX3_aim_40 (by decide) (fun c => ?_) (fun c => ?_)
    · refine eg_iinc dX3_aim_55 (by decide) rfl (eg_inc s) rfl ?_
      refine eg_goto 20 dX3_aim_58 (by decide) ?_
      have ex : eg_fl M0 (b + 2) 0 (s + 1) (fun j => M0 (b + 3 + 2 + res) j) = eg_set (eg_fl M0 (b + 2) 0 s (fun j => M0 (b + 3 + 2 + res) j)) (b + 2) s (M0 (b + 3 + 2 + res) s) := eg_fl_r (by omega)
      have ec : cnt (fun s => ¬ M0 (b + 2) s = M0 (b + 3 + 2 + res) s) (s + 1) = cnt (fun s => ¬ M0 (b + 2) s = M0 (b + 3 + 2 + res) s) s := by
        rw [cnt, if_neg (fun q => q c), Nat.add_zero]
      have h9 := ih (s + 1) M h (by omega) (by
        rw [ex, ← hM]
        funext q j
        unfold eg_set
        by_cases e : q = b + 2 ∧ j = s
        · rw [if_pos e, e.1, e.2, et s (Nat.le_refl _), c]
        · rw [if_neg e]) hQ
      rw [ec] at h9
      exact h9
    · refine eg_aload_n dX3_aim_43 rfl rfl ?_
      refine eg_getR gf_RX3_13 rfl (by assumption) (by assumption) dX3_aim_44 ?_
      refine eg_iload_n dX3_aim_47 rfl rfl ?_
      refine eg_aload_n dX3_aim_48 rfl rfl ?_
      refine eg_iload_n dX3_aim_49 rfl rfl ?_
      refine eg_ialdN (gv4 res hres).2 (by omega) (by decide) dX3_aim_50 ?_
      refine eg_topi (er s) ?_
      refine eg_iastN (by assumption) (by omega) (by decide) dX3_aim_51 ?_
      refine eg_iinc dX3_aim_52 (by decide) rfl (eg_inc (cnt (fun s => ¬ M0 (b + 2) s = M0 (b + 3 + 2 + res) s) s)) rfl ?_
      refine eg_iinc dX3_aim_55 (by decide) rfl (eg_inc s) rfl ?_
      refine eg_goto 20 dX3_aim_58 (by decide) ?_
      have ex : eg_fl M0 (b + 2) 0 (s + 1) (fun j => M0 (b + 3 + 2 + res) j) = eg_set (eg_fl M0 (b + 2) 0 s (fun j => M0 (b + 3 + 2 + res) j)) (b + 2) s (M0 (b + 3 + 2 + res) s) := eg_fl_r (by omega)
      have ec : cnt (fun s => ¬ M0 (b + 2) s = M0 (b + 3 + 2 + res) s) (s + 1) = cnt (fun s => ¬ M0 (b + 2) s = M0 (b + 3 + 2 + res) s) s + 1 := by
        rw [cnt, if_pos c]
      have h9 := ih (s + 1) (eg_set M (b + 2) s (M0 (b + 3 + 2 + res) s)) (h.eq (eg_set_ne (by omega))) (by omega) (by rw [ex, ← hM]) hQ
      rw [ec] at h9
      exact h9
set_option maxHeartbeats 2000000 in
theorem ap_C_aim {l : Launch} {E : eg_E} {d kb nb : Nat} {Q : Option Value → eg_G → eg_I → Prop} {G : eg_G} {M : eg_I} {b : Nat} {S : st_T} (hs : sh_C G b) (hok : st_ok S) (hI : ci_I M b S) (hd : 1 ≤ d) (hQ : ∀ M', ci_I M' b (ap_aim S).2 → ci_E M M' b → Q (some (.int (ap_aim S).1)) G M') : eg_J l E mX3_aim d kb nb Q 0 [some (.ref b), none, none, none] [] G M := by
  obtain ⟨k0, k1, k2, k3, k4, k5, kV, k6, kR, k7, kF, k8, k9, k10, kH⟩ := id hs
  obtain ⟨gv1, gv2, gv3, gv4⟩ := id kV
  obtain ⟨gr0, gr1, gr2, gr3, gr4, gr5, gr6⟩ := id kR
  obtain ⟨gf0, gf1, gf2, gf3, gf4, gf5, gf6⟩ := id kF
  have kh0 := kH.1
  obtain ⟨⟨w, n, k⟩, cf, co, tg, ⟨len, op, lf, rt, res⟩, ⟨fnd, flen, fop, flf, frt, fres⟩, t0, t1, t2, t3⟩ := S
  replace hI : ci_U M b w n k cf co tg len op lf rt res fnd flen fop flf frt fres t0 t1 t2 t3 := hI
  replace hok : ok_U w n k cf co len op lf rt res fnd flen fop flf frt fres := hok
  obtain ⟨a1, a2, a3, a4, a5, a6, a7, a8, a9, a10, a11⟩ := id hI
  obtain ⟨i1, i2, i3, i4, i5, hw1, hw4, hn1, hn2, hk4⟩ := id a1
  obtain ⟨p3, p4, pl, pa⟩ := id a5
  obtain ⟨-, -, -, -, -, cw, co9, pok, fok⟩ := id hok
  obtain ⟨-, pok2, pok3⟩ := id pok
  have hA := wd_asg hw4 hn2
  refine eg_aload_n dX3_aim_0 rfl rfl ?_
  refine eg_getR gf_RX3_19 rfl (by assumption) (by assumption) dX3_aim_1 ?_
  refine eg_getR gf_RX3_83 rfl (by assumption) (by assumption) dX3_aim_4 ?_
  refine eg_aload_n dX3_aim_7 rfl rfl ?_
  refine eg_getR gf_RX3_26 rfl (by assumption) (by assumption) dX3_aim_8 ?_
  refine eg_getI gf_RX3_87 rfl (by assumption) dX3_aim_11 ?_
  refine eg_topi p4 ?_
  refine eg_aaldN rfl (by assumption) (by omega) (by decide) (gv4 res (by omega)).1 dX3_aim_14 ?_
  refine eg_astore_n dX3_aim_15 rfl (by decide) rfl ?_
  refine eg_iconst dX3_aim_16 (v := nI 0) (by decide) ?_
  refine eg_istore_n dX3_aim_17 rfl (by decide) rfl ?_
  refine eg_iconst dX3_aim_18 (v := nI 0) (by decide) ?_
  refine eg_istore_n dX3_aim_19 rfl (by decide) rfl ?_
  refine lp_X3_aim (k := k) (M0 := M) hs (by omega) (2 ^ (w * n)) 0 M a1 (by omega) (by rw [eg_fl_0 (Nat.le_refl _)]) (fun M2 h2 => ?_)
  have ec : ∀ t, t ≤ 2 ^ (w * n) → cnt (fun s => ¬ M (b + 2) s = M (b + 3 + 2 + res) s) t = cnt (fun s => ¬ tg s = sv w n k cf op lf rt res s) t := by
    intro t ht
    induction t with
    | zero => rfl
    | succ t iht =>
      rw [cnt, cnt, iht (by omega), a4 t (by omega), a2 res t (by omega) (by omega)]
  rw [ec _ (Nat.le_refl _)]
  have o2 : ∀ q, q ≠ b + 2 → M2 q = M q := fun q z => by rw [h2, eg_fl_ne z]
  replace hQ : ∀ M', ci_U M' b w n k cf co (fun s => if s < 2 ^ (w * n) then sv w n k cf op lf rt res s else tg s) len op lf rt res fnd flen fop flf frt fres t0 t1 t2 t3 → ci_E M M' b → Q (some (.int (nI (cnt (fun s => ¬ tg s = sv w n k cf op lf rt res s) (2 ^ (w * n)))))) G M' := hQ
  exact hQ M2 (⟨a1.eq (by rw [o2 _ (by omega)]), fun u s q1 q2 => by rw [o2 _ (by omega)]; exact a2 u s q1 q2, fun o ho => by rw [o2 _ (by omega)]; exact a3 o ho, fun s q => by
    show M2 (b + 2) s = if s < 2 ^ (w * n) then sv w n k cf op lf rt res s else tg s
    by_cases e : s < 2 ^ (w * n)
    · rw [h2, eg_fl_in (by omega) e, if_pos e, a2 res s (by omega) e]
    · rw [h2, eg_fl_out (by omega), if_neg e]; exact a4 s q, a5.eq (fun q q1 q2 => by rw [o2 _ (by omega)]), by rw [o2 _ (by omega)]; exact a6, fun q => (a7 q).eq (fun q q1 q2 => by rw [o2 _ (by omega)]), by rw [o2 _ (by omega)]; exact a8, by rw [o2 _ (by omega)]; exact a9, by rw [o2 _ (by omega)]; exact a10, by rw [o2 _ (by omega)]; exact a11⟩) (fun q z => o2 q (by omega))
