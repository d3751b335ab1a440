/-! ShortestCode.search -/
theorem ss_rds_le {w A g : Nat} {co : Nat → Nat} {tg : Nat → Int32} {L : Nat} {al : Bool} {V : Nat → Nat → Int32} : ∀ (t rd : Nat) (σ : ss_S), (ss_rds w A g co tg L al V t rd σ).2 ≤ rd + t
  | 0, rd, σ => Nat.le_refl _
  | t + 1, rd, σ => by
    rw [ss_rds]
    split
    · show rd ≤ _
      omega
    · have := ss_rds_le (w := w) (A := A) (g := g) (co := co) (tg := tg) (L := L) (al := al) (V := V) t (rd + 1) (ss_fill w A g co tg L al 12 0 (rd + 1) (fun _ => 0) (fun _ => 0) (fun _ => 0) V σ)
      omega
set_option maxHeartbeats 2000000 in
theorem ap_C_search {l : Launch} {E : eg_E} {d kb nb : Nat} {Q : Option Value → eg_G → eg_I → Prop} {G : eg_G} {M : eg_I} {b : Nat} {S : st_T} (hs : sh_C G b) (hok : st_ok S) (hI : ci_I M b S) {x y z : Int32} (hd : 44 ≤ d) (hQ : ∀ M', ci_I M' b (ap_search S x y z).2 → ci_E M M' b → Q (some (.int (ap_search S x y z).1)) G M') : eg_J l E mX3_search d kb nb Q 0 [some (.ref b), some (.int x), some (.int y), some (.int z), none] [] G M := by
  obtain ⟨k0, k1, k2, k3, k4, k5, kV, k6, kR, k7, kF, k8, k9, k10, kH⟩ := id hs
  obtain ⟨gv1, gv2, gv3, gv4⟩ := id kV
  obtain ⟨gr0, gr1, gr2, gr3, gr4, gr5, gr6⟩ := id kR
  obtain ⟨gf0, gf1, gf2, gf3, gf4, gf5, gf6⟩ := id kF
  have kh0 := kH.1
  obtain ⟨⟨w, n, k⟩, cf, co, tg, ⟨len, op, lf, rt, res⟩, ⟨fnd, flen, fop, flf, frt, fres⟩, t0, t1, t2, t3⟩ := S
  replace hI : ci_U M b w n k cf co tg len op lf rt res fnd flen fop flf frt fres t0 t1 t2 t3 := hI
  replace hok : ok_U w n k cf co len op lf rt res fnd flen fop flf frt fres := hok
  obtain ⟨a1, a2, a3, a4, a5, a6, a7, a8, a9, a10, a11⟩ := id hI
  obtain ⟨i1, i2, i3, i4, i5, hw1, hw4, hn1, hn2, hk4⟩ := id a1
  obtain ⟨p3, p4, pl, pa⟩ := id a5
  obtain ⟨-, -, -, -, -, cw, co9, pok, fok⟩ := id hok
  obtain ⟨-, pok2, pok3⟩ := id pok
  have hA := wd_asg hw4 hn2
  obtain ⟨-, -, -, -, -, -, -, -, -, hh4, hhF⟩ := id kH
  refine eg_iload_n dX3_search_0 rfl rfl ?_
  refine eg_if_lt 21 dX3_search_1 (by decide) (fun c1 => ?_) (fun c1 => ?_)
  · refine eg_bipush dX3_search_21 (v := -2) (by decide) ?_
    exact eg_iret rfl dX3_search_23 (by
          have e : ap_search ((w, n, k), cf, co, tg, (len, op, lf, rt, res), (fnd, flen, fop, flf, frt, fres), t0, t1, t2, t3) x y z = (-2, ((w, n, k), cf, co, tg, (len, op, lf, rt, res), (fnd, flen, fop, flf, frt, fres), t0, t1, t2, t3)) := if_pos (by first | exact Or.inl (Or.inl c1) | exact Or.inl (Or.inr c2) | exact Or.inr (Or.inl (Or.inl c3)) | exact Or.inr (Or.inl (Or.inr (Int32.not_le.mp c4))))
          rw [e] at hQ
          exact hQ M hI ci_E.rf)
  · refine eg_iload_n dX3_search_4 rfl rfl ?_
    refine eg_bipush dX3_search_5 (v := nI 30) (by decide) ?_
    refine eg_icmp_gt 21 dX3_search_7 (by decide) (fun c2 => ?_) (fun c2 => ?_)
    · refine eg_bipush dX3_search_21 (v := -2) (by decide) ?_
      exact eg_iret rfl dX3_search_23 (by
            have e : ap_search ((w, n, k), cf, co, tg, (len, op, lf, rt, res), (fnd, flen, fop, flf, frt, fres), t0, t1, t2, t3) x y z = (-2, ((w, n, k), cf, co, tg, (len, op, lf, rt, res), (fnd, flen, fop, flf, frt, fres), t0, t1, t2, t3)) := if_pos (by first | exact Or.inl (Or.inl c1) | exact Or.inl (Or.inr c2) | exact Or.inr (Or.inl (Or.inl c3)) | exact Or.inr (Or.inl (Or.inr (Int32.not_le.mp c4))))
            rw [e] at hQ
            exact hQ M hI ci_E.rf)
    · refine eg_iload_n dX3_search_10 rfl rfl ?_
      refine eg_if_lt 21 dX3_search_11 (by decide) (fun c3 => ?_) (fun c3 => ?_)
      · refine eg_bipush dX3_search_21 (v := -2) (by decide) ?_
        exact eg_iret rfl dX3_search_23 (by
              have e : ap_search ((w, n, k), cf, co, tg, (len, op, lf, rt, res), (fnd, flen, fop, flf, frt, fres), t0, t1, t2, t3) x y z = (-2, ((w, n, k), cf, co, tg, (len, op, lf, rt, res), (fnd, flen, fop, flf, frt, fres), t0, t1, t2, t3)) := if_pos (by first | exact Or.inl (Or.inl c1) | exact Or.inl (Or.inr c2) | exact Or.inr (Or.inl (Or.inl c3)) | exact Or.inr (Or.inl (Or.inr (Int32.not_le.mp c4))))
              rw [e] at hQ
              exact hQ M hI ci_E.rf)
      · refine eg_iload_n dX3_search_14 rfl rfl ?_
        refine eg_sipush dX3_search_15 (v := nI 30000) (by decide) ?_
        refine eg_icmp_le 24 dX3_search_18 (by decide) (fun c4 => ?_) (fun c4 => ?_)
        · have hx0 := c1
          obtain ⟨ex, hX⟩ := nI_cm c1 c2 (by omega)
          obtain ⟨ey, hY⟩ := nI_cm c3 (Int32.not_lt.mpr c4) (by omega)
          have hge : ∀ zz : z = 0 ∨ z = 1, ¬ ((x < 0 ∨ nI 30 < x) ∨ (y < 0 ∨ nI 30000 < y) ∨ (¬ z = 0 ∧ ¬ z = 1)) := fun zz q => q.elim (fun q => q.elim c1 c2) (fun q => q.elim (fun q => q.elim c3 (Int32.not_lt.mpr c4)) (fun q => zz.elim q.1 q.2))
          refine eg_iload_n dX3_search_24 rfl rfl ?_
          refine eg_if_eq 36 dX3_search_25 (by decide) (fun c5 => ?_) (fun c5 => ?_)
          · unfold ap_search at hQ
            rw [if_neg (hge (Or.inl c5))] at hQ
            dsimp only at hQ
            generalize x.toNatClampNeg = X at ex hX hQ
            generalize y.toNatClampNeg = Y at ey hY hQ
            subst ex
            subst ey
            rw [show decide (z = 1) = false by rw [c5]; rfl] at hQ
            refine eg_aload_n dX3_search_36 rfl rfl ?_
            refine eg_getR gf_RX3_40 rfl (by assumption) (by assumption) dX3_search_37 ?_
            refine eg_aload_n dX3_search_40 rfl rfl ?_
            refine eg_getR gf_RX3_19 rfl (by assumption) (by assumption) dX3_search_41 ?_
            refine eg_aload_n dX3_search_44 rfl rfl ?_
            refine eg_getR gf_RX3_9 rfl (by assumption) (by assumption) dX3_search_45 ?_
            refine eg_aload_n dX3_search_48 rfl rfl ?_
            refine eg_getR gf_RX3_13 rfl (by assumption) (by assumption) dX3_search_49 ?_
            refine eg_callV3 0 0 gk_X0_prepare gi_X0_prepare (by assumption) rfl gl_RX3_135 rfl (Nat.le_of_ble_eq_true rfl) (Nat.le_of_ble_eq_true rfl) (Nat.zero_le _) (Nat.zero_le _) (by omega) dX3_search_52 ?_
            refine sp_X0_prepare (h := b + 32) (by omega) kH kV (by omega) k2 k4 (by omega) (by omega) a1 (fun M1 h1 => ?_)
            refine eg_aload_n dX3_search_55 rfl rfl ?_
            refine eg_getR gf_RX3_40 rfl (by assumption) (by assumption) dX3_search_56 ?_
            refine eg_iload_n dX3_search_59 rfl rfl ?_
            refine eg_iload_n dX3_search_60 rfl rfl ?_
            refine eg_iload_n dX3_search_61 rfl rfl ?_
            refine eg_iconst dX3_search_62 (v := nI 1) (by decide) ?_
            refine eg_icmp_ne 70 dX3_search_63 (by decide) (fun c63 => ?_) (fun c63 => absurd c63 (show ¬ z = nI 1 by rw [c5]; decide))
            refine eg_iconst dX3_search_70 (v := nI 0) (by decide) ?_
            refine eg_callV3 0 0 gk_X0_run gi_X0_run kh0 rfl gl_RX3_139 rfl (Nat.le_of_ble_eq_true rfl) (Nat.le_of_ble_eq_true rfl) (Nat.zero_le _) (Nat.zero_le _) (by omega) dX3_search_71 ?_
            refine sp_X0_run (w := w) (n := n) (k := k) (co := co) (tg := tg) (al := false) (V := sv w n k cf op lf rt) kH (by omega) (by omega) (by omega) rfl rfl rfl h1.1 (fun u s z1 z2 => by rw [h1.2.1 u s z1 z2]; exact a2 u s (by omega) z2) (fun o ho => ⟨by rw [h1.2.2.1 o ho]; exact a3 o ho, co9 o ho⟩) (fun s z => by rw [h1.2.2.2.1 s (by omega)]; exact a4 s (by omega)) (fun v M2 y1 y2 y3 hE e8 e9 e10 e11 e27 e28 => ?_) (fun y1 M2 hE e8 e9 e10 e11 e27 => ?_)
            · have eg : lst (fun u => ∀ s, s < 2 ^ (w * n) → sv w n k cf op lf rt u s = tg s) (n + k) 0 = some v := lst_some (by omega) (by omega) y3 (fun u _ h2 q => by
                obtain ⟨s, u1, u2⟩ := y2 u h2
                exact u2 (q s u1))
              rw [eg] at hQ
              replace hQ : ∀ M', ci_U M' b w n k cf co tg len op lf rt res true 0 ((fun _ => 0)) ((fun _ => 0)) ((fun _ => 0)) v 0 0 1 0 → ci_E M M' b → Q (some (.int (0))) G M' := hQ
              refine eg_istore dX3_search_74 (by decide) rfl ?_
              refine eg_iload dX3_search_76 rfl ?_
              refine eg_if_lt 100 dX3_search_78 (by decide) (fun z => absurd z (nI_pos (by omega))) (fun _ => ?_)
              refine eg_aload_n dX3_search_81 rfl rfl ?_
              refine eg_getR gf_RX3_30 rfl k0 k7 dX3_search_82 ?_
              refine eg_aload_n dX3_search_85 rfl rfl ?_
              refine eg_getR gf_RX3_40 rfl k0 k10 dX3_search_86 ?_
              refine eg_getR gf_RX3_143 rfl kh0 hh4 dX3_search_89 ?_
              refine eg_callV1 0 0 gk_X1_copyFrom gi_X1_copyFrom gf0 rfl gl_RX3_146 rfl (Nat.le_of_ble_eq_true rfl) (Nat.le_of_ble_eq_true rfl) (Nat.zero_le _) (Nat.zero_le _) (by omega) dX3_search_92 ?_
              refine sp_X1_copyFrom (len := 0) (by omega) kF hhF (by omega) (by omega) (by exact e27) (fun M3 h3 => ?_)
              obtain ⟨m3, m4, ma, mf⟩ := h3
              refine eg_aload_n dX3_search_95 rfl rfl ?_
              refine eg_iconst dX3_search_96 (v := nI 1) (by decide) ?_
              refine eg_putI gp_RX3_52 (fun q => by cases q) rfl rfl rfl k0 dX3_search_97 ?_
              have o4 : ∀ q, q ≠ b → ¬ (b + 27 ≤ q ∧ q < b + 31) → q < b + 32 → eg_set M3 b 7 (nI 1) q = M q := fun q z1 z2 z3 => by rw [eg_set_ne z1, mf q (by omega), hE q (by omega)]; exact h1.2.2.2.2 q (by omega)
              have oh : ∀ j, eg_set M3 b 7 (nI 1) (b + 32) j = M2 (b + 32) j := fun j => by rw [eg_set_ne (by omega), mf _ (by omega)]
              refine eg_iload dX3_search_100 rfl ?_
              exact eg_iret rfl dX3_search_102 (hQ _ (⟨a1.eq (by rw [o4 _ (by omega) (by omega) (by omega)]), fun u s q1 q2 => by rw [o4 _ (by omega) (by omega) (by omega)]; exact a2 u s q1 q2, fun o ho => by rw [o4 _ (by omega) (by omega) (by omega)]; exact a3 o ho, fun s q => by rw [o4 _ (by omega) (by omega) (by omega)]; exact a4 s q, a5.eq (fun q q1 q2 => by rw [o4 _ (by omega) (by omega) (by omega)]), by rw [eg_set_eq]; rfl, fun _ => ⟨by rw [eg_set_ne (by omega)]; exact m3, by rw [eg_set_ne (by omega), m4]; exact e28, by omega, fun j hj => absurd hj (by omega)⟩, by rw [oh]; exact e8, by rw [oh]; exact e9, by rw [oh]; exact e10, by rw [oh]; exact e11⟩) (fun q z => by rw [eg_set_ne (by omega), mf q (by omega), hE q (by omega)]; exact h1.2.2.2.2 q (by omega)))
            · have eg : lst (fun u => ∀ s, s < 2 ^ (w * n) → sv w n k cf op lf rt u s = tg s) (n + k) 0 = none := lst_none (fun u _ h2 q => by
                obtain ⟨s, u1, u2⟩ := y1 u (by omega)
                exact u2 (q s u1))
              rw [eg] at hQ
              have hle := ss_rds_le (w := w) (A := 2 ^ (w * n)) (g := n + k) (co := co) (tg := tg) (L := Y) (al := false) (V := sv w n k cf op lf rt) X 0 ss_0
              replace hQ : ∀ M', ci_I M' b ((w, n, k), cf, co, tg, (len, op, lf, rt, res), (if (ss_rds w (2 ^ (w * n)) (n + k) co tg Y false (sv w n k cf op lf rt) X 0 ss_0).1.2.2.1 = true ∨ (ss_rds w (2 ^ (w * n)) (n + k) co tg Y false (sv w n k cf op lf rt) X 0 ss_0).1.2.1 = 0 then (fnd, flen, fop, flf, frt, fres) else (true, (ss_rds w (2 ^ (w * n)) (n + k) co tg Y false (sv w n k cf op lf rt) X 0 ss_0).1.2.2.2.1, (ss_rds w (2 ^ (w * n)) (n + k) co tg Y false (sv w n k cf op lf rt) X 0 ss_0).1.2.2.2.2.1, (ss_rds w (2 ^ (w * n)) (n + k) co tg Y false (sv w n k cf op lf rt) X 0 ss_0).1.2.2.2.2.2.1, (ss_rds w (2 ^ (w * n)) (n + k) co tg Y false (sv w n k cf op lf rt) X 0 ss_0).1.2.2.2.2.2.2, n + k + (ss_rds w (2 ^ (w * n)) (n + k) co tg Y false (sv w n k cf op lf rt) X 0 ss_0).1.2.2.2.1 - 1)), (nI (ss_rds w (2 ^ (w * n)) (n + k) co tg Y false (sv w n k cf op lf rt) X 0 ss_0).1.1, nI (ss_rds w (2 ^ (w * n)) (n + k) co tg Y false (sv w n k cf op lf rt) X 0 ss_0).2, nI (ss_rds w (2 ^ (w * n)) (n + k) co tg Y false (sv w n k cf op lf rt) X 0 ss_0).1.2.1, ss_ans (ss_rds w (2 ^ (w * n)) (n + k) co tg Y false (sv w n k cf op lf rt) X 0 ss_0))) → ci_E M M' b → Q (some (.int (ss_ans (ss_rds w (2 ^ (w * n)) (n + k) co tg Y false (sv w n k cf op lf rt) X 0 ss_0)))) G M' := hQ
              generalize ss_rds w (2 ^ (w * n)) (n + k) co tg Y false (sv w n k cf op lf rt) X 0 ss_0 = qq at hQ e8 e9 e10 e11 e27 hle ⊢
              obtain ⟨⟨tt, hh, sp, fl2, fo2, fa2, fb2⟩, rd⟩ := qq
              replace hle : rd ≤ 0 + X := hle
              have oM : ∀ q, ¬ (b + 32 ≤ q ∧ q < b + 63) → M2 q = M q := fun q z => by rw [hE q (by omega)]; exact h1.2.2.2.2 q (by omega)
              by_cases hns : sp = true ∨ hh = 0
              · have ean : ss_ans ((tt, hh, sp, fl2, fo2, fa2, fb2), rd) < 0 := by
                  unfold ss_ans
                  dsimp only
                  by_cases h1 : sp = true
                  · rw [if_pos h1]; decide
                  · rw [if_neg h1, if_pos (hns.elim (fun z => absurd z h1) id)]; decide
                rw [show (if ((tt, hh, sp, fl2, fo2, fa2, fb2), rd).1.2.2.1 = true ∨ ((tt, hh, sp, fl2, fo2, fa2, fb2), rd).1.2.1 = 0 then (fnd, flen, fop, flf, frt, fres) else _) = (fnd, flen, fop, flf, frt, fres) from if_pos hns] at hQ
                generalize ss_ans ((tt, hh, sp, fl2, fo2, fa2, fb2), rd) = an at ean e11 hQ ⊢
                replace hQ : ∀ M', ci_U M' b w n k cf co tg len op lf rt res fnd flen fop flf frt fres (nI tt) (nI rd) (nI hh) an → ci_E M M' b → Q (some (.int (an))) G M' := hQ
                refine eg_istore dX3_search_74 (by decide) rfl ?_
                refine eg_iload dX3_search_76 rfl ?_
                refine eg_if_lt 100 dX3_search_78 (by decide) (fun _ => ?_) (fun z => absurd ean z)
                refine eg_iload dX3_search_100 rfl ?_
                exact eg_iret rfl dX3_search_102 (hQ M2 (⟨a1.eq (by rw [oM _ (by omega)]), fun u s q1 q2 => by rw [oM _ (by omega)]; exact a2 u s q1 q2, fun o ho => by rw [oM _ (by omega)]; exact a3 o ho, fun s q => by rw [oM _ (by omega)]; exact a4 s q, a5.eq (fun q q1 q2 => by rw [oM _ (by omega)]), by rw [oM _ (by omega)]; exact a6, fun q => (a7 q).eq (fun q q1 q2 => by rw [oM _ (by omega)]), e8, e9, e10, e11⟩) (fun q z => oM q (by omega)))
              · have ean : ss_ans ((tt, hh, sp, fl2, fo2, fa2, fb2), rd) = nI rd := by
                  unfold ss_ans
                  dsimp only
                  rw [if_neg (fun z => hns (Or.inl z)), if_neg (fun z => hns (Or.inr z))]
                rw [show (if ((tt, hh, sp, fl2, fo2, fa2, fb2), rd).1.2.2.1 = true ∨ ((tt, hh, sp, fl2, fo2, fa2, fb2), rd).1.2.1 = 0 then (fnd, flen, fop, flf, frt, fres) else (true, fl2, fo2, fa2, fb2, n + k + fl2 - 1)) = (true, fl2, fo2, fa2, fb2, n + k + fl2 - 1) from if_neg hns] at hQ
                rw [ean] at e11 hQ ⊢
                replace hQ : ∀ M', ci_U M' b w n k cf co tg len op lf rt res true fl2 fo2 fa2 fb2 (n + k + fl2 - 1) (nI tt) (nI rd) (nI hh) (nI rd) → ci_E M M' b → Q (some (.int (nI rd))) G M' := hQ
                have e27 : in_R M2 (b + 32 + 27) fl2 fo2 fa2 fb2 (n + k + fl2 - 1) := e27 hns
                refine eg_istore dX3_search_74 (by decide) rfl ?_
                refine eg_iload dX3_search_76 rfl ?_
                refine eg_if_lt 100 dX3_search_78 (by decide) (fun z => absurd z (nI_pos (by omega))) (fun _ => ?_)
                refine eg_aload_n dX3_search_81 rfl rfl ?_
                refine eg_getR gf_RX3_30 rfl k0 k7 dX3_search_82 ?_
                refine eg_aload_n dX3_search_85 rfl rfl ?_
                refine eg_getR gf_RX3_40 rfl k0 k10 dX3_search_86 ?_
                refine eg_getR gf_RX3_143 rfl kh0 hh4 dX3_search_89 ?_
                refine eg_callV1 0 0 gk_X1_copyFrom gi_X1_copyFrom gf0 rfl gl_RX3_146 rfl (Nat.le_of_ble_eq_true rfl) (Nat.le_of_ble_eq_true rfl) (Nat.zero_le _) (Nat.zero_le _) (by omega) dX3_search_92 ?_
                refine sp_X1_copyFrom (len := fl2) (by omega) kF hhF (by omega) (by exact e27.2.2.1) (by exact e27.1) (fun M3 h3 => ?_)
                obtain ⟨m3, m4, ma, mf⟩ := h3
                refine eg_aload_n dX3_search_95 rfl rfl ?_
                refine eg_iconst dX3_search_96 (v := nI 1) (by decide) ?_
                refine eg_putI gp_RX3_52 (fun q => by cases q) rfl rfl rfl k0 dX3_search_97 ?_
                have o4 : ∀ q, q ≠ b → ¬ (b + 27 ≤ q ∧ q < b + 31) → q < b + 32 → eg_set M3 b 7 (nI 1) q = M q := fun q z1 z2 z3 => by rw [eg_set_ne z1, mf q (by omega), hE q (by omega)]; exact h1.2.2.2.2 q (by omega)
                have oh : ∀ j, eg_set M3 b 7 (nI 1) (b + 32) j = M2 (b + 32) j := fun j => by rw [eg_set_ne (by omega), mf _ (by omega)]
                refine eg_iload dX3_search_100 rfl ?_
                exact eg_iret rfl dX3_search_102 (hQ _ (⟨a1.eq (by rw [o4 _ (by omega) (by omega) (by omega)]), fun u s q1 q2 => by rw [o4 _ (by omega) (by omega) (by omega)]; exact a2 u s q1 q2, fun o ho => by rw [o4 _ (by omega) (by omega) (by omega)]; exact a3 o ho, fun s q => by rw [o4 _ (by omega) (by omega) (by omega)]; exact a4 s q, a5.eq (fun q q1 q2 => by rw [o4 _ (by omega) (by omega) (by omega)]), by rw [eg_set_eq]; rfl, fun _ => ⟨by rw [eg_set_ne (by omega)]; exact m3, by rw [eg_set_ne (by omega), m4]; exact e27.2.1, e27.2.2.1, fun j hj => by rw [eg_set_ne (by omega), eg_set_ne (by omega), eg_set_ne (by omega), (ma j hj).1, (ma j hj).2.1, (ma j hj).2.2]; exact e27.2.2.2 j hj⟩, by rw [oh]; exact e8, by rw [oh]; exact e9, by rw [oh]; exact e10, by rw [oh]; exact e11⟩) (fun q z => by rw [eg_set_ne (by omega), mf q (by omega), hE q (by omega)]; exact h1.2.2.2.2 q (by omega)))
          · refine eg_iload_n dX3_search_28 rfl rfl ?_
            refine eg_iconst dX3_search_29 (v := nI 1) (by decide) ?_
            refine eg_icmp_eq 36 dX3_search_30 (by decide) (fun c6 => ?_) (fun c6 => ?_)
            · unfold ap_search at hQ
              rw [if_neg (hge (Or.inr c6))] at hQ
              dsimp only at hQ
              generalize x.toNatClampNeg = X at ex hX hQ
              generalize y.toNatClampNeg = Y at ey hY hQ
              subst ex
              subst ey
              rw [show decide (z = 1) = true by rw [c6]; rfl] at hQ
              refine eg_aload_n dX3_search_36 rfl rfl ?_
              refine eg_getR gf_RX3_40 rfl (by assumption) (by assumption) dX3_search_37 ?_
              refine eg_aload_n dX3_search_40 rfl rfl ?_
              refine eg_getR gf_RX3_19 rfl (by assumption) (by assumption) dX3_search_41 ?_
              refine eg_aload_n dX3_search_44 rfl rfl ?_
              refine eg_getR gf_RX3_9 rfl (by assumption) (by assumption) dX3_search_45 ?_
              refine eg_aload_n dX3_search_48 rfl rfl ?_
              refine eg_getR gf_RX3_13 rfl (by assumption) (by assumption) dX3_search_49 ?_
              refine eg_callV3 0 0 gk_X0_prepare gi_X0_prepare (by assumption) rfl gl_RX3_135 rfl (Nat.le_of_ble_eq_true rfl) (Nat.le_of_ble_eq_true rfl) (Nat.zero_le _) (Nat.zero_le _) (by omega) dX3_search_52 ?_
              refine sp_X0_prepare (h := b + 32) (by omega) kH kV (by omega) k2 k4 (by omega) (by omega) a1 (fun M1 h1 => ?_)
              refine eg_aload_n dX3_search_55 rfl rfl ?_
              refine eg_getR gf_RX3_40 rfl (by assumption) (by assumption) dX3_search_56 ?_
              refine eg_iload_n dX3_search_59 rfl rfl ?_
              refine eg_iload_n dX3_search_60 rfl rfl ?_
              refine eg_iload_n dX3_search_61 rfl rfl ?_
              refine eg_iconst dX3_search_62 (v := nI 1) (by decide) ?_
              refine eg_icmp_ne 70 dX3_search_63 (by decide) (fun c63 => absurd c6 c63) (fun c63 => ?_)
              refine eg_iconst dX3_search_66 (v := nI 1) (by decide) ?_
              refine eg_goto 71 dX3_search_67 (by decide) ?_
              refine eg_callV3 0 0 gk_X0_run gi_X0_run kh0 rfl gl_RX3_139 rfl (Nat.le_of_ble_eq_true rfl) (Nat.le_of_ble_eq_true rfl) (Nat.zero_le _) (Nat.zero_le _) (by omega) dX3_search_71 ?_
              refine sp_X0_run (w := w) (n := n) (k := k) (co := co) (tg := tg) (al := true) (V := sv w n k cf op lf rt) kH (by omega) (by omega) (by omega) rfl rfl rfl h1.1 (fun u s z1 z2 => by rw [h1.2.1 u s z1 z2]; exact a2 u s (by omega) z2) (fun o ho => ⟨by rw [h1.2.2.1 o ho]; exact a3 o ho, co9 o ho⟩) (fun s z => by rw [h1.2.2.2.1 s (by omega)]; exact a4 s (by omega)) (fun v M2 y1 y2 y3 hE e8 e9 e10 e11 e27 e28 => ?_) (fun y1 M2 hE e8 e9 e10 e11 e27 => ?_)
              · have eg : lst (fun u => ∀ s, s < 2 ^ (w * n) → sv w n k cf op lf rt u s = tg s) (n + k) 0 = some v := lst_some (by omega) (by omega) y3 (fun u _ h2 q => by
                  obtain ⟨s, u1, u2⟩ := y2 u h2
                  exact u2 (q s u1))
                rw [eg] at hQ
                replace hQ : ∀ M', ci_U M' b w n k cf co tg len op lf rt res true 0 ((fun _ => 0)) ((fun _ => 0)) ((fun _ => 0)) v 0 0 1 0 → ci_E M M' b → Q (some (.int (0))) G M' := hQ
                refine eg_istore dX3_search_74 (by decide) rfl ?_
                refine eg_iload dX3_search_76 rfl ?_
                refine eg_if_lt 100 dX3_search_78 (by decide) (fun z => absurd z (nI_pos (by omega))) (fun _ => ?_)
                refine eg_aload_n dX3_search_81 rfl rfl ?_
                refine eg_getR gf_RX3_30 rfl k0 k7 dX3_search_82 ?_
                refine eg_aload_n dX3_search_85 rfl rfl ?_
                refine eg_getR gf_RX3_40 rfl k0 k10 dX3_search_86 ?_
                refine eg_getR gf_RX3_143 rfl kh0 hh4 dX3_search_89 ?_
                refine eg_callV1 0 0 gk_X1_copyFrom gi_X1_copyFrom gf0 rfl gl_RX3_146 rfl (Nat.le_of_ble_eq_true rfl) (Nat.le_of_ble_eq_true rfl) (Nat.zero_le _) (Nat.zero_le _) (by omega) dX3_search_92 ?_
                refine sp_X1_copyFrom (len := 0) (by omega) kF hhF (by omega) (by omega) (by exact e27) (fun M3 h3 => ?_)
                obtain ⟨m3, m4, ma, mf⟩ := h3
                refine eg_aload_n dX3_search_95 rfl rfl ?_
                refine eg_iconst dX3_search_96 (v := nI 1) (by decide) ?_
                refine eg_putI gp_RX3_52 (fun q => by cases q) rfl rfl rfl k0 dX3_search_97 ?_
                have o4 : ∀ q, q ≠ b → ¬ (b + 27 ≤ q ∧ q < b + 31) → q < b + 32 → eg_set M3 b 7 (nI 1) q = M q := fun q z1 z2 z3 => by rw [eg_set_ne z1, mf q (by omega), hE q (by omega)]; exact h1.2.2.2.2 q (by omega)
                have oh : ∀ j, eg_set M3 b 7 (nI 1) (b + 32) j = M2 (b + 32) j := fun j => by rw [eg_set_ne (by omega), mf _ (by omega)]
                refine eg_iload dX3_search_100 rfl ?_
                exact eg_iret rfl dX3_search_102 (hQ _ (⟨a1.eq (by rw [o4 _ (by omega) (by omega) (by omega)]), fun u s q1 q2 => by rw [o4 _ (by omega) (by omega) (by omega)]; exact a2 u s q1 q2, fun o ho => by rw [o4 _ (by omega) (by omega) (by omega)]; exact a3 o ho, fun s q => by rw [o4 _ (by omega) (by omega) (by omega)]; exact a4 s q, a5.eq (fun q q1 q2 => by rw [o4 _ (by omega) (by omega) (by omega)]), by rw [eg_set_eq]; rfl, fun _ => ⟨by rw [eg_set_ne (by omega)]; exact m3, by rw [eg_set_ne (by omega), m4]; exact e28, by omega, fun j hj => absurd hj (by omega)⟩, by rw [oh]; exact e8, by rw [oh]; exact e9, by rw [oh]; exact e10, by rw [oh]; exact e11⟩) (fun q z => by rw [eg_set_ne (by omega), mf q (by omega), hE q (by omega)]; exact h1.2.2.2.2 q (by omega)))
              · have eg : lst (fun u => ∀ s, s < 2 ^ (w * n) → sv w n k cf op lf rt u s = tg s) (n + k) 0 = none := lst_none (fun u _ h2 q => by
                  obtain ⟨s, u1, u2⟩ := y1 u (by omega)
                  exact u2 (q s u1))
                rw [eg] at hQ
                have hle := ss_rds_le (w := w) (A := 2 ^ (w * n)) (g := n + k) (co := co) (tg := tg) (L := Y) (al := true) (V := sv w n k cf op lf rt) X 0 ss_0
                replace hQ : ∀ M', ci_I M' b ((w, n, k), cf, co, tg, (len, op, lf, rt, res), (if (ss_rds w (2 ^ (w * n)) (n + k) co tg Y true (sv w n k cf op lf rt) X 0 ss_0).1.2.2.1 = true ∨ (ss_rds w (2 ^ (w * n)) (n + k) co tg Y true (sv w n k cf op lf rt) X 0 ss_0).1.2.1 = 0 then (fnd, flen, fop, flf, frt, fres) else (true, (ss_rds w (2 ^ (w * n)) (n + k) co tg Y true (sv w n k cf op lf rt) X 0 ss_0).1.2.2.2.1, (ss_rds w (2 ^ (w * n)) (n + k) co tg Y true (sv w n k cf op lf rt) X 0 ss_0).1.2.2.2.2.1, (ss_rds w (2 ^ (w * n)) (n + k) co tg Y true (sv w n k cf op lf rt) X 0 ss_0).1.2.2.2.2.2.1, (ss_rds w (2 ^ (w * n)) (n + k) co tg Y true (sv w n k cf op lf rt) X 0 ss_0).1.2.2.2.2.2.2, n + k + (ss_rds w (2 ^ (w * n)) (n + k) co tg Y true (sv w n k cf op lf rt) X 0 ss_0).1.2.2.2.1 - 1)), (nI (ss_rds w (2 ^ (w * n)) (n + k) co tg Y true (sv w n k cf op lf rt) X 0 ss_0).1.1, nI (ss_rds w (2 ^ (w * n)) (n + k) co tg Y true (sv w n k cf op lf rt) X 0 ss_0).2, nI (ss_rds w (2 ^ (w * n)) (n + k) co tg Y true (sv w n k cf op lf rt) X 0 ss_0).1.2.1, ss_ans (ss_rds w (2 ^ (w * n)) (n + k) co tg Y true (sv w n k cf op lf rt) X 0 ss_0))) → ci_E M M' b → Q (some (.int (ss_ans (ss_rds w (2 ^ (w * n)) (n + k) co tg Y true (sv w n k cf op lf rt) X 0 ss_0)))) G M' := hQ
                generalize ss_rds w (2 ^ (w * n)) (n + k) co tg Y true (sv w n k cf op lf rt) X 0 ss_0 = qq at hQ e8 e9 e10 e11 e27 hle ⊢
                obtain ⟨⟨tt, hh, sp, fl2, fo2, fa2, fb2⟩, rd⟩ := qq
                replace hle : rd ≤ 0 + X := hle
                have oM : ∀ q, ¬ (b + 32 ≤ q ∧ q < b + 63) → M2 q = M q := fun q z => by rw [hE q (by omega)]; exact h1.2.2.2.2 q (by omega)
                by_cases hns : sp = true ∨ hh = 0
                · have ean : ss_ans ((tt, hh, sp, fl2, fo2, fa2, fb2), rd) < 0 := by
                    unfold ss_ans
                    dsimp only
                    by_cases h1 : sp = true
                    · rw [if_pos h1]; decide
                    · rw [if_neg h1, if_pos (hns.elim (fun z => absurd z h1) id)]; decide
                  rw [show (if ((tt, hh, sp, fl2, fo2, fa2, fb2), rd).1.2.2.1 = true ∨ ((tt, hh, sp, fl2, fo2, fa2, fb2), rd).1.2.1 = 0 then (fnd, flen, fop, flf, frt, fres) else _) = (fnd, flen, fop, flf, frt, fres) from if_pos hns] at hQ
                  generalize ss_ans ((tt, hh, sp, fl2, fo2, fa2, fb2), rd) = an at ean e11 hQ ⊢
                  replace hQ : ∀ M', ci_U M' b w n k cf co tg len op lf rt res fnd flen fop flf frt fres (nI tt) (nI rd) (nI hh) an → ci_E M M' b → Q (some (.int (an))) G M' := hQ
                  refine eg_istore dX3_search_74 (by decide) rfl ?_
                  refine eg_iload dX3_search_76 rfl ?_
                  refine eg_if_lt 100 dX3_search_78 (by decide) (fun _ => ?_) (fun z => absurd ean z)
                  refine eg_iload dX3_search_100 rfl ?_
                  exact eg_iret rfl dX3_search_102 (hQ M2 (⟨a1.eq (by rw [oM _ (by omega)]), fun u s q1 q2 => by rw [oM _ (by omega)]; exact a2 u s q1 q2, fun o ho => by rw [oM _ (by omega)]; exact a3 o ho, fun s q => by rw [oM _ (by omega)]; exact a4 s q, a5.eq (fun q q1 q2 => by rw [oM _ (by omega)]), by rw [oM _ (by omega)]; exact a6, fun q => (a7 q).eq (fun q q1 q2 => by rw [oM _ (by omega)]), e8, e9, e10, e11⟩) (fun q z => oM q (by omega)))
                · have ean : ss_ans ((tt, hh, sp, fl2, fo2, fa2, fb2), rd) = nI rd := by
                    unfold ss_ans
                    dsimp only
                    rw [if_neg (fun z => hns (Or.inl z)), if_neg (fun z => hns (Or.inr z))]
                  rw [show (if ((tt, hh, sp, fl2, fo2, fa2, fb2), rd).1.2.2.1 = true ∨ ((tt, hh, sp, fl2, fo2, fa2, fb2), rd).1.2.1 = 0 then (fnd, flen, fop, flf, frt, fres) else (true, fl2, fo2, fa2, fb2, n + k + fl2 - 1)) = (true, fl2, fo2, fa2, fb2, n + k + fl2 - 1) from if_neg hns] at hQ
                  rw [ean] at e11 hQ ⊢
                  replace hQ : ∀ M', ci_U M' b w n k cf co tg len op lf rt res true fl2 fo2 fa2 fb2 (n + k + fl2 - 1) (nI tt) (nI rd) (nI hh) (nI rd) → ci_E M M' b → Q (some (.int (nI rd))) G M' := hQ
                  have e27 : in_R M2 (b + 32 + 27) fl2 fo2 fa2 fb2 (n + k + fl2 - 1) := e27 hns
                  refine eg_istore dX3_search_74 (by decide) rfl ?_
                  refine eg_iload dX3_search_76 rfl ?_
                  refine eg_if_lt 100 dX3_search_78 (by decide) (fun z => absurd z (nI_pos (by omega))) (fun _ => ?_)
                  refine eg_aload_n dX3_search_81 rfl rfl ?_
                  refine eg_getR gf_RX3_30 rfl k0 k7 dX3_search_82 ?_
                  refine eg_aload_n dX3_search_85 rfl rfl ?_
                  refine eg_getR gf_RX3_40 rfl k0 k10 dX3_search_86 ?_
                  refine eg_getR gf_RX3_143 rfl kh0 hh4 dX3_search_89 ?_
                  refine eg_callV1 0 0 gk_X1_copyFrom gi_X1_copyFrom gf0 rfl gl_RX3_146 rfl (Nat.le_of_ble_eq_true rfl) (Nat.le_of_ble_eq_true rfl) (Nat.zero_le _) (Nat.zero_le _) (by omega) dX3_search_92 ?_
                  refine sp_X1_copyFrom (len := fl2) (by omega) kF hhF (by omega) (by exact e27.2.2.1) (by exact e27.1) (fun M3 h3 => ?_)
                  obtain ⟨m3, m4, ma, mf⟩ := h3
                  refine eg_aload_n dX3_search_95 rfl rfl ?_
                  refine eg_iconst dX3_search_96 (v := nI 1) (by decide) ?_
                  refine eg_putI gp_RX3_52 (fun q => by cases q) rfl rfl rfl k0 dX3_search_97 ?_
                  have o4 : ∀ q, q ≠ b → ¬ (b + 27 ≤ q ∧ q < b + 31) → q < b + 32 → eg_set M3 b 7 (nI 1) q = M q := fun q z1 z2 z3 => by rw [eg_set_ne z1, mf q (by omega), hE q (by omega)]; exact h1.2.2.2.2 q (by omega)
                  have oh : ∀ j, eg_set M3 b 7 (nI 1) (b + 32) j = M2 (b + 32) j := fun j => by rw [eg_set_ne (by omega), mf _ (by omega)]
                  refine eg_iload dX3_search_100 rfl ?_
                  exact eg_iret rfl dX3_search_102 (hQ _ (⟨a1.eq (by rw [o4 _ (by omega) (by omega) (by omega)]), fun u s q1 q2 => by rw [o4 _ (by omega) (by omega) (by omega)]; exact a2 u s q1 q2, fun o ho => by rw [o4 _ (by omega) (by omega) (by omega)]; exact a3 o ho, fun s q => by rw [o4 _ (by omega) (by omega) (by omega)]; exact a4 s q, a5.eq (fun q q1 q2 => by rw [o4 _ (by omega) (by omega) (by omega)]), by rw [eg_set_eq]; rfl, fun _ => ⟨by rw [eg_set_ne (by omega)]; exact m3, by rw [eg_set_ne (by omega), m4]; exact e27.2.1, e27.2.2.1, fun j hj => by rw [eg_set_ne (by omega), eg_set_ne (by omega), eg_set_ne (by omega), (ma j hj).1, (ma j hj).2.1, (ma j hj).2.2]; exact e27.2.2.2 j hj⟩, by rw [oh]; exact e8, by rw [oh]; exact e9, by rw [oh]; exact e10, by rw [oh]; exact e11⟩) (fun q z => by rw [eg_set_ne (by omega), mf q (by omega), hE q (by omega)]; exact h1.2.2.2.2 q (by omega)))
            · refine eg_bipush dX3_search_33 (v := -2) (by decide) ?_
              exact eg_iret rfl dX3_search_35 (by
                    have e : ap_search ((w, n, k), cf, co, tg, (len, op, lf, rt, res), (fnd, flen, fop, flf, frt, fres), t0, t1, t2, t3) x y z = (-2, ((w, n, k), cf, co, tg, (len, op, lf, rt, res), (fnd, flen, fop, flf, frt, fres), t0, t1, t2, t3)) := if_pos (Or.inr (Or.inr ⟨c5, c6⟩))
                    rw [e] at hQ
                    exact hQ M hI ci_E.rf)
        · refine eg_bipush dX3_search_21 (v := -2) (by decide) ?_
          exact eg_iret rfl dX3_search_23 (by
                have e : ap_search ((w, n, k), cf, co, tg, (len, op, lf, rt, res), (fnd, flen, fop, flf, frt, fres), t0, t1, t2, t3) x y z = (-2, ((w, n, k), cf, co, tg, (len, op, lf, rt, res), (fnd, flen, fop, flf, frt, fres), t0, t1, t2, t3)) := if_pos (by first | exact Or.inl (Or.inl c1) | exact Or.inl (Or.inr c2) | exact Or.inr (Or.inl (Or.inl c3)) | exact Or.inr (Or.inl (Or.inr (Int32.not_le.mp c4))))
                rw [e] at hQ
                exact hQ M hI ci_E.rf)
