/-! ShortestCode: add, reads, take -/
set_option maxHeartbeats 2000000 in
theorem ap_C_add {l : Launch} {E : eg_E} {d kb nb : Nat} {Q : Option Value → eg_G → eg_I → Prop} {G : eg_G} {M : eg_I} {b : Nat} {S : st_T} (hs : sh_C G b) (hok : st_ok S) (hI : ci_I M b S) {x y z : Int32} (hd : 4 ≤ d) (hQ : ∀ M', ci_I M' b (ap_add S x y z).2 → ci_E M M' b → Q (some (.int (ap_add S x y z).1)) G M') : eg_J l E mX3_add d kb nb Q 0 [some (.ref b), some (.int x), some (.int y), some (.int z), none] [] G M := by
  obtain ⟨k0, k1, k2, k3, k4, k5, kV, k6, kR, k7, kF, k8, k9, k10, kH⟩ := id hs
  obtain ⟨gv1, gv2, gv3, gv4⟩ := id kV
  obtain ⟨gr0, gr1, gr2, gr3, gr4, gr5, gr6⟩ := id kR
  obtain ⟨gf0, gf1, gf2, gf3, gf4, gf5, gf6⟩ := id kF
  have kh0 := kH.1
  obtain ⟨⟨w, n, k⟩, cf, co, tg, ⟨len, op, lf, rt, res⟩, ⟨fnd, flen, fop, flf, frt, fres⟩, t0, t1, t2, t3⟩ := S
  replace hI : ci_U M b w n k cf co tg len op lf rt res fnd flen fop flf frt fres t0 t1 t2 t3 := hI
  replace hok : ok_U w n k cf co len op lf rt res fnd flen fop flf frt fres := hok
  obtain ⟨a1, a2, a3, a4, a5, a6, a7, a8, a9, a10, a11⟩ := id hI
  obtain ⟨i1, i2, i3, i4, i5, hw1, hw4, hn1, hn2, hk4⟩ := id a1
  obtain ⟨p3, p4, pl, pa⟩ := id a5
  obtain ⟨-, -, -, -, -, cw, co9, pok, fok⟩ := id hok
  obtain ⟨-, pok2, pok3⟩ := id pok
  have hA := wd_asg hw4 hn2
  refine eg_iload_n dX3_add_0 rfl rfl ?_
  refine eg_callS1 0 0 gk_X3_isOperation gi_X3_isOperation gl_RX3_77 rfl (Nat.le_of_ble_eq_true rfl) (Nat.le_of_ble_eq_true rfl) (Nat.zero_le _) (Nat.zero_le _) (by omega) dX3_add_1 ?_
  refine sp_X3_isOperation (fun z1 z2 => ?_) (fun zz => ?_)
  · refine eg_if_eq 23 dX3_add_4 (by decide) (fun z => absurd z (by decide)) (fun _ => ?_)
    refine eg_aload_n dX3_add_7 rfl rfl ?_
    refine eg_iload_n dX3_add_8 rfl rfl ?_
    refine eg_callV1 0 0 gk_X3_isValue gi_X3_isValue k0 rfl gl_RX3_90 rfl (Nat.le_of_ble_eq_true rfl) (Nat.le_of_ble_eq_true rfl) (Nat.zero_le _) (Nat.zero_le _) (by omega) dX3_add_9 ?_
    refine sp_X3_isValue (k := k) (by omega) hs a1 p3 (fun y1 y2 => ?_) (fun yy => ?_)
    · refine eg_if_eq 23 dX3_add_12 (by decide) (fun z => absurd z (by decide)) (fun _ => ?_)
      refine eg_aload_n dX3_add_15 rfl rfl ?_
      refine eg_iload_n dX3_add_16 rfl rfl ?_
      refine eg_callV1 0 0 gk_X3_isValue gi_X3_isValue k0 rfl gl_RX3_90 rfl (Nat.le_of_ble_eq_true rfl) (Nat.le_of_ble_eq_true rfl) (Nat.zero_le _) (Nat.zero_le _) (by omega) dX3_add_17 ?_
      refine sp_X3_isValue (k := k) (by omega) hs a1 p3 (fun v1 v2 => ?_) (fun vv => ?_)
      · refine eg_if_ne 25 dX3_add_20 (by decide) (fun _ => ?_) (fun z => absurd z (by decide))
        obtain ⟨ex, hX⟩ := nI_cl z1 z2 (by omega)
        obtain ⟨ey, hY⟩ := nI_cl y1 y2 (by omega)
        obtain ⟨ez, hZ⟩ := nI_cl v1 v2 (by omega)
        have hge : ¬ ((x < 0 ∨ nI 13 ≤ x) ∨ (y < 0 ∨ nI (n + k + len) ≤ y) ∨ (z < 0 ∨ nI (n + k + len) ≤ z)) := fun q => q.elim (fun q => q.elim z1 z2) (fun q => q.elim (fun q => q.elim y1 y2) (fun q => q.elim v1 v2))
        refine eg_aload_n dX3_add_25 rfl rfl ?_
        refine eg_getR gf_RX3_26 rfl (by assumption) (by assumption) dX3_add_26 ?_
        refine eg_getI gf_RX3_64 rfl (by assumption) dX3_add_29 ?_
        refine eg_topi p3 ?_
        refine eg_bipush dX3_add_32 (v := nI 12) (by decide) ?_
        refine eg_icmp_lt 40 dX3_add_34 (by decide) (fun c1 => ?_) (fun c1 => ?_)
        · have hl : ¬ 12 ≤ len := fun q => absurd c1 (nI_nlt q (by omega))
          have e : ap_add ((w, n, k), cf, co, tg, (len, op, lf, rt, res), (fnd, flen, fop, flf, frt, fres), t0, t1, t2, t3) x y z = (nI (n + k + len), ((w, n, k), cf, co, tg, (len + 1, ss_up op len x.toNatClampNeg, ss_up lf len y.toNatClampNeg, ss_up rt len (if x.toNatClampNeg = 0 ∨ x.toNatClampNeg = 1 then 0 else z.toNatClampNeg), n + k + len), (fnd, flen, fop, flf, frt, fres), t0, t1, t2, t3)) := by
            unfold ap_add
            rw [if_neg hge, if_neg hl]
          rw [e] at hQ
          generalize x.toNatClampNeg = X at ex hX hQ
          generalize y.toNatClampNeg = Y at ey hY hQ
          generalize z.toNatClampNeg = Z at ez hZ hQ
          subst ex
          subst ey
          subst ez
          refine eg_aload_n dX3_add_40 rfl rfl ?_
          refine eg_callV0 0 0 gk_X3_valueCount gi_X3_valueCount (by assumption) rfl gl_RX3_93 rfl (Nat.le_of_ble_eq_true rfl) (Nat.le_of_ble_eq_true rfl) (Nat.zero_le _) (Nat.zero_le _) (by omega) dX3_add_41 ?_
          refine sp_X3_valueCount (by omega) hs a1 p3 ?_
          refine eg_istore dX3_add_44 (by decide) rfl ?_
          refine eg_aload_n dX3_add_46 rfl rfl ?_
          refine eg_getR gf_RX3_26 rfl (by assumption) (by assumption) dX3_add_47 ?_
          refine eg_aload_n dX3_add_50 rfl rfl ?_
          refine eg_getR gf_RX3_26 rfl (by assumption) (by assumption) dX3_add_51 ?_
          refine eg_getI gf_RX3_64 rfl (by assumption) dX3_add_54 ?_
          refine eg_topi p3 ?_
          refine eg_iload_n dX3_add_57 rfl rfl ?_
          refine eg_iload_n dX3_add_58 rfl rfl ?_
          refine eg_iload_n dX3_add_59 rfl rfl ?_
          refine eg_callS1 0 0 gk_X3_takesOne gi_X3_takesOne gl_RX3_96 rfl (Nat.le_of_ble_eq_true rfl) (Nat.le_of_ble_eq_true rfl) (Nat.zero_le _) (Nat.zero_le _) (by omega) dX3_add_60 ?_
          refine sp_X3_takesOne hX (fun ht => ?_) (fun ht => ?_)
          · rw [if_pos ht] at hQ
            replace hQ : ∀ M', ci_U M' b w n k cf co tg (len + 1) (ss_up op len X) (ss_up lf len Y) (ss_up rt len 0) (n + k + len) fnd flen fop flf frt fres t0 t1 t2 t3 → ci_E M M' b → Q (some (.int (nI (n + k + len)))) G M' := hQ
            refine eg_if_eq 70 dX3_add_63 (by decide) (fun z => absurd z (by decide)) (fun _ => ?_)
            refine eg_iconst dX3_add_66 (v := nI 0) (by decide) ?_
            refine eg_goto 71 dX3_add_67 (by decide) ?_
            refine eg_callV4 0 0 gk_X1_put gi_X1_put gr0 rfl gl_RX3_99 rfl (Nat.le_of_ble_eq_true rfl) (Nat.le_of_ble_eq_true rfl) (Nat.zero_le _) (Nat.zero_le _) (by omega) dX3_add_71 ?_
            refine sp_X1_put kR (by omega) ?_
            refine eg_aload_n dX3_add_74 rfl rfl ?_
            refine eg_getR gf_RX3_26 rfl (by assumption) (by assumption) dX3_add_75 ?_
            refine eg_dup dX3_add_78 rfl ?_
            refine eg_getI gf_RX3_64 rfl (by assumption) dX3_add_79 ?_
            refine eg_topi (show _ = nI len by rw [eg_set_ne (by omega), eg_set_ne (by omega), eg_set_ne (by omega)]; exact p3) ?_
            refine eg_iconst dX3_add_82 (v := nI 1) (by decide) ?_
            refine eg_iadd dX3_add_83 ?_
            refine eg_topi (nI_add len 1) ?_
            refine eg_putI gp_RX3_64 (fun q => by cases q) rfl rfl rfl (by assumption) dX3_add_84 ?_
            refine eg_aload_n dX3_add_87 rfl rfl ?_
            refine eg_getR gf_RX3_26 rfl (by assumption) (by assumption) dX3_add_88 ?_
            refine eg_iload dX3_add_91 rfl ?_
            refine eg_putI gp_RX3_87 (fun q => by cases q) rfl rfl rfl (by assumption) dX3_add_93 ?_
            generalize hM2 : eg_set (eg_set (eg_set (eg_set (eg_set M (b + 23 + 1) len (nI X)) (b + 23 + 2) len (nI Y)) (b + 23 + 3) len (nI 0)) (b + 23) 3 (nI (len + 1))) (b + 23) 4 (nI (n + k + len)) = M2
            have o2 : ∀ q, ¬ (b + 23 ≤ q ∧ q < b + 27) → M2 q = M q := fun q y => by rw [← hM2, eg_set_ne (by omega), eg_set_ne (by omega), eg_set_ne (by omega), eg_set_ne (by omega), eg_set_ne (by omega)]
            have m3 : M2 (b + 23) 3 = nI (len + 1) := by rw [← hM2, eg_set_j (by decide), eg_set_eq]
            have hr : in_R M2 (b + 23) (len + 1) (ss_up op len X) (ss_up lf len Y) (ss_up rt len (0)) (n + k + len) := by
              refine ⟨m3, by rw [← hM2, eg_set_eq], by omega, fun j hj => ?_⟩
              by_cases e : j = len
              · subst e
                rw [ss_up_e, ss_up_e, ss_up_e, ← hM2]
                refine ⟨?_, ?_, ?_⟩
                · rw [eg_set_ne (by omega), eg_set_ne (by omega), eg_set_ne (by omega), eg_set_ne (by omega), eg_set_eq]
                · rw [eg_set_ne (by omega), eg_set_ne (by omega), eg_set_ne (by omega), eg_set_eq]
                · rw [eg_set_ne (by omega), eg_set_ne (by omega), eg_set_eq]
              · rw [ss_up_n e, ss_up_n e, ss_up_n e, ← hM2]
                rw [eg_set_ne (show b + 23 + 1 ≠ b + 23 by omega), eg_set_ne (show b + 23 + 1 ≠ b + 23 by omega), eg_set_ne (show b + 23 + 2 ≠ b + 23 by omega), eg_set_ne (show b + 23 + 2 ≠ b + 23 by omega), eg_set_ne (show b + 23 + 3 ≠ b + 23 by omega), eg_set_ne (show b + 23 + 3 ≠ b + 23 by omega)]
                rw [eg_set_jj e, eg_set_jj e, eg_set_jj e, eg_set_jj e, eg_set_jj e, eg_set_jj e, eg_set_jj e, eg_set_jj e, eg_set_jj e]
                exact pa j (by omega)
            have b1 := a1.eq (o2 (b + 3) (by omega))
            have hpk : ∀ j, j < len + 1 → ss_up op len X j < 13 ∧ ss_up lf len Y j < n + k + j ∧ ss_up rt len (0) j < n + k + j := fun j hj => by
              by_cases e : j = len
              · subst e
                rw [ss_up_e, ss_up_e, ss_up_e]
                exact ⟨hX, hY, by omega⟩
              · rw [ss_up_n e, ss_up_n e, ss_up_n e]
                have := pok2 j (by omega)
                exact ⟨this.1, this.2.1, this.2.2.1⟩
            have hcg : ∀ u s, u < n + k + len → sv w n k cf (ss_up op len X) (ss_up lf len Y) (ss_up rt len (0)) u s = sv w n k cf op lf rt u s := fun u s hu => sv_congr (m := len) (fun j hj => ⟨(pok2 j hj).2.1, (pok2 j hj).2.2.1⟩) (fun j hj => ⟨ss_up_n (by omega), ss_up_n (by omega), ss_up_n (by omega)⟩) hu
            refine eg_aload_n dX3_add_96 rfl rfl ?_
            refine eg_aload_n dX3_add_97 rfl rfl ?_
            refine eg_getR gf_RX3_26 rfl (by assumption) (by assumption) dX3_add_98 ?_
            refine eg_getI gf_RX3_64 rfl (by assumption) dX3_add_101 ?_
            refine eg_topi m3 ?_
            refine eg_iconst dX3_add_104 (v := nI 1) (by decide) ?_
            refine eg_isub dX3_add_105 ?_
            refine eg_topi (show nI (len + 1) - nI 1 = nI len from pk_sub (by omega)) ?_
            refine eg_callV1 0 0 gk_X3_makeFrom gi_X3_makeFrom (by assumption) rfl gl_RX3_103 rfl (Nat.le_of_ble_eq_true rfl) (Nat.le_of_ble_eq_true rfl) (Nat.zero_le _) (Nat.zero_le _) (by omega) dX3_add_106 ?_
            refine sp_X3_makeFrom (cf := cf) (by omega) hs hpk b1 hr (by omega) (fun u s y1 y2 => by rw [o2 _ (by omega), hcg u s y1]; exact a2 u s y1 y2) (fun M3 h3 h4 => ?_)
            refine eg_iload dX3_add_109 rfl ?_
            exact eg_iret rfl dX3_add_111 (hQ M3 (⟨b1.eq (h4 _ (by omega)), fun u s q1 q2 => h3 u s (by omega) q2, fun o ho => by rw [h4 _ (by omega), o2 _ (by omega)]; exact a3 o ho, fun s q => by rw [h4 _ (by omega), o2 _ (by omega)]; exact a4 s q, hr.eq (fun q q1 q2 => h4 q (by omega)), by rw [h4 _ (by omega), o2 _ (by omega)]; exact a6, fun q => (a7 q).eq (fun q q1 q2 => by rw [h4 _ (by omega), o2 _ (by omega)]), by rw [h4 _ (by omega), o2 _ (by omega)]; exact a8, by rw [h4 _ (by omega), o2 _ (by omega)]; exact a9, by rw [h4 _ (by omega), o2 _ (by omega)]; exact a10, by rw [h4 _ (by omega), o2 _ (by omega)]; exact a11⟩) (fun q y => by rw [h4 q (by omega), o2 q (by omega)]))
          · rw [if_neg ht] at hQ
            replace hQ : ∀ M', ci_U M' b w n k cf co tg (len + 1) (ss_up op len X) (ss_up lf len Y) (ss_up rt len Z) (n + k + len) fnd flen fop flf frt fres t0 t1 t2 t3 → ci_E M M' b → Q (some (.int (nI (n + k + len)))) G M' := hQ
            refine eg_if_eq 70 dX3_add_63 (by decide) (fun _ => ?_) (fun z => absurd (show nI 0 = 0 from rfl) z)
            refine eg_iload_n dX3_add_70 rfl rfl ?_
            refine eg_callV4 0 0 gk_X1_put gi_X1_put gr0 rfl gl_RX3_99 rfl (Nat.le_of_ble_eq_true rfl) (Nat.le_of_ble_eq_true rfl) (Nat.zero_le _) (Nat.zero_le _) (by omega) dX3_add_71 ?_
            refine sp_X1_put kR (by omega) ?_
            refine eg_aload_n dX3_add_74 rfl rfl ?_
            refine eg_getR gf_RX3_26 rfl (by assumption) (by assumption) dX3_add_75 ?_
            refine eg_dup dX3_add_78 rfl ?_
            refine eg_getI gf_RX3_64 rfl (by assumption) dX3_add_79 ?_
            refine eg_topi (show _ = nI len by rw [eg_set_ne (by omega), eg_set_ne (by omega), eg_set_ne (by omega)]; exact p3) ?_
            refine eg_iconst dX3_add_82 (v := nI 1) (by decide) ?_
            refine eg_iadd dX3_add_83 ?_
            refine eg_topi (nI_add len 1) ?_
            refine eg_putI gp_RX3_64 (fun q => by cases q) rfl rfl rfl (by assumption) dX3_add_84 ?_
            refine eg_aload_n dX3_add_87 rfl rfl ?_
            refine eg_getR gf_RX3_26 rfl (by assumption) (by assumption) dX3_add_88 ?_
            refine eg_iload dX3_add_91 rfl ?_
            refine eg_putI gp_RX3_87 (fun q => by cases q) rfl rfl rfl (by assumption) dX3_add_93 ?_
            generalize hM2 : eg_set (eg_set (eg_set (eg_set (eg_set M (b + 23 + 1) len (nI X)) (b + 23 + 2) len (nI Y)) (b + 23 + 3) len (nI Z)) (b + 23) 3 (nI (len + 1))) (b + 23) 4 (nI (n + k + len)) = M2
            have o2 : ∀ q, ¬ (b + 23 ≤ q ∧ q < b + 27) → M2 q = M q := fun q y => by rw [← hM2, eg_set_ne (by omega), eg_set_ne (by omega), eg_set_ne (by omega), eg_set_ne (by omega), eg_set_ne (by omega)]
            have m3 : M2 (b + 23) 3 = nI (len + 1) := by rw [← hM2, eg_set_j (by decide), eg_set_eq]
            have hr : in_R M2 (b + 23) (len + 1) (ss_up op len X) (ss_up lf len Y) (ss_up rt len (Z)) (n + k + len) := by
              refine ⟨m3, by rw [← hM2, eg_set_eq], by omega, fun j hj => ?_⟩
              by_cases e : j = len
              · subst e
                rw [ss_up_e, ss_up_e, ss_up_e, ← hM2]
                refine ⟨?_, ?_, ?_⟩
                · rw [eg_set_ne (by omega), eg_set_ne (by omega), eg_set_ne (by omega), eg_set_ne (by omega), eg_set_eq]
                · rw [eg_set_ne (by omega), eg_set_ne (by omega), eg_set_ne (by omega), eg_set_eq]
                · rw [eg_set_ne (by omega), eg_set_ne (by omega), eg_set_eq]
              · rw [ss_up_n e, ss_up_n e, ss_up_n e, ← hM2]
                rw [eg_set_ne (show b + 23 + 1 ≠ b + 23 by omega), eg_set_ne (show b + 23 + 1 ≠ b + 23 by omega), eg_set_ne (show b + 23 + 2 ≠ b + 23 by omega), eg_set_ne (show b + 23 + 2 ≠ b + 23 by omega), eg_set_ne (show b + 23 + 3 ≠ b + 23 by omega), eg_set_ne (show b + 23 + 3 ≠ b + 23 by omega)]
                rw [eg_set_jj e, eg_set_jj e, eg_set_jj e, eg_set_jj e, eg_set_jj e, eg_set_jj e, eg_set_jj e, eg_set_jj e, eg_set_jj e]
                exact pa j (by omega)
            have b1 := a1.eq (o2 (b + 3) (by omega))
            have hpk : ∀ j, j < len + 1 → ss_up op len X j < 13 ∧ ss_up lf len Y j < n + k + j ∧ ss_up rt len (Z) j < n + k + j := fun j hj => by
              by_cases e : j = len
              · subst e
                rw [ss_up_e, ss_up_e, ss_up_e]
                exact ⟨hX, hY, by omega⟩
              · rw [ss_up_n e, ss_up_n e, ss_up_n e]
                have := pok2 j (by omega)
                exact ⟨this.1, this.2.1, this.2.2.1⟩
            have hcg : ∀ u s, u < n + k + len → sv w n k cf (ss_up op len X) (ss_up lf len Y) (ss_up rt len (Z)) u s = sv w n k cf op lf rt u s := fun u s hu => sv_congr (m := len) (fun j hj => ⟨(pok2 j hj).2.1, (pok2 j hj).2.2.1⟩) (fun j hj => ⟨ss_up_n (by omega), ss_up_n (by omega), ss_up_n (by omega)⟩) hu
            refine eg_aload_n dX3_add_96 rfl rfl ?_
            refine eg_aload_n dX3_add_97 rfl rfl ?_
            refine eg_getR gf_RX3_26 rfl (by assumption) (by assumption) dX3_add_98 ?_
            refine eg_getI gf_RX3_64 rfl (by assumption) dX3_add_101 ?_
            refine eg_topi m3 ?_
            refine eg_iconst dX3_add_104 (v := nI 1) (by decide) ?_
            refine eg_isub dX3_add_105 ?_
            refine eg_topi (show nI (len + 1) - nI 1 = nI len from pk_sub (by omega)) ?_
            refine eg_callV1 0 0 gk_X3_makeFrom gi_X3_makeFrom (by assumption) rfl gl_RX3_103 rfl (Nat.le_of_ble_eq_true rfl) (Nat.le_of_ble_eq_true rfl) (Nat.zero_le _) (Nat.zero_le _) (by omega) dX3_add_106 ?_
            refine sp_X3_makeFrom (cf := cf) (by omega) hs hpk b1 hr (by omega) (fun u s y1 y2 => by rw [o2 _ (by omega), hcg u s y1]; exact a2 u s y1 y2) (fun M3 h3 h4 => ?_)
            refine eg_iload dX3_add_109 rfl ?_
            exact eg_iret rfl dX3_add_111 (hQ M3 (⟨b1.eq (h4 _ (by omega)), fun u s q1 q2 => h3 u s (by omega) q2, fun o ho => by rw [h4 _ (by omega), o2 _ (by omega)]; exact a3 o ho, fun s q => by rw [h4 _ (by omega), o2 _ (by omega)]; exact a4 s q, hr.eq (fun q q1 q2 => h4 q (by omega)), by rw [h4 _ (by omega), o2 _ (by omega)]; exact a6, fun q => (a7 q).eq (fun q q1 q2 => by rw [h4 _ (by omega), o2 _ (by omega)]), by rw [h4 _ (by omega), o2 _ (by omega)]; exact a8, by rw [h4 _ (by omega), o2 _ (by omega)]; exact a9, by rw [h4 _ (by omega), o2 _ (by omega)]; exact a10, by rw [h4 _ (by omega), o2 _ (by omega)]; exact a11⟩) (fun q y => by rw [h4 q (by omega), o2 q (by omega)]))
        · refine eg_bipush dX3_add_37 (v := -4) (by decide) ?_
          exact eg_iret rfl dX3_add_39 (by
                  have e : ap_add ((w, n, k), cf, co, tg, (len, op, lf, rt, res), (fnd, flen, fop, flf, frt, fres), t0, t1, t2, t3) x y z = (-4, ((w, n, k), cf, co, tg, (len, op, lf, rt, res), (fnd, flen, fop, flf, frt, fres), t0, t1, t2, t3)) := by
                    unfold ap_add
                    rw [if_neg hge, if_pos (Nat.le_of_not_lt (fun q => c1 (nI_lt q (by omega))))]
                  rw [e] at hQ
                  exact hQ M hI ci_E.rf)
      · refine eg_if_ne 25 dX3_add_20 (by decide) (fun z => absurd (show nI 0 = 0 from rfl) z) (fun _ => ?_)
        refine eg_iconst dX3_add_23 (v := -1) (by decide) ?_
        have e : ap_add ((w, n, k), cf, co, tg, (len, op, lf, rt, res), (fnd, flen, fop, flf, frt, fres), t0, t1, t2, t3) x y z = (-1, ((w, n, k), cf, co, tg, (len, op, lf, rt, res), (fnd, flen, fop, flf, frt, fres), t0, t1, t2, t3)) := if_pos (Or.inr (Or.inr vv))
        rw [e] at hQ
        exact eg_iret rfl dX3_add_24 (hQ M hI ci_E.rf)
    · refine eg_if_eq 23 dX3_add_12 (by decide) (fun _ => ?_) (fun z => absurd (show nI 0 = 0 from rfl) z)
      refine eg_iconst dX3_add_23 (v := -1) (by decide) ?_
      have e : ap_add ((w, n, k), cf, co, tg, (len, op, lf, rt, res), (fnd, flen, fop, flf, frt, fres), t0, t1, t2, t3) x y z = (-1, ((w, n, k), cf, co, tg, (len, op, lf, rt, res), (fnd, flen, fop, flf, frt, fres), t0, t1, t2, t3)) := if_pos (Or.inr (Or.inl yy))
      rw [e] at hQ
      exact eg_iret rfl dX3_add_24 (hQ M hI ci_E.rf)
  · refine eg_if_eq 23 dX3_add_4 (by decide) (fun _ => ?_) (fun z => absurd (show nI 0 = 0 from rfl) z)
    refine eg_iconst dX3_add_23 (v := -1) (by decide) ?_
    have e : ap_add ((w, n, k), cf, co, tg, (len, op, lf, rt, res), (fnd, flen, fop, flf, frt, fres), t0, t1, t2, t3) x y z = (-1, ((w, n, k), cf, co, tg, (len, op, lf, rt, res), (fnd, flen, fop, flf, frt, fres), t0, t1, t2, t3)) := if_pos (Or.inl zz)
    rw [e] at hQ
    exact eg_iret rfl dX3_add_24 (hQ M hI ci_E.rf)
set_option maxHeartbeats 2000000 in
theorem ap_C_value {l : Launch} {E : eg_E} {d kb nb : Nat} {Q : Option Value → eg_G → eg_I → Prop} {G : eg_G} {M : eg_I} {b : Nat} {S : st_T} (hs : sh_C G b) (hok : st_ok S) (hI : ci_I M b S) {x y : Int32} (hd : 3 ≤ d) (hQ : Q (some (.int (ap_value S x y))) G M) : eg_J l E mX3_value d kb nb Q 0 [some (.ref b), some (.int x), some (.int y)] [] G M := by
  obtain ⟨k0, k1, k2, k3, k4, k5, kV, k6, kR, k7, kF, k8, k9, k10, kH⟩ := id hs
  obtain ⟨gv1, gv2, gv3, gv4⟩ := id kV
  obtain ⟨gr0, gr1, gr2, gr3, gr4, gr5, gr6⟩ := id kR
  obtain ⟨gf0, gf1, gf2, gf3, gf4, gf5, gf6⟩ := id kF
  have kh0 := kH.1
  obtain ⟨⟨w, n, k⟩, cf, co, tg, ⟨len, op, lf, rt, res⟩, ⟨fnd, flen, fop, flf, frt, fres⟩, t0, t1, t2, t3⟩ := S
  replace hI : ci_U M b w n k cf co tg len op lf rt res fnd flen fop flf frt fres t0 t1 t2 t3 := hI
  replace hok : ok_U w n k cf co len op lf rt res fnd flen fop flf frt fres := hok
  obtain ⟨a1, a2, a3, a4, a5, a6, a7, a8, a9, a10, a11⟩ := id hI
  obtain ⟨i1, i2, i3, i4, i5, hw1, hw4, hn1, hn2, hk4⟩ := id a1
  obtain ⟨p3, p4, pl, pa⟩ := id a5
  obtain ⟨-, -, -, -, -, cw, co9, pok, fok⟩ := id hok
  obtain ⟨-, pok2, pok3⟩ := id pok
  have hA := wd_asg hw4 hn2
  refine eg_aload_n dX3_value_0 rfl rfl ?_
  refine eg_iload_n dX3_value_1 rfl rfl ?_
  refine eg_callV1 0 0 gk_X3_isValue gi_X3_isValue (by assumption) rfl gl_RX3_90 rfl (Nat.le_of_ble_eq_true rfl) (Nat.le_of_ble_eq_true rfl) (Nat.zero_le _) (Nat.zero_le _) (by omega) dX3_value_2 ?_
  refine sp_X3_isValue (k := k) (by omega) hs a1 p3 (fun z1 z2 => ?_) (fun zz => ?_)
  · refine eg_if_eq 19 dX3_value_5 (by decide) (fun z => absurd z (by decide)) (fun _ => ?_)
    refine eg_aload_n dX3_value_8 rfl rfl ?_
    refine eg_getR gf_RX3_19 rfl k0 k5 dX3_value_9 ?_
    refine eg_iload_n dX3_value_12 rfl rfl ?_
    refine eg_callV1 0 0 gk_X2_isAssignment gi_X2_isAssignment gv1 rfl gl_RX3_80 rfl (Nat.le_of_ble_eq_true rfl) (Nat.le_of_ble_eq_true rfl) (Nat.zero_le _) (Nat.zero_le _) (by omega) dX3_value_13 ?_
    refine sp_X2_isAssignment gv1 a1 (fun y1 y2 => ?_) (fun yy => ?_)
    · refine eg_if_ne 21 dX3_value_16 (by decide) (fun _ => ?_) (fun z => absurd z (by decide))
      rw [show ap_value ((w, n, k), cf, co, tg, (len, op, lf, rt, res), (fnd, flen, fop, flf, frt, fres), t0, t1, t2, t3) x y = sv w n k cf op lf rt x.toNatClampNeg y.toNatClampNeg from if_neg (fun q => q.elim (fun q => q.elim z1 z2) (fun q => q.elim y1 y2))] at hQ
      obtain ⟨ex, hX⟩ := nI_cl z1 z2 (by omega)
      obtain ⟨ey, hY⟩ := nI_cl y1 y2 (by omega)
      generalize x.toNatClampNeg = X at ex hX hQ
      generalize y.toNatClampNeg = Y at ey hY hQ
      subst ex
      subst ey
      refine eg_aload_n dX3_value_21 rfl rfl ?_
      refine eg_getR gf_RX3_19 rfl (by assumption) (by assumption) dX3_value_22 ?_
      refine eg_getR gf_RX3_83 rfl (by assumption) (by assumption) dX3_value_25 ?_
      refine eg_iload_n dX3_value_28 rfl rfl ?_
      refine eg_aaldN rfl (by assumption) (by omega) (by decide) (gv4 X (by omega)).1 dX3_value_29 ?_
      refine eg_iload_n dX3_value_30 rfl rfl ?_
      refine eg_ialdN (gv4 X (by omega)).2 (by omega) (by decide) dX3_value_31 ?_
      refine eg_topi (a2 X Y (by omega) hY) ?_
      exact eg_iret rfl dX3_value_32 hQ
    · refine eg_if_ne 21 dX3_value_16 (by decide) (fun z => absurd (show nI 0 = 0 from rfl) z) (fun _ => ?_)
      rw [show ap_value ((w, n, k), cf, co, tg, (len, op, lf, rt, res), (fnd, flen, fop, flf, frt, fres), t0, t1, t2, t3) x y = -1 from if_pos (Or.inr yy)] at hQ
      refine eg_iconst dX3_value_19 (v := -1) (by decide) ?_
      exact eg_iret rfl dX3_value_20 hQ
  · refine eg_if_eq 19 dX3_value_5 (by decide) (fun _ => ?_) (fun z => absurd (show nI 0 = 0 from rfl) z)
    rw [show ap_value ((w, n, k), cf, co, tg, (len, op, lf, rt, res), (fnd, flen, fop, flf, frt, fres), t0, t1, t2, t3) x y = -1 from if_pos (Or.inl zz)] at hQ
    refine eg_iconst dX3_value_19 (v := -1) (by decide) ?_
    exact eg_iret rfl dX3_value_20 hQ
theorem sw_out3 {x : Int32} (h0 : ¬ x = 0) (h1 : ¬ x = 1) (h2 : ¬ x = 2) : x.toInt < 0 ∨ 2 < x.toInt := by
  by_cases a : x.toInt < 0
  · exact Or.inl a
  · by_cases b : 2 < x.toInt
    · exact Or.inr b
    · exfalso
      have : x.toInt = 0 ∨ x.toInt = 1 ∨ x.toInt = 2 := by omega
      rcases this with e | e | e
      · exact h0 (Int32.toInt_inj.mp (by rw [e]; rfl))
      · exact h1 (Int32.toInt_inj.mp (by rw [e]; rfl))
      · exact h2 (Int32.toInt_inj.mp (by rw [e]; rfl))
theorem sw_out4 {x : Int32} (h0 : ¬ x = 0) (h1 : ¬ x = 1) (h2 : ¬ x = 2) (h3 : ¬ x = 3) : x.toInt < 0 ∨ 3 < x.toInt := by
  by_cases a : x.toInt < 0
  · exact Or.inl a
  · by_cases b : 3 < x.toInt
    · exact Or.inr b
    · exfalso
      have : x.toInt = 0 ∨ x.toInt = 1 ∨ x.toInt = 2 ∨ x.toInt = 3 := by omega
      rcases this with e | e | e | e
      · exact h0 (Int32.toInt_inj.mp (by rw [e]; rfl))
      · exact h1 (Int32.toInt_inj.mp (by rw [e]; rfl))
      · exact h2 (Int32.toInt_inj.mp (by rw [e]; rfl))
      · exact h3 (Int32.toInt_inj.mp (by rw [e]; rfl))
theorem sw_out6 {x : Int32} (h0 : ¬ x = 0) (h1 : ¬ x = 1) (h2 : ¬ x = 2) (h3 : ¬ x = 3) (h4 : ¬ x = 4) (h5 : ¬ x = 5) : x.toInt < 0 ∨ 5 < x.toInt := by
  by_cases a : x.toInt < 0
  · exact Or.inl a
  · by_cases b : 5 < x.toInt
    · exact Or.inr b
    · exfalso
      have : x.toInt = 0 ∨ x.toInt = 1 ∨ x.toInt = 2 ∨ x.toInt = 3 ∨ x.toInt = 4 ∨ x.toInt = 5 := by omega
      rcases this with e | e | e | e | e | e
      · exact h0 (Int32.toInt_inj.mp (by rw [e]; rfl))
      · exact h1 (Int32.toInt_inj.mp (by rw [e]; rfl))
      · exact h2 (Int32.toInt_inj.mp (by rw [e]; rfl))
      · exact h3 (Int32.toInt_inj.mp (by rw [e]; rfl))
      · exact h4 (Int32.toInt_inj.mp (by rw [e]; rfl))
      · exact h5 (Int32.toInt_inj.mp (by rw [e]; rfl))
set_option maxHeartbeats 2000000 in
theorem ap_C_told {l : Launch} {E : eg_E} {d kb nb : Nat} {Q : Option Value → eg_G → eg_I → Prop} {G : eg_G} {M : eg_I} {b : Nat} {S : st_T} (hs : sh_C G b) (hok : st_ok S) (hI : ci_I M b S) {y : Int32} (hd : 1 ≤ d) (hQ : Q (some (.int (ap_told S y))) G M) : eg_J l E mX3_told d kb nb Q 0 [some (.ref b), some (.int y)] [] G M := by
  obtain ⟨k0, k1, k2, k3, k4, k5, kV, k6, kR, k7, kF, k8, k9, k10, kH⟩ := id hs
  obtain ⟨gv1, gv2, gv3, gv4⟩ := id kV
  obtain ⟨gr0, gr1, gr2, gr3, gr4, gr5, gr6⟩ := id kR
  obtain ⟨gf0, gf1, gf2, gf3, gf4, gf5, gf6⟩ := id kF
  have kh0 := kH.1
  obtain ⟨⟨w, n, k⟩, cf, co, tg, ⟨len, op, lf, rt, res⟩, ⟨fnd, flen, fop, flf, frt, fres⟩, t0, t1, t2, t3⟩ := S
  replace hI : ci_U M b w n k cf co tg len op lf rt res fnd flen fop flf frt fres t0 t1 t2 t3 := hI
  replace hok : ok_U w n k cf co len op lf rt res fnd flen fop flf frt fres := hok
  obtain ⟨a1, a2, a3, a4, a5, a6, a7, a8, a9, a10, a11⟩ := id hI
  obtain ⟨i1, i2, i3, i4, i5, hw1, hw4, hn1, hn2, hk4⟩ := id a1
  obtain ⟨p3, p4, pl, pa⟩ := id a5
  obtain ⟨-, -, -, -, -, cw, co9, pok, fok⟩ := id hok
  obtain ⟨-, pok2, pok3⟩ := id pok
  have hA := wd_asg hw4 hn2
  refine eg_iload_n dX3_told_0 rfl rfl ?_
  by_cases e0 : y = 0
  · rw [e0] at hQ ⊢
    refine eg_tableIn 32 dX3_told_1 (by decide) (by decide) rfl (by decide) ?_
    rw [show ap_told ((w, n, k), cf, co, tg, (len, op, lf, rt, res), (fnd, flen, fop, flf, frt, fres), t0, t1, t2, t3) 0 = t0 from rfl] at hQ
    refine eg_aload_n dX3_told_32 rfl rfl ?_
    refine eg_getR gf_RX3_40 rfl (by assumption) (by assumption) dX3_told_33 ?_
    refine eg_getI gf_RX3_150 rfl (by assumption) dX3_told_36 ?_
    refine eg_topi a8 ?_
    exact eg_iret rfl dX3_told_39 hQ
  by_cases e1 : y = 1
  · rw [e1] at hQ ⊢
    refine eg_tableIn 40 dX3_told_1 (by decide) (by decide) rfl (by decide) ?_
    rw [show ap_told ((w, n, k), cf, co, tg, (len, op, lf, rt, res), (fnd, flen, fop, flf, frt, fres), t0, t1, t2, t3) 1 = t1 from rfl] at hQ
    refine eg_aload_n dX3_told_40 rfl rfl ?_
    refine eg_getR gf_RX3_40 rfl (by assumption) (by assumption) dX3_told_41 ?_
    refine eg_getI gf_RX3_153 rfl (by assumption) dX3_told_44 ?_
    refine eg_topi a9 ?_
    exact eg_iret rfl dX3_told_47 hQ
  by_cases e2 : y = 2
  · rw [e2] at hQ ⊢
    refine eg_tableIn 48 dX3_told_1 (by decide) (by decide) rfl (by decide) ?_
    rw [show ap_told ((w, n, k), cf, co, tg, (len, op, lf, rt, res), (fnd, flen, fop, flf, frt, fres), t0, t1, t2, t3) 2 = t2 from rfl] at hQ
    refine eg_aload_n dX3_told_48 rfl rfl ?_
    refine eg_getR gf_RX3_40 rfl (by assumption) (by assumption) dX3_told_49 ?_
    refine eg_getI gf_RX3_156 rfl (by assumption) dX3_told_52 ?_
    refine eg_topi a10 ?_
    exact eg_iret rfl dX3_told_55 hQ
  by_cases e3 : y = 3
  · rw [e3] at hQ ⊢
    refine eg_tableIn 56 dX3_told_1 (by decide) (by decide) rfl (by decide) ?_
    rw [show ap_told ((w, n, k), cf, co, tg, (len, op, lf, rt, res), (fnd, flen, fop, flf, frt, fres), t0, t1, t2, t3) 3 = t3 from rfl] at hQ
    refine eg_aload_n dX3_told_56 rfl rfl ?_
    refine eg_getR gf_RX3_40 rfl (by assumption) (by assumption) dX3_told_57 ?_
    refine eg_getI gf_RX3_159 rfl (by assumption) dX3_told_60 ?_
    refine eg_topi a11 ?_
    exact eg_iret rfl dX3_told_63 hQ
  refine eg_tableOut 64 dX3_told_1 (sw_out4 e0 e1 e2 e3) (by decide) ?_
  rw [show ap_told ((w, n, k), cf, co, tg, (len, op, lf, rt, res), (fnd, flen, fop, flf, frt, fres), t0, t1, t2, t3) y = -2 by unfold ap_told; rw [if_neg e0, if_neg e1, if_neg e2, if_neg e3]] at hQ
  refine eg_bipush dX3_told_64 (v := -2) (by decide) ?_
  exact eg_iret rfl dX3_told_66 hQ
set_option maxHeartbeats 2000000 in
theorem lp_X3_programCost {l : Launch} {E : eg_E} {d kb nb : Nat} {Q : Option Value → eg_G → eg_I → Prop} {G : eg_G} {M : eg_I} {b len res : Nat} {co op lf rt : Nat → Nat} (hs : sh_C G b) (hr : in_R M (b + 23) len op lf rt res) (hco : ∀ o, o < 13 → M (b + 1) o = nI (co o)) (hop : ∀ j, j < len → op j < 13) (hQ : Q (some (.int (nI (sum_c co op len)))) G M) : ∀ (t s : Nat), s + t = len → eg_J l E mX3_programCost d kb nb Q 4 [some (.ref b), some (.int (nI (sum_c co op s))), some (.int (nI s))] [] G M := by
  intro t
  induction t with
  | zero =>
    intro s hst
    obtain ⟨k0, k1, k2, k3, k4, k5, kV, k6, kR, k7, kF, k8, k9, k10, kH⟩ := id hs
    obtain ⟨gv1, gv2, gv3, gv4⟩ := id kV
    obtain ⟨gr0, gr1, gr2, gr3, gr4, gr5, gr6⟩ := id kR
    obtain ⟨gf0, gf1, gf2, gf3, gf4, gf5, gf6⟩ := id kF
    have kh0 := kH.1
    obtain ⟨p3, p4, pl, pa⟩ := id hr
    refine eg_iload_n dX3_programCost_4 rfl rfl ?_
    refine eg_aload_n dX3_programCost_5 rfl rfl ?_
    refine eg_getR gf_RX3_26 rfl (by assumption) (by assumption) dX3_programCost_6 ?_
    refine eg_getI gf_RX3_64 rfl (by assumption) dX3_programCost_9 ?_
    refine eg_topi p3 ?_
    refine eg_icmp_ge 38 dX3_programCost_12 (by decide) (fun c12 => ?_) (fun c12 => absurd (nI_le (by omega) (by omega)) c12)
    refine eg_iload_n dX3_programCost_38 rfl rfl ?_
    have e : s = len := by omega
    subst e
    exact eg_iret rfl dX3_programCost_39 hQ
  | succ t ih =>
    intro s hst
    obtain ⟨k0, k1, k2, k3, k4, k5, kV, k6, kR, k7, kF, k8, k9, k10, kH⟩ := id hs
    obtain ⟨gv1, gv2, gv3, gv4⟩ := id kV
    obtain ⟨gr0, gr1, gr2, gr3, gr4, gr5, gr6⟩ := id kR
    obtain ⟨gf0, gf1, gf2, gf3, gf4, gf5, gf6⟩ := id kF
    have kh0 := kH.1
    obtain ⟨p3, p4, pl, pa⟩ := id hr
    refine eg_iload_n dX3_programCost_4 rfl rfl ?_
    refine eg_aload_n dX3_programCost_5 rfl rfl ?_
    refine eg_getR gf_RX3_26 rfl (by assumption) (by assumption) dX3_programCost_6 ?_
    refine eg_getI gf_RX3_64 rfl (by assumption) dX3_programCost_9 ?_
    refine eg_topi p3 ?_
    refine eg_icmp_ge 38 dX3_programCost_12 (by decide) (fun c12 => absurd c12 (nI_ge (by omega) (by omega))) (fun c12 => ?_)
    refine eg_iload_n dX3_programCost_15 rfl rfl ?_
    refine eg_aload_n dX3_programCost_16 rfl rfl ?_
    refine eg_getR gf_RX3_9 rfl (by assumption) (by assumption) dX3_programCost_17 ?_
    refine eg_aload_n dX3_programCost_20 rfl rfl ?_
    refine eg_getR gf_RX3_26 rfl (by assumption) (by assumption) dX3_programCost_21 ?_
    refine eg_getR gf_RX3_106 rfl (by assumption) (by assumption) dX3_programCost_24 ?_
    refine eg_iload_n dX3_programCost_27 rfl rfl ?_
    refine eg_ialdN (by assumption) (by omega) (by decide) dX3_programCost_28 ?_
    refine eg_topi (pa s (by omega)).1 ?_
    refine eg_ialdN (by assumption) (hop s (by omega)) (by decide) dX3_programCost_29 ?_
    refine eg_topi (hco _ (hop s (by omega))) ?_
    refine eg_iadd dX3_programCost_30 ?_
    refine eg_topi (nI_add (sum_c co op s) (co (op s))) ?_
    refine eg_istore_n dX3_programCost_31 rfl (by decide) rfl ?_
    refine eg_iinc dX3_programCost_32 (by decide) rfl (eg_inc s) rfl ?_
    refine eg_goto 4 dX3_programCost_35 (by decide) ?_
    exact ih (s + 1) (by omega)
set_option maxHeartbeats 2000000 in
theorem ap_C_count {l : Launch} {E : eg_E} {d kb nb : Nat} {Q : Option Value → eg_G → eg_I → Prop} {G : eg_G} {M : eg_I} {b : Nat} {S : st_T} (hs : sh_C G b) (hok : st_ok S) (hI : ci_I M b S) {y : Int32} (hd : 1 ≤ d) (hQ : Q (some (.int (ap_count S y))) G M) : eg_J l E mX3_count d kb nb Q 0 [some (.ref b), some (.int y)] [] G M := by
  obtain ⟨k0, k1, k2, k3, k4, k5, kV, k6, kR, k7, kF, k8, k9, k10, kH⟩ := id hs
  obtain ⟨gv1, gv2, gv3, gv4⟩ := id kV
  obtain ⟨gr0, gr1, gr2, gr3, gr4, gr5, gr6⟩ := id kR
  obtain ⟨gf0, gf1, gf2, gf3, gf4, gf5, gf6⟩ := id kF
  have kh0 := kH.1
  obtain ⟨⟨w, n, k⟩, cf, co, tg, ⟨len, op, lf, rt, res⟩, ⟨fnd, flen, fop, flf, frt, fres⟩, t0, t1, t2, t3⟩ := S
  replace hI : ci_U M b w n k cf co tg len op lf rt res fnd flen fop flf frt fres t0 t1 t2 t3 := hI
  replace hok : ok_U w n k cf co len op lf rt res fnd flen fop flf frt fres := hok
  obtain ⟨a1, a2, a3, a4, a5, a6, a7, a8, a9, a10, a11⟩ := id hI
  obtain ⟨i1, i2, i3, i4, i5, hw1, hw4, hn1, hn2, hk4⟩ := id a1
  obtain ⟨p3, p4, pl, pa⟩ := id a5
  obtain ⟨-, -, -, -, -, cw, co9, pok, fok⟩ := id hok
  obtain ⟨-, pok2, pok3⟩ := id pok
  have hA := wd_asg hw4 hn2
  refine eg_iload_n dX3_count_0 rfl rfl ?_
  by_cases e0 : y = 0
  · rw [e0] at hQ ⊢
    refine eg_tableIn 40 dX3_count_1 (by decide) (by decide) rfl (by decide) ?_
    rw [show ap_count ((w, n, k), cf, co, tg, (len, op, lf, rt, res), (fnd, flen, fop, flf, frt, fres), t0, t1, t2, t3) 0 = nI w from rfl] at hQ
    refine eg_aload_n dX3_count_40 rfl rfl ?_
    refine eg_getR gf_RX3_19 rfl (by assumption) (by assumption) dX3_count_41 ?_
    refine eg_getI gf_RX3_115 rfl (by assumption) dX3_count_44 ?_
    refine eg_topi i1 ?_
    exact eg_iret rfl dX3_count_47 hQ
  by_cases e1 : y = 1
  · rw [e1] at hQ ⊢
    refine eg_tableIn 48 dX3_count_1 (by decide) (by decide) rfl (by decide) ?_
    rw [show ap_count ((w, n, k), cf, co, tg, (len, op, lf, rt, res), (fnd, flen, fop, flf, frt, fres), t0, t1, t2, t3) 1 = nI n from rfl] at hQ
    refine eg_aload_n dX3_count_48 rfl rfl ?_
    refine eg_getR gf_RX3_19 rfl (by assumption) (by assumption) dX3_count_49 ?_
    refine eg_getI gf_RX3_118 rfl (by assumption) dX3_count_52 ?_
    refine eg_topi i3 ?_
    exact eg_iret rfl dX3_count_55 hQ
  by_cases e2 : y = 2
  · rw [e2] at hQ ⊢
    refine eg_tableIn 56 dX3_count_1 (by decide) (by decide) rfl (by decide) ?_
    rw [show ap_count ((w, n, k), cf, co, tg, (len, op, lf, rt, res), (fnd, flen, fop, flf, frt, fres), t0, t1, t2, t3) 2 = nI k from rfl] at hQ
    refine eg_aload_n dX3_count_56 rfl rfl ?_
    refine eg_getR gf_RX3_19 rfl (by assumption) (by assumption) dX3_count_57 ?_
    refine eg_getI gf_RX3_67 rfl (by assumption) dX3_count_60 ?_
    refine eg_topi i4 ?_
    exact eg_iret rfl dX3_count_63 hQ
  by_cases e3 : y = 3
  · rw [e3] at hQ ⊢
    refine eg_tableIn 64 dX3_count_1 (by decide) (by decide) rfl (by decide) ?_
    rw [show ap_count ((w, n, k), cf, co, tg, (len, op, lf, rt, res), (fnd, flen, fop, flf, frt, fres), t0, t1, t2, t3) 3 = nI len from rfl] at hQ
    refine eg_aload_n dX3_count_64 rfl rfl ?_
    refine eg_getR gf_RX3_26 rfl (by assumption) (by assumption) dX3_count_65 ?_
    refine eg_getI gf_RX3_64 rfl (by assumption) dX3_count_68 ?_
    refine eg_topi p3 ?_
    exact eg_iret rfl dX3_count_71 hQ
  by_cases e4 : y = 4
  · rw [e4] at hQ ⊢
    refine eg_tableIn 72 dX3_count_1 (by decide) (by decide) rfl (by decide) ?_
    rw [show ap_count ((w, n, k), cf, co, tg, (len, op, lf, rt, res), (fnd, flen, fop, flf, frt, fres), t0, t1, t2, t3) 4 = nI res from rfl] at hQ
    refine eg_aload_n dX3_count_72 rfl rfl ?_
    refine eg_getR gf_RX3_26 rfl (by assumption) (by assumption) dX3_count_73 ?_
    refine eg_getI gf_RX3_87 rfl (by assumption) dX3_count_76 ?_
    refine eg_topi p4 ?_
    exact eg_iret rfl dX3_count_79 hQ
  by_cases e5 : y = 5
  · rw [e5] at hQ ⊢
    refine eg_tableIn 80 dX3_count_1 (by decide) (by decide) rfl (by decide) ?_
    rw [show ap_count ((w, n, k), cf, co, tg, (len, op, lf, rt, res), (fnd, flen, fop, flf, frt, fres), t0, t1, t2, t3) 5 = nI (sum_c co op len) from rfl] at hQ
    refine eg_aload_n dX3_count_80 rfl rfl ?_
    refine eg_callV0 0 0 gk_X3_programCost gi_X3_programCost (by assumption) rfl gl_RX3_121 rfl (Nat.le_of_ble_eq_true rfl) (Nat.le_of_ble_eq_true rfl) (Nat.zero_le _) (Nat.zero_le _) (by omega) dX3_count_81 ?_
    refine eg_iconst dX3_programCost_0 (v := nI 0) (by decide) ?_
    refine eg_istore_n dX3_programCost_1 rfl (by decide) rfl ?_
    refine eg_iconst dX3_programCost_2 (v := nI 0) (by decide) ?_
    refine eg_istore_n dX3_programCost_3 rfl (by decide) rfl ?_
    exact lp_X3_programCost hs a5 a3 (fun j hj => (pok2 j hj).1) (eg_iret rfl dX3_count_84 hQ) len 0 (by omega)
  refine eg_tableOut 85 dX3_count_1 (sw_out6 e0 e1 e2 e3 e4 e5) (by decide) ?_
  rw [show ap_count ((w, n, k), cf, co, tg, (len, op, lf, rt, res), (fnd, flen, fop, flf, frt, fres), t0, t1, t2, t3) y = -2 by unfold ap_count; rw [if_neg e0, if_neg e1, if_neg e2, if_neg e3, if_neg e4, if_neg e5]] at hQ
  refine eg_bipush dX3_count_85 (v := -2) (by decide) ?_
  exact eg_iret rfl dX3_count_87 hQ
set_option maxHeartbeats 2000000 in
theorem ap_C_instr {l : Launch} {E : eg_E} {d kb nb : Nat} {Q : Option Value → eg_G → eg_I → Prop} {G : eg_G} {M : eg_I} {b : Nat} {S : st_T} (hs : sh_C G b) (hok : st_ok S) (hI : ci_I M b S) {x y : Int32} (hd : 1 ≤ d) (hQ : Q (some (.int (ap_instr S x y))) G M) : eg_J l E mX3_instruction d kb nb Q 0 [some (.ref b), some (.int x), some (.int y)] [] G M := by
  obtain ⟨k0, k1, k2, k3, k4, k5, kV, k6, kR, k7, kF, k8, k9, k10, kH⟩ := id hs
  obtain ⟨gv1, gv2, gv3, gv4⟩ := id kV
  obtain ⟨gr0, gr1, gr2, gr3, gr4, gr5, gr6⟩ := id kR
  obtain ⟨gf0, gf1, gf2, gf3, gf4, gf5, gf6⟩ := id kF
  have kh0 := kH.1
  obtain ⟨⟨w, n, k⟩, cf, co, tg, ⟨len, op, lf, rt, res⟩, ⟨fnd, flen, fop, flf, frt, fres⟩, t0, t1, t2, t3⟩ := S
  replace hI : ci_U M b w n k cf co tg len op lf rt res fnd flen fop flf frt fres t0 t1 t2 t3 := hI
  replace hok : ok_U w n k cf co len op lf rt res fnd flen fop flf frt fres := hok
  obtain ⟨a1, a2, a3, a4, a5, a6, a7, a8, a9, a10, a11⟩ := id hI
  obtain ⟨i1, i2, i3, i4, i5, hw1, hw4, hn1, hn2, hk4⟩ := id a1
  obtain ⟨p3, p4, pl, pa⟩ := id a5
  obtain ⟨-, -, -, -, -, cw, co9, pok, fok⟩ := id hok
  obtain ⟨-, pok2, pok3⟩ := id pok
  have hA := wd_asg hw4 hn2
  refine eg_iload_n dX3_instruction_0 rfl rfl ?_
  refine eg_if_lt 15 dX3_instruction_1 (by decide) (fun c1 => ?_) (fun c1 => ?_)
  · refine eg_iconst dX3_instruction_15 (v := -1) (by decide) ?_
    exact eg_iret rfl dX3_instruction_16 (by rw [show ap_instr ((w, n, k), cf, co, tg, (len, op, lf, rt, res), (fnd, flen, fop, flf, frt, fres), t0, t1, t2, t3) x y = -1 from if_pos (by first | exact Or.inl c1 | exact Or.inr (Int32.not_lt.mp c2))] at hQ; exact hQ)
  · refine eg_iload_n dX3_instruction_4 rfl rfl ?_
    refine eg_aload_n dX3_instruction_5 rfl rfl ?_
    refine eg_getR gf_RX3_26 rfl (by assumption) (by assumption) dX3_instruction_6 ?_
    refine eg_getI gf_RX3_64 rfl (by assumption) dX3_instruction_9 ?_
    refine eg_topi p3 ?_
    refine eg_icmp_lt 17 dX3_instruction_12 (by decide) (fun c2 => ?_) (fun c2 => ?_)
    · have hge : ¬ (x < 0 ∨ nI len ≤ x) := fun q => q.elim c1 (Int32.not_le.mpr c2)
      obtain ⟨ex, hX⟩ := nI_cl c1 (Int32.not_le.mpr c2) (by omega)
      refine eg_iload_n dX3_instruction_17 rfl rfl ?_
      by_cases e0 : y = 0
      · rw [e0] at hQ ⊢
        refine eg_tableIn 44 dX3_instruction_18 (by decide) (by decide) rfl (by decide) ?_
        rw [show ap_instr ((w, n, k), cf, co, tg, (len, op, lf, rt, res), (fnd, flen, fop, flf, frt, fres), t0, t1, t2, t3) x 0 = nI (op x.toNatClampNeg) by unfold ap_instr; rw [if_neg hge]; rfl] at hQ
        generalize x.toNatClampNeg = X at ex hX hQ
        subst ex
        refine eg_aload_n dX3_instruction_44 rfl rfl ?_
        refine eg_getR gf_RX3_26 rfl (by assumption) (by assumption) dX3_instruction_45 ?_
        refine eg_getR gf_RX3_106 rfl (by assumption) (by assumption) dX3_instruction_48 ?_
        refine eg_iload_n dX3_instruction_51 rfl rfl ?_
        refine eg_ialdN (by assumption) (by omega) (by decide) dX3_instruction_52 ?_
        refine eg_topi (pa X (by omega)).1 ?_
        exact eg_iret rfl dX3_instruction_53 hQ
      by_cases e1 : y = 1
      · rw [e1] at hQ ⊢
        refine eg_tableIn 54 dX3_instruction_18 (by decide) (by decide) rfl (by decide) ?_
        rw [show ap_instr ((w, n, k), cf, co, tg, (len, op, lf, rt, res), (fnd, flen, fop, flf, frt, fres), t0, t1, t2, t3) x 1 = nI (lf x.toNatClampNeg) by unfold ap_instr; rw [if_neg hge]; rfl] at hQ
        generalize x.toNatClampNeg = X at ex hX hQ
        subst ex
        refine eg_aload_n dX3_instruction_54 rfl rfl ?_
        refine eg_getR gf_RX3_26 rfl (by assumption) (by assumption) dX3_instruction_55 ?_
        refine eg_getR gf_RX3_109 rfl (by assumption) (by assumption) dX3_instruction_58 ?_
        refine eg_iload_n dX3_instruction_61 rfl rfl ?_
        refine eg_ialdN (by assumption) (by omega) (by decide) dX3_instruction_62 ?_
        refine eg_topi (pa X (by omega)).2.1 ?_
        exact eg_iret rfl dX3_instruction_63 hQ
      by_cases e2 : y = 2
      · rw [e2] at hQ ⊢
        refine eg_tableIn 64 dX3_instruction_18 (by decide) (by decide) rfl (by decide) ?_
        rw [show ap_instr ((w, n, k), cf, co, tg, (len, op, lf, rt, res), (fnd, flen, fop, flf, frt, fres), t0, t1, t2, t3) x 2 = nI (rt x.toNatClampNeg) by unfold ap_instr; rw [if_neg hge]; rfl] at hQ
        generalize x.toNatClampNeg = X at ex hX hQ
        subst ex
        refine eg_aload_n dX3_instruction_64 rfl rfl ?_
        refine eg_getR gf_RX3_26 rfl (by assumption) (by assumption) dX3_instruction_65 ?_
        refine eg_getR gf_RX3_112 rfl (by assumption) (by assumption) dX3_instruction_68 ?_
        refine eg_iload_n dX3_instruction_71 rfl rfl ?_
        refine eg_ialdN (by assumption) (by omega) (by decide) dX3_instruction_72 ?_
        refine eg_topi (pa X (by omega)).2.2 ?_
        exact eg_iret rfl dX3_instruction_73 hQ
      refine eg_tableOut 74 dX3_instruction_18 (sw_out3 e0 e1 e2) (by decide) ?_
      rw [show ap_instr ((w, n, k), cf, co, tg, (len, op, lf, rt, res), (fnd, flen, fop, flf, frt, fres), t0, t1, t2, t3) x y = -2 by unfold ap_instr; rw [if_neg hge, if_neg e0, if_neg e1, if_neg e2]] at hQ
      refine eg_bipush dX3_instruction_74 (v := -2) (by decide) ?_
      exact eg_iret rfl dX3_instruction_76 hQ
    · refine eg_iconst dX3_instruction_15 (v := -1) (by decide) ?_
      exact eg_iret rfl dX3_instruction_16 (by rw [show ap_instr ((w, n, k), cf, co, tg, (len, op, lf, rt, res), (fnd, flen, fop, flf, frt, fres), t0, t1, t2, t3) x y = -1 from if_pos (by first | exact Or.inl c1 | exact Or.inr (Int32.not_lt.mp c2))] at hQ; exact hQ)
