/-! ShortestCode: differ, take, takeOut, CLEANING -/
set_option maxHeartbeats 2000000 in
theorem ap_C_differ {l : Launch} {E : eg_E} {d kb nb : Nat} {Q : Option Value → eg_G → eg_I → Prop} {G : eg_G} {M : eg_I} {b : Nat} {S : st_T} (hs : sh_C G b) (hok : st_ok S) (hI : ci_I M b S) {x y : Int32} (hd : 3 ≤ d) (hQ : Q (some (.int (ap_differ S x y))) G M) : eg_J l E mX3_differ d kb nb Q 0 [some (.ref b), some (.int x), some (.int y), none, none] [] G M := by
  obtain ⟨k0, k1, k2, k3, k4, k5, kV, k6, kR, k7, kF, k8, k9, k10, kH⟩ := id hs
  obtain ⟨gv1, gv2, gv3, gv4⟩ := id kV
  obtain ⟨gr0, gr1, gr2, gr3, gr4, gr5, gr6⟩ := id kR
  obtain ⟨gf0, gf1, gf2, gf3, gf4, gf5, gf6⟩ := id kF
  have kh0 := kH.1
  obtain ⟨⟨w, n, k⟩, cf, co, tg, ⟨len, op, lf, rt, res⟩, ⟨fnd, flen, fop, flf, frt, fres⟩, t0, t1, t2, t3⟩ := S
  replace hI : ci_U M b w n k cf co tg len op lf rt res fnd flen fop flf frt fres t0 t1 t2 t3 := hI
  replace hok : ok_U w n k cf co len op lf rt res fnd flen fop flf frt fres := hok
  obtain ⟨a1, a2, a3, a4, a5, a6, a7, a8, a9, a10, a11⟩ := id hI
  obtain ⟨i1, i2, i3, i4, i5, hw1, hw4, hn1, hn2, hk4⟩ := id a1
  obtain ⟨p3, p4, pl, pa⟩ := id a5
  obtain ⟨-, -, -, -, -, cw, co9, pok, fok⟩ := id hok
  obtain ⟨-, pok2, pok3⟩ := id pok
  have hA := wd_asg hw4 hn2
  refine eg_aload_n dX3_differ_0 rfl rfl ?_
  refine eg_iload_n dX3_differ_1 rfl rfl ?_
  refine eg_callV1 0 0 gk_X3_isValue gi_X3_isValue (by assumption) rfl gl_RX3_90 rfl (Nat.le_of_ble_eq_true rfl) (Nat.le_of_ble_eq_true rfl) (Nat.zero_le _) (Nat.zero_le _) (by omega) dX3_differ_2 ?_
  refine sp_X3_isValue (k := k) (by omega) hs a1 p3 (fun z1 z2 => ?_) (fun zz => ?_)
  · refine eg_if_eq 22 dX3_differ_5 (by decide) (fun z => absurd z (by decide)) (fun _ => ?_)
    refine eg_iload_n dX3_differ_8 rfl rfl ?_
    refine eg_bipush dX3_differ_9 (v := -2) (by decide) ?_
    refine eg_icmp_eq 24 dX3_differ_11 (by decide) (fun c1 => ?_) (fun c1 => ?_)
    · rw [show ap_differ ((w, n, k), cf, co, tg, (len, op, lf, rt, res), (fnd, flen, fop, flf, frt, fres), t0, t1, t2, t3) x y = (match lst (fun s => ¬ sv w n k cf op lf rt x.toNatClampNeg s = tg s) (2 ^ (w * n)) 0 with | some s => nI s | none => -5) by
        unfold ap_differ
        rw [if_neg (fun q => q.elim (fun q => q.elim z1 z2) (fun q => q.1 c1)), c1]
        rfl] at hQ
      obtain ⟨ex, hX⟩ := nI_cl z1 z2 (by omega)
      generalize x.toNatClampNeg = X at ex hX hQ
      subst ex
      refine eg_iload_n dX3_differ_24 rfl rfl ?_
      refine eg_bipush dX3_differ_25 (v := -2) (by decide) ?_
      refine eg_icmp_ne 37 dX3_differ_27 (by decide) (fun z => absurd c1 z) (fun _ => ?_)
      refine eg_aload_n dX3_differ_30 rfl rfl ?_
      refine eg_getR gf_RX3_13 rfl k0 k3 dX3_differ_31 ?_
      refine eg_goto 46 dX3_differ_34 (by decide) ?_
      refine eg_astore_n dX3_differ_46 rfl (by decide) rfl ?_
      refine eg_aload_n dX3_differ_47 rfl rfl ?_
      refine eg_getR gf_RX3_19 rfl k0 k5 dX3_differ_48 ?_
      refine eg_aload_n dX3_differ_51 rfl rfl ?_
      refine eg_getR gf_RX3_19 rfl k0 k5 dX3_differ_52 ?_
      refine eg_getR gf_RX3_83 rfl gv1 gv2 dX3_differ_55 ?_
      refine eg_iload_n dX3_differ_58 rfl rfl ?_
      refine eg_aaldN rfl gv3 (by omega) (by decide) (gv4 X (by omega)).1 dX3_differ_59 ?_
      refine eg_aload_n dX3_differ_60 rfl rfl ?_
      refine eg_callV2 0 0 gk_X2_firstDifference gi_X2_firstDifference gv1 rfl gl_RX3_124 rfl (Nat.le_of_ble_eq_true rfl) (Nat.le_of_ble_eq_true rfl) (Nat.zero_le _) (Nat.zero_le _) (by omega) dX3_differ_61 ?_
      refine sp_X2_firstDifference (k := k) gv1 (gv4 X (by omega)).2 k4 a1 (fun hall => ?_) (fun s hsA hlt hne => ?_)
      · rw [show lst (fun s => ¬ sv w n k cf op lf rt X s = tg s) (2 ^ (w * n)) 0 = none from lst_none (fun s _ h2 q => q (by have := hall s (by omega); rw [a2 X s (by omega) (by omega), a4 s (by omega)] at this; exact this))] at hQ
        refine eg_istore dX3_differ_64 (by decide) rfl ?_
        refine eg_iload dX3_differ_66 rfl ?_
        refine eg_if_ge 76 dX3_differ_68 (by decide) (fun z => absurd z (by decide)) (fun _ => ?_)
        refine eg_bipush dX3_differ_71 (v := -5) (by decide) ?_
        refine eg_goto 78 dX3_differ_73 (by decide) ?_
        exact eg_iret rfl dX3_differ_78 hQ
      · rw [show lst (fun s => ¬ sv w n k cf op lf rt X s = tg s) (2 ^ (w * n)) 0 = some s from lst_some (by omega) (by omega) (fun q => hne (by rw [a2 X s (by omega) (by omega), a4 s (by omega)]; exact q)) (fun s _ h2 q => q (by have := hlt s h2; rw [a2 X s (by omega) (by omega), a4 s (by omega)] at this; exact this))] at hQ
        refine eg_istore dX3_differ_64 (by decide) rfl ?_
        refine eg_iload dX3_differ_66 rfl ?_
        refine eg_if_ge 76 dX3_differ_68 (by decide) (fun _ => ?_) (fun z => absurd (nI_pos' (by omega)) z)
        refine eg_iload dX3_differ_76 rfl ?_
        exact eg_iret rfl dX3_differ_78 hQ
    · refine eg_aload_n dX3_differ_14 rfl rfl ?_
      refine eg_iload_n dX3_differ_15 rfl rfl ?_
      refine eg_callV1 0 0 gk_X3_isValue gi_X3_isValue k0 rfl gl_RX3_90 rfl (Nat.le_of_ble_eq_true rfl) (Nat.le_of_ble_eq_true rfl) (Nat.zero_le _) (Nat.zero_le _) (by omega) dX3_differ_16 ?_
      refine sp_X3_isValue (k := k) (by omega) hs a1 p3 (fun y1 y2 => ?_) (fun yy => ?_)
      · refine eg_if_ne 24 dX3_differ_19 (by decide) (fun _ => ?_) (fun z => absurd z (by decide))
        rw [show ap_differ ((w, n, k), cf, co, tg, (len, op, lf, rt, res), (fnd, flen, fop, flf, frt, fres), t0, t1, t2, t3) x y = (match lst (fun s => ¬ sv w n k cf op lf rt x.toNatClampNeg s = sv w n k cf op lf rt y.toNatClampNeg s) (2 ^ (w * n)) 0 with | some s => nI s | none => -5) by
          unfold ap_differ
          rw [if_neg (fun q => q.elim (fun q => q.elim z1 z2) (fun q => q.2.elim y1 y2))]
          simp only [if_neg c1]
          rfl] at hQ
        obtain ⟨ex, hX⟩ := nI_cl z1 z2 (by omega)
        obtain ⟨ey, hY⟩ := nI_cl y1 y2 (by omega)
        refine eg_iload_n dX3_differ_24 rfl rfl ?_
        refine eg_bipush dX3_differ_25 (v := -2) (by decide) ?_
        refine eg_icmp_ne 37 dX3_differ_27 (by decide) (fun _ => ?_) (fun z => absurd z c1)
        generalize x.toNatClampNeg = X at ex hX hQ
        generalize y.toNatClampNeg = Y at ey hY hQ
        subst ex
        subst ey
        refine eg_aload_n dX3_differ_37 rfl rfl ?_
        refine eg_getR gf_RX3_19 rfl k0 k5 dX3_differ_38 ?_
        refine eg_getR gf_RX3_83 rfl gv1 gv2 dX3_differ_41 ?_
        refine eg_iload_n dX3_differ_44 rfl rfl ?_
        refine eg_aaldN rfl gv3 (by omega) (by decide) (gv4 Y (by omega)).1 dX3_differ_45 ?_
        refine eg_astore_n dX3_differ_46 rfl (by decide) rfl ?_
        refine eg_aload_n dX3_differ_47 rfl rfl ?_
        refine eg_getR gf_RX3_19 rfl k0 k5 dX3_differ_48 ?_
        refine eg_aload_n dX3_differ_51 rfl rfl ?_
        refine eg_getR gf_RX3_19 rfl k0 k5 dX3_differ_52 ?_
        refine eg_getR gf_RX3_83 rfl gv1 gv2 dX3_differ_55 ?_
        refine eg_iload_n dX3_differ_58 rfl rfl ?_
        refine eg_aaldN rfl gv3 (by omega) (by decide) (gv4 X (by omega)).1 dX3_differ_59 ?_
        refine eg_aload_n dX3_differ_60 rfl rfl ?_
        refine eg_callV2 0 0 gk_X2_firstDifference gi_X2_firstDifference gv1 rfl gl_RX3_124 rfl (Nat.le_of_ble_eq_true rfl) (Nat.le_of_ble_eq_true rfl) (Nat.zero_le _) (Nat.zero_le _) (by omega) dX3_differ_61 ?_
        refine sp_X2_firstDifference (k := k) gv1 (gv4 X (by omega)).2 (gv4 Y (by omega)).2 a1 (fun hall => ?_) (fun s hsA hlt hne => ?_)
        · rw [show lst (fun s => ¬ sv w n k cf op lf rt X s = sv w n k cf op lf rt Y s) (2 ^ (w * n)) 0 = none from lst_none (fun s _ h2 q => q (by have := hall s (by omega); rw [a2 X s (by omega) (by omega), a2 Y s (by omega) (by omega)] at this; exact this))] at hQ
          refine eg_istore dX3_differ_64 (by decide) rfl ?_
          refine eg_iload dX3_differ_66 rfl ?_
          refine eg_if_ge 76 dX3_differ_68 (by decide) (fun z => absurd z (by decide)) (fun _ => ?_)
          refine eg_bipush dX3_differ_71 (v := -5) (by decide) ?_
          refine eg_goto 78 dX3_differ_73 (by decide) ?_
          exact eg_iret rfl dX3_differ_78 hQ
        · rw [show lst (fun s => ¬ sv w n k cf op lf rt X s = sv w n k cf op lf rt Y s) (2 ^ (w * n)) 0 = some s from lst_some (by omega) (by omega) (fun q => hne (by rw [a2 X s (by omega) (by omega), a2 Y s (by omega) (by omega)]; exact q)) (fun s _ h2 q => q (by have := hlt s h2; rw [a2 X s (by omega) (by omega), a2 Y s (by omega) (by omega)] at this; exact this))] at hQ
          refine eg_istore dX3_differ_64 (by decide) rfl ?_
          refine eg_iload dX3_differ_66 rfl ?_
          refine eg_if_ge 76 dX3_differ_68 (by decide) (fun _ => ?_) (fun z => absurd (nI_pos' (by omega)) z)
          refine eg_iload dX3_differ_76 rfl ?_
          exact eg_iret rfl dX3_differ_78 hQ
      · refine eg_if_ne 24 dX3_differ_19 (by decide) (fun z => absurd (show nI 0 = 0 from rfl) z) (fun _ => ?_)
        refine eg_iconst dX3_differ_22 (v := -1) (by decide) ?_
        rw [show ap_differ ((w, n, k), cf, co, tg, (len, op, lf, rt, res), (fnd, flen, fop, flf, frt, fres), t0, t1, t2, t3) x y = -1 from if_pos (Or.inr ⟨c1, yy⟩)] at hQ
        exact eg_iret rfl dX3_differ_23 hQ
  · refine eg_if_eq 22 dX3_differ_5 (by decide) (fun _ => ?_) (fun z => absurd (show nI 0 = 0 from rfl) z)
    refine eg_iconst dX3_differ_22 (v := -1) (by decide) ?_
    rw [show ap_differ ((w, n, k), cf, co, tg, (len, op, lf, rt, res), (fnd, flen, fop, flf, frt, fres), t0, t1, t2, t3) x y = -1 from if_pos (Or.inl zz)] at hQ
    exact eg_iret rfl dX3_differ_23 hQ
set_option maxHeartbeats 2000000 in
theorem ap_C_take {l : Launch} {E : eg_E} {d kb nb : Nat} {Q : Option Value → eg_G → eg_I → Prop} {G : eg_G} {M : eg_I} {b : Nat} {S : st_T} (hs : sh_C G b) (hok : st_ok S) (hI : ci_I M b S) (hd : 5 ≤ d) (hQ : ∀ M', ci_I M' b (ap_take S).2 → ci_E M M' b → Q (some (.int (ap_take S).1)) G M') : eg_J l E mX3_take d kb nb Q 0 [some (.ref b)] [] G M := by
  obtain ⟨k0, k1, k2, k3, k4, k5, kV, k6, kR, k7, kF, k8, k9, k10, kH⟩ := id hs
  obtain ⟨gv1, gv2, gv3, gv4⟩ := id kV
  obtain ⟨gr0, gr1, gr2, gr3, gr4, gr5, gr6⟩ := id kR
  obtain ⟨gf0, gf1, gf2, gf3, gf4, gf5, gf6⟩ := id kF
  have kh0 := kH.1
  obtain ⟨⟨w, n, k⟩, cf, co, tg, ⟨len, op, lf, rt, res⟩, ⟨fnd, flen, fop, flf, frt, fres⟩, t0, t1, t2, t3⟩ := S
  replace hI : ci_U M b w n k cf co tg len op lf rt res fnd flen fop flf frt fres t0 t1 t2 t3 := hI
  replace hok : ok_U w n k cf co len op lf rt res fnd flen fop flf frt fres := hok
  obtain ⟨a1, a2, a3, a4, a5, a6, a7, a8, a9, a10, a11⟩ := id hI
  obtain ⟨i1, i2, i3, i4, i5, hw1, hw4, hn1, hn2, hk4⟩ := id a1
  obtain ⟨p3, p4, pl, pa⟩ := id a5
  obtain ⟨-, -, -, -, -, cw, co9, pok, fok⟩ := id hok
  obtain ⟨-, pok2, pok3⟩ := id pok
  have hA := wd_asg hw4 hn2
  by_cases h0 : fnd = true
  · rw [show ap_take ((w, n, k), cf, co, tg, (len, op, lf, rt, res), (fnd, flen, fop, flf, frt, fres), t0, t1, t2, t3) = (nI flen, ((w, n, k), cf, co, tg, (flen, fop, flf, frt, fres), (fnd, flen, fop, flf, frt, fres), t0, t1, t2, t3)) from if_pos h0] at hQ
    replace hQ : ∀ M', ci_U M' b w n k cf co tg flen fop flf frt fres fnd flen fop flf frt fres t0 t1 t2 t3 → ci_E M M' b → Q (some (.int (nI flen))) G M' := hQ
    have f1 := a7 h0
    obtain ⟨-, fp2, fp3⟩ := id (fok h0)
    refine eg_aload_n dX3_take_0 rfl rfl ?_
    refine eg_getI gf_RX3_52 rfl (by assumption) dX3_take_1 ?_
    refine eg_topi a6 ?_
    refine eg_if_ne 10 dX3_take_4 (by decide) (fun c4 => ?_) (fun c4 => absurd c4 (by rw [h0]; decide))
    refine eg_aload_n dX3_take_10 rfl rfl ?_
    refine eg_getR gf_RX3_26 rfl (by assumption) (by assumption) dX3_take_11 ?_
    refine eg_aload_n dX3_take_14 rfl rfl ?_
    refine eg_getR gf_RX3_30 rfl (by assumption) (by assumption) dX3_take_15 ?_
    refine eg_callV1 0 0 gk_X1_copyFrom gi_X1_copyFrom (by assumption) rfl gl_RX3_146 rfl (Nat.le_of_ble_eq_true rfl) (Nat.le_of_ble_eq_true rfl) (Nat.zero_le _) (Nat.zero_le _) (by omega) dX3_take_18 ?_
    refine sp_X1_copyFrom (len := flen) (by omega) kR kF (by omega) f1.2.2.1 f1.1 (fun M1 h1 => ?_)
    obtain ⟨m3, m4, ma, mf⟩ := h1
    have hr1 : in_R M1 (b + 23) flen fop flf frt fres := ⟨m3, by rw [m4]; exact f1.2.1, f1.2.2.1, fun j hj => by
      have := ma j hj
      rw [this.1, this.2.1, this.2.2]
      exact f1.2.2.2 j hj⟩
    have b1 := a1.eq (mf (b + 3) (by omega))
    refine eg_aload_n dX3_take_21 rfl rfl ?_
    refine eg_iconst dX3_take_22 (v := nI 0) (by decide) ?_
    refine eg_callV1 0 0 gk_X3_makeFrom gi_X3_makeFrom (by assumption) rfl gl_RX3_103 rfl (Nat.le_of_ble_eq_true rfl) (Nat.le_of_ble_eq_true rfl) (Nat.zero_le _) (Nat.zero_le _) (by omega) dX3_take_23 ?_
    refine sp_X3_makeFrom (cf := cf) (by omega) hs (fun j hj => ⟨(fp2 j hj).1, (fp2 j hj).2.1, (fp2 j hj).2.2.1⟩) b1 hr1 (by omega) (fun u s y1 y2 => ?_) (fun M2 h2 h3 => ?_)
    · rw [mf _ (by omega), a2 u s (by omega) y2]
      by_cases e2 : u < n
      · rw [sv_in e2, sv_in e2]
      · obtain ⟨v, rfl⟩ : ∃ v, u = n + v := ⟨u - n, by omega⟩
        rw [sv_c (by omega), sv_c (by omega)]
    refine eg_aload_n dX3_take_26 rfl rfl ?_
    refine eg_getR gf_RX3_26 rfl (by assumption) (by assumption) dX3_take_27 ?_
    refine eg_getI gf_RX3_64 rfl (by assumption) dX3_take_30 ?_
    refine eg_topi (show _ = nI flen by rw [h3 _ (by omega)]; exact m3) ?_
    exact eg_iret rfl dX3_take_33 (hQ M2 (⟨b1.eq (h3 _ (by omega)), h2, fun o ho => by rw [h3 _ (by omega), mf _ (by omega)]; exact a3 o ho, fun s q => by rw [h3 _ (by omega), mf _ (by omega)]; exact a4 s q, hr1.eq (fun q q1 q2 => h3 q (by omega)), by rw [h3 _ (by omega), mf _ (by omega)]; exact a6, fun q => (a7 q).eq (fun q q1 q2 => by rw [h3 _ (by omega), mf _ (by omega)]), by rw [h3 _ (by omega), mf _ (by omega)]; exact a8, by rw [h3 _ (by omega), mf _ (by omega)]; exact a9, by rw [h3 _ (by omega), mf _ (by omega)]; exact a10, by rw [h3 _ (by omega), mf _ (by omega)]; exact a11⟩) (fun q y => by rw [h3 q (by omega), mf q (by omega)]))
  · rw [show ap_take ((w, n, k), cf, co, tg, (len, op, lf, rt, res), (fnd, flen, fop, flf, frt, fres), t0, t1, t2, t3) = (-3, ((w, n, k), cf, co, tg, (len, op, lf, rt, res), (fnd, flen, fop, flf, frt, fres), t0, t1, t2, t3)) from if_neg h0] at hQ
    refine eg_aload_n dX3_take_0 rfl rfl ?_
    refine eg_getI gf_RX3_52 rfl (by assumption) dX3_take_1 ?_
    refine eg_topi a6 ?_
    refine eg_if_ne 10 dX3_take_4 (by decide) (fun c4 => absurd (show (if fnd = true then (1 : Int32) else 0) = 0 by rw [if_neg h0]) c4) (fun c4 => ?_)
    refine eg_bipush dX3_take_7 (v := -3) (by decide) ?_
    exact eg_iret rfl dX3_take_9 (hQ M hI ci_E.rf)
theorem pg_rm_ok {g len res j t : Nat} {op lf rt : Nat → Nat} (h : pg_ok g len op lf rt res) (hg : 1 ≤ g) (hj : j < len) (ht : t < g + j) : pg_ok g (len - 1) (cut_at op j) (cut_rn lf j (g + j) t) (cut_rn rt j (g + j) t) (rn res (g + j) t) := by
  obtain ⟨h1, h2, h3⟩ := h
  refine ⟨by omega, fun i hi => ?_, ?_⟩
  · unfold cut_at cut_rn
    by_cases e : i < j
    · rw [if_pos e, if_pos e, if_pos e]
      exact h2 i (by omega)
    · rw [if_neg e, if_neg e, if_neg e]
      obtain ⟨q1, q2, q3, q4⟩ := h2 (i + 1) (by omega)
      refine ⟨q1, ?_, ?_, fun z => ?_⟩
      · unfold rn; split
        · omega
        · split <;> omega
      · unfold rn; split
        · omega
        · split <;> omega
      · rw [q4 z]
        unfold rn
        rw [if_neg (by omega), if_neg (by omega)]
  · unfold rn; split
    · omega
    · split <;> omega
def cl_I (M : eg_I) (b w n k : Nat) (cf : Nat → Int32) (p : pg_T) : Prop := in_V M (b + 3) w n k ∧ in_R M (b + 23) p.1 p.2.1 p.2.2.1 p.2.2.2.1 p.2.2.2.2 ∧ (∀ u s, u < n + k + p.1 → s < 2 ^ (w * n) → M (b + 3 + 2 + u) s = sv w n k cf p.2.1 p.2.2.1 p.2.2.2.1 u s) ∧ pg_ok (n + k) p.1 p.2.1 p.2.2.1 p.2.2.2.1 p.2.2.2.2
def cl_F (M M' : eg_I) (b : Nat) : Prop := ∀ q, ¬ (b + 5 ≤ q ∧ q < b + 27) → q ≠ b + 31 → M' q = M q
theorem cl_F.tr {M M' M2 : eg_I} {b : Nat} (a : cl_F M M' b) (c : cl_F M' M2 b) : cl_F M M2 b := fun q z1 z2 => (c q z1 z2).trans (a q z1 z2)
theorem cl_F.rf {M : eg_I} {b : Nat} : cl_F M M b := fun _ _ _ => rfl
set_option maxHeartbeats 2000000 in
theorem sp_X3_takeOut {l : Launch} {E : eg_E} {d kb nb : Nat} {Q : Option Value → eg_G → eg_I → Prop} {G : eg_G} {M : eg_I} {b w n k : Nat} {cf : Nat → Int32} {p : pg_T} (hs : sh_C G b) (hI : cl_I M b w n k cf p) {j t : Nat} (hd : 4 ≤ d) (hj : j < p.1) (ht : t < n + k + j) (hQ : ∀ M', cl_I M' b w n k cf (pg_rm (n + k) j t p) → cl_F M M' b → Q none G M') : eg_J l E mX3_takeOut d kb nb Q 0 [some (.ref b), some (.int (nI j)), some (.int (nI t))] [] G M := by
  obtain ⟨k0, k1, k2, k3, k4, k5, kV, k6, kR, k7, kF, k8, k9, k10, kH⟩ := id hs
  obtain ⟨gv1, gv2, gv3, gv4⟩ := id kV
  obtain ⟨gr0, gr1, gr2, gr3, gr4, gr5, gr6⟩ := id kR
  obtain ⟨gf0, gf1, gf2, gf3, gf4, gf5, gf6⟩ := id kF
  have kh0 := kH.1
  obtain ⟨len, op, lf, rt, res⟩ := p
  obtain ⟨c1, c2, c3, c4⟩ := id hI
  replace c2 : in_R M (b + 23) len op lf rt res := c2
  replace c3 : ∀ u s, u < n + k + len → s < 2 ^ (w * n) → M (b + 3 + 2 + u) s = sv w n k cf op lf rt u s := c3
  replace c4 : pg_ok (n + k) len op lf rt res := c4
  obtain ⟨i1, i2, i3, i4, i5, hw1, hw4, hn1, hn2, hk4⟩ := id c1
  obtain ⟨p3, p4, pl, pa⟩ := id c2
  obtain ⟨-, pok2, pok3⟩ := id c4
  have hA := wd_asg hw4 hn2
  replace hj : j < len := hj
  refine eg_aload_n dX3_takeOut_0 rfl rfl ?_
  refine eg_getR gf_RX3_26 rfl (by assumption) (by assumption) dX3_takeOut_1 ?_
  refine eg_iload_n dX3_takeOut_4 rfl rfl ?_
  refine eg_aload_n dX3_takeOut_5 rfl rfl ?_
  refine eg_getR gf_RX3_19 rfl (by assumption) (by assumption) dX3_takeOut_6 ?_
  refine eg_callV0 0 0 gk_X2_given gi_X2_given (by assumption) rfl gl_RX3_73 rfl (Nat.le_of_ble_eq_true rfl) (Nat.le_of_ble_eq_true rfl) (Nat.zero_le _) (Nat.zero_le _) (by omega) dX3_takeOut_9 ?_
  refine sp_X2_given gv1 c1 ?_
  refine eg_iload_n dX3_takeOut_12 rfl rfl ?_
  refine eg_iadd dX3_takeOut_13 ?_
  refine eg_topi (nI_add (n + k) j) ?_
  refine eg_iload_n dX3_takeOut_14 rfl rfl ?_
  refine eg_callV3 0 0 gk_X1_remove gi_X1_remove (by assumption) rfl gl_RX3_175 rfl (Nat.le_of_ble_eq_true rfl) (Nat.le_of_ble_eq_true rfl) (Nat.zero_le _) (Nat.zero_le _) (by omega) dX3_takeOut_15 ?_
  refine sp_X1_remove (by omega) kR hj c2 (fun i hi => ⟨by have := (pok2 i hi).2.1; omega, by have := (pok2 i hi).2.2.1; omega⟩) (by omega) (by omega) (fun M1 h1 => ?_)
  have b1 := c1.eq (h1.2 (b + 3) (by omega))
  have ok1 := pg_rm_ok c4 (by omega) hj ht
  refine eg_aload_n dX3_takeOut_18 rfl rfl ?_
  refine eg_iload_n dX3_takeOut_19 rfl rfl ?_
  refine eg_callV1 0 0 gk_X3_makeFrom gi_X3_makeFrom (by assumption) rfl gl_RX3_103 rfl (Nat.le_of_ble_eq_true rfl) (Nat.le_of_ble_eq_true rfl) (Nat.zero_le _) (Nat.zero_le _) (by omega) dX3_takeOut_20 ?_
  refine sp_X3_makeFrom (cf := cf) (by omega) hs (fun i hi => ⟨(ok1.2.1 i hi).1, (ok1.2.1 i hi).2.1, (ok1.2.1 i hi).2.2.1⟩) b1 h1.1 (by omega) (fun u s y1 y2 => ?_) (fun M2 h2 h3 => ?_)
  · rw [h1.2 _ (by omega), c3 u s (by omega) y2]
    exact (sv_congr (m := j) (fun i hi => ⟨(pok2 i (by omega)).2.1, (pok2 i (by omega)).2.2.1⟩) (fun i hi => ⟨if_pos hi, if_pos hi, if_pos hi⟩) y1).symm
  exact eg_vret rfl dX3_takeOut_23 (hQ M2 ⟨b1.eq (h3 _ (by omega)), h1.1.eq (fun q q1 q2 => h3 q (by omega)), h2, ok1⟩ (fun q z1 z2 => by rw [h3 q (by omega), h1.2 q (by omega)]))
set_option maxHeartbeats 2000000 in
theorem lp_X3_takeOutRepeated {l : Launch} {E : eg_E} {d kb nb : Nat} {Q : Option Value → eg_G → eg_I → Prop} {G : eg_G} {M : eg_I} {b w n k : Nat} {cf : Nat → Int32} {p : pg_T} (hs : sh_C G b) (hI : cl_I M b w n k cf p) (hd : 5 ≤ d) : ∀ (t j : Nat) (l3 : Option Value), j + t = p.1 → (∀ q M', cl_rep (2 ^ (w * n)) (n + k) (sv w n k cf p.2.1 p.2.2.1 p.2.2.2.1) t j = some q → cl_I M' b w n k cf (pg_rm (n + k) q.1 q.2 p) → q.1 < p.1 → cl_F M M' b → Q (some (.int 1)) G M') → (cl_rep (2 ^ (w * n)) (n + k) (sv w n k cf p.2.1 p.2.2.1 p.2.2.2.1) t j = none → Q (some (.int 0)) G M) → eg_J l E mX3_takeOutRepeated d kb nb Q 10 [some (.ref b), some (.int (nI (n + k))), some (.int (nI j)), l3] [] G M := by
  intro t
  induction t with
  | zero =>
    intro j l3 hjt hT hN
    obtain ⟨k0, k1, k2, k3, k4, k5, kV, k6, kR, k7, kF, k8, k9, k10, kH⟩ := id hs
    obtain ⟨gv1, gv2, gv3, gv4⟩ := id kV
    obtain ⟨gr0, gr1, gr2, gr3, gr4, gr5, gr6⟩ := id kR
    obtain ⟨gf0, gf1, gf2, gf3, gf4, gf5, gf6⟩ := id kF
    have kh0 := kH.1
    obtain ⟨len, op, lf, rt, res⟩ := p
    obtain ⟨c1, c2, c3, c4⟩ := id hI
    replace c2 : in_R M (b + 23) len op lf rt res := c2
    replace c3 : ∀ u s, u < n + k + len → s < 2 ^ (w * n) → M (b + 3 + 2 + u) s = sv w n k cf op lf rt u s := c3
    replace c4 : pg_ok (n + k) len op lf rt res := c4
    obtain ⟨i1, i2, i3, i4, i5, hw1, hw4, hn1, hn2, hk4⟩ := id c1
    obtain ⟨p3, p4, pl, pa⟩ := id c2
    obtain ⟨-, pok2, pok3⟩ := id c4
    have hA := wd_asg hw4 hn2
    replace hjt : j + 0 = len := hjt
    refine eg_iload_n dX3_takeOutRepeated_10 rfl rfl ?_
    refine eg_aload_n dX3_takeOutRepeated_11 rfl rfl ?_
    refine eg_getR gf_RX3_26 rfl (by assumption) (by assumption) dX3_takeOutRepeated_12 ?_
    refine eg_getI gf_RX3_64 rfl (by assumption) dX3_takeOutRepeated_15 ?_
    refine eg_topi p3 ?_
    refine eg_icmp_ge 50 dX3_takeOutRepeated_18 (by decide) (fun c18 => ?_) (fun c18 => absurd (nI_le (by omega) (by omega)) c18)
    refine eg_iconst dX3_takeOutRepeated_50 (v := nI 0) (by decide) ?_
    exact eg_zret rfl rfl dX3_takeOutRepeated_51 (hN rfl)
  | succ t ih =>
    intro j l3 hjt hT hN
    obtain ⟨k0, k1, k2, k3, k4, k5, kV, k6, kR, k7, kF, k8, k9, k10, kH⟩ := id hs
    obtain ⟨gv1, gv2, gv3, gv4⟩ := id kV
    obtain ⟨gr0, gr1, gr2, gr3, gr4, gr5, gr6⟩ := id kR
    obtain ⟨gf0, gf1, gf2, gf3, gf4, gf5, gf6⟩ := id kF
    have kh0 := kH.1
    obtain ⟨len, op, lf, rt, res⟩ := p
    obtain ⟨c1, c2, c3, c4⟩ := id hI
    replace c2 : in_R M (b + 23) len op lf rt res := c2
    replace c3 : ∀ u s, u < n + k + len → s < 2 ^ (w * n) → M (b + 3 + 2 + u) s = sv w n k cf op lf rt u s := c3
    replace c4 : pg_ok (n + k) len op lf rt res := c4
    obtain ⟨i1, i2, i3, i4, i5, hw1, hw4, hn1, hn2, hk4⟩ := id c1
    obtain ⟨p3, p4, pl, pa⟩ := id c2
    obtain ⟨-, pok2, pok3⟩ := id c4
    have hA := wd_asg hw4 hn2
    replace hjt : j + (t + 1) = len := hjt
    refine eg_iload_n dX3_takeOutRepeated_10 rfl rfl ?_
    refine eg_aload_n dX3_takeOutRepeated_11 rfl rfl ?_
    refine eg_getR gf_RX3_26 rfl (by assumption) (by assumption) dX3_takeOutRepeated_12 ?_
    refine eg_getI gf_RX3_64 rfl (by assumption) dX3_takeOutRepeated_15 ?_
    refine eg_topi p3 ?_
    refine eg_icmp_ge 50 dX3_takeOutRepeated_18 (by decide) (fun c18 => absurd c18 (nI_ge (by omega) (by omega))) (fun c18 => ?_)
    refine eg_aload_n dX3_takeOutRepeated_21 rfl rfl ?_
    refine eg_getR gf_RX3_19 rfl (by assumption) (by assumption) dX3_takeOutRepeated_22 ?_
    refine eg_iload_n dX3_takeOutRepeated_25 rfl rfl ?_
    refine eg_iload_n dX3_takeOutRepeated_26 rfl rfl ?_
    refine eg_iadd dX3_takeOutRepeated_27 ?_
    refine eg_topi (nI_add (n + k) j) ?_
    refine eg_callV1 0 0 gk_X2_leastSame gi_X2_leastSame (by assumption) rfl gl_RX3_165 rfl (Nat.le_of_ble_eq_true rfl) (Nat.le_of_ble_eq_true rfl) (Nat.zero_le _) (Nat.zero_le _) (by omega) dX3_takeOutRepeated_28 ?_
    refine sp_X2_leastSame (k := k) (by omega) kV (by omega) c1 (fun z1 => ?_) (fun v z1 z2 z3 => ?_)
    · have en : cl_tw (2 ^ (w * n)) (n + k) (sv w n k cf op lf rt) j = none := lst_none (fun u _ h2 q => by
        obtain ⟨s, y1, y2⟩ := z1 u (by omega)
        rw [c3 u s (by omega) y1, c3 _ s (by omega) y1] at y2
        exact y2 (q s y1))
      have er : cl_rep (2 ^ (w * n)) (n + k) (sv w n k cf op lf rt) (t + 1) j = cl_rep (2 ^ (w * n)) (n + k) (sv w n k cf op lf rt) t (j + 1) := by
        rw [cl_rep, en]
      refine eg_istore_n dX3_takeOutRepeated_31 rfl (by decide) rfl ?_
      refine eg_iload_n dX3_takeOutRepeated_32 rfl rfl ?_
      refine eg_if_lt 44 dX3_takeOutRepeated_33 (by decide) (fun _ => ?_) (fun z => absurd (by decide) z)
      refine eg_iinc dX3_takeOutRepeated_44 (by decide) rfl (eg_inc j) rfl ?_
      refine eg_goto 10 dX3_takeOutRepeated_47 (by decide) ?_
      exact ih (j + 1) _ (by show j + 1 + t = len; omega) (fun q M2 y1 => hT q M2 (er.trans y1)) (fun y => hN (er.trans y))
    · have en : cl_tw (2 ^ (w * n)) (n + k) (sv w n k cf op lf rt) j = some v := lst_some (by omega) (by omega) (fun s y => by
        have := z3 s y
        rw [c3 v s (by omega) y, c3 _ s (by omega) y] at this
        exact this) (fun u _ h2 q => by
        obtain ⟨s, y1, y2⟩ := z2 u h2
        rw [c3 u s (by omega) y1, c3 _ s (by omega) y1] at y2
        exact y2 (q s y1))
      have er : cl_rep (2 ^ (w * n)) (n + k) (sv w n k cf op lf rt) (t + 1) j = some (j, v) := by
        rw [cl_rep, en]
      refine eg_istore_n dX3_takeOutRepeated_31 rfl (by decide) rfl ?_
      refine eg_iload_n dX3_takeOutRepeated_32 rfl rfl ?_
      refine eg_if_lt 44 dX3_takeOutRepeated_33 (by decide) (fun z => absurd z (nI_pos (by omega))) (fun _ => ?_)
      refine eg_aload_n dX3_takeOutRepeated_36 rfl rfl ?_
      refine eg_iload_n dX3_takeOutRepeated_37 rfl rfl ?_
      refine eg_iload_n dX3_takeOutRepeated_38 rfl rfl ?_
      refine eg_callV2 0 0 gk_X3_takeOut gi_X3_takeOut k0 rfl gl_RX3_169 rfl (Nat.le_of_ble_eq_true rfl) (Nat.le_of_ble_eq_true rfl) (Nat.zero_le _) (Nat.zero_le _) (by omega) dX3_takeOutRepeated_39 ?_
      refine sp_X3_takeOut hs hI (by omega) (show j < len by omega) (by omega) (fun M2 h2 h3 => ?_)
      refine eg_iconst dX3_takeOutRepeated_42 (v := nI 1) (by decide) ?_
      exact eg_zret rfl rfl dX3_takeOutRepeated_43 (hT (j, v) M2 er h2 (show j < len by omega) h3)
set_option maxHeartbeats 2000000 in
theorem sp_X3_takeOutRepeated {l : Launch} {E : eg_E} {d kb nb : Nat} {Q : Option Value → eg_G → eg_I → Prop} {G : eg_G} {M : eg_I} {b w n k : Nat} {cf : Nat → Int32} {p : pg_T} (hs : sh_C G b) (hI : cl_I M b w n k cf p) (hd : 5 ≤ d) (hT : (∀ q M', cl_rep (2 ^ (w * n)) (n + k) (sv w n k cf p.2.1 p.2.2.1 p.2.2.2.1) p.1 0 = some q → cl_I M' b w n k cf (pg_rm (n + k) q.1 q.2 p) → q.1 < p.1 → cl_F M M' b → Q (some (.int 1)) G M')) (hN : (cl_rep (2 ^ (w * n)) (n + k) (sv w n k cf p.2.1 p.2.2.1 p.2.2.2.1) p.1 0 = none → Q (some (.int 0)) G M)) : eg_J l E mX3_takeOutRepeated d kb nb Q 0 [some (.ref b), none, none, none] [] G M := by
  obtain ⟨k0, k1, k2, k3, k4, k5, kV, k6, kR, k7, kF, k8, k9, k10, kH⟩ := id hs
  obtain ⟨gv1, gv2, gv3, gv4⟩ := id kV
  obtain ⟨gr0, gr1, gr2, gr3, gr4, gr5, gr6⟩ := id kR
  obtain ⟨gf0, gf1, gf2, gf3, gf4, gf5, gf6⟩ := id kF
  have kh0 := kH.1
  refine eg_aload_n dX3_takeOutRepeated_0 rfl rfl ?_
  refine eg_getR gf_RX3_19 rfl (by assumption) (by assumption) dX3_takeOutRepeated_1 ?_
  refine eg_callV0 0 0 gk_X2_given gi_X2_given (by assumption) rfl gl_RX3_73 rfl (Nat.le_of_ble_eq_true rfl) (Nat.le_of_ble_eq_true rfl) (Nat.zero_le _) (Nat.zero_le _) (by omega) dX3_takeOutRepeated_4 ?_
  refine sp_X2_given gv1 hI.1 ?_
  refine eg_istore_n dX3_takeOutRepeated_7 rfl (by decide) rfl ?_
  refine eg_iconst dX3_takeOutRepeated_8 (v := nI 0) (by decide) ?_
  refine eg_istore_n dX3_takeOutRepeated_9 rfl (by decide) rfl ?_
  exact lp_X3_takeOutRepeated hs hI hd p.1 0 _ (by omega) hT hN
