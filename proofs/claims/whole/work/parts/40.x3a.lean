/-! ShortestCode: its calls against the pure ones -/
def ci_E (M M' : eg_I) (b : Nat) : Prop := ∀ q, ¬ (b ≤ q ∧ q < b + 63) → M' q = M q
theorem ci_E.rf {M : eg_I} {b : Nat} : ci_E M M b := fun _ _ => rfl
theorem nI_rng {x : Int32} {a c : Nat} (h1 : ¬ x < nI a) (h2 : ¬ nI c < x) (hc : c < 2 ^ 31) (ha : a < 2 ^ 31) : ∃ X, x = nI X ∧ a ≤ X ∧ X ≤ c := by
  have h0 : ¬ x < 0 := fun q => h1 (by
    have q1 := Int32.lt_iff_toInt_lt.mp q
    refine Int32.lt_iff_toInt_lt.mpr ?_
    rw [nI_toInt ha]
    rw [Int32.toInt_zero] at q1
    omega)
  obtain ⟨j, hj, e⟩ := nI_of h0
  subst e
  exact ⟨j, rfl, Nat.le_of_not_lt (fun q => h1 (nI_lt q (by omega))), Nat.le_of_not_lt (fun q => h2 (nI_lt q hj))⟩
def ok_U (w n k : Nat) (cf : Nat → Int32) (co : Nat → Nat) (len : Nat) (op lf rt : Nat → Nat) (res : Nat) (fnd : Bool) (flen : Nat) (fop flf frt : Nat → Nat) (fres : Nat) : Prop :=
  1 ≤ w ∧ w ≤ 4 ∧ 1 ≤ n ∧ n ≤ 2 ∧ k ≤ 4 ∧ (∀ i, i < k → ∃ x, x < 2 ^ w ∧ cf i = nI x) ∧ (∀ o, o < 13 → co o ≤ 9) ∧ pg_ok (n + k) len op lf rt res ∧ (fnd = true → pg_ok (n + k) flen fop flf frt fres)
def ci_U (M : eg_I) (b w n k : Nat) (cf : Nat → Int32) (co : Nat → Nat) (tg : Nat → Int32) (len : Nat) (op lf rt : Nat → Nat) (res : Nat) (fnd : Bool) (flen : Nat) (fop flf frt : Nat → Nat) (fres : Nat) (t0 t1 t2 t3 : Int32) : Prop :=
  in_V M (b + 3) w n k ∧ (∀ u s, u < n + k + len → s < 2 ^ (w * n) → M (b + 3 + 2 + u) s = sv w n k cf op lf rt u s) ∧ (∀ o, o < 13 → M (b + 1) o = nI (co o)) ∧ (∀ s, s < 256 → M (b + 2) s = tg s) ∧ in_R M (b + 23) len op lf rt res ∧ M b 7 = (if fnd = true then 1 else 0) ∧ (fnd = true → in_R M (b + 27) flen fop flf frt fres) ∧ M (b + 32) 8 = t0 ∧ M (b + 32) 9 = t1 ∧ M (b + 32) 10 = t2 ∧ M (b + 32) 11 = t3
set_option maxHeartbeats 2000000 in
theorem sp_X3_valueCount {l : Launch} {E : eg_E} {d kb nb : Nat} {Q : Option Value → eg_G → eg_I → Prop} {G : eg_G} {M : eg_I} {b w n k len : Nat} (hd : 1 ≤ d) (hs : sh_C G b) (h : in_V M (b + 3) w n k) (h3 : M (b + 23) 3 = nI len) (hQ : Q (some (.int (nI (n + k + len)))) G M) : eg_J l E mX3_valueCount d kb nb Q 0 [some (.ref b)] [] G M := by
  obtain ⟨k0, k1, k2, k3, k4, k5, kV, k6, kR, k7, kF, k8, k9, k10, kH⟩ := id hs
  obtain ⟨gv1, gv2, gv3, gv4⟩ := id kV
  obtain ⟨gr0, gr1, gr2, gr3, gr4, gr5, gr6⟩ := id kR
  obtain ⟨gf0, gf1, gf2, gf3, gf4, gf5, gf6⟩ := id kF
  have kh0 := kH.1
  refine eg_aload_n dX3_valueCount_0 rfl rfl ?_
  refine eg_getR gf_RX3_19 rfl (by assumption) (by assumption) dX3_valueCount_1 ?_
  refine eg_callV0 0 0 gk_X2_given gi_X2_given (by assumption) rfl gl_RX3_73 rfl (Nat.le_of_ble_eq_true rfl) (Nat.le_of_ble_eq_true rfl) (Nat.zero_le _) (Nat.zero_le _) (by omega) dX3_valueCount_4 ?_
  refine sp_X2_given gv1 h ?_
  refine eg_aload_n dX3_valueCount_7 rfl rfl ?_
  refine eg_getR gf_RX3_26 rfl (by assumption) (by assumption) dX3_valueCount_8 ?_
  refine eg_getI gf_RX3_64 rfl (by assumption) dX3_valueCount_11 ?_
  refine eg_topi h3 ?_
  refine eg_iadd dX3_valueCount_14 ?_
  refine eg_topi (nI_add (n + k) len) ?_
  exact eg_iret rfl dX3_valueCount_15 hQ
set_option maxHeartbeats 2000000 in
theorem sp_X3_isValue {l : Launch} {E : eg_E} {d kb nb : Nat} {Q : Option Value → eg_G → eg_I → Prop} {G : eg_G} {M : eg_I} {b w n k len : Nat} {x : Int32} (hd : 2 ≤ d) (hs : sh_C G b) (h : in_V M (b + 3) w n k) (h3 : M (b + 23) 3 = nI len) (hT : ¬ x < 0 → ¬ nI (n + k + len) ≤ x → Q (some (.int 1)) G M) (hF : x < 0 ∨ nI (n + k + len) ≤ x → Q (some (.int 0)) G M) : eg_J l E mX3_isValue d kb nb Q 0 [some (.ref b), some (.int x)] [] G M := by
  obtain ⟨k0, k1, k2, k3, k4, k5, kV, k6, kR, k7, kF, k8, k9, k10, kH⟩ := id hs
  obtain ⟨gv1, gv2, gv3, gv4⟩ := id kV
  obtain ⟨gr0, gr1, gr2, gr3, gr4, gr5, gr6⟩ := id kR
  obtain ⟨gf0, gf1, gf2, gf3, gf4, gf5, gf6⟩ := id kF
  have kh0 := kH.1
  refine eg_iload_n dX3_isValue_0 rfl rfl ?_
  refine eg_if_lt 16 dX3_isValue_1 (by decide) (fun ca => ?_) (fun ca => ?_)
  · refine eg_iconst dX3_isValue_16 (v := nI 0) (by decide) ?_
    exact eg_zret rfl rfl dX3_isValue_17 (by first | exact hT ca cb | exact hF (Or.inl ca) | exact hF (Or.inr cb))
  · refine eg_iload_n dX3_isValue_4 rfl rfl ?_
    refine eg_aload_n dX3_isValue_5 rfl rfl ?_
    refine eg_callV0 0 0 gk_X3_valueCount gi_X3_valueCount (by assumption) rfl gl_RX3_93 rfl (Nat.le_of_ble_eq_true rfl) (Nat.le_of_ble_eq_true rfl) (Nat.zero_le _) (Nat.zero_le _) (by omega) dX3_isValue_6 ?_
    refine sp_X3_valueCount (by omega) hs h h3 ?_
    refine eg_icmp_ge 16 dX3_isValue_9 (by decide) (fun cb => ?_) (fun cb => ?_)
    · refine eg_iconst dX3_isValue_16 (v := nI 0) (by decide) ?_
      exact eg_zret rfl rfl dX3_isValue_17 (by first | exact hT ca cb | exact hF (Or.inl ca) | exact hF (Or.inr cb))
    · refine eg_iconst dX3_isValue_12 (v := nI 1) (by decide) ?_
      refine eg_goto 17 dX3_isValue_13 (by decide) ?_
      exact eg_zret rfl rfl dX3_isValue_17 (by first | exact hT ca cb | exact hF (Or.inl ca) | exact hF (Or.inr cb))
set_option maxHeartbeats 2000000 in
theorem ap_C_cost {l : Launch} {E : eg_E} {d kb nb : Nat} {Q : Option Value → eg_G → eg_I → Prop} {G : eg_G} {M : eg_I} {b : Nat} {S : st_T} (hs : sh_C G b) (hok : st_ok S) (hI : ci_I M b S) {x y : Int32} (hd : 1 ≤ d) (hQ : ∀ M', ci_I M' b (ap_cost S x y).2 → ci_E M M' b → Q (some (.int (ap_cost S x y).1)) G M') : eg_J l E mX3_cost d kb nb Q 0 [some (.ref b), some (.int x), some (.int y), none] [] G M := by
  obtain ⟨k0, k1, k2, k3, k4, k5, kV, k6, kR, k7, kF, k8, k9, k10, kH⟩ := id hs
  obtain ⟨gv1, gv2, gv3, gv4⟩ := id kV
  obtain ⟨gr0, gr1, gr2, gr3, gr4, gr5, gr6⟩ := id kR
  obtain ⟨gf0, gf1, gf2, gf3, gf4, gf5, gf6⟩ := id kF
  have kh0 := kH.1
  obtain ⟨⟨w, n, k⟩, cf, co, tg, ⟨len, op, lf, rt, res⟩, ⟨fnd, flen, fop, flf, frt, fres⟩, t0, t1, t2, t3⟩ := S
  replace hI : ci_U M b w n k cf co tg len op lf rt res fnd flen fop flf frt fres t0 t1 t2 t3 := hI
  replace hok : ok_U w n k cf co len op lf rt res fnd flen fop flf frt fres := hok
  obtain ⟨a1, a2, a3, a4, a5, a6, a7, a8, a9, a10, a11⟩ := id hI
  obtain ⟨i1, i2, i3, i4, i5, hw1, hw4, hn1, hn2, hk4⟩ := id a1
  obtain ⟨p3, p4, pl, pa⟩ := id a5
  obtain ⟨-, -, -, -, -, cw, co9, pok, fok⟩ := id hok
  obtain ⟨-, pok2, pok3⟩ := id pok
  have hA := wd_asg hw4 hn2
  refine eg_iload_n dX3_cost_0 rfl rfl ?_
  refine eg_callS1 0 0 gk_X3_isOperation gi_X3_isOperation gl_RX3_77 rfl (Nat.le_of_ble_eq_true rfl) (Nat.le_of_ble_eq_true rfl) (Nat.zero_le _) (Nat.zero_le _) (by omega) dX3_cost_1 ?_
  refine sp_X3_isOperation (fun z1 z2 => ?_) (fun z => ?_)
  · refine eg_if_ne 9 dX3_cost_4 (by decide) (fun _ => ?_) (fun z => absurd z (by decide))
    obtain ⟨ex, hx⟩ := nI_cl z1 z2 (by omega)
    generalize x.toNatClampNeg = X at ex hx
    subst ex
    refine eg_iload_n dX3_cost_9 rfl rfl ?_
    refine eg_if_lt 19 dX3_cost_10 (by decide) (fun ca => ?_) (fun ca => ?_)
    · refine eg_bipush dX3_cost_19 (v := -2) (by decide) ?_
      exact eg_iret rfl dX3_cost_21 (by
            have e : ap_cost ((w, n, k), cf, co, tg, (len, op, lf, rt, res), (fnd, flen, fop, flf, frt, fres), t0, t1, t2, t3) (nI X) y = (-2, ((w, n, k), cf, co, tg, (len, op, lf, rt, res), (fnd, flen, fop, flf, frt, fres), t0, t1, t2, t3)) := by
              unfold ap_cost
              rw [if_neg (fun q => q.elim z1 z2), if_pos (by first | exact Or.inl ca | exact Or.inr (Int32.not_le.mp cb))]
            rw [e] at hQ
            exact hQ M hI ci_E.rf)
    · refine eg_iload_n dX3_cost_13 rfl rfl ?_
      refine eg_bipush dX3_cost_14 (v := nI 9) (by decide) ?_
      refine eg_icmp_le 22 dX3_cost_16 (by decide) (fun cb => ?_) (fun cb => ?_)
      · obtain ⟨ey, hy⟩ := nI_cm ca (Int32.not_lt.mpr cb) (by omega)
        have e : ap_cost ((w, n, k), cf, co, tg, (len, op, lf, rt, res), (fnd, flen, fop, flf, frt, fres), t0, t1, t2, t3) (nI X) y = (nI (co X), ((w, n, k), cf, ss_up co X y.toNatClampNeg, tg, (len, op, lf, rt, res), (fnd, flen, fop, flf, frt, fres), t0, t1, t2, t3)) := by
          unfold ap_cost
          rw [if_neg (fun q => q.elim z1 z2), if_neg (fun q => q.elim ca (Int32.not_lt.mpr cb)), nI_clamp (by omega)]
        generalize y.toNatClampNeg = Y at e ey hy
        rw [e] at hQ
        replace hQ : ∀ M', ci_U M' b w n k cf (ss_up co X Y) tg len op lf rt res fnd flen fop flf frt fres t0 t1 t2 t3 → ci_E M M' b → Q (some (.int (nI (co X)))) G M' := hQ
        subst ey
        refine eg_aload_n dX3_cost_22 rfl rfl ?_
        refine eg_getR gf_RX3_9 rfl (by assumption) (by assumption) dX3_cost_23 ?_
        refine eg_iload_n dX3_cost_26 rfl rfl ?_
        refine eg_ialdN (by assumption) (by omega) (by decide) dX3_cost_27 ?_
        refine eg_topi (a3 X hx) ?_
        refine eg_istore_n dX3_cost_28 rfl (by decide) rfl ?_
        refine eg_aload_n dX3_cost_29 rfl rfl ?_
        refine eg_getR gf_RX3_9 rfl (by assumption) (by assumption) dX3_cost_30 ?_
        refine eg_iload_n dX3_cost_33 rfl rfl ?_
        refine eg_iload_n dX3_cost_34 rfl rfl ?_
        refine eg_iastN (by assumption) (by omega) (by decide) dX3_cost_35 ?_
        refine eg_iload_n dX3_cost_36 rfl rfl ?_
        exact eg_iret rfl dX3_cost_37 (hQ _ (⟨a1.eq (by rw [eg_set_ne (by omega)]), fun u s q1 q2 => by rw [eg_set_ne (by omega)]; exact a2 u s q1 q2, fun o ho => by
                by_cases q : o = X
                · subst q; rw [eg_set_eq, ss_up_e]
                · rw [eg_set_j q, ss_up_n q]; exact a3 o ho, fun s q => by rw [eg_set_ne (by omega)]; exact a4 s q, a5.eq (fun q q1 q2 => by rw [eg_set_ne (by omega)]), by rw [eg_set_ne (by omega)]; exact a6, fun q => (a7 q).eq (fun q q1 q2 => by rw [eg_set_ne (by omega)]), by rw [eg_set_ne (by omega)]; exact a8, by rw [eg_set_ne (by omega)]; exact a9, by rw [eg_set_ne (by omega)]; exact a10, by rw [eg_set_ne (by omega)]; exact a11⟩) (fun q z => eg_set_ne (by omega)))
      · refine eg_bipush dX3_cost_19 (v := -2) (by decide) ?_
        exact eg_iret rfl dX3_cost_21 (by
              have e : ap_cost ((w, n, k), cf, co, tg, (len, op, lf, rt, res), (fnd, flen, fop, flf, frt, fres), t0, t1, t2, t3) (nI X) y = (-2, ((w, n, k), cf, co, tg, (len, op, lf, rt, res), (fnd, flen, fop, flf, frt, fres), t0, t1, t2, t3)) := by
                unfold ap_cost
                rw [if_neg (fun q => q.elim z1 z2), if_pos (by first | exact Or.inl ca | exact Or.inr (Int32.not_le.mp cb))]
              rw [e] at hQ
              exact hQ M hI ci_E.rf)
  · refine eg_if_ne 9 dX3_cost_4 (by decide) (fun z => absurd (show nI 0 = 0 from rfl) z) (fun _ => ?_)
    refine eg_iconst dX3_cost_7 (v := -1) (by decide) ?_
    have e : ap_cost ((w, n, k), cf, co, tg, (len, op, lf, rt, res), (fnd, flen, fop, flf, frt, fres), t0, t1, t2, t3) x y = (-1, ((w, n, k), cf, co, tg, (len, op, lf, rt, res), (fnd, flen, fop, flf, frt, fres), t0, t1, t2, t3)) := if_pos z
    rw [e] at hQ
    exact eg_iret rfl dX3_cost_8 (hQ M hI ci_E.rf)
set_option maxHeartbeats 2000000 in
theorem ap_C_target {l : Launch} {E : eg_E} {d kb nb : Nat} {Q : Option Value → eg_G → eg_I → Prop} {G : eg_G} {M : eg_I} {b : Nat} {S : st_T} (hs : sh_C G b) (hok : st_ok S) (hI : ci_I M b S) {x y : Int32} (hd : 1 ≤ d) (hQ : ∀ M', ci_I M' b (ap_target S x y).2 → ci_E M M' b → Q (some (.int (ap_target S x y).1)) G M') : eg_J l E mX3_target d kb nb Q 0 [some (.ref b), some (.int x), some (.int y), none] [] G M := by
  obtain ⟨k0, k1, k2, k3, k4, k5, kV, k6, kR, k7, kF, k8, k9, k10, kH⟩ := id hs
  obtain ⟨gv1, gv2, gv3, gv4⟩ := id kV
  obtain ⟨gr0, gr1, gr2, gr3, gr4, gr5, gr6⟩ := id kR
  obtain ⟨gf0, gf1, gf2, gf3, gf4, gf5, gf6⟩ := id kF
  have kh0 := kH.1
  obtain ⟨⟨w, n, k⟩, cf, co, tg, ⟨len, op, lf, rt, res⟩, ⟨fnd, flen, fop, flf, frt, fres⟩, t0, t1, t2, t3⟩ := S
  replace hI : ci_U M b w n k cf co tg len op lf rt res fnd flen fop flf frt fres t0 t1 t2 t3 := hI
  replace hok : ok_U w n k cf co len op lf rt res fnd flen fop flf frt fres := hok
  obtain ⟨a1, a2, a3, a4, a5, a6, a7, a8, a9, a10, a11⟩ := id hI
  obtain ⟨i1, i2, i3, i4, i5, hw1, hw4, hn1, hn2, hk4⟩ := id a1
  obtain ⟨p3, p4, pl, pa⟩ := id a5
  obtain ⟨-, -, -, -, -, cw, co9, pok, fok⟩ := id hok
  obtain ⟨-, pok2, pok3⟩ := id pok
  have hA := wd_asg hw4 hn2
  refine eg_aload_n dX3_target_0 rfl rfl ?_
  refine eg_getR gf_RX3_19 rfl (by assumption) (by assumption) dX3_target_1 ?_
  refine eg_iload_n dX3_target_4 rfl rfl ?_
  refine eg_callV1 0 0 gk_X2_isAssignment gi_X2_isAssignment (by assumption) rfl gl_RX3_80 rfl (Nat.le_of_ble_eq_true rfl) (Nat.le_of_ble_eq_true rfl) (Nat.zero_le _) (Nat.zero_le _) (by omega) dX3_target_5 ?_
  refine sp_X2_isAssignment gv1 a1 (fun z1 z2 => ?_) (fun z => ?_)
  · refine eg_if_ne 13 dX3_target_8 (by decide) (fun _ => ?_) (fun z => absurd z (by decide))
    obtain ⟨ex, hx⟩ := nI_cl z1 z2 (by omega)
    generalize x.toNatClampNeg = X at ex hx
    subst ex
    refine eg_aload_n dX3_target_13 rfl rfl ?_
    refine eg_getR gf_RX3_19 rfl (by assumption) (by assumption) dX3_target_14 ?_
    refine eg_iload_n dX3_target_17 rfl rfl ?_
    refine eg_callV1 0 0 gk_X2_isWord gi_X2_isWord (by assumption) rfl gl_RX3_60 rfl (Nat.le_of_ble_eq_true rfl) (Nat.le_of_ble_eq_true rfl) (Nat.zero_le _) (Nat.zero_le _) (by omega) dX3_target_18 ?_
    refine sp_X2_isWord gv1 a1 (fun y1 y2 => ?_) (fun yz => ?_)
    · refine eg_if_ne 27 dX3_target_21 (by decide) (fun _ => ?_) (fun z => absurd z (by decide))
      have e : ap_target ((w, n, k), cf, co, tg, (len, op, lf, rt, res), (fnd, flen, fop, flf, frt, fres), t0, t1, t2, t3) (nI X) y = (tg X, ((w, n, k), cf, co, ss_up tg X y, (len, op, lf, rt, res), (fnd, flen, fop, flf, frt, fres), t0, t1, t2, t3)) := by
        unfold ap_target
        rw [if_neg (fun q => q.elim z1 z2), if_neg (fun q => q.elim y1 y2), nI_clamp (by omega)]
      rw [e] at hQ
      replace hQ : ∀ M', ci_U M' b w n k cf co (ss_up tg X y) len op lf rt res fnd flen fop flf frt fres t0 t1 t2 t3 → ci_E M M' b → Q (some (.int (tg X))) G M' := hQ
      refine eg_aload_n dX3_target_27 rfl rfl ?_
      refine eg_getR gf_RX3_13 rfl (by assumption) (by assumption) dX3_target_28 ?_
      refine eg_iload_n dX3_target_31 rfl rfl ?_
      refine eg_ialdN (by assumption) (by omega) (by decide) dX3_target_32 ?_
      refine eg_topi (a4 X (by omega)) ?_
      refine eg_istore_n dX3_target_33 rfl (by decide) rfl ?_
      refine eg_aload_n dX3_target_34 rfl rfl ?_
      refine eg_getR gf_RX3_13 rfl (by assumption) (by assumption) dX3_target_35 ?_
      refine eg_iload_n dX3_target_38 rfl rfl ?_
      refine eg_iload_n dX3_target_39 rfl rfl ?_
      refine eg_iastN (by assumption) (by omega) (by decide) dX3_target_40 ?_
      refine eg_iload_n dX3_target_41 rfl rfl ?_
      exact eg_iret rfl dX3_target_42 (hQ _ (⟨a1.eq (by rw [eg_set_ne (by omega)]), fun u s q1 q2 => by rw [eg_set_ne (by omega)]; exact a2 u s q1 q2, fun o ho => by rw [eg_set_ne (by omega)]; exact a3 o ho, fun s hs2 => by
                by_cases q : s = X
                · subst q; rw [eg_set_eq, ss_up_e]
                · rw [eg_set_j q, ss_up_n q]; exact a4 s hs2, a5.eq (fun q q1 q2 => by rw [eg_set_ne (by omega)]), by rw [eg_set_ne (by omega)]; exact a6, fun q => (a7 q).eq (fun q q1 q2 => by rw [eg_set_ne (by omega)]), by rw [eg_set_ne (by omega)]; exact a8, by rw [eg_set_ne (by omega)]; exact a9, by rw [eg_set_ne (by omega)]; exact a10, by rw [eg_set_ne (by omega)]; exact a11⟩) (fun q z => eg_set_ne (by omega)))
    · refine eg_if_ne 27 dX3_target_21 (by decide) (fun z => absurd (show nI 0 = 0 from rfl) z) (fun _ => ?_)
      refine eg_bipush dX3_target_24 (v := -2) (by decide) ?_
      have e : ap_target ((w, n, k), cf, co, tg, (len, op, lf, rt, res), (fnd, flen, fop, flf, frt, fres), t0, t1, t2, t3) (nI X) y = (-2, ((w, n, k), cf, co, tg, (len, op, lf, rt, res), (fnd, flen, fop, flf, frt, fres), t0, t1, t2, t3)) := by
        unfold ap_target
        rw [if_neg (fun q => q.elim z1 z2), if_pos yz]
      rw [e] at hQ
      exact eg_iret rfl dX3_target_26 (hQ M hI ci_E.rf)
  · refine eg_if_ne 13 dX3_target_8 (by decide) (fun z => absurd (show nI 0 = 0 from rfl) z) (fun _ => ?_)
    refine eg_iconst dX3_target_11 (v := -1) (by decide) ?_
    have e : ap_target ((w, n, k), cf, co, tg, (len, op, lf, rt, res), (fnd, flen, fop, flf, frt, fres), t0, t1, t2, t3) x y = (-1, ((w, n, k), cf, co, tg, (len, op, lf, rt, res), (fnd, flen, fop, flf, frt, fres), t0, t1, t2, t3)) := if_pos z
    rw [e] at hQ
    exact eg_iret rfl dX3_target_12 (hQ M hI ci_E.rf)
set_option maxHeartbeats 2000000 in
theorem ap_C_result {l : Launch} {E : eg_E} {d kb nb : Nat} {Q : Option Value → eg_G → eg_I → Prop} {G : eg_G} {M : eg_I} {b : Nat} {S : st_T} (hs : sh_C G b) (hok : st_ok S) (hI : ci_I M b S) {x : Int32} (hd : 3 ≤ d) (hQ : ∀ M', ci_I M' b (ap_result S x).2 → ci_E M M' b → Q (some (.int (ap_result S x).1)) G M') : eg_J l E mX3_result d kb nb Q 0 [some (.ref b), some (.int x), none] [] G M := by
  obtain ⟨k0, k1, k2, k3, k4, k5, kV, k6, kR, k7, kF, k8, k9, k10, kH⟩ := id hs
  obtain ⟨gv1, gv2, gv3, gv4⟩ := id kV
  obtain ⟨gr0, gr1, gr2, gr3, gr4, gr5, gr6⟩ := id kR
  obtain ⟨gf0, gf1, gf2, gf3, gf4, gf5, gf6⟩ := id kF
  have kh0 := kH.1
  obtain ⟨⟨w, n, k⟩, cf, co, tg, ⟨len, op, lf, rt, res⟩, ⟨fnd, flen, fop, flf, frt, fres⟩, t0, t1, t2, t3⟩ := S
  replace hI : ci_U M b w n k cf co tg len op lf rt res fnd flen fop flf frt fres t0 t1 t2 t3 := hI
  replace hok : ok_U w n k cf co len op lf rt res fnd flen fop flf frt fres := hok
  obtain ⟨a1, a2, a3, a4, a5, a6, a7, a8, a9, a10, a11⟩ := id hI
  obtain ⟨i1, i2, i3, i4, i5, hw1, hw4, hn1, hn2, hk4⟩ := id a1
  obtain ⟨p3, p4, pl, pa⟩ := id a5
  obtain ⟨-, -, -, -, -, cw, co9, pok, fok⟩ := id hok
  obtain ⟨-, pok2, pok3⟩ := id pok
  have hA := wd_asg hw4 hn2
  refine eg_aload_n dX3_result_0 rfl rfl ?_
  refine eg_iload_n dX3_result_1 rfl rfl ?_
  refine eg_callV1 0 0 gk_X3_isValue gi_X3_isValue (by assumption) rfl gl_RX3_90 rfl (Nat.le_of_ble_eq_true rfl) (Nat.le_of_ble_eq_true rfl) (Nat.zero_le _) (Nat.zero_le _) (by omega) dX3_result_2 ?_
  refine sp_X3_isValue (k := k) (by omega) hs a1 p3 (fun z1 z2 => ?_) (fun z => ?_)
  · refine eg_if_ne 10 dX3_result_5 (by decide) (fun _ => ?_) (fun z => absurd z (by decide))
    obtain ⟨ex, hx⟩ := nI_cl z1 z2 (by omega)
    have e : ap_result ((w, n, k), cf, co, tg, (len, op, lf, rt, res), (fnd, flen, fop, flf, frt, fres), t0, t1, t2, t3) x = (nI res, ((w, n, k), cf, co, tg, (len, op, lf, rt, x.toNatClampNeg), (fnd, flen, fop, flf, frt, fres), t0, t1, t2, t3)) := if_neg (fun q => q.elim z1 z2)
    generalize x.toNatClampNeg = X at ex hx e
    rw [e] at hQ
    replace hQ : ∀ M', ci_U M' b w n k cf co tg len op lf rt X fnd flen fop flf frt fres t0 t1 t2 t3 → ci_E M M' b → Q (some (.int (nI res))) G M' := hQ
    subst ex
    refine eg_aload_n dX3_result_10 rfl rfl ?_
    refine eg_getR gf_RX3_26 rfl (by assumption) (by assumption) dX3_result_11 ?_
    refine eg_getI gf_RX3_87 rfl (by assumption) dX3_result_14 ?_
    refine eg_topi p4 ?_
    refine eg_istore_n dX3_result_17 rfl (by decide) rfl ?_
    refine eg_aload_n dX3_result_18 rfl rfl ?_
    refine eg_getR gf_RX3_26 rfl (by assumption) (by assumption) dX3_result_19 ?_
    refine eg_iload_n dX3_result_22 rfl rfl ?_
    refine eg_putI gp_RX3_87 (fun q => by cases q) rfl rfl rfl (by assumption) dX3_result_23 ?_
    refine eg_iload_n dX3_result_26 rfl rfl ?_
    exact eg_iret rfl dX3_result_27 (hQ _ (⟨a1.eq (by rw [eg_set_ne (by omega)]), fun u s q1 q2 => by rw [eg_set_ne (by omega)]; exact a2 u s q1 q2, fun o ho => by rw [eg_set_ne (by omega)]; exact a3 o ho, fun s q => by rw [eg_set_ne (by omega)]; exact a4 s q, ⟨by rw [eg_set_j (by decide)]; exact p3, eg_set_eq, pl, fun j hj => by rw [eg_set_ne (by omega), eg_set_ne (by omega), eg_set_ne (by omega)]; exact pa j hj⟩, by rw [eg_set_ne (by omega)]; exact a6, fun q => (a7 q).eq (fun q q1 q2 => by rw [eg_set_ne (by omega)]), by rw [eg_set_ne (by omega)]; exact a8, by rw [eg_set_ne (by omega)]; exact a9, by rw [eg_set_ne (by omega)]; exact a10, by rw [eg_set_ne (by omega)]; exact a11⟩) (fun q z => eg_set_ne (by omega)))
  · refine eg_if_ne 10 dX3_result_5 (by decide) (fun z => absurd (show nI 0 = 0 from rfl) z) (fun _ => ?_)
    refine eg_iconst dX3_result_8 (v := -1) (by decide) ?_
    have e : ap_result ((w, n, k), cf, co, tg, (len, op, lf, rt, res), (fnd, flen, fop, flf, frt, fres), t0, t1, t2, t3) x = (-1, ((w, n, k), cf, co, tg, (len, op, lf, rt, res), (fnd, flen, fop, flf, frt, fres), t0, t1, t2, t3)) := if_pos z
    rw [e] at hQ
    exact eg_iret rfl dX3_result_9 (hQ M hI ci_E.rf)
set_option maxHeartbeats 2000000 in
theorem ap_C_drop {l : Launch} {E : eg_E} {d kb nb : Nat} {Q : Option Value → eg_G → eg_I → Prop} {G : eg_G} {M : eg_I} {b : Nat} {S : st_T} (hs : sh_C G b) (hok : st_ok S) (hI : ci_I M b S) (hd : 2 ≤ d) (hQ : ∀ M', ci_I M' b (ap_drop S).2 → ci_E M M' b → Q (some (.int (ap_drop S).1)) G M') : eg_J l E mX3_drop d kb nb Q 0 [some (.ref b)] [] G M := by
  obtain ⟨k0, k1, k2, k3, k4, k5, kV, k6, kR, k7, kF, k8, k9, k10, kH⟩ := id hs
  obtain ⟨gv1, gv2, gv3, gv4⟩ := id kV
  obtain ⟨gr0, gr1, gr2, gr3, gr4, gr5, gr6⟩ := id kR
  obtain ⟨gf0, gf1, gf2, gf3, gf4, gf5, gf6⟩ := id kF
  have kh0 := kH.1
  obtain ⟨⟨w, n, k⟩, cf, co, tg, ⟨len, op, lf, rt, res⟩, ⟨fnd, flen, fop, flf, frt, fres⟩, t0, t1, t2, t3⟩ := S
  replace hI : ci_U M b w n k cf co tg len op lf rt res fnd flen fop flf frt fres t0 t1 t2 t3 := hI
  replace hok : ok_U w n k cf co len op lf rt res fnd flen fop flf frt fres := hok
  obtain ⟨a1, a2, a3, a4, a5, a6, a7, a8, a9, a10, a11⟩ := id hI
  obtain ⟨i1, i2, i3, i4, i5, hw1, hw4, hn1, hn2, hk4⟩ := id a1
  obtain ⟨p3, p4, pl, pa⟩ := id a5
  obtain ⟨-, -, -, -, -, cw, co9, pok, fok⟩ := id hok
  obtain ⟨-, pok2, pok3⟩ := id pok
  have hA := wd_asg hw4 hn2
  by_cases h0 : len = 0
  · rw [show ap_drop ((w, n, k), cf, co, tg, (len, op, lf, rt, res), (fnd, flen, fop, flf, frt, fres), t0, t1, t2, t3) = (-3, ((w, n, k), cf, co, tg, (len, op, lf, rt, res), (fnd, flen, fop, flf, frt, fres), t0, t1, t2, t3)) from if_pos h0] at hQ
    refine eg_aload_n dX3_drop_0 rfl rfl ?_
    refine eg_getR gf_RX3_26 rfl (by assumption) (by assumption) dX3_drop_1 ?_
    refine eg_getI gf_RX3_64 rfl (by assumption) dX3_drop_4 ?_
    refine eg_topi p3 ?_
    refine eg_iconst dX3_drop_7 (v := nI 1) (by decide) ?_
    refine eg_icmp_ge 14 dX3_drop_8 (by decide) (fun c8 => absurd c8 (nI_ge (a := len) (b := 1) (by omega) (by omega))) (fun c8 => ?_)
    refine eg_bipush dX3_drop_11 (v := -3) (by decide) ?_
    exact eg_iret rfl dX3_drop_13 (hQ M hI ci_E.rf)
  · refine eg_aload_n dX3_drop_0 rfl rfl ?_
    refine eg_getR gf_RX3_26 rfl (by assumption) (by assumption) dX3_drop_1 ?_
    refine eg_getI gf_RX3_64 rfl (by assumption) dX3_drop_4 ?_
    refine eg_topi p3 ?_
    refine eg_iconst dX3_drop_7 (v := nI 1) (by decide) ?_
    refine eg_icmp_ge 14 dX3_drop_8 (by decide) (fun c8 => ?_) (fun c8 => absurd (nI_le (a := 1) (by omega) (by omega)) c8)
    refine eg_aload_n dX3_drop_14 rfl rfl ?_
    refine eg_getR gf_RX3_26 rfl (by assumption) (by assumption) dX3_drop_15 ?_
    refine eg_dup dX3_drop_18 rfl ?_
    refine eg_getI gf_RX3_64 rfl (by assumption) dX3_drop_19 ?_
    refine eg_topi p3 ?_
    refine eg_iconst dX3_drop_22 (v := nI 1) (by decide) ?_
    refine eg_isub dX3_drop_23 ?_
    refine eg_topi (show nI len - nI 1 = nI (len - 1) from pk_sub (by omega)) ?_
    refine eg_putI gp_RX3_64 (fun q => by cases q) rfl rfl rfl (by assumption) dX3_drop_24 ?_
    generalize hM1 : eg_set M (b + 23) 3 (nI (len - 1)) = M1
    have o1 : ∀ q, q ≠ b + 23 → M1 q = M q := fun q z => by rw [← hM1, eg_set_ne z]
    have m3 : M1 (b + 23) 3 = nI (len - 1) := by rw [← hM1, eg_set_eq]
    have m4 : M1 (b + 23) 4 = nI res := by rw [← hM1, eg_set_j (by decide)]; exact p4
    have b1 := a1.eq (o1 (b + 3) (by omega))
    refine eg_aload_n dX3_drop_27 rfl rfl ?_
    refine eg_getR gf_RX3_26 rfl (by assumption) (by assumption) dX3_drop_28 ?_
    refine eg_getI gf_RX3_87 rfl (by assumption) dX3_drop_31 ?_
    refine eg_topi m4 ?_
    refine eg_aload_n dX3_drop_34 rfl rfl ?_
    refine eg_callV0 0 0 gk_X3_valueCount gi_X3_valueCount (by assumption) rfl gl_RX3_93 rfl (Nat.le_of_ble_eq_true rfl) (Nat.le_of_ble_eq_true rfl) (Nat.zero_le _) (Nat.zero_le _) (by omega) dX3_drop_35 ?_
    refine sp_X3_valueCount (by omega) hs b1 m3 ?_
    refine eg_icmp_ne 49 dX3_drop_38 (by decide) (fun c => ?_) (fun c => ?_)
    · have hne : ¬ res = n + k + (len - 1) := fun q => c (by rw [q])
      have e : ap_drop ((w, n, k), cf, co, tg, (len, op, lf, rt, res), (fnd, flen, fop, flf, frt, fres), t0, t1, t2, t3) = (nI (len - 1), ((w, n, k), cf, co, tg, (len - 1, op, lf, rt, res), (fnd, flen, fop, flf, frt, fres), t0, t1, t2, t3)) := by
        unfold ap_drop
        rw [if_neg h0, if_neg hne]
      rw [e] at hQ
      replace hQ : ∀ M', ci_U M' b w n k cf co tg (len - 1) op lf rt res fnd flen fop flf frt fres t0 t1 t2 t3 → ci_E M M' b → Q (some (.int (nI (len - 1)))) G M' := hQ
      refine eg_aload_n dX3_drop_49 rfl rfl ?_
      refine eg_getR gf_RX3_26 rfl k0 k6 dX3_drop_50 ?_
      refine eg_getI gf_RX3_64 rfl gr0 dX3_drop_53 ?_
      refine eg_topi m3 ?_
      exact eg_iret rfl dX3_drop_56 (hQ M1 (⟨b1, fun u s q1 q2 => by rw [o1 _ (by omega)]; exact a2 u s (by omega) q2, fun o ho => by rw [o1 _ (by omega)]; exact a3 o ho, fun s q => by rw [o1 _ (by omega)]; exact a4 s q, ⟨m3, m4, by omega, fun j hj => by rw [o1 _ (by omega), o1 _ (by omega), o1 _ (by omega)]; exact pa j (by omega)⟩, by rw [o1 _ (by omega)]; exact a6, fun q => (a7 q).eq (fun q q1 q2 => by rw [o1 _ (by omega)]), by rw [o1 _ (by omega)]; exact a8, by rw [o1 _ (by omega)]; exact a9, by rw [o1 _ (by omega)]; exact a10, by rw [o1 _ (by omega)]; exact a11⟩) (fun q z => o1 q (by omega)))
    · have heq : res = n + k + (len - 1) := (nI_eq (by omega) (by omega)).mp c
      have e : ap_drop ((w, n, k), cf, co, tg, (len, op, lf, rt, res), (fnd, flen, fop, flf, frt, fres), t0, t1, t2, t3) = (nI (len - 1), ((w, n, k), cf, co, tg, (len - 1, op, lf, rt, 0), (fnd, flen, fop, flf, frt, fres), t0, t1, t2, t3)) := by
        unfold ap_drop
        rw [if_neg h0, if_pos heq]
      rw [e] at hQ
      replace hQ : ∀ M', ci_U M' b w n k cf co tg (len - 1) op lf rt 0 fnd flen fop flf frt fres t0 t1 t2 t3 → ci_E M M' b → Q (some (.int (nI (len - 1)))) G M' := hQ
      refine eg_aload_n dX3_drop_41 rfl rfl ?_
      refine eg_getR gf_RX3_26 rfl (by assumption) (by assumption) dX3_drop_42 ?_
      refine eg_iconst dX3_drop_45 (v := nI 0) (by decide) ?_
      refine eg_putI gp_RX3_87 (fun q => by cases q) rfl rfl rfl (by assumption) dX3_drop_46 ?_
      refine eg_aload_n dX3_drop_49 rfl rfl ?_
      refine eg_getR gf_RX3_26 rfl (by assumption) (by assumption) dX3_drop_50 ?_
      refine eg_getI gf_RX3_64 rfl (by assumption) dX3_drop_53 ?_
      refine eg_topi (show _ = nI (len - 1) by rw [eg_set_j (by decide)]; exact m3) ?_
      exact eg_iret rfl dX3_drop_56 (hQ _ (⟨b1.eq (eg_set_ne (by omega)), fun u s q1 q2 => by rw [eg_set_ne (by omega), o1 _ (by omega)]; exact a2 u s (by omega) q2, fun o ho => by rw [eg_set_ne (by omega), o1 _ (by omega)]; exact a3 o ho, fun s q => by rw [eg_set_ne (by omega), o1 _ (by omega)]; exact a4 s q, ⟨by rw [eg_set_j (by decide)]; exact m3, eg_set_eq, by omega, fun j hj => by rw [eg_set_ne (by omega), eg_set_ne (by omega), eg_set_ne (by omega), o1 _ (by omega), o1 _ (by omega), o1 _ (by omega)]; exact pa j (by omega)⟩, by rw [eg_set_ne (by omega), o1 _ (by omega)]; exact a6, fun q => (a7 q).eq (fun q q1 q2 => by rw [eg_set_ne (by omega), o1 _ (by omega)]), by rw [eg_set_ne (by omega), o1 _ (by omega)]; exact a8, by rw [eg_set_ne (by omega), o1 _ (by omega)]; exact a9, by rw [eg_set_ne (by omega), o1 _ (by omega)]; exact a10, by rw [eg_set_ne (by omega), o1 _ (by omega)]; exact a11⟩) (fun q z => by rw [eg_set_ne (by omega)]; exact o1 q (by omega)))
