/-! ShortestCodeModel: aim, add, reads, differ, take -/
set_option maxHeartbeats 2000000 in
theorem lp_X4_aim {l : Launch} {E : eg_E} {d kb nb : Nat} {Q : Option Value → eg_G → eg_I → Prop} {G : eg_G} {a w n k res : Nat} {cf : Nat → Int32} {M0 : eg_I} (hs : sh_M G a) (hres : res < 18) : ∀ (t s : Nat) (M : eg_I) (l3 : Option Value), in_M M a w n k cf → M a 12 = nI res → s + t = 2 ^ (w * n) → M = eg_fl M0 (a + 3) 0 s (fun j => M0 (a + 7) (256 * res + j)) → (∀ M', M' = eg_fl M0 (a + 3) 0 (2 ^ (w * n)) (fun j => M0 (a + 7) (256 * res + j)) → Q (some (.int (nI (cnt (fun s => ¬ M0 (a + 3) s = M0 (a + 7) (256 * res + s)) (2 ^ (w * n)))))) G M') → eg_J l E mX4_aim d kb nb Q 4 [some (.ref a), some (.int (nI (cnt (fun s => ¬ M0 (a + 3) s = M0 (a + 7) (256 * res + s)) s))), some (.int (nI s)), l3] [] G M := by
  intro t
  induction t with
  | zero =>
    intro s M l3 h h12 hst hM hQ
    obtain ⟨k0, ⟨x5, y5⟩, ⟨x6, y6⟩, ⟨x7, y7⟩, ⟨x9, y9⟩, ⟨x10, y10⟩, ⟨x11, y11⟩, ⟨x13, y13⟩, ⟨x14, y14⟩, ⟨x18, y18⟩, ⟨x19, y19⟩, ⟨x20, y20⟩, ⟨x25, y25⟩, ⟨x26, y26⟩, ⟨x27, y27⟩, ⟨x28, y28⟩, ⟨x30, y30⟩, ⟨x31, y31⟩, ⟨x32, y32⟩⟩ := id hs
    obtain ⟨m0, m1, m2, m3, m4, mc, hw1, hw4, hn1, hn2, hk4⟩ := id h
    have hA := wd_asg hw4 hn2
    have er : ∀ j, M (a + 7) j = M0 (a + 7) j := fun j => by rw [hM, eg_fl_ne (by omega)]
    have et : ∀ j, s ≤ j → M (a + 3) j = M0 (a + 3) j := fun j hj => by rw [hM, eg_fl_out (Or.inr hj)]
    refine eg_iload_n dX4_aim_4 rfl rfl ?_
    refine eg_aload_n dX4_aim_5 rfl rfl ?_
    refine eg_getI gf_RX4_19 rfl (by assumption) dX4_aim_6 ?_
    refine eg_topi m3 ?_
    refine eg_icmp_ge 59 dX4_aim_9 (by decide) (fun c9 => ?_) (fun c9 => absurd (nI_le (by omega) (by omega)) c9)
    refine eg_iload_n dX4_aim_59 rfl rfl ?_
    have e : s = 2 ^ (w * n) := by omega
    rw [e] at hM ⊢
    exact eg_iret rfl dX4_aim_60 (hQ M hM)
  | succ t ih =>
    intro s M l3 h h12 hst hM hQ
    obtain ⟨k0, ⟨x5, y5⟩, ⟨x6, y6⟩, ⟨x7, y7⟩, ⟨x9, y9⟩, ⟨x10, y10⟩, ⟨x11, y11⟩, ⟨x13, y13⟩, ⟨x14, y14⟩, ⟨x18, y18⟩, ⟨x19, y19⟩, ⟨x20, y20⟩, ⟨x25, y25⟩, ⟨x26, y26⟩, ⟨x27, y27⟩, ⟨x28, y28⟩, ⟨x30, y30⟩, ⟨x31, y31⟩, ⟨x32, y32⟩⟩ := id hs
    obtain ⟨m0, m1, m2, m3, m4, mc, hw1, hw4, hn1, hn2, hk4⟩ := id h
    have hA := wd_asg hw4 hn2
    have er : ∀ j, M (a + 7) j = M0 (a + 7) j := fun j => by rw [hM, eg_fl_ne (by omega)]
    have et : ∀ j, s ≤ j → M (a + 3) j = M0 (a + 3) j := fun j hj => by rw [hM, eg_fl_out (Or.inr hj)]
    refine eg_iload_n dX4_aim_4 rfl rfl ?_
    refine eg_aload_n dX4_aim_5 rfl rfl ?_
    refine eg_getI gf_RX4_19 rfl (by assumption) dX4_aim_6 ?_
    refine eg_topi m3 ?_
    refine eg_icmp_ge 59 dX4_aim_9 (by decide) (fun c9 => absurd c9 (nI_ge (by omega) (by omega))) (fun c9 => ?_)
    refine eg_aload_n dX4_aim_12 rfl rfl ?_
    refine eg_getR gf_RX4_41 rfl (by assumption) (by assumption) dX4_aim_13 ?_
    refine eg_sipush dX4_aim_16 (v := nI 256) (by decide) ?_
    refine eg_aload_n dX4_aim_19 rfl rfl ?_
    refine eg_getI gf_RX4_105 rfl (by assumption) dX4_aim_20 ?_
    refine eg_topi h12 ?_
    refine eg_imul dX4_aim_23 ?_
    refine eg_topi (pk_mul 256 res) ?_
    refine eg_iload_n dX4_aim_24 rfl rfl ?_
    refine eg_iadd dX4_aim_25 ?_
    refine eg_topi (nI_add (256 * res) s) ?_
    refine eg_ialdN (by assumption) (by omega) (by decide) dX4_aim_26 ?_
    refine eg_topi (er _) ?_
    refine eg_istore_n dX4_aim_27 rfl (by decide) rfl ?_
    refine eg_iload_n dX4_aim_28 rfl rfl ?_
    refine eg_aload_n dX4_aim_29 rfl rfl ?_
    refine eg_getR gf_RX4_29 rfl (by assumption) (by assumption) dX4_aim_30 ?_
    refine eg_iload_n dX4_aim_33 rfl rfl ?_
    refine eg_ialdN (by assumption) (by omega) (by decide) dX4_aim_34 ?_
    refine eg_topi (et s (Nat.le_refl _)) ?_
    refine eg_iload_n dX4_aim_35 rfl rfl ?_
    refine eg_icmp_eq 43 dX4_aim_36 (by decide) (fun c => ?_) (fun c => ?_)
    · refine eg_iconst dX4_aim_43 (v := nI 0) (by decide) ?_
      refine eg_iadd dX4_aim_44 ?_
      refine eg_topi (nI_add (cnt (fun s => ¬ M0 (a + 3) s = M0 (a + 7) (256 * res + s)) s) 0) ?_
      refine eg_istore_n dX4_aim_45 rfl (by decide) rfl ?_
      refine eg_aload_n dX4_aim_46 rfl rfl ?_
      refine eg_getR gf_RX4_29 rfl (by assumption) (by assumption) dX4_aim_47 ?_
      refine eg_iload_n dX4_aim_50 rfl rfl ?_
      refine eg_iload_n dX4_aim_51 rfl rfl ?_
      refine eg_iastN (by assumption) (by omega) (by decide) dX4_aim_52 ?_
      refine eg_iinc dX4_aim_53 (by decide) rfl (eg_inc s) rfl ?_
      refine eg_goto 4 dX4_aim_56 (by decide) ?_
      have ex : eg_fl M0 (a + 3) 0 (s + 1) (fun j => M0 (a + 7) (256 * res + j)) = eg_set (eg_fl M0 (a + 3) 0 s (fun j => M0 (a + 7) (256 * res + j))) (a + 3) s (M0 (a + 7) (256 * res + s)) := eg_fl_r (by omega)
      have h9 := ih (s + 1) (eg_set M (a + 3) s (M0 (a + 7) (256 * res + s))) (some (.int (M0 (a + 7) (256 * res + s)))) (h.eq (fun j _ => by rw [eg_set_ne (by omega)]) (eg_set_ne (by omega))) (by rw [eg_set_ne (by omega)]; exact h12) (by omega) (by rw [ex, ← hM]) hQ
      rw [show cnt (fun s => ¬ M0 (a + 3) s = M0 (a + 7) (256 * res + s)) (s + 1) = cnt (fun s => ¬ M0 (a + 3) s = M0 (a + 7) (256 * res + s)) s + 0 by rw [cnt, if_neg (fun q => q c)]] at h9
      exact h9
    · refine eg_iconst dX4_aim_39 (v := nI 1) (by decide) ?_
      refine eg_goto 44 dX4_aim_40 (by decide) ?_
      refine eg_iadd dX4_aim_44 ?_
      refine eg_topi (nI_add (cnt (fun s => ¬ M0 (a + 3) s = M0 (a + 7) (256 * res + s)) s) 1) ?_
      refine eg_istore_n dX4_aim_45 rfl (by decide) rfl ?_
      refine eg_aload_n dX4_aim_46 rfl rfl ?_
      refine eg_getR gf_RX4_29 rfl (by assumption) (by assumption) dX4_aim_47 ?_
      refine eg_iload_n dX4_aim_50 rfl rfl ?_
      refine eg_iload_n dX4_aim_51 rfl rfl ?_
      refine eg_iastN (by assumption) (by omega) (by decide) dX4_aim_52 ?_
      refine eg_iinc dX4_aim_53 (by decide) rfl (eg_inc s) rfl ?_
      refine eg_goto 4 dX4_aim_56 (by decide) ?_
      have ex : eg_fl M0 (a + 3) 0 (s + 1) (fun j => M0 (a + 7) (256 * res + j)) = eg_set (eg_fl M0 (a + 3) 0 s (fun j => M0 (a + 7) (256 * res + j))) (a + 3) s (M0 (a + 7) (256 * res + s)) := eg_fl_r (by omega)
      have h9 := ih (s + 1) (eg_set M (a + 3) s (M0 (a + 7) (256 * res + s))) (some (.int (M0 (a + 7) (256 * res + s)))) (h.eq (fun j _ => by rw [eg_set_ne (by omega)]) (eg_set_ne (by omega))) (by rw [eg_set_ne (by omega)]; exact h12) (by omega) (by rw [ex, ← hM]) hQ
      rw [show cnt (fun s => ¬ M0 (a + 3) s = M0 (a + 7) (256 * res + s)) (s + 1) = cnt (fun s => ¬ M0 (a + 3) s = M0 (a + 7) (256 * res + s)) s + 1 by rw [cnt, if_pos c]] at h9
      exact h9
set_option maxHeartbeats 2000000 in
theorem ap_R_aim {l : Launch} {E : eg_E} {d kb nb : Nat} {Q : Option Value → eg_G → eg_I → Prop} {G : eg_G} {M : eg_I} {a : Nat} {S : st_T} (hs : sh_M G a) (hok : st_ok S) (hI : ri_I M a S) (hd : 4 ≤ d) (hQ : ∀ M', ri_I M' a (ap_aim S).2 → ri_E M M' a → Q (some (.int (ap_aim S).1)) G M') : eg_J l E mX4_aim d kb nb Q 0 [some (.ref a), none, none, none] [] G M := by
  obtain ⟨k0, ⟨x5, y5⟩, ⟨x6, y6⟩, ⟨x7, y7⟩, ⟨x9, y9⟩, ⟨x10, y10⟩, ⟨x11, y11⟩, ⟨x13, y13⟩, ⟨x14, y14⟩, ⟨x18, y18⟩, ⟨x19, y19⟩, ⟨x20, y20⟩, ⟨x25, y25⟩, ⟨x26, y26⟩, ⟨x27, y27⟩, ⟨x28, y28⟩, ⟨x30, y30⟩, ⟨x31, y31⟩, ⟨x32, y32⟩⟩ := id hs
  obtain ⟨⟨w, n, k⟩, cf, co, tg, ⟨len, op, lf, rt, res⟩, ⟨fnd, flen, fop, flf, frt, fres⟩, t0, t1, t2, t3⟩ := S
  replace hI : ri_U M a w n k cf co tg len op lf rt res fnd flen fop flf frt fres t0 t1 t2 t3 := hI
  replace hok : ok_U w n k cf co len op lf rt res fnd flen fop flf frt fres := hok
  obtain ⟨b1, b2, b3, b4, b5, b6, b7, b8, b9, b10, b11⟩ := id hI
  obtain ⟨m0, m1, m2, m3, m4, mc, hw1, hw4, hn1, hn2, hk4⟩ := id b1
  obtain ⟨p3, p4, pl, pa⟩ := id b5
  obtain ⟨-, -, -, -, -, cw, co9, pok, fok⟩ := id hok
  obtain ⟨-, pok2, pok3⟩ := id pok
  have hA := wd_asg hw4 hn2
  refine eg_iconst dX4_aim_0 (v := nI 0) (by decide) ?_
  refine eg_istore_n dX4_aim_1 rfl (by decide) rfl ?_
  refine eg_iconst dX4_aim_2 (v := nI 0) (by decide) ?_
  refine eg_istore_n dX4_aim_3 rfl (by decide) rfl ?_
  refine lp_X4_aim (k := k) (M0 := M) hs (by omega) (2 ^ (w * n)) 0 M _ b1 p4 (by omega) (by rw [eg_fl_0 (Nat.le_refl _)]) (fun M2 h2 => ?_)
  have ec : ∀ t, t ≤ 2 ^ (w * n) → cnt (fun s => ¬ M (a + 3) s = M (a + 7) (256 * res + s)) t = cnt (fun s => ¬ tg s = sv w n k cf op lf rt res s) t := by
    intro t ht
    induction t with
    | zero => rfl
    | succ t iht =>
      rw [cnt, cnt, iht (by omega), b4 t (by omega), b2 res t (by omega) (by omega)]
  rw [ec _ (Nat.le_refl _)]
  have o2 : ∀ q, q ≠ a + 3 → M2 q = M q := fun q z => by rw [h2, eg_fl_ne z]
  replace hQ : ∀ M', ri_U M' a w n k cf co (fun s => if s < 2 ^ (w * n) then sv w n k cf op lf rt res s else tg s) len op lf rt res fnd flen fop flf frt fres t0 t1 t2 t3 → ri_E M M' a → Q (some (.int (nI (cnt (fun s => ¬ tg s = sv w n k cf op lf rt res s) (2 ^ (w * n)))))) G M' := hQ
  exact hQ M2 ⟨b1.eq (fun j hj => by rw [o2 _ (by omega)]) (by rw [o2 _ (by omega)]), fun u s q1 q2 => by rw [o2 _ (by omega)]; exact b2 u s q1 q2, fun o ho => by rw [o2 _ (by omega)]; exact b3 o ho, fun s q => by
    show M2 (a + 3) s = if s < 2 ^ (w * n) then sv w n k cf op lf rt res s else tg s
    by_cases e : s < 2 ^ (w * n)
    · rw [h2, eg_fl_in (by omega) e, if_pos e, b2 res s (by omega) e]
    · rw [h2, eg_fl_out (by omega), if_neg e]; exact b4 s q, b5.eq (by rw [o2 _ (by omega)]) (by rw [o2 _ (by omega)]) (fun q q1 q2 => by rw [o2 _ (by omega)]), by rw [o2 _ (by omega)]; exact b6, fun q => (b7 q).eq (by rw [o2 _ (by omega)]) (by rw [o2 _ (by omega)]) (fun q q1 q2 => by rw [o2 _ (by omega)]), by rw [o2 _ (by omega)]; exact b8, by rw [o2 _ (by omega)]; exact b9, by rw [o2 _ (by omega)]; exact b10, by rw [o2 _ (by omega)]; exact b11⟩ (fun q z => o2 q (by omega))
set_option maxHeartbeats 2000000 in
theorem ap_R_add {l : Launch} {E : eg_E} {d kb nb : Nat} {Q : Option Value → eg_G → eg_I → Prop} {G : eg_G} {M : eg_I} {a : Nat} {S : st_T} (hs : sh_M G a) (hok : st_ok S) (hI : ri_I M a S) {x y z : Int32} (hd : 4 ≤ d) (hQ : ∀ M', ri_I M' a (ap_add S x y z).2 → ri_E M M' a → Q (some (.int (ap_add S x y z).1)) G M') : eg_J l E mX4_add d kb nb Q 0 [some (.ref a), some (.int x), some (.int y), some (.int z)] [] G M := by
  obtain ⟨k0, ⟨x5, y5⟩, ⟨x6, y6⟩, ⟨x7, y7⟩, ⟨x9, y9⟩, ⟨x10, y10⟩, ⟨x11, y11⟩, ⟨x13, y13⟩, ⟨x14, y14⟩, ⟨x18, y18⟩, ⟨x19, y19⟩, ⟨x20, y20⟩, ⟨x25, y25⟩, ⟨x26, y26⟩, ⟨x27, y27⟩, ⟨x28, y28⟩, ⟨x30, y30⟩, ⟨x31, y31⟩, ⟨x32, y32⟩⟩ := id hs
  obtain ⟨⟨w, n, k⟩, cf, co, tg, ⟨len, op, lf, rt, res⟩, ⟨fnd, flen, fop, flf, frt, fres⟩, t0, t1, t2, t3⟩ := S
  replace hI : ri_U M a w n k cf co tg len op lf rt res fnd flen fop flf frt fres t0 t1 t2 t3 := hI
  replace hok : ok_U w n k cf co len op lf rt res fnd flen fop flf frt fres := hok
  obtain ⟨b1, b2, b3, b4, b5, b6, b7, b8, b9, b10, b11⟩ := id hI
  obtain ⟨m0, m1, m2, m3, m4, mc, hw1, hw4, hn1, hn2, hk4⟩ := id b1
  obtain ⟨p3, p4, pl, pa⟩ := id b5
  obtain ⟨-, -, -, -, -, cw, co9, pok, fok⟩ := id hok
  obtain ⟨-, pok2, pok3⟩ := id pok
  have hA := wd_asg hw4 hn2
  refine eg_iload_n dX4_add_0 rfl rfl ?_
  refine eg_iconst dX4_add_1 (v := nI 0) (by decide) ?_
  refine eg_bipush dX4_add_2 (v := nI 12) (by decide) ?_
  refine eg_callS3 0 0 gk_X4_within gi_X4_within gl_RX4_101 rfl (Nat.le_of_ble_eq_true rfl) (Nat.le_of_ble_eq_true rfl) (Nat.zero_le _) (Nat.zero_le _) (by omega) dX4_add_4 ?_
  refine sp_X4_within (fun z1 z2 => ?_) (fun zz => ?_)
  · refine eg_if_eq 26 dX4_add_7 (by decide) (fun z => absurd z (by decide)) (fun _ => ?_)
    replace z2 : ¬ nI 13 ≤ x := fun q => z2 ((nI_ls (by omega)).mpr q)
    refine eg_aload_n dX4_add_10 rfl rfl ?_
    refine eg_iload_n dX4_add_11 rfl rfl ?_
    refine eg_callV1 0 0 gk_X4_isValue gi_X4_isValue (by assumption) rfl gl_RX4_119 rfl (Nat.le_of_ble_eq_true rfl) (Nat.le_of_ble_eq_true rfl) (Nat.zero_le _) (Nat.zero_le _) (by omega) dX4_add_12 ?_
    refine sp_X4_isValue (by omega) k0 b1 p3 pl (fun y1 y2 => ?_) (fun yy => ?_)
    · refine eg_if_eq 26 dX4_add_15 (by decide) (fun z => absurd z (by decide)) (fun _ => ?_)
      refine eg_aload_n dX4_add_18 rfl rfl ?_
      refine eg_iload_n dX4_add_19 rfl rfl ?_
      refine eg_callV1 0 0 gk_X4_isValue gi_X4_isValue (by assumption) rfl gl_RX4_119 rfl (Nat.le_of_ble_eq_true rfl) (Nat.le_of_ble_eq_true rfl) (Nat.zero_le _) (Nat.zero_le _) (by omega) dX4_add_20 ?_
      refine sp_X4_isValue (by omega) k0 b1 p3 pl (fun v1 v2 => ?_) (fun vv => ?_)
      · refine eg_if_ne 28 dX4_add_23 (by decide) (fun _ => ?_) (fun z => absurd z (by decide))
        obtain ⟨ex, hX⟩ := nI_cl z1 z2 (by omega)
        obtain ⟨ey, hY⟩ := nI_cl y1 y2 (by omega)
        obtain ⟨ez, hZ⟩ := nI_cl v1 v2 (by omega)
        have hge : ¬ ((x < 0 ∨ nI 13 ≤ x) ∨ (y < 0 ∨ nI (n + k + len) ≤ y) ∨ (z < 0 ∨ nI (n + k + len) ≤ z)) := fun q => q.elim (fun q => q.elim z1 z2) (fun q => q.elim (fun q => q.elim y1 y2) (fun q => q.elim v1 v2))
        refine eg_aload_n dX4_add_28 rfl rfl ?_
        refine eg_getI gf_RX4_90 rfl (by assumption) dX4_add_29 ?_
        refine eg_topi p3 ?_
        refine eg_bipush dX4_add_32 (v := nI 12) (by decide) ?_
        refine eg_icmp_ne 40 dX4_add_34 (by decide) (fun c1 => ?_) (fun c1 => ?_)
        · have hl : ¬ 12 ≤ len := fun q => c1 (by rw [show len = 12 by omega])
          have e : ap_add ((w, n, k), cf, co, tg, (len, op, lf, rt, res), (fnd, flen, fop, flf, frt, fres), t0, t1, t2, t3) x y z = (nI (n + k + len), ((w, n, k), cf, co, tg, (len + 1, ss_up op len x.toNatClampNeg, ss_up lf len y.toNatClampNeg, ss_up rt len (if x.toNatClampNeg = 0 ∨ x.toNatClampNeg = 1 then 0 else z.toNatClampNeg), n + k + len), (fnd, flen, fop, flf, frt, fres), t0, t1, t2, t3)) := by
            unfold ap_add
            rw [if_neg hge, if_neg hl]
          rw [e] at hQ
          generalize x.toNatClampNeg = X at ex hX hQ
          generalize y.toNatClampNeg = Y at ey hY hQ
          generalize z.toNatClampNeg = Z at ez hZ hQ
          subst ex
          subst ey
          subst ez
          refine eg_aload_n dX4_add_40 rfl rfl ?_
          refine eg_getR gf_RX4_32 rfl (by assumption) (by assumption) dX4_add_41 ?_
          refine eg_aload_n dX4_add_44 rfl rfl ?_
          refine eg_getI gf_RX4_90 rfl (by assumption) dX4_add_45 ?_
          refine eg_topi p3 ?_
          refine eg_iload_n dX4_add_48 rfl rfl ?_
          refine eg_iastN (by assumption) (by omega) (by decide) dX4_add_49 ?_
          refine eg_aload_n dX4_add_50 rfl rfl ?_
          refine eg_getR gf_RX4_35 rfl (by assumption) (by assumption) dX4_add_51 ?_
          refine eg_aload_n dX4_add_54 rfl rfl ?_
          refine eg_getI gf_RX4_90 rfl (by assumption) dX4_add_55 ?_
          refine eg_topi (show _ = nI len by rw [eg_set_ne (by omega)]; exact p3) ?_
          refine eg_iload_n dX4_add_58 rfl rfl ?_
          refine eg_iastN (by assumption) (by omega) (by decide) dX4_add_59 ?_
          refine eg_aload_n dX4_add_60 rfl rfl ?_
          refine eg_getR gf_RX4_38 rfl (by assumption) (by assumption) dX4_add_61 ?_
          refine eg_aload_n dX4_add_64 rfl rfl ?_
          refine eg_getI gf_RX4_90 rfl (by assumption) dX4_add_65 ?_
          refine eg_topi (show _ = nI len by rw [eg_set_ne (by omega), eg_set_ne (by omega)]; exact p3) ?_
          refine eg_iload_n dX4_add_68 rfl rfl ?_
          refine eg_if_eq 77 dX4_add_69 (by decide) (fun d1 => ?_) (fun d1 => ?_)
          · have ht : X = 0 ∨ X = 1 := Or.inl ((nI_eq (b := 0) (by omega) (by omega)).mp d1)
            rw [if_pos ht] at hQ
            replace hQ : ∀ M', ri_U M' a w n k cf co tg (len + 1) (ss_up op len X) (ss_up lf len Y) (ss_up rt len 0) (n + k + len) fnd flen fop flf frt fres t0 t1 t2 t3 → ri_E M M' a → Q (some (.int (nI (n + k + len)))) G M' := hQ
            refine eg_iconst dX4_add_77 (v := nI 0) (by decide) ?_
            refine eg_goto 82 dX4_add_78 (by decide) ?_
            refine eg_iastN (by assumption) (by omega) (by decide) dX4_add_82 ?_
            refine eg_aload_n dX4_add_83 rfl rfl ?_
            refine eg_dup dX4_add_84 rfl ?_
            refine eg_getI gf_RX4_90 rfl (by assumption) dX4_add_85 ?_
            refine eg_topi (show _ = nI len by rw [eg_set_ne (by omega), eg_set_ne (by omega), eg_set_ne (by omega)]; exact p3) ?_
            refine eg_iconst dX4_add_88 (v := nI 1) (by decide) ?_
            refine eg_iadd dX4_add_89 ?_
            refine eg_topi (nI_add len 1) ?_
            refine eg_putI gp_RX4_90 (fun q => by cases q) rfl rfl rfl (by assumption) dX4_add_90 ?_
            generalize hM1 : eg_set (eg_set (eg_set (eg_set M (a + 4) len (nI X)) (a + 5) len (nI Y)) (a + 6) len (nI 0)) a 8 (nI (len + 1)) = M1
            have g8 : M1 a 8 = nI (len + 1) := by rw [← hM1, eg_set_eq]
            have c1 : in_M M1 a w n k cf := b1.eq (fun j _ => by rw [← hM1, eg_set_j (by omega), eg_set_ne (by omega), eg_set_ne (by omega), eg_set_ne (by omega)]) (by rw [← hM1, eg_set_ne (by omega), eg_set_ne (by omega), eg_set_ne (by omega), eg_set_ne (by omega)])
            refine eg_aload_n dX4_add_93 rfl rfl ?_
            refine eg_aload_n dX4_add_94 rfl rfl ?_
            refine eg_callV0 0 0 gk_X4_all gi_X4_all (by assumption) rfl gl_RX4_116 rfl (Nat.le_of_ble_eq_true rfl) (Nat.le_of_ble_eq_true rfl) (Nat.zero_le _) (Nat.zero_le _) (by omega) dX4_add_95 ?_
            refine sp_X4_all (by omega) k0 c1 g8 ?_
            refine eg_iconst dX4_add_98 (v := nI 1) (by decide) ?_
            refine eg_isub dX4_add_99 ?_
            refine eg_topi (show nI (n + k + (len + 1)) - nI 1 = nI (n + k + len) from pk_sub (by omega)) ?_
            refine eg_putI gp_RX4_105 (fun q => by cases q) rfl rfl rfl (by assumption) dX4_add_100 ?_
            generalize hM2 : eg_set M1 a 12 (nI (n + k + len)) = M2
            have o2 : ∀ q, q ≠ a → q ≠ a + 4 → q ≠ a + 5 → q ≠ a + 6 → M2 q = M q := fun q y1 y2 y3 y4 => by rw [← hM2, eg_set_ne y1, ← hM1, eg_set_ne y1, eg_set_ne y4, eg_set_ne y3, eg_set_ne y2]
            have f2 : ∀ j, j ≠ 8 → j ≠ 12 → M2 a j = M a j := fun j y1 y2 => by rw [← hM2, eg_set_j y2, ← hM1, eg_set_j y1, eg_set_ne (by omega), eg_set_ne (by omega), eg_set_ne (by omega)]
            have s8 : M2 a 8 = nI (len + 1) := by rw [← hM2, eg_set_j (by decide)]; exact g8
            have s12 : M2 a 12 = nI (n + k + len) := by rw [← hM2, eg_set_eq]
            have hr : in_Q M2 a (len + 1) (ss_up op len X) (ss_up lf len Y) (ss_up rt len (0)) (n + k + len) := by
              refine ⟨s8, s12, by omega, fun j hj => ?_⟩
              by_cases e : j = len
              · subst e
                rw [ss_up_e, ss_up_e, ss_up_e, ← hM2, ← hM1]
                refine ⟨?_, ?_, ?_⟩
                · rw [eg_set_ne (by omega), eg_set_ne (by omega), eg_set_ne (by omega), eg_set_ne (by omega), eg_set_eq]
                · rw [eg_set_ne (by omega), eg_set_ne (by omega), eg_set_ne (by omega), eg_set_eq]
                · rw [eg_set_ne (by omega), eg_set_ne (by omega), eg_set_eq]
              · rw [ss_up_n e, ss_up_n e, ss_up_n e, ← hM2, ← hM1]
                rw [eg_set_ne (show a + 4 ≠ a by omega), eg_set_ne (show a + 4 ≠ a by omega), eg_set_ne (show a + 5 ≠ a by omega), eg_set_ne (show a + 5 ≠ a by omega), eg_set_ne (show a + 6 ≠ a by omega), eg_set_ne (show a + 6 ≠ a by omega)]
                rw [eg_set_jj e, eg_set_jj e, eg_set_jj e, eg_set_jj e, eg_set_jj e, eg_set_jj e, eg_set_jj e, eg_set_jj e, eg_set_jj e]
                exact pa j (by omega)
            have c2 : in_M M2 a w n k cf := c1.eq (fun j _ => by rw [← hM2, eg_set_j (by omega)]) (by rw [← hM2, eg_set_ne (by omega)])
            have hpk : ∀ j, j < len + 1 → ss_up op len X j < 13 ∧ ss_up lf len Y j < n + k + j ∧ ss_up rt len (0) j < n + k + j := fun j hj => by
              by_cases e : j = len
              · subst e
                rw [ss_up_e, ss_up_e, ss_up_e]
                exact ⟨hX, hY, by omega⟩
              · rw [ss_up_n e, ss_up_n e, ss_up_n e]
                have := pok2 j (by omega)
                exact ⟨this.1, this.2.1, this.2.2.1⟩
            refine eg_aload_n dX4_add_103 rfl rfl ?_
            refine eg_callV0 0 0 gk_X4_reckonAll gi_X4_reckonAll (by assumption) rfl gl_RX4_80 rfl (Nat.le_of_ble_eq_true rfl) (Nat.le_of_ble_eq_true rfl) (Nat.zero_le _) (Nat.zero_le _) (by omega) dX4_add_104 ?_
            refine sp_X4_reckonAll (op := ss_up op len X) (lf := ss_up lf len Y) (rt := ss_up rt len (0)) (len := len + 1) (by omega) hs (by omega) hpk cw c2 ⟨s8, hr.2.2.2⟩ (fun M4 h3 h4 => ?_)
            refine eg_aload_n dX4_add_107 rfl rfl ?_
            refine eg_getI gf_RX4_105 rfl (by assumption) dX4_add_108 ?_
            refine eg_topi (show _ = nI (n + k + len) by rw [h4 _ (by omega)]; exact s12) ?_
            exact eg_iret rfl dX4_add_111 (hQ M4 ⟨c2.eq (fun j _ => by rw [h4 _ (by omega)]) (h4 _ (by omega)), fun u s q1 q2 => h3 u s (by omega) q2, fun o ho => by rw [h4 _ (by omega), o2 _ (by omega) (by omega) (by omega) (by omega)]; exact b3 o ho, fun s q => by rw [h4 _ (by omega), o2 _ (by omega) (by omega) (by omega) (by omega)]; exact b4 s q, hr.eq (by rw [h4 _ (by omega)]) (by rw [h4 _ (by omega)]) (fun q q1 q2 => h4 q (by omega)), by rw [h4 _ (by omega), f2 _ (by decide) (by decide)]; exact b6, fun q => (b7 q).eq (by rw [h4 _ (by omega), f2 _ (by decide) (by decide)]) (by rw [h4 _ (by omega), f2 _ (by decide) (by decide)]) (fun q q1 q2 => by rw [h4 _ (by omega), o2 _ (by omega) (by omega) (by omega) (by omega)]), by rw [h4 _ (by omega), f2 _ (by decide) (by decide)]; exact b8, by rw [h4 _ (by omega), f2 _ (by decide) (by decide)]; exact b9, by rw [h4 _ (by omega), f2 _ (by decide) (by decide)]; exact b10, by rw [h4 _ (by omega), f2 _ (by decide) (by decide)]; exact b11⟩ (fun q z => by rw [h4 _ (by omega), o2 _ (by omega) (by omega) (by omega) (by omega)]))
          · refine eg_iload_n dX4_add_72 rfl rfl ?_
            refine eg_iconst dX4_add_73 (v := nI 1) (by decide) ?_
            refine eg_icmp_ne 81 dX4_add_74 (by decide) (fun d2 => ?_) (fun d2 => ?_)
            · have ht : ¬ (X = 0 ∨ X = 1) := fun q => q.elim (fun q => d1 (by rw [q]; rfl)) (fun q => d2 (by rw [q]))
              rw [if_neg ht] at hQ
              replace hQ : ∀ M', ri_U M' a w n k cf co tg (len + 1) (ss_up op len X) (ss_up lf len Y) (ss_up rt len Z) (n + k + len) fnd flen fop flf frt fres t0 t1 t2 t3 → ri_E M M' a → Q (some (.int (nI (n + k + len)))) G M' := hQ
              refine eg_iload_n dX4_add_81 rfl rfl ?_
              refine eg_iastN (by assumption) (by omega) (by decide) dX4_add_82 ?_
              refine eg_aload_n dX4_add_83 rfl rfl ?_
              refine eg_dup dX4_add_84 rfl ?_
              refine eg_getI gf_RX4_90 rfl (by assumption) dX4_add_85 ?_
              refine eg_topi (show _ = nI len by rw [eg_set_ne (by omega), eg_set_ne (by omega), eg_set_ne (by omega)]; exact p3) ?_
              refine eg_iconst dX4_add_88 (v := nI 1) (by decide) ?_
              refine eg_iadd dX4_add_89 ?_
              refine eg_topi (nI_add len 1) ?_
              refine eg_putI gp_RX4_90 (fun q => by cases q) rfl rfl rfl (by assumption) dX4_add_90 ?_
              generalize hM1 : eg_set (eg_set (eg_set (eg_set M (a + 4) len (nI X)) (a + 5) len (nI Y)) (a + 6) len (nI Z)) a 8 (nI (len + 1)) = M1
              have g8 : M1 a 8 = nI (len + 1) := by rw [← hM1, eg_set_eq]
              have c1 : in_M M1 a w n k cf := b1.eq (fun j _ => by rw [← hM1, eg_set_j (by omega), eg_set_ne (by omega), eg_set_ne (by omega), eg_set_ne (by omega)]) (by rw [← hM1, eg_set_ne (by omega), eg_set_ne (by omega), eg_set_ne (by omega), eg_set_ne (by omega)])
              refine eg_aload_n dX4_add_93 rfl rfl ?_
              refine eg_aload_n dX4_add_94 rfl rfl ?_
              refine eg_callV0 0 0 gk_X4_all gi_X4_all (by assumption) rfl gl_RX4_116 rfl (Nat.le_of_ble_eq_true rfl) (Nat.le_of_ble_eq_true rfl) (Nat.zero_le _) (Nat.zero_le _) (by omega) dX4_add_95 ?_
              refine sp_X4_all (by omega) k0 c1 g8 ?_
              refine eg_iconst dX4_add_98 (v := nI 1) (by decide) ?_
              refine eg_isub dX4_add_99 ?_
              refine eg_topi (show nI (n + k + (len + 1)) - nI 1 = nI (n + k + len) from pk_sub (by omega)) ?_
              refine eg_putI gp_RX4_105 (fun q => by cases q) rfl rfl rfl (by assumption) dX4_add_100 ?_
              generalize hM2 : eg_set M1 a 12 (nI (n + k + len)) = M2
              have o2 : ∀ q, q ≠ a → q ≠ a + 4 → q ≠ a + 5 → q ≠ a + 6 → M2 q = M q := fun q y1 y2 y3 y4 => by rw [← hM2, eg_set_ne y1, ← hM1, eg_set_ne y1, eg_set_ne y4, eg_set_ne y3, eg_set_ne y2]
              have f2 : ∀ j, j ≠ 8 → j ≠ 12 → M2 a j = M a j := fun j y1 y2 => by rw [← hM2, eg_set_j y2, ← hM1, eg_set_j y1, eg_set_ne (by omega), eg_set_ne (by omega), eg_set_ne (by omega)]
              have s8 : M2 a 8 = nI (len + 1) := by rw [← hM2, eg_set_j (by decide)]; exact g8
              have s12 : M2 a 12 = nI (n + k + len) := by rw [← hM2, eg_set_eq]
              have hr : in_Q M2 a (len + 1) (ss_up op len X) (ss_up lf len Y) (ss_up rt len (Z)) (n + k + len) := by
                refine ⟨s8, s12, by omega, fun j hj => ?_⟩
                by_cases e : j = len
                · subst e
                  rw [ss_up_e, ss_up_e, ss_up_e, ← hM2, ← hM1]
                  refine ⟨?_, ?_, ?_⟩
                  · rw [eg_set_ne (by omega), eg_set_ne (by omega), eg_set_ne (by omega), eg_set_ne (by omega), eg_set_eq]
                  · rw [eg_set_ne (by omega), eg_set_ne (by omega), eg_set_ne (by omega), eg_set_eq]
                  · rw [eg_set_ne (by omega), eg_set_ne (by omega), eg_set_eq]
                · rw [ss_up_n e, ss_up_n e, ss_up_n e, ← hM2, ← hM1]
                  rw [eg_set_ne (show a + 4 ≠ a by omega), eg_set_ne (show a + 4 ≠ a by omega), eg_set_ne (show a + 5 ≠ a by omega), eg_set_ne (show a + 5 ≠ a by omega), eg_set_ne (show a + 6 ≠ a by omega), eg_set_ne (show a + 6 ≠ a by omega)]
                  rw [eg_set_jj e, eg_set_jj e, eg_set_jj e, eg_set_jj e, eg_set_jj e, eg_set_jj e, eg_set_jj e, eg_set_jj e, eg_set_jj e]
                  exact pa j (by omega)
              have c2 : in_M M2 a w n k cf := c1.eq (fun j _ => by rw [← hM2, eg_set_j (by omega)]) (by rw [← hM2, eg_set_ne (by omega)])
              have hpk : ∀ j, j < len + 1 → ss_up op len X j < 13 ∧ ss_up lf len Y j < n + k + j ∧ ss_up rt len (Z) j < n + k + j := fun j hj => by
                by_cases e : j = len
                · subst e
                  rw [ss_up_e, ss_up_e, ss_up_e]
                  exact ⟨hX, hY, by omega⟩
                · rw [ss_up_n e, ss_up_n e, ss_up_n e]
                  have := pok2 j (by omega)
                  exact ⟨this.1, this.2.1, this.2.2.1⟩
              refine eg_aload_n dX4_add_103 rfl rfl ?_
              refine eg_callV0 0 0 gk_X4_reckonAll gi_X4_reckonAll (by assumption) rfl gl_RX4_80 rfl (Nat.le_of_ble_eq_true rfl) (Nat.le_of_ble_eq_true rfl) (Nat.zero_le _) (Nat.zero_le _) (by omega) dX4_add_104 ?_
              refine sp_X4_reckonAll (op := ss_up op len X) (lf := ss_up lf len Y) (rt := ss_up rt len (Z)) (len := len + 1) (by omega) hs (by omega) hpk cw c2 ⟨s8, hr.2.2.2⟩ (fun M4 h3 h4 => ?_)
              refine eg_aload_n dX4_add_107 rfl rfl ?_
              refine eg_getI gf_RX4_105 rfl (by assumption) dX4_add_108 ?_
              refine eg_topi (show _ = nI (n + k + len) by rw [h4 _ (by omega)]; exact s12) ?_
              exact eg_iret rfl dX4_add_111 (hQ M4 ⟨c2.eq (fun j _ => by rw [h4 _ (by omega)]) (h4 _ (by omega)), fun u s q1 q2 => h3 u s (by omega) q2, fun o ho => by rw [h4 _ (by omega), o2 _ (by omega) (by omega) (by omega) (by omega)]; exact b3 o ho, fun s q => by rw [h4 _ (by omega), o2 _ (by omega) (by omega) (by omega) (by omega)]; exact b4 s q, hr.eq (by rw [h4 _ (by omega)]) (by rw [h4 _ (by omega)]) (fun q q1 q2 => h4 q (by omega)), by rw [h4 _ (by omega), f2 _ (by decide) (by decide)]; exact b6, fun q => (b7 q).eq (by rw [h4 _ (by omega), f2 _ (by decide) (by decide)]) (by rw [h4 _ (by omega), f2 _ (by decide) (by decide)]) (fun q q1 q2 => by rw [h4 _ (by omega), o2 _ (by omega) (by omega) (by omega) (by omega)]), by rw [h4 _ (by omega), f2 _ (by decide) (by decide)]; exact b8, by rw [h4 _ (by omega), f2 _ (by decide) (by decide)]; exact b9, by rw [h4 _ (by omega), f2 _ (by decide) (by decide)]; exact b10, by rw [h4 _ (by omega), f2 _ (by decide) (by decide)]; exact b11⟩ (fun q z => by rw [h4 _ (by omega), o2 _ (by omega) (by omega) (by omega) (by omega)]))
            · have ht : X = 0 ∨ X = 1 := Or.inr ((nI_eq (b := 1) (by omega) (by omega)).mp d2)
              rw [if_pos ht] at hQ
              replace hQ : ∀ M', ri_U M' a w n k cf co tg (len + 1) (ss_up op len X) (ss_up lf len Y) (ss_up rt len 0) (n + k + len) fnd flen fop flf frt fres t0 t1 t2 t3 → ri_E M M' a → Q (some (.int (nI (n + k + len)))) G M' := hQ
              refine eg_iconst dX4_add_77 (v := nI 0) (by decide) ?_
              refine eg_goto 82 dX4_add_78 (by decide) ?_
              refine eg_iastN (by assumption) (by omega) (by decide) dX4_add_82 ?_
              refine eg_aload_n dX4_add_83 rfl rfl ?_
              refine eg_dup dX4_add_84 rfl ?_
              refine eg_getI gf_RX4_90 rfl (by assumption) dX4_add_85 ?_
              refine eg_topi (show _ = nI len by rw [eg_set_ne (by omega), eg_set_ne (by omega), eg_set_ne (by omega)]; exact p3) ?_
              refine eg_iconst dX4_add_88 (v := nI 1) (by decide) ?_
              refine eg_iadd dX4_add_89 ?_
              refine eg_topi (nI_add len 1) ?_
              refine eg_putI gp_RX4_90 (fun q => by cases q) rfl rfl rfl (by assumption) dX4_add_90 ?_
              generalize hM1 : eg_set (eg_set (eg_set (eg_set M (a + 4) len (nI X)) (a + 5) len (nI Y)) (a + 6) len (nI 0)) a 8 (nI (len + 1)) = M1
              have g8 : M1 a 8 = nI (len + 1) := by rw [← hM1, eg_set_eq]
              have c1 : in_M M1 a w n k cf := b1.eq (fun j _ => by rw [← hM1, eg_set_j (by omega), eg_set_ne (by omega), eg_set_ne (by omega), eg_set_ne (by omega)]) (by rw [← hM1, eg_set_ne (by omega), eg_set_ne (by omega), eg_set_ne (by omega), eg_set_ne (by omega)])
              refine eg_aload_n dX4_add_93 rfl rfl ?_
              refine eg_aload_n dX4_add_94 rfl rfl ?_
              refine eg_callV0 0 0 gk_X4_all gi_X4_all (by assumption) rfl gl_RX4_116 rfl (Nat.le_of_ble_eq_true rfl) (Nat.le_of_ble_eq_true rfl) (Nat.zero_le _) (Nat.zero_le _) (by omega) dX4_add_95 ?_
              refine sp_X4_all (by omega) k0 c1 g8 ?_
              refine eg_iconst dX4_add_98 (v := nI 1) (by decide) ?_
              refine eg_isub dX4_add_99 ?_
              refine eg_topi (show nI (n + k + (len + 1)) - nI 1 = nI (n + k + len) from pk_sub (by omega)) ?_
              refine eg_putI gp_RX4_105 (fun q => by cases q) rfl rfl rfl (by assumption) dX4_add_100 ?_
              generalize hM2 : eg_set M1 a 12 (nI (n + k + len)) = M2
              have o2 : ∀ q, q ≠ a → q ≠ a + 4 → q ≠ a + 5 → q ≠ a + 6 → M2 q = M q := fun q y1 y2 y3 y4 => by rw [← hM2, eg_set_ne y1, ← hM1, eg_set_ne y1, eg_set_ne y4, eg_set_ne y3, eg_set_ne y2]
              have f2 : ∀ j, j ≠ 8 → j ≠ 12 → M2 a j = M a j := fun j y1 y2 => by rw [← hM2, eg_set_j y2, ← hM1, eg_set_j y1, eg_set_ne (by omega), eg_set_ne (by omega), eg_set_ne (by omega)]
              have s8 : M2 a 8 = nI (len + 1) := by rw [← hM2, eg_set_j (by decide)]; exact g8
              have s12 : M2 a 12 = nI (n + k + len) := by rw [← hM2, eg_set_eq]
              have hr : in_Q M2 a (len + 1) (ss_up op len X) (ss_up lf len Y) (ss_up rt len (0)) (n + k + len) := by
                refine ⟨s8, s12, by omega, fun j hj => ?_⟩
                by_cases e : j = len
                · subst e
                  rw [ss_up_e, ss_up_e, ss_up_e, ← hM2, ← hM1]
                  refine ⟨?_, ?_, ?_⟩
                  · rw [eg_set_ne (by omega), eg_set_ne (by omega), eg_set_ne (by omega), eg_set_ne (by omega), eg_set_eq]
                  · rw [eg_set_ne (by omega), eg_set_ne (by omega), eg_set_ne (by omega), eg_set_eq]
                  · rw [eg_set_ne (by omega), eg_set_ne (by omega), eg_set_eq]
                · rw [ss_up_n e, ss_up_n e, ss_up_n e, ← hM2, ← hM1]
                  rw [eg_set_ne (show a + 4 ≠ a by omega), eg_set_ne (show a + 4 ≠ a by omega), eg_set_ne (show a + 5 ≠ a by omega), eg_set_ne (show a + 5 ≠ a by omega), eg_set_ne (show a + 6 ≠ a by omega), eg_set_ne (show a + 6 ≠ a by omega)]
                  rw [eg_set_jj e, eg_set_jj e, eg_set_jj e, eg_set_jj e, eg_set_jj e, eg_set_jj e, eg_set_jj e, eg_set_jj e, eg_set_jj e]
                  exact pa j (by omega)
              have c2 : in_M M2 a w n k cf := c1.eq (fun j _ => by rw [← hM2, eg_set_j (by omega)]) (by rw [← hM2, eg_set_ne (by omega)])
              have hpk : ∀ j, j < len + 1 → ss_up op len X j < 13 ∧ ss_up lf len Y j < n + k + j ∧ ss_up rt len (0) j < n + k + j := fun j hj => by
                by_cases e : j = len
                · subst e
                  rw [ss_up_e, ss_up_e, ss_up_e]
                  exact ⟨hX, hY, by omega⟩
                · rw [ss_up_n e, ss_up_n e, ss_up_n e]
                  have := pok2 j (by omega)
                  exact ⟨this.1, this.2.1, this.2.2.1⟩
              refine eg_aload_n dX4_add_103 rfl rfl ?_
              refine eg_callV0 0 0 gk_X4_reckonAll gi_X4_reckonAll (by assumption) rfl gl_RX4_80 rfl (Nat.le_of_ble_eq_true rfl) (Nat.le_of_ble_eq_true rfl) (Nat.zero_le _) (Nat.zero_le _) (by omega) dX4_add_104 ?_
              refine sp_X4_reckonAll (op := ss_up op len X) (lf := ss_up lf len Y) (rt := ss_up rt len (0)) (len := len + 1) (by omega) hs (by omega) hpk cw c2 ⟨s8, hr.2.2.2⟩ (fun M4 h3 h4 => ?_)
              refine eg_aload_n dX4_add_107 rfl rfl ?_
              refine eg_getI gf_RX4_105 rfl (by assumption) dX4_add_108 ?_
              refine eg_topi (show _ = nI (n + k + len) by rw [h4 _ (by omega)]; exact s12) ?_
              exact eg_iret rfl dX4_add_111 (hQ M4 ⟨c2.eq (fun j _ => by rw [h4 _ (by omega)]) (h4 _ (by omega)), fun u s q1 q2 => h3 u s (by omega) q2, fun o ho => by rw [h4 _ (by omega), o2 _ (by omega) (by omega) (by omega) (by omega)]; exact b3 o ho, fun s q => by rw [h4 _ (by omega), o2 _ (by omega) (by omega) (by omega) (by omega)]; exact b4 s q, hr.eq (by rw [h4 _ (by omega)]) (by rw [h4 _ (by omega)]) (fun q q1 q2 => h4 q (by omega)), by rw [h4 _ (by omega), f2 _ (by decide) (by decide)]; exact b6, fun q => (b7 q).eq (by rw [h4 _ (by omega), f2 _ (by decide) (by decide)]) (by rw [h4 _ (by omega), f2 _ (by decide) (by decide)]) (fun q q1 q2 => by rw [h4 _ (by omega), o2 _ (by omega) (by omega) (by omega) (by omega)]), by rw [h4 _ (by omega), f2 _ (by decide) (by decide)]; exact b8, by rw [h4 _ (by omega), f2 _ (by decide) (by decide)]; exact b9, by rw [h4 _ (by omega), f2 _ (by decide) (by decide)]; exact b10, by rw [h4 _ (by omega), f2 _ (by decide) (by decide)]; exact b11⟩ (fun q z => by rw [h4 _ (by omega), o2 _ (by omega) (by omega) (by omega) (by omega)]))
        · refine eg_bipush dX4_add_37 (v := -4) (by decide) ?_
          exact eg_iret rfl dX4_add_39 (by
              have e : ap_add ((w, n, k), cf, co, tg, (len, op, lf, rt, res), (fnd, flen, fop, flf, frt, fres), t0, t1, t2, t3) x y z = (-4, ((w, n, k), cf, co, tg, (len, op, lf, rt, res), (fnd, flen, fop, flf, frt, fres), t0, t1, t2, t3)) := by
                unfold ap_add
                rw [if_neg hge, if_pos (Nat.le_of_eq ((nI_eq (b := 12) (by omega) (by omega)).mp c1).symm)]
              rw [e] at hQ
              exact hQ M hI ri_E.rf)
      · refine eg_if_ne 28 dX4_add_23 (by decide) (fun z => absurd (show nI 0 = 0 from rfl) z) (fun _ => ?_)
        have e : ap_add ((w, n, k), cf, co, tg, (len, op, lf, rt, res), (fnd, flen, fop, flf, frt, fres), t0, t1, t2, t3) x y z = (-1, ((w, n, k), cf, co, tg, (len, op, lf, rt, res), (fnd, flen, fop, flf, frt, fres), t0, t1, t2, t3)) := if_pos (Or.inr (Or.inr vv))
        rw [e] at hQ
        refine eg_iconst dX4_add_26 (v := -1) (by decide) ?_
        exact eg_iret rfl dX4_add_27 (hQ M hI ri_E.rf)
    · refine eg_if_eq 26 dX4_add_15 (by decide) (fun _ => ?_) (fun z => absurd (show nI 0 = 0 from rfl) z)
      have e : ap_add ((w, n, k), cf, co, tg, (len, op, lf, rt, res), (fnd, flen, fop, flf, frt, fres), t0, t1, t2, t3) x y z = (-1, ((w, n, k), cf, co, tg, (len, op, lf, rt, res), (fnd, flen, fop, flf, frt, fres), t0, t1, t2, t3)) := if_pos (Or.inr (Or.inl yy))
      rw [e] at hQ
      refine eg_iconst dX4_add_26 (v := -1) (by decide) ?_
      exact eg_iret rfl dX4_add_27 (hQ M hI ri_E.rf)
  · refine eg_if_eq 26 dX4_add_7 (by decide) (fun _ => ?_) (fun z => absurd (show nI 0 = 0 from rfl) z)
    have e : ap_add ((w, n, k), cf, co, tg, (len, op, lf, rt, res), (fnd, flen, fop, flf, frt, fres), t0, t1, t2, t3) x y z = (-1, ((w, n, k), cf, co, tg, (len, op, lf, rt, res), (fnd, flen, fop, flf, frt, fres), t0, t1, t2, t3)) := if_pos (Or.inl (zz.elim Or.inl (fun q => Or.inr ((nI_ls (by omega)).mp q))))
    rw [e] at hQ
    refine eg_iconst dX4_add_26 (v := -1) (by decide) ?_
    exact eg_iret rfl dX4_add_27 (hQ M hI ri_E.rf)
set_option maxHeartbeats 2000000 in
theorem ap_R_instr {l : Launch} {E : eg_E} {d kb nb : Nat} {Q : Option Value → eg_G → eg_I → Prop} {G : eg_G} {M : eg_I} {a : Nat} {S : st_T} (hs : sh_M G a) (hok : st_ok S) (hI : ri_I M a S) {x y : Int32} (hd : 4 ≤ d) (hQ : Q (some (.int (ap_instr S x y))) G M) : eg_J l E mX4_instruction d kb nb Q 0 [some (.ref a), some (.int x), some (.int y)] [] G M := by
  obtain ⟨k0, ⟨x5, y5⟩, ⟨x6, y6⟩, ⟨x7, y7⟩, ⟨x9, y9⟩, ⟨x10, y10⟩, ⟨x11, y11⟩, ⟨x13, y13⟩, ⟨x14, y14⟩, ⟨x18, y18⟩, ⟨x19, y19⟩, ⟨x20, y20⟩, ⟨x25, y25⟩, ⟨x26, y26⟩, ⟨x27, y27⟩, ⟨x28, y28⟩, ⟨x30, y30⟩, ⟨x31, y31⟩, ⟨x32, y32⟩⟩ := id hs
  obtain ⟨⟨w, n, k⟩, cf, co, tg, ⟨len, op, lf, rt, res⟩, ⟨fnd, flen, fop, flf, frt, fres⟩, t0, t1, t2, t3⟩ := S
  replace hI : ri_U M a w n k cf co tg len op lf rt res fnd flen fop flf frt fres t0 t1 t2 t3 := hI
  replace hok : ok_U w n k cf co len op lf rt res fnd flen fop flf frt fres := hok
  obtain ⟨b1, b2, b3, b4, b5, b6, b7, b8, b9, b10, b11⟩ := id hI
  obtain ⟨m0, m1, m2, m3, m4, mc, hw1, hw4, hn1, hn2, hk4⟩ := id b1
  obtain ⟨p3, p4, pl, pa⟩ := id b5
  obtain ⟨-, -, -, -, -, cw, co9, pok, fok⟩ := id hok
  obtain ⟨-, pok2, pok3⟩ := id pok
  have hA := wd_asg hw4 hn2
  refine eg_iload_n dX4_instruction_0 rfl rfl ?_
  refine eg_iconst dX4_instruction_1 (v := nI 0) (by decide) ?_
  refine eg_aload_n dX4_instruction_2 rfl rfl ?_
  refine eg_getI gf_RX4_90 rfl (by assumption) dX4_instruction_3 ?_
  refine eg_topi p3 ?_
  refine eg_iconst dX4_instruction_6 (v := nI 1) (by decide) ?_
  refine eg_isub dX4_instruction_7 ?_
  refine eg_callS3 0 0 gk_X4_within gi_X4_within gl_RX4_101 rfl (Nat.le_of_ble_eq_true rfl) (Nat.le_of_ble_eq_true rfl) (Nat.zero_le _) (Nat.zero_le _) (by omega) dX4_instruction_8 ?_
  refine sp_X4_within (fun z1 z2 => ?_) (fun zz => ?_)
  · refine eg_if_ne 16 dX4_instruction_11 (by decide) (fun _ => ?_) (fun z => absurd z (by decide))
    replace z2 : ¬ nI len ≤ x := fun q => z2 ((nI_lm (by omega)).mpr q)
    obtain ⟨ex, hX⟩ := nI_cl z1 z2 (by omega)
    have hge : ¬ (x < 0 ∨ nI len ≤ x) := fun q => q.elim z1 z2
    refine eg_iload_n dX4_instruction_16 rfl rfl ?_
    refine eg_if_ne 29 dX4_instruction_17 (by decide) (fun c0 => ?_) (fun c0 => ?_)
    · refine eg_iload_n dX4_instruction_29 rfl rfl ?_
      refine eg_iconst dX4_instruction_30 (v := nI 1) (by decide) ?_
      refine eg_icmp_ne 43 dX4_instruction_31 (by decide) (fun c1 => ?_) (fun c1 => ?_)
      · refine eg_iload_n dX4_instruction_43 rfl rfl ?_
        refine eg_iconst dX4_instruction_44 (v := nI 2) (by decide) ?_
        refine eg_icmp_ne 57 dX4_instruction_45 (by decide) (fun c2 => ?_) (fun c2 => ?_)
        · rw [show ap_instr ((w, n, k), cf, co, tg, (len, op, lf, rt, res), (fnd, flen, fop, flf, frt, fres), t0, t1, t2, t3) x y = -2 by unfold ap_instr; rw [if_neg hge]; rw [if_neg c0, if_neg (show ¬ y = 1 from c1)]; exact if_neg c2] at hQ
          refine eg_bipush dX4_instruction_57 (v := -2) (by decide) ?_
          exact eg_iret rfl dX4_instruction_59 hQ
        · rw [show ap_instr ((w, n, k), cf, co, tg, (len, op, lf, rt, res), (fnd, flen, fop, flf, frt, fres), t0, t1, t2, t3) x y = nI (rt x.toNatClampNeg) by unfold ap_instr; rw [if_neg hge]; rw [if_neg c0, if_neg (show ¬ y = 1 from c1)]; exact if_pos c2] at hQ
          generalize x.toNatClampNeg = X at ex hX hQ
          subst ex
          refine eg_aload_n dX4_instruction_48 rfl rfl ?_
          refine eg_getR gf_RX4_38 rfl (by assumption) (by assumption) dX4_instruction_49 ?_
          refine eg_iload_n dX4_instruction_52 rfl rfl ?_
          refine eg_ialdN (by assumption) (by omega) (by decide) dX4_instruction_53 ?_
          refine eg_topi (pa X hX).2.2 ?_
          refine eg_goto 59 dX4_instruction_54 (by decide) ?_
          exact eg_iret rfl dX4_instruction_59 hQ
      · rw [show ap_instr ((w, n, k), cf, co, tg, (len, op, lf, rt, res), (fnd, flen, fop, flf, frt, fres), t0, t1, t2, t3) x y = nI (lf x.toNatClampNeg) by unfold ap_instr; rw [if_neg hge]; rw [if_neg c0]; exact if_pos c1] at hQ
        generalize x.toNatClampNeg = X at ex hX hQ
        subst ex
        refine eg_aload_n dX4_instruction_34 rfl rfl ?_
        refine eg_getR gf_RX4_35 rfl (by assumption) (by assumption) dX4_instruction_35 ?_
        refine eg_iload_n dX4_instruction_38 rfl rfl ?_
        refine eg_ialdN (by assumption) (by omega) (by decide) dX4_instruction_39 ?_
        refine eg_topi (pa X hX).2.1 ?_
        refine eg_goto 59 dX4_instruction_40 (by decide) ?_
        exact eg_iret rfl dX4_instruction_59 hQ
    · rw [show ap_instr ((w, n, k), cf, co, tg, (len, op, lf, rt, res), (fnd, flen, fop, flf, frt, fres), t0, t1, t2, t3) x y = nI (op x.toNatClampNeg) by unfold ap_instr; rw [if_neg hge]; exact if_pos c0] at hQ
      generalize x.toNatClampNeg = X at ex hX hQ
      subst ex
      refine eg_aload_n dX4_instruction_20 rfl rfl ?_
      refine eg_getR gf_RX4_32 rfl (by assumption) (by assumption) dX4_instruction_21 ?_
      refine eg_iload_n dX4_instruction_24 rfl rfl ?_
      refine eg_ialdN (by assumption) (by omega) (by decide) dX4_instruction_25 ?_
      refine eg_topi (pa X hX).1 ?_
      refine eg_goto 59 dX4_instruction_26 (by decide) ?_
      exact eg_iret rfl dX4_instruction_59 hQ
  · refine eg_if_ne 16 dX4_instruction_11 (by decide) (fun z => absurd (show nI 0 = 0 from rfl) z) (fun _ => ?_)
    rw [show ap_instr ((w, n, k), cf, co, tg, (len, op, lf, rt, res), (fnd, flen, fop, flf, frt, fres), t0, t1, t2, t3) x y = -1 by exact if_pos (zz.elim Or.inl (fun q => Or.inr ((nI_lm (by omega)).mp q)))] at hQ
    refine eg_iconst dX4_instruction_14 (v := -1) (by decide) ?_
    exact eg_iret rfl dX4_instruction_15 hQ
set_option maxHeartbeats 2000000 in
theorem ap_R_told {l : Launch} {E : eg_E} {d kb nb : Nat} {Q : Option Value → eg_G → eg_I → Prop} {G : eg_G} {M : eg_I} {a : Nat} {S : st_T} (hs : sh_M G a) (hok : st_ok S) (hI : ri_I M a S) {y : Int32} (hd : 4 ≤ d) (hQ : Q (some (.int (ap_told S y))) G M) : eg_J l E mX4_told d kb nb Q 0 [some (.ref a), some (.int y)] [] G M := by
  obtain ⟨k0, ⟨x5, y5⟩, ⟨x6, y6⟩, ⟨x7, y7⟩, ⟨x9, y9⟩, ⟨x10, y10⟩, ⟨x11, y11⟩, ⟨x13, y13⟩, ⟨x14, y14⟩, ⟨x18, y18⟩, ⟨x19, y19⟩, ⟨x20, y20⟩, ⟨x25, y25⟩, ⟨x26, y26⟩, ⟨x27, y27⟩, ⟨x28, y28⟩, ⟨x30, y30⟩, ⟨x31, y31⟩, ⟨x32, y32⟩⟩ := id hs
  obtain ⟨⟨w, n, k⟩, cf, co, tg, ⟨len, op, lf, rt, res⟩, ⟨fnd, flen, fop, flf, frt, fres⟩, t0, t1, t2, t3⟩ := S
  replace hI : ri_U M a w n k cf co tg len op lf rt res fnd flen fop flf frt fres t0 t1 t2 t3 := hI
  replace hok : ok_U w n k cf co len op lf rt res fnd flen fop flf frt fres := hok
  obtain ⟨b1, b2, b3, b4, b5, b6, b7, b8, b9, b10, b11⟩ := id hI
  obtain ⟨m0, m1, m2, m3, m4, mc, hw1, hw4, hn1, hn2, hk4⟩ := id b1
  obtain ⟨p3, p4, pl, pa⟩ := id b5
  obtain ⟨-, -, -, -, -, cw, co9, pok, fok⟩ := id hok
  obtain ⟨-, pok2, pok3⟩ := id pok
  have hA := wd_asg hw4 hn2
  refine eg_iload_n dX4_told_0 rfl rfl ?_
  refine eg_if_ne 11 dX4_told_1 (by decide) (fun c0 => ?_) (fun c0 => ?_)
  · refine eg_iload_n dX4_told_11 rfl rfl ?_
    refine eg_iconst dX4_told_12 (v := nI 1) (by decide) ?_
    refine eg_icmp_ne 23 dX4_told_13 (by decide) (fun c1 => ?_) (fun c1 => ?_)
    · refine eg_iload_n dX4_told_23 rfl rfl ?_
      refine eg_iconst dX4_told_24 (v := nI 2) (by decide) ?_
      refine eg_icmp_ne 35 dX4_told_25 (by decide) (fun c2 => ?_) (fun c2 => ?_)
      · refine eg_iload_n dX4_told_35 rfl rfl ?_
        refine eg_iconst dX4_told_36 (v := nI 3) (by decide) ?_
        refine eg_icmp_ne 47 dX4_told_37 (by decide) (fun c3 => ?_) (fun c3 => ?_)
        · rw [show ap_told ((w, n, k), cf, co, tg, (len, op, lf, rt, res), (fnd, flen, fop, flf, frt, fres), t0, t1, t2, t3) y = -2 by unfold ap_told; rw [if_neg (show ¬ y = 0 from c0), if_neg (show ¬ y = 1 from c1), if_neg (show ¬ y = 2 from c2)]; exact if_neg c3] at hQ
          refine eg_bipush dX4_told_47 (v := -2) (by decide) ?_
          exact eg_iret rfl dX4_told_49 hQ
        · rw [show ap_told ((w, n, k), cf, co, tg, (len, op, lf, rt, res), (fnd, flen, fop, flf, frt, fres), t0, t1, t2, t3) y = t3 by unfold ap_told; rw [if_neg (show ¬ y = 0 from c0), if_neg (show ¬ y = 1 from c1), if_neg (show ¬ y = 2 from c2)]; exact if_pos c3] at hQ
          refine eg_aload_n dX4_told_40 rfl rfl ?_
          refine eg_getI gf_RX4_56 rfl (by assumption) dX4_told_41 ?_
          refine eg_topi b11 ?_
          refine eg_goto 49 dX4_told_44 (by decide) ?_
          exact eg_iret rfl dX4_told_49 hQ
      · rw [show ap_told ((w, n, k), cf, co, tg, (len, op, lf, rt, res), (fnd, flen, fop, flf, frt, fres), t0, t1, t2, t3) y = t2 by unfold ap_told; rw [if_neg (show ¬ y = 0 from c0), if_neg (show ¬ y = 1 from c1)]; exact if_pos c2] at hQ
        refine eg_aload_n dX4_told_28 rfl rfl ?_
        refine eg_getI gf_RX4_140 rfl (by assumption) dX4_told_29 ?_
        refine eg_topi b10 ?_
        refine eg_goto 49 dX4_told_32 (by decide) ?_
        exact eg_iret rfl dX4_told_49 hQ
    · rw [show ap_told ((w, n, k), cf, co, tg, (len, op, lf, rt, res), (fnd, flen, fop, flf, frt, fres), t0, t1, t2, t3) y = t1 by unfold ap_told; rw [if_neg (show ¬ y = 0 from c0)]; exact if_pos c1] at hQ
      refine eg_aload_n dX4_told_16 rfl rfl ?_
      refine eg_getI gf_RX4_171 rfl (by assumption) dX4_told_17 ?_
      refine eg_topi b9 ?_
      refine eg_goto 49 dX4_told_20 (by decide) ?_
      exact eg_iret rfl dX4_told_49 hQ
  · rw [show ap_told ((w, n, k), cf, co, tg, (len, op, lf, rt, res), (fnd, flen, fop, flf, frt, fres), t0, t1, t2, t3) y = t0 by unfold ap_told; exact if_pos c0] at hQ
    refine eg_aload_n dX4_told_4 rfl rfl ?_
    refine eg_getI gf_RX4_152 rfl (by assumption) dX4_told_5 ?_
    refine eg_topi b8 ?_
    refine eg_goto 49 dX4_told_8 (by decide) ?_
    exact eg_iret rfl dX4_told_49 hQ
set_option maxHeartbeats 2000000 in
theorem lp_X4_count {l : Launch} {E : eg_E} {d kb nb : Nat} {Q : Option Value → eg_G → eg_I → Prop} {G : eg_G} {M : eg_I} {a len : Nat} {y : Int32} {co op : Nat → Nat} (hs : sh_M G a) (hl : len ≤ 12) (h8 : M a 8 = nI len) (ho : ∀ j, j < len → M (a + 4) j = nI (op j)) (hco : ∀ o, o < 13 → M (a + 2) o = nI (co o)) (hop : ∀ j, j < len → op j < 13) (kk : eg_J l E mX4_count d kb nb Q 32 [some (.ref a), some (.int y), some (.int (nI (sum_c co op len))), some (.int (nI len))] [] G M) : ∀ (t s : Nat), s + t = len → eg_J l E mX4_count d kb nb Q 4 [some (.ref a), some (.int y), some (.int (nI (sum_c co op s))), some (.int (nI s))] [] G M := by
  intro t
  induction t with
  | zero =>
    intro s hst
    obtain ⟨k0, ⟨x5, y5⟩, ⟨x6, y6⟩, ⟨x7, y7⟩, ⟨x9, y9⟩, ⟨x10, y10⟩, ⟨x11, y11⟩, ⟨x13, y13⟩, ⟨x14, y14⟩, ⟨x18, y18⟩, ⟨x19, y19⟩, ⟨x20, y20⟩, ⟨x25, y25⟩, ⟨x26, y26⟩, ⟨x27, y27⟩, ⟨x28, y28⟩, ⟨x30, y30⟩, ⟨x31, y31⟩, ⟨x32, y32⟩⟩ := id hs
    refine eg_iload_n dX4_count_4 rfl rfl ?_
    refine eg_aload_n dX4_count_5 rfl rfl ?_
    refine eg_getI gf_RX4_90 rfl (by assumption) dX4_count_6 ?_
    refine eg_topi h8 ?_
    refine eg_icmp_ge 32 dX4_count_9 (by decide) (fun c9 => ?_) (fun c9 => absurd (nI_le (by omega) (by omega)) c9)
    have e : s = len := by omega
    subst e
    exact kk
  | succ t ih =>
    intro s hst
    obtain ⟨k0, ⟨x5, y5⟩, ⟨x6, y6⟩, ⟨x7, y7⟩, ⟨x9, y9⟩, ⟨x10, y10⟩, ⟨x11, y11⟩, ⟨x13, y13⟩, ⟨x14, y14⟩, ⟨x18, y18⟩, ⟨x19, y19⟩, ⟨x20, y20⟩, ⟨x25, y25⟩, ⟨x26, y26⟩, ⟨x27, y27⟩, ⟨x28, y28⟩, ⟨x30, y30⟩, ⟨x31, y31⟩, ⟨x32, y32⟩⟩ := id hs
    refine eg_iload_n dX4_count_4 rfl rfl ?_
    refine eg_aload_n dX4_count_5 rfl rfl ?_
    refine eg_getI gf_RX4_90 rfl (by assumption) dX4_count_6 ?_
    refine eg_topi h8 ?_
    refine eg_icmp_ge 32 dX4_count_9 (by decide) (fun c9 => absurd c9 (nI_ge (by omega) (by omega))) (fun c9 => ?_)
    refine eg_iload_n dX4_count_12 rfl rfl ?_
    refine eg_aload_n dX4_count_13 rfl rfl ?_
    refine eg_getR gf_RX4_26 rfl (by assumption) (by assumption) dX4_count_14 ?_
    refine eg_aload_n dX4_count_17 rfl rfl ?_
    refine eg_getR gf_RX4_32 rfl (by assumption) (by assumption) dX4_count_18 ?_
    refine eg_iload_n dX4_count_21 rfl rfl ?_
    refine eg_ialdN (by assumption) (by omega) (by decide) dX4_count_22 ?_
    refine eg_topi (ho s (by omega)) ?_
    refine eg_ialdN (by assumption) (hop s (by omega)) (by decide) dX4_count_23 ?_
    refine eg_topi (hco _ (hop s (by omega))) ?_
    refine eg_iadd dX4_count_24 ?_
    refine eg_topi (nI_add (sum_c co op s) (co (op s))) ?_
    refine eg_istore_n dX4_count_25 rfl (by decide) rfl ?_
    refine eg_iinc dX4_count_26 (by decide) rfl (eg_inc s) rfl ?_
    refine eg_goto 4 dX4_count_29 (by decide) ?_
    exact ih (s + 1) (by omega)
set_option maxHeartbeats 2000000 in
theorem ap_R_count {l : Launch} {E : eg_E} {d kb nb : Nat} {Q : Option Value → eg_G → eg_I → Prop} {G : eg_G} {M : eg_I} {a : Nat} {S : st_T} (hs : sh_M G a) (hok : st_ok S) (hI : ri_I M a S) {y : Int32} (hd : 4 ≤ d) (hQ : Q (some (.int (ap_count S y))) G M) : eg_J l E mX4_count d kb nb Q 0 [some (.ref a), some (.int y), none, none] [] G M := by
  obtain ⟨k0, ⟨x5, y5⟩, ⟨x6, y6⟩, ⟨x7, y7⟩, ⟨x9, y9⟩, ⟨x10, y10⟩, ⟨x11, y11⟩, ⟨x13, y13⟩, ⟨x14, y14⟩, ⟨x18, y18⟩, ⟨x19, y19⟩, ⟨x20, y20⟩, ⟨x25, y25⟩, ⟨x26, y26⟩, ⟨x27, y27⟩, ⟨x28, y28⟩, ⟨x30, y30⟩, ⟨x31, y31⟩, ⟨x32, y32⟩⟩ := id hs
  obtain ⟨⟨w, n, k⟩, cf, co, tg, ⟨len, op, lf, rt, res⟩, ⟨fnd, flen, fop, flf, frt, fres⟩, t0, t1, t2, t3⟩ := S
  replace hI : ri_U M a w n k cf co tg len op lf rt res fnd flen fop flf frt fres t0 t1 t2 t3 := hI
  replace hok : ok_U w n k cf co len op lf rt res fnd flen fop flf frt fres := hok
  obtain ⟨b1, b2, b3, b4, b5, b6, b7, b8, b9, b10, b11⟩ := id hI
  obtain ⟨m0, m1, m2, m3, m4, mc, hw1, hw4, hn1, hn2, hk4⟩ := id b1
  obtain ⟨p3, p4, pl, pa⟩ := id b5
  obtain ⟨-, -, -, -, -, cw, co9, pok, fok⟩ := id hok
  obtain ⟨-, pok2, pok3⟩ := id pok
  have hA := wd_asg hw4 hn2
  refine eg_iconst dX4_count_0 (v := nI 0) (by decide) ?_
  refine eg_istore_n dX4_count_1 rfl (by decide) rfl ?_
  refine eg_iconst dX4_count_2 (v := nI 0) (by decide) ?_
  refine eg_istore_n dX4_count_3 rfl (by decide) rfl ?_
  refine lp_X4_count (co := co) (op := op) hs pl p3 (fun j hj => (pa j hj).1) b3 (fun j hj => (pok2 j hj).1) ?_ len 0 (by omega)
  refine eg_iload_n dX4_count_32 rfl rfl ?_
  refine eg_if_ne 43 dX4_count_33 (by decide) (fun c0 => ?_) (fun c0 => ?_)
  · refine eg_iload_n dX4_count_43 rfl rfl ?_
    refine eg_iconst dX4_count_44 (v := nI 1) (by decide) ?_
    refine eg_icmp_ne 55 dX4_count_45 (by decide) (fun c1 => ?_) (fun c1 => ?_)
    · refine eg_iload_n dX4_count_55 rfl rfl ?_
      refine eg_iconst dX4_count_56 (v := nI 2) (by decide) ?_
      refine eg_icmp_ne 67 dX4_count_57 (by decide) (fun c2 => ?_) (fun c2 => ?_)
      · refine eg_iload_n dX4_count_67 rfl rfl ?_
        refine eg_iconst dX4_count_68 (v := nI 3) (by decide) ?_
        refine eg_icmp_ne 79 dX4_count_69 (by decide) (fun c3 => ?_) (fun c3 => ?_)
        · refine eg_iload_n dX4_count_79 rfl rfl ?_
          refine eg_iconst dX4_count_80 (v := nI 4) (by decide) ?_
          refine eg_icmp_ne 91 dX4_count_81 (by decide) (fun c4 => ?_) (fun c4 => ?_)
          · refine eg_iload_n dX4_count_91 rfl rfl ?_
            refine eg_iconst dX4_count_92 (v := nI 5) (by decide) ?_
            refine eg_icmp_ne 100 dX4_count_93 (by decide) (fun c5 => ?_) (fun c5 => ?_)
            · rw [show ap_count ((w, n, k), cf, co, tg, (len, op, lf, rt, res), (fnd, flen, fop, flf, frt, fres), t0, t1, t2, t3) y = -2 by unfold ap_count; rw [if_neg (show ¬ y = 0 from c0), if_neg (show ¬ y = 1 from c1), if_neg (show ¬ y = 2 from c2), if_neg (show ¬ y = 3 from c3), if_neg (show ¬ y = 4 from c4)]; exact if_neg c5] at hQ
              refine eg_bipush dX4_count_100 (v := -2) (by decide) ?_
              exact eg_iret rfl dX4_count_102 hQ
            · rw [show ap_count ((w, n, k), cf, co, tg, (len, op, lf, rt, res), (fnd, flen, fop, flf, frt, fres), t0, t1, t2, t3) y = nI (sum_c co op len) by unfold ap_count; rw [if_neg (show ¬ y = 0 from c0), if_neg (show ¬ y = 1 from c1), if_neg (show ¬ y = 2 from c2), if_neg (show ¬ y = 3 from c3), if_neg (show ¬ y = 4 from c4)]; exact if_pos c5] at hQ
              refine eg_iload_n dX4_count_96 rfl rfl ?_
              refine eg_goto 102 dX4_count_97 (by decide) ?_
              exact eg_iret rfl dX4_count_102 hQ
          · rw [show ap_count ((w, n, k), cf, co, tg, (len, op, lf, rt, res), (fnd, flen, fop, flf, frt, fres), t0, t1, t2, t3) y = nI res by unfold ap_count; rw [if_neg (show ¬ y = 0 from c0), if_neg (show ¬ y = 1 from c1), if_neg (show ¬ y = 2 from c2), if_neg (show ¬ y = 3 from c3)]; exact if_pos c4] at hQ
            refine eg_aload_n dX4_count_84 rfl rfl ?_
            refine eg_getI gf_RX4_105 rfl (by assumption) dX4_count_85 ?_
            refine eg_topi p4 ?_
            refine eg_goto 102 dX4_count_88 (by decide) ?_
            exact eg_iret rfl dX4_count_102 hQ
        · rw [show ap_count ((w, n, k), cf, co, tg, (len, op, lf, rt, res), (fnd, flen, fop, flf, frt, fres), t0, t1, t2, t3) y = nI len by unfold ap_count; rw [if_neg (show ¬ y = 0 from c0), if_neg (show ¬ y = 1 from c1), if_neg (show ¬ y = 2 from c2)]; exact if_pos c3] at hQ
          refine eg_aload_n dX4_count_72 rfl rfl ?_
          refine eg_getI gf_RX4_90 rfl (by assumption) dX4_count_73 ?_
          refine eg_topi p3 ?_
          refine eg_goto 102 dX4_count_76 (by decide) ?_
          exact eg_iret rfl dX4_count_102 hQ
      · rw [show ap_count ((w, n, k), cf, co, tg, (len, op, lf, rt, res), (fnd, flen, fop, flf, frt, fres), t0, t1, t2, t3) y = nI k by unfold ap_count; rw [if_neg (show ¬ y = 0 from c0), if_neg (show ¬ y = 1 from c1)]; exact if_pos c2] at hQ
        refine eg_aload_n dX4_count_60 rfl rfl ?_
        refine eg_getI gf_RX4_83 rfl (by assumption) dX4_count_61 ?_
        refine eg_topi m4 ?_
        refine eg_goto 102 dX4_count_64 (by decide) ?_
        exact eg_iret rfl dX4_count_102 hQ
    · rw [show ap_count ((w, n, k), cf, co, tg, (len, op, lf, rt, res), (fnd, flen, fop, flf, frt, fres), t0, t1, t2, t3) y = nI n by unfold ap_count; rw [if_neg (show ¬ y = 0 from c0)]; exact if_pos c1] at hQ
      refine eg_aload_n dX4_count_48 rfl rfl ?_
      refine eg_getI gf_RX4_13 rfl (by assumption) dX4_count_49 ?_
      refine eg_topi m1 ?_
      refine eg_goto 102 dX4_count_52 (by decide) ?_
      exact eg_iret rfl dX4_count_102 hQ
  · rw [show ap_count ((w, n, k), cf, co, tg, (len, op, lf, rt, res), (fnd, flen, fop, flf, frt, fres), t0, t1, t2, t3) y = nI w by unfold ap_count; exact if_pos c0] at hQ
    refine eg_aload_n dX4_count_36 rfl rfl ?_
    refine eg_getI gf_RX4_7 rfl (by assumption) dX4_count_37 ?_
    refine eg_topi m0 ?_
    refine eg_goto 102 dX4_count_40 (by decide) ?_
    exact eg_iret rfl dX4_count_102 hQ
set_option maxHeartbeats 2000000 in
theorem ap_R_value {l : Launch} {E : eg_E} {d kb nb : Nat} {Q : Option Value → eg_G → eg_I → Prop} {G : eg_G} {M : eg_I} {a : Nat} {S : st_T} (hs : sh_M G a) (hok : st_ok S) (hI : ri_I M a S) {x y : Int32} (hd : 4 ≤ d) (hQ : Q (some (.int (ap_value S x y))) G M) : eg_J l E mX4_value d kb nb Q 0 [some (.ref a), some (.int x), some (.int y)] [] G M := by
  obtain ⟨k0, ⟨x5, y5⟩, ⟨x6, y6⟩, ⟨x7, y7⟩, ⟨x9, y9⟩, ⟨x10, y10⟩, ⟨x11, y11⟩, ⟨x13, y13⟩, ⟨x14, y14⟩, ⟨x18, y18⟩, ⟨x19, y19⟩, ⟨x20, y20⟩, ⟨x25, y25⟩, ⟨x26, y26⟩, ⟨x27, y27⟩, ⟨x28, y28⟩, ⟨x30, y30⟩, ⟨x31, y31⟩, ⟨x32, y32⟩⟩ := id hs
  obtain ⟨⟨w, n, k⟩, cf, co, tg, ⟨len, op, lf, rt, res⟩, ⟨fnd, flen, fop, flf, frt, fres⟩, t0, t1, t2, t3⟩ := S
  replace hI : ri_U M a w n k cf co tg len op lf rt res fnd flen fop flf frt fres t0 t1 t2 t3 := hI
  replace hok : ok_U w n k cf co len op lf rt res fnd flen fop flf frt fres := hok
  obtain ⟨b1, b2, b3, b4, b5, b6, b7, b8, b9, b10, b11⟩ := id hI
  obtain ⟨m0, m1, m2, m3, m4, mc, hw1, hw4, hn1, hn2, hk4⟩ := id b1
  obtain ⟨p3, p4, pl, pa⟩ := id b5
  obtain ⟨-, -, -, -, -, cw, co9, pok, fok⟩ := id hok
  obtain ⟨-, pok2, pok3⟩ := id pok
  have hA := wd_asg hw4 hn2
  refine eg_aload_n dX4_value_0 rfl rfl ?_
  refine eg_iload_n dX4_value_1 rfl rfl ?_
  refine eg_callV1 0 0 gk_X4_isValue gi_X4_isValue (by assumption) rfl gl_RX4_119 rfl (Nat.le_of_ble_eq_true rfl) (Nat.le_of_ble_eq_true rfl) (Nat.zero_le _) (Nat.zero_le _) (by omega) dX4_value_2 ?_
  refine sp_X4_isValue (by omega) k0 b1 p3 pl (fun z1 z2 => ?_) (fun zz => ?_)
  · refine eg_if_eq 31 dX4_value_5 (by decide) (fun z => absurd z (by decide)) (fun _ => ?_)
    refine eg_aload_n dX4_value_8 rfl rfl ?_
    refine eg_iload_n dX4_value_9 rfl rfl ?_
    refine eg_callV1 0 0 gk_X4_isAssignment gi_X4_isAssignment (by assumption) rfl gl_RX4_112 rfl (Nat.le_of_ble_eq_true rfl) (Nat.le_of_ble_eq_true rfl) (Nat.zero_le _) (Nat.zero_le _) (by omega) dX4_value_10 ?_
    refine sp_X4_isAssignment (by omega) k0 b1 (fun y1 y2 => ?_) (fun yy => ?_)
    · refine eg_if_eq 31 dX4_value_13 (by decide) (fun z => absurd z (by decide)) (fun _ => ?_)
      rw [show ap_value ((w, n, k), cf, co, tg, (len, op, lf, rt, res), (fnd, flen, fop, flf, frt, fres), t0, t1, t2, t3) x y = sv w n k cf op lf rt x.toNatClampNeg y.toNatClampNeg from if_neg (fun q => q.elim (fun q => q.elim z1 z2) (fun q => q.elim y1 y2))] at hQ
      obtain ⟨ex, hX⟩ := nI_cl z1 z2 (by omega)
      obtain ⟨ey, hY⟩ := nI_cl y1 y2 (by omega)
      generalize x.toNatClampNeg = X at ex hX hQ
      generalize y.toNatClampNeg = Y at ey hY hQ
      subst ex
      subst ey
      refine eg_aload_n dX4_value_16 rfl rfl ?_
      refine eg_getR gf_RX4_41 rfl (by assumption) (by assumption) dX4_value_17 ?_
      refine eg_sipush dX4_value_20 (v := nI 256) (by decide) ?_
      refine eg_iload_n dX4_value_23 rfl rfl ?_
      refine eg_imul dX4_value_24 ?_
      refine eg_topi (pk_mul 256 X) ?_
      refine eg_iload_n dX4_value_25 rfl rfl ?_
      refine eg_iadd dX4_value_26 ?_
      refine eg_topi (nI_add (256 * X) Y) ?_
      refine eg_ialdN (by assumption) (by omega) (by decide) dX4_value_27 ?_
      refine eg_topi (b2 X Y (by omega) hY) ?_
      refine eg_goto 32 dX4_value_28 (by decide) ?_
      exact eg_iret rfl dX4_value_32 hQ
    · refine eg_if_eq 31 dX4_value_13 (by decide) (fun _ => ?_) (fun z => absurd (show nI 0 = 0 from rfl) z)
      rw [show ap_value ((w, n, k), cf, co, tg, (len, op, lf, rt, res), (fnd, flen, fop, flf, frt, fres), t0, t1, t2, t3) x y = -1 by exact if_pos (Or.inr yy)] at hQ
      refine eg_iconst dX4_value_31 (v := -1) (by decide) ?_
      exact eg_iret rfl dX4_value_32 hQ
  · refine eg_if_eq 31 dX4_value_5 (by decide) (fun _ => ?_) (fun z => absurd (show nI 0 = 0 from rfl) z)
    rw [show ap_value ((w, n, k), cf, co, tg, (len, op, lf, rt, res), (fnd, flen, fop, flf, frt, fres), t0, t1, t2, t3) x y = -1 by exact if_pos (Or.inl zz)] at hQ
    refine eg_iconst dX4_value_31 (v := -1) (by decide) ?_
    exact eg_iret rfl dX4_value_32 hQ
set_option maxHeartbeats 2000000 in
theorem lp_X4_differ {l : Launch} {E : eg_E} {d kb nb : Nat} {Q : Option Value → eg_G → eg_I → Prop} {G : eg_G} {M : eg_I} {a w n k N X : Nat} {cf : Nat → Int32} {y : Int32} {V : Nat → Nat → Int32} {tg : Nat → Int32} (hs : sh_M G a) (h : in_M M a w n k cf) (hN : N ≤ 18) (hX : X < N) (hy : ¬ y = -2 → y = nI y.toNatClampNeg ∧ y.toNatClampNeg < N) (hrow : ∀ u s, u < N → s < 2 ^ (w * n) → M (a + 7) (256 * u + s) = V u s) (htg : ∀ s, s < 256 → M (a + 3) s = tg s) : ∀ (t s : Nat) (l4 : Option Value), s + t = 2 ^ (w * n) → Q (some (.int (match lst (fun s => ¬ V X s = if y = -2 then tg s else V y.toNatClampNeg s) t s with | some s => nI s | none => -5))) G M → eg_J l E mX4_differ d kb nb Q 26 [some (.ref a), some (.int (nI X)), some (.int y), some (.int (nI s)), l4] [] G M := by
  intro t
  induction t with
  | zero =>
    intro s l4 hst hQ
    obtain ⟨k0, ⟨x5, y5⟩, ⟨x6, y6⟩, ⟨x7, y7⟩, ⟨x9, y9⟩, ⟨x10, y10⟩, ⟨x11, y11⟩, ⟨x13, y13⟩, ⟨x14, y14⟩, ⟨x18, y18⟩, ⟨x19, y19⟩, ⟨x20, y20⟩, ⟨x25, y25⟩, ⟨x26, y26⟩, ⟨x27, y27⟩, ⟨x28, y28⟩, ⟨x30, y30⟩, ⟨x31, y31⟩, ⟨x32, y32⟩⟩ := id hs
    obtain ⟨m0, m1, m2, m3, m4, mc, hw1, hw4, hn1, hn2, hk4⟩ := id h
    have hA := wd_asg hw4 hn2
    refine eg_iload_n dX4_differ_26 rfl rfl ?_
    refine eg_aload_n dX4_differ_27 rfl rfl ?_
    refine eg_getI gf_RX4_19 rfl (by assumption) dX4_differ_28 ?_
    refine eg_topi m3 ?_
    refine eg_icmp_ge 88 dX4_differ_31 (by decide) (fun c31 => ?_) (fun c31 => absurd (nI_le (by omega) (by omega)) c31)
    refine eg_bipush dX4_differ_88 (v := -5) (by decide) ?_
    exact eg_iret rfl dX4_differ_90 hQ
  | succ t ih =>
    intro s l4 hst hQ
    obtain ⟨k0, ⟨x5, y5⟩, ⟨x6, y6⟩, ⟨x7, y7⟩, ⟨x9, y9⟩, ⟨x10, y10⟩, ⟨x11, y11⟩, ⟨x13, y13⟩, ⟨x14, y14⟩, ⟨x18, y18⟩, ⟨x19, y19⟩, ⟨x20, y20⟩, ⟨x25, y25⟩, ⟨x26, y26⟩, ⟨x27, y27⟩, ⟨x28, y28⟩, ⟨x30, y30⟩, ⟨x31, y31⟩, ⟨x32, y32⟩⟩ := id hs
    obtain ⟨m0, m1, m2, m3, m4, mc, hw1, hw4, hn1, hn2, hk4⟩ := id h
    have hA := wd_asg hw4 hn2
    refine eg_iload_n dX4_differ_26 rfl rfl ?_
    refine eg_aload_n dX4_differ_27 rfl rfl ?_
    refine eg_getI gf_RX4_19 rfl (by assumption) dX4_differ_28 ?_
    refine eg_topi m3 ?_
    refine eg_icmp_ge 88 dX4_differ_31 (by decide) (fun c31 => absurd c31 (nI_ge (by omega) (by omega))) (fun c31 => ?_)
    refine eg_iload_n dX4_differ_34 rfl rfl ?_
    refine eg_bipush dX4_differ_35 (v := -2) (by decide) ?_
    refine eg_icmp_ne 49 dX4_differ_37 (by decide) (fun c0 => ?_) (fun c0 => ?_)
    · have hy2 := (hy c0).2
      refine eg_aload_n dX4_differ_49 rfl rfl ?_
      refine eg_getR gf_RX4_41 rfl (by assumption) (by assumption) dX4_differ_50 ?_
      refine eg_sipush dX4_differ_53 (v := nI 256) (by decide) ?_
      refine eg_iload_n dX4_differ_56 rfl rfl ?_
      refine eg_topi (hy c0).1 ?_
      refine eg_imul dX4_differ_57 ?_
      refine eg_topi (pk_mul 256 y.toNatClampNeg) ?_
      refine eg_iload_n dX4_differ_58 rfl rfl ?_
      refine eg_iadd dX4_differ_59 ?_
      refine eg_topi (nI_add (256 * y.toNatClampNeg) s) ?_
      refine eg_ialdN (by assumption) (by omega) (by decide) dX4_differ_60 ?_
      refine eg_topi (hrow _ s hy2 (by omega)) ?_
      refine eg_istore dX4_differ_61 (by decide) rfl ?_
      refine eg_aload_n dX4_differ_63 rfl rfl ?_
      refine eg_getR gf_RX4_41 rfl (by assumption) (by assumption) dX4_differ_64 ?_
      refine eg_sipush dX4_differ_67 (v := nI 256) (by decide) ?_
      refine eg_iload_n dX4_differ_70 rfl rfl ?_
      refine eg_imul dX4_differ_71 ?_
      refine eg_topi (pk_mul 256 X) ?_
      refine eg_iload_n dX4_differ_72 rfl rfl ?_
      refine eg_iadd dX4_differ_73 ?_
      refine eg_topi (nI_add (256 * X) s) ?_
      refine eg_ialdN (by assumption) (by omega) (by decide) dX4_differ_74 ?_
      refine eg_topi (hrow X s hX (by omega)) ?_
      refine eg_iload dX4_differ_75 rfl ?_
      refine eg_icmp_eq 82 dX4_differ_77 (by decide) (fun c1 => ?_) (fun c1 => ?_)
      · rw [lst, if_neg (show ¬ ¬ V X s = if y = -2 then tg s else V y.toNatClampNeg s by rw [if_neg c0]; exact fun q => q c1)] at hQ
        refine eg_iinc dX4_differ_82 (by decide) rfl (eg_inc s) rfl ?_
        refine eg_goto 26 dX4_differ_85 (by decide) ?_
        exact ih (s + 1) _ (by omega) hQ
      · rw [lst, if_pos (show ¬ V X s = if y = -2 then tg s else V y.toNatClampNeg s by rw [if_neg c0]; exact c1)] at hQ
        refine eg_iload_n dX4_differ_80 rfl rfl ?_
        exact eg_iret rfl dX4_differ_81 hQ
    · refine eg_aload_n dX4_differ_40 rfl rfl ?_
      refine eg_getR gf_RX4_29 rfl (by assumption) (by assumption) dX4_differ_41 ?_
      refine eg_iload_n dX4_differ_44 rfl rfl ?_
      refine eg_ialdN (by assumption) (by omega) (by decide) dX4_differ_45 ?_
      refine eg_topi (htg s (by omega)) ?_
      refine eg_goto 61 dX4_differ_46 (by decide) ?_
      refine eg_istore dX4_differ_61 (by decide) rfl ?_
      refine eg_aload_n dX4_differ_63 rfl rfl ?_
      refine eg_getR gf_RX4_41 rfl (by assumption) (by assumption) dX4_differ_64 ?_
      refine eg_sipush dX4_differ_67 (v := nI 256) (by decide) ?_
      refine eg_iload_n dX4_differ_70 rfl rfl ?_
      refine eg_imul dX4_differ_71 ?_
      refine eg_topi (pk_mul 256 X) ?_
      refine eg_iload_n dX4_differ_72 rfl rfl ?_
      refine eg_iadd dX4_differ_73 ?_
      refine eg_topi (nI_add (256 * X) s) ?_
      refine eg_ialdN (by assumption) (by omega) (by decide) dX4_differ_74 ?_
      refine eg_topi (hrow X s hX (by omega)) ?_
      refine eg_iload dX4_differ_75 rfl ?_
      refine eg_icmp_eq 82 dX4_differ_77 (by decide) (fun c1 => ?_) (fun c1 => ?_)
      · rw [lst, if_neg (show ¬ ¬ V X s = if y = -2 then tg s else V y.toNatClampNeg s by rw [if_pos c0]; exact fun q => q c1)] at hQ
        refine eg_iinc dX4_differ_82 (by decide) rfl (eg_inc s) rfl ?_
        refine eg_goto 26 dX4_differ_85 (by decide) ?_
        exact ih (s + 1) _ (by omega) hQ
      · rw [lst, if_pos (show ¬ V X s = if y = -2 then tg s else V y.toNatClampNeg s by rw [if_pos c0]; exact c1)] at hQ
        refine eg_iload_n dX4_differ_80 rfl rfl ?_
        exact eg_iret rfl dX4_differ_81 hQ
set_option maxHeartbeats 2000000 in
theorem ap_R_differ {l : Launch} {E : eg_E} {d kb nb : Nat} {Q : Option Value → eg_G → eg_I → Prop} {G : eg_G} {M : eg_I} {a : Nat} {S : st_T} (hs : sh_M G a) (hok : st_ok S) (hI : ri_I M a S) {x y : Int32} (hd : 4 ≤ d) (hQ : Q (some (.int (ap_differ S x y))) G M) : eg_J l E mX4_differ d kb nb Q 0 [some (.ref a), some (.int x), some (.int y), none, none] [] G M := by
  obtain ⟨k0, ⟨x5, y5⟩, ⟨x6, y6⟩, ⟨x7, y7⟩, ⟨x9, y9⟩, ⟨x10, y10⟩, ⟨x11, y11⟩, ⟨x13, y13⟩, ⟨x14, y14⟩, ⟨x18, y18⟩, ⟨x19, y19⟩, ⟨x20, y20⟩, ⟨x25, y25⟩, ⟨x26, y26⟩, ⟨x27, y27⟩, ⟨x28, y28⟩, ⟨x30, y30⟩, ⟨x31, y31⟩, ⟨x32, y32⟩⟩ := id hs
  obtain ⟨⟨w, n, k⟩, cf, co, tg, ⟨len, op, lf, rt, res⟩, ⟨fnd, flen, fop, flf, frt, fres⟩, t0, t1, t2, t3⟩ := S
  replace hI : ri_U M a w n k cf co tg len op lf rt res fnd flen fop flf frt fres t0 t1 t2 t3 := hI
  replace hok : ok_U w n k cf co len op lf rt res fnd flen fop flf frt fres := hok
  obtain ⟨b1, b2, b3, b4, b5, b6, b7, b8, b9, b10, b11⟩ := id hI
  obtain ⟨m0, m1, m2, m3, m4, mc, hw1, hw4, hn1, hn2, hk4⟩ := id b1
  obtain ⟨p3, p4, pl, pa⟩ := id b5
  obtain ⟨-, -, -, -, -, cw, co9, pok, fok⟩ := id hok
  obtain ⟨-, pok2, pok3⟩ := id pok
  have hA := wd_asg hw4 hn2
  refine eg_aload_n dX4_differ_0 rfl rfl ?_
  refine eg_iload_n dX4_differ_1 rfl rfl ?_
  refine eg_callV1 0 0 gk_X4_isValue gi_X4_isValue (by assumption) rfl gl_RX4_119 rfl (Nat.le_of_ble_eq_true rfl) (Nat.le_of_ble_eq_true rfl) (Nat.zero_le _) (Nat.zero_le _) (by omega) dX4_differ_2 ?_
  refine sp_X4_isValue (by omega) k0 b1 p3 pl (fun z1 z2 => ?_) (fun zz => ?_)
  · refine eg_if_eq 22 dX4_differ_5 (by decide) (fun z => absurd z (by decide)) (fun _ => ?_)
    refine eg_iload_n dX4_differ_8 rfl rfl ?_
    refine eg_bipush dX4_differ_9 (v := -2) (by decide) ?_
    refine eg_icmp_eq 24 dX4_differ_11 (by decide) (fun c0 => ?_) (fun c0 => ?_)
    · rw [show ap_differ ((w, n, k), cf, co, tg, (len, op, lf, rt, res), (fnd, flen, fop, flf, frt, fres), t0, t1, t2, t3) x y = (match lst (fun s => ¬ sv w n k cf op lf rt x.toNatClampNeg s = if y = -2 then tg s else sv w n k cf op lf rt y.toNatClampNeg s) (2 ^ (w * n)) 0 with | some s => nI s | none => -5) from if_neg (fun q => q.elim (fun q => q.elim z1 z2) (fun q => q.1 c0))] at hQ
      obtain ⟨ex, hX⟩ := nI_cl z1 z2 (by omega)
      generalize x.toNatClampNeg = X at ex hX hQ
      subst ex
      refine eg_iconst dX4_differ_24 (v := nI 0) (by decide) ?_
      refine eg_istore_n dX4_differ_25 rfl (by decide) rfl ?_
      exact lp_X4_differ hs b1 (show n + k + len ≤ 18 by omega) hX (fun q => absurd c0 q) b2 b4 (2 ^ (w * n)) 0 _ (by omega) hQ
    · refine eg_aload_n dX4_differ_14 rfl rfl ?_
      refine eg_iload_n dX4_differ_15 rfl rfl ?_
      refine eg_callV1 0 0 gk_X4_isValue gi_X4_isValue (by assumption) rfl gl_RX4_119 rfl (Nat.le_of_ble_eq_true rfl) (Nat.le_of_ble_eq_true rfl) (Nat.zero_le _) (Nat.zero_le _) (by omega) dX4_differ_16 ?_
      refine sp_X4_isValue (by omega) k0 b1 p3 pl (fun y1 y2 => ?_) (fun yy => ?_)
      · refine eg_if_ne 24 dX4_differ_19 (by decide) (fun _ => ?_) (fun z => absurd z (by decide))
        rw [show ap_differ ((w, n, k), cf, co, tg, (len, op, lf, rt, res), (fnd, flen, fop, flf, frt, fres), t0, t1, t2, t3) x y = (match lst (fun s => ¬ sv w n k cf op lf rt x.toNatClampNeg s = if y = -2 then tg s else sv w n k cf op lf rt y.toNatClampNeg s) (2 ^ (w * n)) 0 with | some s => nI s | none => -5) from if_neg (fun q => q.elim (fun q => q.elim z1 z2) (fun q => q.2.elim y1 y2))] at hQ
        obtain ⟨ex, hX⟩ := nI_cl z1 z2 (by omega)
        generalize x.toNatClampNeg = X at ex hX hQ
        subst ex
        refine eg_iconst dX4_differ_24 (v := nI 0) (by decide) ?_
        refine eg_istore_n dX4_differ_25 rfl (by decide) rfl ?_
        exact lp_X4_differ hs b1 (show n + k + len ≤ 18 by omega) hX (fun _ => nI_cl y1 y2 (by omega)) b2 b4 (2 ^ (w * n)) 0 _ (by omega) hQ
      · refine eg_if_ne 24 dX4_differ_19 (by decide) (fun z => absurd (show nI 0 = 0 from rfl) z) (fun _ => ?_)
        rw [show ap_differ ((w, n, k), cf, co, tg, (len, op, lf, rt, res), (fnd, flen, fop, flf, frt, fres), t0, t1, t2, t3) x y = -1 by exact if_pos (Or.inr ⟨c0, yy⟩)] at hQ
        refine eg_iconst dX4_differ_22 (v := -1) (by decide) ?_
        exact eg_iret rfl dX4_differ_23 hQ
  · refine eg_if_eq 22 dX4_differ_5 (by decide) (fun _ => ?_) (fun z => absurd (show nI 0 = 0 from rfl) z)
    rw [show ap_differ ((w, n, k), cf, co, tg, (len, op, lf, rt, res), (fnd, flen, fop, flf, frt, fres), t0, t1, t2, t3) x y = -1 by exact if_pos (Or.inl zz)] at hQ
    refine eg_iconst dX4_differ_22 (v := -1) (by decide) ?_
    exact eg_iret rfl dX4_differ_23 hQ
set_option maxHeartbeats 2000000 in
theorem lp_X4_take {l : Launch} {E : eg_E} {d kb nb : Nat} {Q : Option Value → eg_G → eg_I → Prop} {G : eg_G} {a flen : Nat} {fop flf frt : Nat → Nat} (hs : sh_M G a) (hfl : flen ≤ 12) : ∀ (t s : Nat) (M : eg_I), M a 8 = nI flen → (∀ j, j < flen → M (a + 9) j = nI (fop j) ∧ M (a + 10) j = nI (flf j) ∧ M (a + 11) j = nI (frt j)) → s + t = flen → (∀ M', (∀ j, s ≤ j → j < flen → M' (a + 4) j = nI (fop j) ∧ M' (a + 5) j = nI (flf j) ∧ M' (a + 6) j = nI (frt j)) → (∀ q j, ¬ (a + 4 ≤ q ∧ q < a + 7 ∧ s ≤ j) → M' q j = M q j) → eg_J l E mX4_take d kb nb Q 70 [some (.ref a), some (.int (nI flen))] [] G M') → eg_J l E mX4_take d kb nb Q 20 [some (.ref a), some (.int (nI s))] [] G M := by
  intro t
  induction t with
  | zero =>
    intro s M h8 hf hst kk
    obtain ⟨k0, ⟨x5, y5⟩, ⟨x6, y6⟩, ⟨x7, y7⟩, ⟨x9, y9⟩, ⟨x10, y10⟩, ⟨x11, y11⟩, ⟨x13, y13⟩, ⟨x14, y14⟩, ⟨x18, y18⟩, ⟨x19, y19⟩, ⟨x20, y20⟩, ⟨x25, y25⟩, ⟨x26, y26⟩, ⟨x27, y27⟩, ⟨x28, y28⟩, ⟨x30, y30⟩, ⟨x31, y31⟩, ⟨x32, y32⟩⟩ := id hs
    refine eg_iload_n dX4_take_20 rfl rfl ?_
    refine eg_aload_n dX4_take_21 rfl rfl ?_
    refine eg_getI gf_RX4_90 rfl (by assumption) dX4_take_22 ?_
    refine eg_topi h8 ?_
    refine eg_icmp_ge 70 dX4_take_25 (by decide) (fun c25 => ?_) (fun c25 => absurd (nI_le (by omega) (by omega)) c25)
    have e : s = flen := by omega
    subst e
    exact kk M (fun j z1 z2 => absurd z2 (by omega)) (fun _ _ _ => rfl)
  | succ t ih =>
    intro s M h8 hf hst kk
    obtain ⟨k0, ⟨x5, y5⟩, ⟨x6, y6⟩, ⟨x7, y7⟩, ⟨x9, y9⟩, ⟨x10, y10⟩, ⟨x11, y11⟩, ⟨x13, y13⟩, ⟨x14, y14⟩, ⟨x18, y18⟩, ⟨x19, y19⟩, ⟨x20, y20⟩, ⟨x25, y25⟩, ⟨x26, y26⟩, ⟨x27, y27⟩, ⟨x28, y28⟩, ⟨x30, y30⟩, ⟨x31, y31⟩, ⟨x32, y32⟩⟩ := id hs
    refine eg_iload_n dX4_take_20 rfl rfl ?_
    refine eg_aload_n dX4_take_21 rfl rfl ?_
    refine eg_getI gf_RX4_90 rfl (by assumption) dX4_take_22 ?_
    refine eg_topi h8 ?_
    refine eg_icmp_ge 70 dX4_take_25 (by decide) (fun c25 => absurd c25 (nI_ge (by omega) (by omega))) (fun c25 => ?_)
    refine eg_aload_n dX4_take_28 rfl rfl ?_
    refine eg_getR gf_RX4_32 rfl (by assumption) (by assumption) dX4_take_29 ?_
    refine eg_iload_n dX4_take_32 rfl rfl ?_
    refine eg_aload_n dX4_take_33 rfl rfl ?_
    refine eg_getR gf_RX4_47 rfl (by assumption) (by assumption) dX4_take_34 ?_
    refine eg_iload_n dX4_take_37 rfl rfl ?_
    refine eg_ialdN (by assumption) (by omega) (by decide) dX4_take_38 ?_
    refine eg_topi (hf s (by omega)).1 ?_
    refine eg_iastN (by assumption) (by omega) (by decide) dX4_take_39 ?_
    refine eg_aload_n dX4_take_40 rfl rfl ?_
    refine eg_getR gf_RX4_35 rfl (by assumption) (by assumption) dX4_take_41 ?_
    refine eg_iload_n dX4_take_44 rfl rfl ?_
    refine eg_aload_n dX4_take_45 rfl rfl ?_
    refine eg_getR gf_RX4_50 rfl (by assumption) (by assumption) dX4_take_46 ?_
    refine eg_iload_n dX4_take_49 rfl rfl ?_
    refine eg_ialdN (by assumption) (by omega) (by decide) dX4_take_50 ?_
    refine eg_topi (show _ = nI (flf s) by rw [eg_set_ne (by omega)]; exact (hf s (by omega)).2.1) ?_
    refine eg_iastN (by assumption) (by omega) (by decide) dX4_take_51 ?_
    refine eg_aload_n dX4_take_52 rfl rfl ?_
    refine eg_getR gf_RX4_38 rfl (by assumption) (by assumption) dX4_take_53 ?_
    refine eg_iload_n dX4_take_56 rfl rfl ?_
    refine eg_aload_n dX4_take_57 rfl rfl ?_
    refine eg_getR gf_RX4_53 rfl (by assumption) (by assumption) dX4_take_58 ?_
    refine eg_iload_n dX4_take_61 rfl rfl ?_
    refine eg_ialdN (by assumption) (by omega) (by decide) dX4_take_62 ?_
    refine eg_topi (show _ = nI (frt s) by rw [eg_set_ne (by omega), eg_set_ne (by omega)]; exact (hf s (by omega)).2.2) ?_
    refine eg_iastN (by assumption) (by omega) (by decide) dX4_take_63 ?_
    refine eg_iinc dX4_take_64 (by decide) rfl (eg_inc s) rfl ?_
    refine eg_goto 20 dX4_take_67 (by decide) ?_
    refine ih (s + 1) _ (by rw [eg_set_ne (by omega), eg_set_ne (by omega), eg_set_ne (by omega)]; exact h8) (fun j hj => ?_) (by omega) (fun M2 h2 h3 => ?_)
    · rw [eg_set_ne (by omega), eg_set_ne (by omega), eg_set_ne (by omega), eg_set_ne (by omega), eg_set_ne (by omega), eg_set_ne (by omega), eg_set_ne (by omega), eg_set_ne (by omega), eg_set_ne (by omega)]
      exact hf j hj
    · refine kk M2 (fun j z1 z2 => ?_) (fun q j z => ?_)
      · by_cases e : j = s
        · subst e
          rw [h3 _ _ (by omega), h3 _ _ (by omega), h3 _ _ (by omega)]
          refine ⟨?_, ?_, ?_⟩
          · rw [eg_set_ne (by omega), eg_set_ne (by omega), eg_set_eq]
          · rw [eg_set_ne (by omega), eg_set_eq]
          · rw [eg_set_eq]
        · exact h2 j (by omega) z2
      · rw [h3 q j (by omega)]
        unfold eg_set
        rw [if_neg (by omega), if_neg (by omega), if_neg (by omega)]
set_option maxHeartbeats 2000000 in
theorem ap_R_take {l : Launch} {E : eg_E} {d kb nb : Nat} {Q : Option Value → eg_G → eg_I → Prop} {G : eg_G} {M : eg_I} {a : Nat} {S : st_T} (hs : sh_M G a) (hok : st_ok S) (hI : ri_I M a S) (hd : 4 ≤ d) (hQ : ∀ M', ri_I M' a (ap_take S).2 → ri_E M M' a → Q (some (.int (ap_take S).1)) G M') : eg_J l E mX4_take d kb nb Q 0 [some (.ref a), none] [] G M := by
  obtain ⟨k0, ⟨x5, y5⟩, ⟨x6, y6⟩, ⟨x7, y7⟩, ⟨x9, y9⟩, ⟨x10, y10⟩, ⟨x11, y11⟩, ⟨x13, y13⟩, ⟨x14, y14⟩, ⟨x18, y18⟩, ⟨x19, y19⟩, ⟨x20, y20⟩, ⟨x25, y25⟩, ⟨x26, y26⟩, ⟨x27, y27⟩, ⟨x28, y28⟩, ⟨x30, y30⟩, ⟨x31, y31⟩, ⟨x32, y32⟩⟩ := id hs
  obtain ⟨⟨w, n, k⟩, cf, co, tg, ⟨len, op, lf, rt, res⟩, ⟨fnd, flen, fop, flf, frt, fres⟩, t0, t1, t2, t3⟩ := S
  replace hI : ri_U M a w n k cf co tg len op lf rt res fnd flen fop flf frt fres t0 t1 t2 t3 := hI
  replace hok : ok_U w n k cf co len op lf rt res fnd flen fop flf frt fres := hok
  obtain ⟨b1, b2, b3, b4, b5, b6, b7, b8, b9, b10, b11⟩ := id hI
  obtain ⟨m0, m1, m2, m3, m4, mc, hw1, hw4, hn1, hn2, hk4⟩ := id b1
  obtain ⟨p3, p4, pl, pa⟩ := id b5
  obtain ⟨-, -, -, -, -, cw, co9, pok, fok⟩ := id hok
  obtain ⟨-, pok2, pok3⟩ := id pok
  have hA := wd_asg hw4 hn2
  refine eg_aload_n dX4_take_0 rfl rfl ?_
  refine eg_getI gf_RX4_108 rfl (by assumption) dX4_take_1 ?_
  refine eg_topi b6 ?_
  refine eg_if_ne 10 dX4_take_4 (by decide) (fun c0 => ?_) (fun c0 => ?_)
  · have hf : fnd = true := by
      cases fnd with
      | true => rfl
      | false => exact absurd rfl c0
    rw [show ap_take ((w, n, k), cf, co, tg, (len, op, lf, rt, res), (fnd, flen, fop, flf, frt, fres), t0, t1, t2, t3) = (nI flen, ((w, n, k), cf, co, tg, (flen, fop, flf, frt, fres), (fnd, flen, fop, flf, frt, fres), t0, t1, t2, t3)) from if_pos hf] at hQ
    replace hQ : ∀ M', ri_U M' a w n k cf co tg flen fop flf frt fres fnd flen fop flf frt fres t0 t1 t2 t3 → ri_E M M' a → Q (some (.int (nI flen))) G M' := hQ
    obtain ⟨q1, q2, q3, q4⟩ := id (b7 hf)
    obtain ⟨-, fk2, fk3⟩ := id (fok hf)
    refine eg_aload_n dX4_take_10 rfl rfl ?_
    refine eg_aload_n dX4_take_11 rfl rfl ?_
    refine eg_getI gf_RX4_165 rfl (by assumption) dX4_take_12 ?_
    refine eg_topi q1 ?_
    refine eg_putI gp_RX4_90 (fun q => by cases q) rfl rfl rfl (by assumption) dX4_take_15 ?_
    refine eg_iconst dX4_take_18 (v := nI 0) (by decide) ?_
    refine eg_istore_n dX4_take_19 rfl (by decide) rfl ?_
    refine lp_X4_take hs q3 flen 0 _ (by rw [eg_set_eq]) (fun j hj => by rw [eg_set_ne (by omega), eg_set_ne (by omega), eg_set_ne (by omega)]; exact q4 j hj) (by omega) (fun M1 h1 h2 => ?_)
    have of : ∀ q, q ≠ a → q ≠ a + 4 → q ≠ a + 5 → q ≠ a + 6 → M1 q = M q := fun q y1 y2 y3 y4 => by
      rw [← eg_set_ne (M := M) (j := 8) (x := nI flen) y1]
      funext j
      exact h2 q j (by omega)
    have fa : ∀ j, M1 a j = eg_set M a 8 (nI flen) a j := fun j => h2 a j (by omega)
    refine eg_aload_n dX4_take_70 rfl rfl ?_
    refine eg_aload_n dX4_take_71 rfl rfl ?_
    refine eg_getI gf_RX4_168 rfl (by assumption) dX4_take_72 ?_
    refine eg_topi (show _ = nI fres by rw [fa, eg_set_j (by decide)]; exact q2) ?_
    refine eg_putI gp_RX4_105 (fun q => by cases q) rfl rfl rfl (by assumption) dX4_take_75 ?_
    generalize hM2 : eg_set M1 a 12 (nI fres) = M2
    have o2 : ∀ q, q ≠ a → q ≠ a + 4 → q ≠ a + 5 → q ≠ a + 6 → M2 q = M q := fun q y1 y2 y3 y4 => by rw [← hM2, eg_set_ne y1, of q y1 y2 y3 y4]
    have f2 : ∀ j, j ≠ 8 → j ≠ 12 → M2 a j = M a j := fun j y1 y2 => by rw [← hM2, eg_set_j y2, fa, eg_set_j y1]
    have s8 : M2 a 8 = nI flen := by rw [← hM2, eg_set_j (by decide), fa, eg_set_eq]
    have s12 : M2 a 12 = nI fres := by rw [← hM2, eg_set_eq]
    have hr : in_Q M2 a flen fop flf frt fres := ⟨s8, s12, q3, fun j hj => by rw [← hM2, eg_set_ne (by omega), eg_set_ne (by omega), eg_set_ne (by omega)]; exact h1 j (by omega) hj⟩
    have c2 : in_M M2 a w n k cf := b1.eq (fun j hj => f2 j (by omega) (by omega)) (o2 _ (by omega) (by omega) (by omega) (by omega))
    refine eg_aload_n dX4_take_78 rfl rfl ?_
    refine eg_callV0 0 0 gk_X4_reckonAll gi_X4_reckonAll (by assumption) rfl gl_RX4_80 rfl (Nat.le_of_ble_eq_true rfl) (Nat.le_of_ble_eq_true rfl) (Nat.zero_le _) (Nat.zero_le _) (by omega) dX4_take_79 ?_
    refine sp_X4_reckonAll (op := fop) (lf := flf) (rt := frt) (len := flen) (by omega) hs q3 (fun j hj => ⟨(fk2 j hj).1, (fk2 j hj).2.1, (fk2 j hj).2.2.1⟩) cw c2 ⟨s8, hr.2.2.2⟩ (fun M4 h3 h4 => ?_)
    refine eg_aload_n dX4_take_82 rfl rfl ?_
    refine eg_getI gf_RX4_90 rfl (by assumption) dX4_take_83 ?_
    refine eg_topi (show _ = nI flen by rw [h4 _ (by omega)]; exact s8) ?_
    exact eg_iret rfl dX4_take_86 (hQ M4 ⟨c2.eq (fun j _ => by rw [h4 _ (by omega)]) (h4 _ (by omega)), h3, fun o ho => by rw [h4 _ (by omega), o2 _ (by omega) (by omega) (by omega) (by omega)]; exact b3 o ho, fun s q => by rw [h4 _ (by omega), o2 _ (by omega) (by omega) (by omega) (by omega)]; exact b4 s q, hr.eq (by rw [h4 _ (by omega)]) (by rw [h4 _ (by omega)]) (fun q q1 q2 => h4 q (by omega)), by rw [h4 _ (by omega), f2 _ (by decide) (by decide)]; exact b6, fun q => (b7 q).eq (by rw [h4 _ (by omega), f2 _ (by decide) (by decide)]) (by rw [h4 _ (by omega), f2 _ (by decide) (by decide)]) (fun q q1 q2 => by rw [h4 _ (by omega), o2 _ (by omega) (by omega) (by omega) (by omega)]), by rw [h4 _ (by omega), f2 _ (by decide) (by decide)]; exact b8, by rw [h4 _ (by omega), f2 _ (by decide) (by decide)]; exact b9, by rw [h4 _ (by omega), f2 _ (by decide) (by decide)]; exact b10, by rw [h4 _ (by omega), f2 _ (by decide) (by decide)]; exact b11⟩ (fun q z => by rw [h4 _ (by omega), o2 _ (by omega) (by omega) (by omega) (by omega)]))
  · refine eg_bipush dX4_take_7 (v := -3) (by decide) ?_
    exact eg_iret rfl dX4_take_9 (by
        have hf : ¬ fnd = true := fun q => absurd c0 (by rw [if_pos q]; decide)
        rw [show ap_take ((w, n, k), cf, co, tg, (len, op, lf, rt, res), (fnd, flen, fop, flf, frt, fres), t0, t1, t2, t3) = (-3, ((w, n, k), cf, co, tg, (len, op, lf, rt, res), (fnd, flen, fop, flf, frt, fres), t0, t1, t2, t3)) from if_neg hf] at hQ
        exact hQ M hI ri_E.rf)
