/-! THE SEARCH of the class: attempt, fillWith, fill against the pure one -/
def FS (l : Launch) (E : eg_E) (G : eg_G) (h w n k : Nat) (co : Nat → Nat) (tg : Nat → Int32) (L : Nat) (al : Bool) (f : Nat) : Prop := ∀ (d kb nb : Nat) (Q : Option Value → eg_G → eg_I → Prop) (p r : Nat) (ro ra rb : Nat → Nat) (V : Nat → Nat → Int32) (σ : ss_S) (M : eg_I), 3 * f + 6 ≤ d → p + f = 12 → r ≤ 30 → hu_C M h w n k co tg L al → hu_P M h (2 ^ (w * n)) (n + k) p ro ra rb V → hu_S M h (n + k) L σ →
  (∀ M', hu_F M M' h → hu_P M' h (2 ^ (w * n)) (n + k) p ro ra rb V → hu_S M' h (n + k) L (ss_fill w (2 ^ (w * n)) (n + k) co tg L al f p r ro ra rb V σ) → Q none G M') → eg_J l E mX0_fill d kb nb Q 0 [some (.ref h), some (.int (nI p)), some (.int (nI r)), none, none] [] G M
set_option maxHeartbeats 4000000 in
theorem sp_X0_attempt {l : Launch} {E : eg_E} {G : eg_G} {h w n k : Nat} {co : Nat → Nat} {tg : Nat → Int32} {L : Nat} {al : Bool} {f p o a b r : Nat} {ro ra rb : Nat → Nat} {V : Nat → Nat → Int32} {σ : ss_S} {M : eg_I} {d kb nb : Nat} {Q : Option Value → eg_G → eg_I → Prop} (hFS : FS l E G h w n k co tg L al f) (hd : 3 * f + 7 ≤ d) (hpf : p + (f + 1) = 12) (ho : o < 13) (ha : a < n + k + p) (hb : b < n + k + p) (hr : r ≤ 30) (hs : sh_H G h) (hc : hu_C M h w n k co tg L al) (hP : hu_P M h (2 ^ (w * n)) (n + k) p ro ra rb V) (hS : hu_S M h (n + k) L σ) (hQ : ∀ M', hu_F M M' h → hu_P M' h (2 ^ (w * n)) (n + k) p ro ra rb V → hu_S M' h (n + k) L (ss_att w (2 ^ (w * n)) (n + k) tg L (ss_fill w (2 ^ (w * n)) (n + k) co tg L al f) p o a b r ro ra rb V σ) → Q none G M') : eg_J l E mX0_attempt d kb nb Q 0 [some (.ref h), some (.int (nI p)), some (.int (nI o)), some (.int (nI a)), some (.int (nI b)), some (.int (nI r)), none] [] G M := by
  obtain ⟨g0, g1, g2, g3, g4, g5, gV, g6, gR, g7, gF⟩ := id hs
  obtain ⟨gv1, gv2, gv3, gv4⟩ := id gV
  obtain ⟨gr0, gr1, gr2, gr3, gr4, gr5, gr6⟩ := id gR
  obtain ⟨gf0, gf1, gf2, gf3, gf4, gf5, gf6⟩ := id gF
  obtain ⟨c1, c2, c3, c4, c5, c6⟩ := id hc
  obtain ⟨e1, e2, e3, e4, e5, e6⟩ := id hS
  obtain ⟨v1, v2, v3, v4, v5, hw1, hw4, hn1, hn2, hk4⟩ := id c1
  have hA := wd_asg hw4 hn2
  refine eg_aload_n dX0_attempt_0 rfl rfl ?_
  refine eg_getI gf_RX0_59 rfl (by assumption) dX0_attempt_1 ?_
  refine eg_topi e2 ?_
  refine eg_aload_n dX0_attempt_4 rfl rfl ?_
  refine eg_getI gf_RX0_49 rfl (by assumption) dX0_attempt_5 ?_
  refine eg_topi c4 ?_
  refine eg_icmp_lt 17 dX0_attempt_8 (by decide) (fun c => ?_) (fun c => ?_)
  · have hL : ¬ L ≤ σ.1 := fun z => absurd c (nI_nlt z (by omega))
    refine eg_aload_n dX0_attempt_17 rfl rfl ?_
    refine eg_dup dX0_attempt_18 rfl ?_
    refine eg_getI gf_RX0_59 rfl (by assumption) dX0_attempt_19 ?_
    refine eg_topi e2 ?_
    refine eg_iconst dX0_attempt_22 (v := nI 1) (by decide) ?_
    refine eg_iadd dX0_attempt_23 ?_
    refine eg_topi (nI_add σ.1 1) ?_
    refine eg_putI gp_RX0_59 (fun q => by cases q) rfl rfl rfl (by assumption) dX0_attempt_24 ?_
    refine eg_aload_n dX0_attempt_27 rfl rfl ?_
    refine eg_getR gf_RX0_28 rfl (by assumption) (by assumption) dX0_attempt_28 ?_
    refine eg_iload_n dX0_attempt_31 rfl rfl ?_
    refine eg_iload_n dX0_attempt_32 rfl rfl ?_
    refine eg_iload_n dX0_attempt_33 rfl rfl ?_
    refine eg_iload dX0_attempt_34 rfl ?_
    refine eg_callV4 0 0 gk_X1_put gi_X1_put (by assumption) rfl gl_RX0_106 rfl (Nat.le_of_ble_eq_true rfl) (Nat.le_of_ble_eq_true rfl) (Nat.zero_le _) (Nat.zero_le _) (by omega) dX0_attempt_36 ?_
    refine sp_X1_put gR (by omega) ?_
    generalize hM2 : eg_set (eg_set (eg_set (eg_set M h 8 (nI (σ.1 + 1))) (h + 23 + 1) p (nI o)) (h + 23 + 2) p (nI a)) (h + 23 + 3) p (nI b) = M2
    have o2 : ∀ q, q ≠ h → ¬ (h + 24 ≤ q ∧ q < h + 27) → M2 q = M q := fun q z1 z2 => by rw [← hM2, eg_set_ne (by omega), eg_set_ne (by omega), eg_set_ne (by omega), eg_set_ne z1]
    have oh : M2 h = eg_set M h 8 (nI (σ.1 + 1)) h := by rw [← hM2, eg_set_ne (by omega), eg_set_ne (by omega), eg_set_ne (by omega)]
    have F2 : hu_F M M2 h := ⟨fun q z => o2 q (by omega) (by omega), fun q z1 z2 => o2 q (by omega) (by omega), fun j z1 z2 z3 => by rw [oh, eg_set_j z2]⟩
    have C2 := hc.fr F2
    have S2 : hu_S M2 h (n + k) L (σ.1 + 1, σ.2) := by
      refine ⟨?_, ?_, ?_, fun z => (e4 z).eq (fun q z1 z2 => o2 q (by omega) (by omega)), Nat.le_succ_of_le e5, by show σ.1 + 1 ≤ L; omega⟩
      · rw [oh, eg_set_j (by decide)]; exact e1
      · rw [oh, eg_set_eq]
      · rw [oh, eg_set_j (by decide)]; exact e3
    have K2 : ∀ j, j < p + 1 → M2 (h + 23 + 1) j = nI (ss_up ro p o j) ∧ M2 (h + 23 + 2) j = nI (ss_up ra p a j) ∧ M2 (h + 23 + 3) j = nI (ss_up rb p b j) := fun j hj => by
      by_cases e : j = p
      · subst e
        rw [ss_up_e, ss_up_e, ss_up_e, ← hM2]
        refine ⟨?_, ?_, eg_set_eq⟩
        · rw [eg_set_ne (by omega), eg_set_ne (by omega), eg_set_eq]
        · rw [eg_set_ne (by omega), eg_set_eq]
      · rw [ss_up_n e, ss_up_n e, ss_up_n e, ← hM2]
        rw [eg_set_jj e, eg_set_jj e, eg_set_jj e, eg_set_jj e, eg_set_jj e, eg_set_jj e, eg_set_jj e, eg_set_jj e, eg_set_jj e, eg_set_ne (by omega), eg_set_ne (by omega), eg_set_ne (by omega)]
        exact hP.2 j (by omega)
    have R2 : ∀ u s, u < n + k + p → s < 2 ^ (w * n) → M2 (h + 3 + 2 + u) s = V u s := fun u s z1 z2 => by rw [o2 _ (by omega) (by omega)]; exact hP.1 u s z1 z2
    have T2 : ∀ s, s < 2 ^ (w * n) → M2 (h + 2) s = tg s := C2.2.2.1
    refine eg_aload_n dX0_attempt_39 rfl rfl ?_
    refine eg_getR gf_RX0_21 rfl (by assumption) (by assumption) dX0_attempt_40 ?_
    refine eg_callV0 0 0 gk_X2_given gi_X2_given (by assumption) rfl gl_RX0_75 rfl (Nat.le_of_ble_eq_true rfl) (Nat.le_of_ble_eq_true rfl) (Nat.zero_le _) (Nat.zero_le _) (by omega) dX0_attempt_43 ?_
    refine sp_X2_given gv1 C2.1 ?_
    refine eg_iload_n dX0_attempt_46 rfl rfl ?_
    refine eg_iadd dX0_attempt_47 ?_
    refine eg_topi (nI_add (n + k) p) ?_
    refine eg_istore dX0_attempt_48 (by decide) rfl ?_
    refine eg_iload dX0_attempt_50 rfl ?_
    refine eg_if_ne 81 dX0_attempt_52 (by decide) (fun c2 => ?_) (fun c2 => ?_)
    · have hr0 : ¬ r = 0 := fun z => c2 (by rw [z]; rfl)
      refine eg_aload_n dX0_attempt_81 rfl rfl ?_
      refine eg_getR gf_RX0_21 rfl (by assumption) (by assumption) dX0_attempt_82 ?_
      refine eg_iload dX0_attempt_85 rfl ?_
      refine eg_iload_n dX0_attempt_87 rfl rfl ?_
      refine eg_iload_n dX0_attempt_88 rfl rfl ?_
      refine eg_iload dX0_attempt_89 rfl ?_
      refine eg_callV4 0 0 gk_X2_make gi_X2_make (by assumption) rfl gl_RX0_117 rfl (Nat.le_of_ble_eq_true rfl) (Nat.le_of_ble_eq_true rfl) (Nat.zero_le _) (Nat.zero_le _) (by omega) dX0_attempt_91 ?_
      refine sp_X2_make (by omega) gV ho (by omega) (by omega) (by omega) C2.1 ?_
      generalize hM3 : eg_fl M2 (h + 3 + 2 + (n + k + p)) 0 (2 ^ (w * n)) (fun j => wd_op w o (M2 (h + 3 + 2 + a) j) (M2 (h + 3 + 2 + b) j)) = M3
      have o3 : ∀ q, q ≠ h + 3 + 2 + (n + k + p) → M3 q = M2 q := fun q z => by rw [← hM3]; exact eg_fl_ne z
      have x3 : ∀ s, s < 2 ^ (w * n) → M3 (h + 3 + 2 + (n + k + p)) s = wd_op w o (V a s) (V b s) := fun s z => by rw [← hM3, eg_fl_in (by omega) z, R2 a s (by omega) z, R2 b s (by omega) z]
      have F3 : hu_F M M3 h := F2.tr ⟨fun q z => o3 q (by omega), fun q z1 z2 => o3 q (by omega), fun j z1 z2 z3 => by rw [o3 h (by omega)]⟩
      have C3 := hc.fr F3
      have S3 : hu_S M3 h (n + k) L (σ.1 + 1, σ.2) := S2.eq (o3 h (by omega)) (fun q z1 z2 => o3 q (by omega))
      have P3 : hu_P M3 h (2 ^ (w * n)) (n + k) (p + 1) (ss_up ro p o) (ss_up ra p a) (ss_up rb p b) (ss_up V (n + k + p) (fun s => wd_op w o (V a s) (V b s))) := by
        refine ⟨fun u s z1 z2 => ?_, fun j z => ?_⟩
        · by_cases e : u = n + k + p
          · subst e; rw [ss_up_e]; exact x3 s z2
          · rw [ss_up_n e, o3 _ (by omega)]; exact R2 u s (by omega) z2
        · rw [o3 _ (by omega), o3 _ (by omega), o3 _ (by omega)]; exact K2 j z
      refine eg_aload_n dX0_attempt_94 rfl rfl ?_
      refine eg_getR gf_RX0_21 rfl (by assumption) (by assumption) dX0_attempt_95 ?_
      refine eg_iload dX0_attempt_98 rfl ?_
      refine eg_callV1 0 0 gk_X2_leastSame gi_X2_leastSame (by assumption) rfl gl_RX0_120 rfl (Nat.le_of_ble_eq_true rfl) (Nat.le_of_ble_eq_true rfl) (Nat.zero_le _) (Nat.zero_le _) (by omega) dX0_attempt_100 ?_
      refine sp_X2_leastSame (k := k) (by omega) gV (by omega) C3.1 (fun hN => ?_) (fun z hz _ heq => ?_)
      · refine eg_if_ge 115 dX0_attempt_103 (by decide) (fun z => absurd z (by decide)) (fun _ => ?_)
        refine eg_aload_n dX0_attempt_106 rfl rfl ?_
        refine eg_iload_n dX0_attempt_107 rfl rfl ?_
        refine eg_iconst dX0_attempt_108 (v := nI 1) (by decide) ?_
        refine eg_iadd dX0_attempt_109 ?_
        refine eg_topi (nI_add p 1) ?_
        refine eg_iload dX0_attempt_110 rfl ?_
        refine eg_callV2 0 0 gk_X0_fill gi_X0_fill g0 rfl gl_RX0_71 rfl (Nat.le_of_ble_eq_true rfl) (Nat.le_of_ble_eq_true rfl) (Nat.zero_le _) (Nat.zero_le _) (by omega) dX0_attempt_112 ?_
        refine hFS _ _ _ _ (p + 1) r _ _ _ _ _ M3 (by omega) (by omega) hr C3 P3 S3 (fun M4 f4 p4 s4 => ?_)
        refine eg_vret rfl dX0_attempt_115 (hQ M4 (F3.tr f4) p4.dn ?_)
        rw [ss_att_new hL hr0 (fun u z1 z2 => by
          obtain ⟨s, y1, y2⟩ := hN u z1
          rw [x3 s y1, o3 _ (by omega), R2 u s z1 y1] at y2
          exact y2 (z2 s y1))]
        exact s4
      · refine eg_if_ge 115 dX0_attempt_103 (by decide) (fun _ => ?_) (fun y => absurd (nI_pos' (by omega)) y)
        refine eg_vret rfl dX0_attempt_115 (hQ M3 F3 P3.dn ?_)
        rw [ss_att_old hL hr0 (fun y => y z hz (fun s y1 => by
          have := heq s y1
          rw [x3 s y1, o3 _ (by omega), R2 z s hz y1] at this
          exact this))]
        exact S3
    · have hr0 : r = 0 := (nI_eq (by omega) (by omega)).mp (c2.trans nI_0.symm)
      refine eg_aload_n dX0_attempt_55 rfl rfl ?_
      refine eg_getR gf_RX0_21 rfl (by assumption) (by assumption) dX0_attempt_56 ?_
      refine eg_aload_n dX0_attempt_59 rfl rfl ?_
      refine eg_getR gf_RX0_15 rfl (by assumption) (by assumption) dX0_attempt_60 ?_
      refine eg_iload_n dX0_attempt_63 rfl rfl ?_
      refine eg_iload_n dX0_attempt_64 rfl rfl ?_
      refine eg_iload dX0_attempt_65 rfl ?_
      refine eg_callV4 0 0 gk_X2_makes gi_X2_makes (by assumption) rfl gl_RX0_110 rfl (Nat.le_of_ble_eq_true rfl) (Nat.le_of_ble_eq_true rfl) (Nat.zero_le _) (Nat.zero_le _) (by omega) dX0_attempt_67 ?_
      refine sp_X2_makes (by omega) gV ho (by omega) (by omega) g4 C2.1 (fun hall => ?_) (fun hex => ?_)
      · refine eg_if_eq 80 dX0_attempt_70 (by decide) (fun z => absurd z (by decide)) (fun _ => ?_)
        refine eg_aload_n dX0_attempt_73 rfl rfl ?_
        refine eg_iload_n dX0_attempt_74 rfl rfl ?_
        refine eg_iload dX0_attempt_75 rfl ?_
        refine eg_callV2 0 0 gk_X0_hit gi_X0_hit g0 rfl gl_RX0_114 rfl (Nat.le_of_ble_eq_true rfl) (Nat.le_of_ble_eq_true rfl) (Nat.zero_le _) (Nat.zero_le _) (by omega) dX0_attempt_77 ?_
        refine sp_X0_hit (A := 2 ^ (w * n)) (V := ss_up V (n + k + p) (M2 (h + 3 + 2 + (n + k + p)))) (by omega) hs S2 ⟨fun u s z1 z2 => ?_, K2⟩ (by omega) (by omega) (by show σ.2.1 + 1 ≤ σ.1 + 1; omega) c6 (fun M3 f3 p3 s3 => ?_)
        · by_cases e : u = n + k + p
          · subst e; rw [ss_up_e]
          · rw [ss_up_n e]; exact R2 u s (by omega) z2
        · refine eg_vret rfl dX0_attempt_80 (hQ M3 (F2.tr f3) p3.dn ?_)
          rw [ss_att_hit hL hr0 (fun s z => by rw [← R2 a s (by omega) z, ← R2 b s (by omega) z, hall s z]; exact T2 s z)]
          exact s3
      · refine eg_if_eq 80 dX0_attempt_70 (by decide) (fun _ => ?_) (fun z => absurd (show nI 0 = 0 from rfl) z)
        refine eg_vret rfl dX0_attempt_80 (hQ M2 F2 ⟨R2, fun j z => ?_⟩ ?_)
        · have := K2 j (by omega)
          rw [ss_up_n (show j ≠ p by omega), ss_up_n (show j ≠ p by omega), ss_up_n (show j ≠ p by omega)] at this
          exact this
        · rw [ss_att_no hL hr0 (fun z => by
            obtain ⟨s, z1, z2⟩ := hex
            rw [R2 a s (by omega) z1, R2 b s (by omega) z1, T2 s z1] at z2
            exact z2 (z s z1))]
          exact S2
  · refine eg_aload_n dX0_attempt_11 rfl rfl ?_
    refine eg_iconst dX0_attempt_12 (v := nI 1) (by decide) ?_
    refine eg_putI gp_RX0_56 (fun q => by cases q) rfl rfl rfl g0 dX0_attempt_13 ?_
    have hL : L ≤ σ.1 := Nat.le_of_not_lt (fun z => c (nI_lt z (by omega)))
    rw [ss_att_sp hL] at hQ
    refine eg_vret rfl dX0_attempt_16 (hQ _ ⟨fun q z => eg_set_ne (by omega), fun q z1 z2 => eg_set_ne (by omega), fun j z1 z2 z3 => eg_set_j z1⟩ ⟨fun u s z1 z2 => ?_, fun j z1 => ?_⟩ ⟨?_, ?_, ?_, fun z => ?_, e5, e6⟩)
    · rw [eg_set_ne (by omega)]; exact hP.1 u s z1 z2
    · rw [eg_set_ne (by omega), eg_set_ne (by omega), eg_set_ne (by omega)]; exact hP.2 j z1
    · exact eg_set_eq
    · rw [eg_set_j (by decide)]; exact e2
    · rw [eg_set_j (by decide)]; exact e3
    · exact (e4 z).eq (fun q z1 z2 => eg_set_ne (by omega))
