/-! Values.copyGiven; Hunt.prepare, findGiven, run -/
set_option maxHeartbeats 4000000 in
theorem lp_X2_copyGiven {l : Launch} {E : eg_E} {d kb nb : Nat} {Q : Option Value → eg_G → eg_I → Prop} {G : eg_G} {v u w n k : Nat} {M0 : eg_I} (hd : 1 ≤ d) (hs : sh_V G v) (hu : sh_V G u) (hvu : u + 20 ≤ v ∨ v + 20 ≤ u) : ∀ (t s : Nat) (M : eg_I), in_V M v w n k → s + t = n + k → ((∀ x z, x < s → z < 2 ^ (w * n) → M (v + 2 + x) z = M0 (u + 2 + x) z) ∧ ∀ q, q ≠ v → ¬ (v + 2 ≤ q ∧ q < v + 2 + (n + k)) → M q = M0 q) → (∀ M', (in_V M' v w n k ∧ (∀ x s, x < n + k → s < 2 ^ (w * n) → M' (v + 2 + x) s = M0 (u + 2 + x) s) ∧ ∀ q, q ≠ v → ¬ (v + 2 ≤ q ∧ q < v + 2 + (n + k)) → M' q = M0 q) → Q none G M') → eg_J l E mX2_copyGiven d kb nb Q 42 [some (.ref v), some (.ref u), some (.int (nI s))] [] G M := by
  intro t
  induction t with
  | zero =>
    intro s M h hst hi hQ
    obtain ⟨hs1, hs2, hs3, hs4⟩ := id hs
    obtain ⟨hu1, hu2, hu3, hu4⟩ := id hu
    obtain ⟨h1, h2, h3, h4, h5, hw1, hw4, hn1, hn2, hk4⟩ := id h
    have hA := wd_asg hw4 hn2
    refine eg_iload_n dX2_copyGiven_42 rfl rfl ?_
    refine eg_aload_n dX2_copyGiven_43 rfl rfl ?_
    refine eg_callV0 0 0 gk_X2_given gi_X2_given (by assumption) rfl gl_RX2_32 rfl (Nat.le_of_ble_eq_true rfl) (Nat.le_of_ble_eq_true rfl) (Nat.zero_le _) (Nat.zero_le _) (by omega) dX2_copyGiven_44 ?_
    refine sp_X2_given hs1 h ?_
    refine eg_icmp_ge 77 dX2_copyGiven_47 (by decide) (fun c47 => ?_) (fun c47 => absurd (nI_le (by omega) (by omega)) c47)
    exact eg_vret rfl dX2_copyGiven_77 (hQ M ⟨h, fun x z g1 g2 => hi.1 x z (by omega) g2, hi.2⟩)
  | succ t ih =>
    intro s M h hst hi hQ
    obtain ⟨hs1, hs2, hs3, hs4⟩ := id hs
    obtain ⟨hu1, hu2, hu3, hu4⟩ := id hu
    obtain ⟨h1, h2, h3, h4, h5, hw1, hw4, hn1, hn2, hk4⟩ := id h
    have hA := wd_asg hw4 hn2
    refine eg_iload_n dX2_copyGiven_42 rfl rfl ?_
    refine eg_aload_n dX2_copyGiven_43 rfl rfl ?_
    refine eg_callV0 0 0 gk_X2_given gi_X2_given (by assumption) rfl gl_RX2_32 rfl (Nat.le_of_ble_eq_true rfl) (Nat.le_of_ble_eq_true rfl) (Nat.zero_le _) (Nat.zero_le _) (by omega) dX2_copyGiven_44 ?_
    refine sp_X2_given hs1 h ?_
    refine eg_icmp_ge 77 dX2_copyGiven_47 (by decide) (fun c47 => absurd c47 (nI_ge (by omega) (by omega))) (fun c47 => ?_)
    refine eg_aload_n dX2_copyGiven_50 rfl rfl ?_
    refine eg_getR gf_RX2_11 rfl (by assumption) (by assumption) dX2_copyGiven_51 ?_
    refine eg_iload_n dX2_copyGiven_54 rfl rfl ?_
    refine eg_aaldN rfl (by assumption) (by omega) (by decide) (hu4 s (by omega)).1 dX2_copyGiven_55 ?_
    refine eg_iconst dX2_copyGiven_56 (v := nI 0) (by decide) ?_
    refine eg_aload_n dX2_copyGiven_57 rfl rfl ?_
    refine eg_getR gf_RX2_11 rfl (by assumption) (by assumption) dX2_copyGiven_58 ?_
    refine eg_iload_n dX2_copyGiven_61 rfl rfl ?_
    refine eg_aaldN rfl (by assumption) (by omega) (by decide) (hs4 s (by omega)).1 dX2_copyGiven_62 ?_
    refine eg_iconst dX2_copyGiven_63 (v := nI 0) (by decide) ?_
    refine eg_aload_n dX2_copyGiven_64 rfl rfl ?_
    refine eg_getI gf_RX2_26 rfl (by assumption) dX2_copyGiven_65 ?_
    refine eg_topi h5 ?_
    refine eg_copy0 gl_RX2_36 (hu4 s (by omega)).2 (hs4 s (by omega)).2 (by omega) (by omega) (by omega) (Nat.le_of_ble_eq_true rfl) (by omega) dX2_copyGiven_68 ?_
    refine eg_iinc dX2_copyGiven_71 (by decide) rfl (eg_inc s) rfl ?_
    refine eg_goto 42 dX2_copyGiven_74 (by decide) ?_
    refine ih (s + 1) _ (h.eq ?_) (by omega) ⟨fun x z g1 g2 => ?_, fun q g1 g2 => ?_⟩ hQ
    · funext j; exact if_neg (by omega)
    · by_cases e : x = s
      · subst e
        show (if v + 2 + x = v + 2 + x ∧ z < 2 ^ (w * n) then M (u + 2 + x) z else _) = _
        rw [if_pos ⟨rfl, g2⟩, hi.2 _ (by omega) (by omega)]
      · show (if v + 2 + x = v + 2 + s ∧ z < 2 ^ (w * n) then _ else M (v + 2 + x) z) = _
        rw [if_neg (by omega)]
        exact hi.1 x z (by omega) g2
    · rw [← hi.2 q g1 g2]
      funext j
      exact if_neg (by omega)
set_option maxHeartbeats 4000000 in
theorem sp_X2_copyGiven {l : Launch} {E : eg_E} {d kb nb : Nat} {Q : Option Value → eg_G → eg_I → Prop} {G : eg_G} {M : eg_I} {v u w n k : Nat} (hd : 1 ≤ d) (hs : sh_V G v) (hu : sh_V G u) (hvu : u + 20 ≤ v ∨ v + 20 ≤ u) (h : in_V M u w n k) (hQ : ∀ M', (in_V M' v w n k ∧ (∀ x s, x < n + k → s < 2 ^ (w * n) → M' (v + 2 + x) s = M (u + 2 + x) s) ∧ ∀ q, q ≠ v → ¬ (v + 2 ≤ q ∧ q < v + 2 + (n + k)) → M' q = M q) → Q none G M') : eg_J l E mX2_copyGiven d kb nb Q 0 [some (.ref v), some (.ref u), none] [] G M := by
  obtain ⟨hs1, hs2, hs3, hs4⟩ := id hs
  obtain ⟨hu1, hu2, hu3, hu4⟩ := id hu
  obtain ⟨h1, h2, h3, h4, h5, hw1, hw4, hn1, hn2, hk4⟩ := id h
  refine eg_aload_n dX2_copyGiven_0 rfl rfl ?_
  refine eg_aload_n dX2_copyGiven_1 rfl rfl ?_
  refine eg_getI gf_RX2_16 rfl (by assumption) dX2_copyGiven_2 ?_
  refine eg_topi h1 ?_
  refine eg_putI gp_RX2_16 (fun q => by cases q) rfl rfl rfl (by assumption) dX2_copyGiven_5 ?_
  refine eg_aload_n dX2_copyGiven_8 rfl rfl ?_
  refine eg_aload_n dX2_copyGiven_9 rfl rfl ?_
  refine eg_getI gf_RX2_20 rfl (by assumption) dX2_copyGiven_10 ?_
  refine eg_topi (show _ = nI (2 ^ w - 1) by rw [eg_set_ne (by omega)]; exact h2) ?_
  refine eg_putI gp_RX2_20 (fun q => by cases q) rfl rfl rfl (by assumption) dX2_copyGiven_13 ?_
  refine eg_aload_n dX2_copyGiven_16 rfl rfl ?_
  refine eg_aload_n dX2_copyGiven_17 rfl rfl ?_
  refine eg_getI gf_RX2_23 rfl (by assumption) dX2_copyGiven_18 ?_
  refine eg_topi (show _ = nI (n) by rw [eg_set_ne (by omega), eg_set_ne (by omega)]; exact h3) ?_
  refine eg_putI gp_RX2_23 (fun q => by cases q) rfl rfl rfl (by assumption) dX2_copyGiven_21 ?_
  refine eg_aload_n dX2_copyGiven_24 rfl rfl ?_
  refine eg_aload_n dX2_copyGiven_25 rfl rfl ?_
  refine eg_getI gf_RX2_29 rfl (by assumption) dX2_copyGiven_26 ?_
  refine eg_topi (show _ = nI (k) by rw [eg_set_ne (by omega), eg_set_ne (by omega), eg_set_ne (by omega)]; exact h4) ?_
  refine eg_putI gp_RX2_29 (fun q => by cases q) rfl rfl rfl (by assumption) dX2_copyGiven_29 ?_
  refine eg_aload_n dX2_copyGiven_32 rfl rfl ?_
  refine eg_aload_n dX2_copyGiven_33 rfl rfl ?_
  refine eg_getI gf_RX2_26 rfl (by assumption) dX2_copyGiven_34 ?_
  refine eg_topi (show _ = nI (2 ^ (w * n)) by rw [eg_set_ne (by omega), eg_set_ne (by omega), eg_set_ne (by omega), eg_set_ne (by omega)]; exact h5) ?_
  refine eg_putI gp_RX2_26 (fun q => by cases q) rfl rfl rfl (by assumption) dX2_copyGiven_37 ?_
  refine eg_iconst dX2_copyGiven_40 (v := nI 0) (by decide) ?_
  refine eg_istore_n dX2_copyGiven_41 rfl (by decide) rfl ?_
  refine lp_X2_copyGiven (M0 := M) hd hs hu hvu (n + k) 0 _ ⟨?_, ?_, ?_, ?_, ?_, hw1, hw4, hn1, hn2, hk4⟩ (by omega) ⟨fun x z g1 => absurd g1 (by omega), fun q g1 g2 => ?_⟩ hQ
  · rw [eg_set_j (by decide), eg_set_j (by decide), eg_set_j (by decide), eg_set_j (by decide), eg_set_eq]
  · rw [eg_set_j (by decide), eg_set_j (by decide), eg_set_j (by decide), eg_set_eq]
  · rw [eg_set_j (by decide), eg_set_j (by decide), eg_set_eq]
  · rw [eg_set_j (by decide), eg_set_eq]
  · rw [eg_set_eq]
  · rw [eg_set_ne g1, eg_set_ne g1, eg_set_ne g1, eg_set_ne g1, eg_set_ne g1]
set_option maxHeartbeats 4000000 in
theorem sp_X0_prepare {l : Launch} {E : eg_E} {d kb nb : Nat} {Q : Option Value → eg_G → eg_I → Prop} {G : eg_G} {M : eg_I} {h v w n k ca ta : Nat} (hd : 2 ≤ d) (hs : sh_H G h) (hu : sh_V G v) (hv : v + 20 ≤ h) (hca : G.2.1 ca = some (.inr (.int, 13))) (hta : G.2.1 ta = some (.inr (.int, 256))) (hca2 : ca < h) (hta2 : ta < h) (hin : in_V M v w n k) (hQ : ∀ M', (in_V M' (h + 3) w n k ∧ (∀ x s, x < n + k → s < 2 ^ (w * n) → M' (h + 3 + 2 + x) s = M (v + 2 + x) s) ∧ (∀ o, o < 13 → M' (h + 1) o = M ca o) ∧ (∀ s, s < 256 → M' (h + 2) s = M ta s) ∧ ∀ q, q < h + 1 ∨ h + 23 ≤ q → M' q = M q) → Q none G M') : eg_J l E mX0_prepare d kb nb Q 0 [some (.ref h), some (.ref v), some (.ref ca), some (.ref ta)] [] G M := by
  obtain ⟨g0, g1, g2, g3, g4, g5, gV, g6, gR, g7, gF⟩ := id hs
  obtain ⟨gv1, gv2, gv3, gv4⟩ := id gV
  obtain ⟨gr0, gr1, gr2, gr3, gr4, gr5, gr6⟩ := id gR
  obtain ⟨gf0, gf1, gf2, gf3, gf4, gf5, gf6⟩ := id gF
  obtain ⟨i1, i2, i3, i4, i5, hw1, hw4, hn1, hn2, hk4⟩ := id hin
  refine eg_aload_n dX0_prepare_0 rfl rfl ?_
  refine eg_getR gf_RX0_21 rfl (by assumption) (by assumption) dX0_prepare_1 ?_
  refine eg_aload_n dX0_prepare_4 rfl rfl ?_
  refine eg_callV1 0 0 gk_X2_copyGiven gi_X2_copyGiven (by assumption) rfl gl_RX0_39 rfl (Nat.le_of_ble_eq_true rfl) (Nat.le_of_ble_eq_true rfl) (Nat.zero_le _) (Nat.zero_le _) (by omega) dX0_prepare_5 ?_
  refine sp_X2_copyGiven (by omega) gV hu (by omega) hin (fun M1 h1 => ?_)
  refine eg_aload_n dX0_prepare_8 rfl rfl ?_
  refine eg_iconst dX0_prepare_9 (v := nI 0) (by decide) ?_
  refine eg_aload_n dX0_prepare_10 rfl rfl ?_
  refine eg_getR gf_RX0_9 rfl (by assumption) (by assumption) dX0_prepare_11 ?_
  refine eg_iconst dX0_prepare_14 (v := nI 0) (by decide) ?_
  refine eg_bipush dX0_prepare_15 (v := nI 13) (by decide) ?_
  refine eg_copy0 gl_RX0_43 hca g2 (N0 := 13) (N1 := 13) (cnt := 13) (by omega) (by omega) (by omega) (Nat.le_of_ble_eq_true rfl) (by omega) dX0_prepare_17 ?_
  refine eg_aload_n dX0_prepare_20 rfl rfl ?_
  refine eg_iconst dX0_prepare_21 (v := nI 0) (by decide) ?_
  refine eg_aload_n dX0_prepare_22 rfl rfl ?_
  refine eg_getR gf_RX0_15 rfl (by assumption) (by assumption) dX0_prepare_23 ?_
  refine eg_iconst dX0_prepare_26 (v := nI 0) (by decide) ?_
  refine eg_sipush dX0_prepare_27 (v := nI 256) (by decide) ?_
  refine eg_copy0 gl_RX0_43 hta g4 (N0 := 256) (N1 := 256) (cnt := 256) (by omega) (by omega) (by omega) (Nat.le_of_ble_eq_true rfl) (by omega) dX0_prepare_30 ?_
  exact eg_vret rfl dX0_prepare_33 (hQ _ ⟨h1.1.eq (by funext j; show (if h + 3 = h + 2 ∧ _ then _ else (if h + 3 = h + 1 ∧ _ then _ else M1 (h + 3) j)) = _; rw [if_neg (by omega), if_neg (by omega)]), fun x s g1 g2 => by
        show (if h + 3 + 2 + x = h + 2 ∧ _ then _ else (if h + 3 + 2 + x = h + 1 ∧ _ then _ else M1 (h + 3 + 2 + x) s)) = _
        rw [if_neg (by omega), if_neg (by omega)]
        exact h1.2.1 x s g1 g2, fun o ho => by
        show (if h + 1 = h + 2 ∧ _ then _ else (if h + 1 = h + 1 ∧ o < 13 then M1 ca o else _)) = _
        rw [if_neg (by omega), if_pos ⟨rfl, ho⟩, h1.2.2 ca (by omega) (by omega)], fun s hsz => by
        show (if h + 2 = h + 2 ∧ s < 256 then (if ta = h + 1 ∧ s < 13 then M1 ca s else M1 ta s) else _) = _
        rw [if_pos ⟨rfl, hsz⟩, if_neg (by omega), h1.2.2 ta (by omega) (by omega)], fun q hq => by
        rw [← h1.2.2 q (by omega) (by omega)]
        funext j
        show (if q = h + 2 ∧ _ then _ else (if q = h + 1 ∧ _ then _ else M1 q j)) = _
        rw [if_neg (by omega), if_neg (by omega)]⟩)
set_option maxHeartbeats 4000000 in
theorem sp_X0_findGiven {l : Launch} {E : eg_E} {d kb nb : Nat} {Q : Option Value → eg_G → eg_I → Prop} {G : eg_G} {M : eg_I} {h w n k : Nat} (hd : 2 ≤ d) (hs : sh_H G h) (hin : in_V M (h + 3) w n k) (hS : ∀ v, v < n + k → (∀ u, u < v → (∃ j, j < 2 ^ (w * n) ∧ ¬ M (h + 3 + 2 + u) j = M (h + 2) j)) → (∀ j, j < 2 ^ (w * n) → M (h + 3 + 2 + v) j = M (h + 2) j) → Q none G (eg_set (eg_set (eg_set M (h + 27) 3 (nI 0)) (h + 27) 4 (nI v)) h 10 (nI 1))) (hN : (∀ u, u < n + k → (∃ j, j < 2 ^ (w * n) ∧ ¬ M (h + 3 + 2 + u) j = M (h + 2) j)) → Q none G M) : eg_J l E mX0_findGiven d kb nb Q 0 [some (.ref h), none] [] G M := by
  obtain ⟨g0, g1, g2, g3, g4, g5, gV, g6, gR, g7, gF⟩ := id hs
  obtain ⟨gv1, gv2, gv3, gv4⟩ := id gV
  obtain ⟨gr0, gr1, gr2, gr3, gr4, gr5, gr6⟩ := id gR
  obtain ⟨gf0, gf1, gf2, gf3, gf4, gf5, gf6⟩ := id gF
  obtain ⟨i1, i2, i3, i4, i5, hw1, hw4, hn1, hn2, hk4⟩ := id hin
  refine eg_aload_n dX0_findGiven_0 rfl rfl ?_
  refine eg_getR gf_RX0_21 rfl (by assumption) (by assumption) dX0_findGiven_1 ?_
  refine eg_aload_n dX0_findGiven_4 rfl rfl ?_
  refine eg_getR gf_RX0_21 rfl (by assumption) (by assumption) dX0_findGiven_5 ?_
  refine eg_callV0 0 0 gk_X2_given gi_X2_given (by assumption) rfl gl_RX0_75 rfl (Nat.le_of_ble_eq_true rfl) (Nat.le_of_ble_eq_true rfl) (Nat.zero_le _) (Nat.zero_le _) (by omega) dX0_findGiven_8 ?_
  refine sp_X2_given gv1 hin ?_
  refine eg_aload_n dX0_findGiven_11 rfl rfl ?_
  refine eg_getR gf_RX0_15 rfl (by assumption) (by assumption) dX0_findGiven_12 ?_
  refine eg_callV2 0 0 gk_X2_leastBelow gi_X2_leastBelow (by assumption) rfl gl_RX0_79 rfl (Nat.le_of_ble_eq_true rfl) (Nat.le_of_ble_eq_true rfl) (Nat.zero_le _) (Nat.zero_le _) (by omega) dX0_findGiven_15 ?_
  refine sp_X2_leastBelow (k := k) (by omega) gV g4 (by omega) hin (fun z1 => ?_) (fun v z1 z2 z3 => ?_)
  · refine eg_istore_n dX0_findGiven_18 rfl (by decide) rfl ?_
    refine eg_iload_n dX0_findGiven_19 rfl rfl ?_
    refine eg_if_lt 36 dX0_findGiven_20 (by decide) (fun _ => ?_) (fun z => absurd (by decide) z)
    exact eg_vret rfl dX0_findGiven_36 (hN z1)
  · refine eg_istore_n dX0_findGiven_18 rfl (by decide) rfl ?_
    refine eg_iload_n dX0_findGiven_19 rfl rfl ?_
    refine eg_if_lt 36 dX0_findGiven_20 (by decide) (fun z => absurd z (nI_pos (by omega))) (fun _ => ?_)
    refine eg_aload_n dX0_findGiven_23 rfl rfl ?_
    refine eg_getR gf_RX0_32 rfl g0 g7 dX0_findGiven_24 ?_
    refine eg_iload_n dX0_findGiven_27 rfl rfl ?_
    refine eg_callV1 0 0 gk_X1_empty gi_X1_empty gf0 rfl gl_RX0_83 rfl (Nat.le_of_ble_eq_true rfl) (Nat.le_of_ble_eq_true rfl) (Nat.zero_le _) (Nat.zero_le _) (by omega) dX0_findGiven_28 ?_
    refine sp_X1_empty gF ?_
    refine eg_aload_n dX0_findGiven_31 rfl rfl ?_
    refine eg_iconst dX0_findGiven_32 (v := nI 1) (by decide) ?_
    refine eg_putI gp_RX0_65 (fun q => by cases q) rfl rfl rfl g0 dX0_findGiven_33 ?_
    exact eg_vret rfl dX0_findGiven_36 (hS v z1 z2 z3)
def hu_E (M M' : eg_I) (h : Nat) : Prop := ∀ q, ¬ (h ≤ q ∧ q < h + 31) → M' q = M q
set_option maxHeartbeats 4000000 in
theorem lp_X0_run1 {h n k L rd : Nat} {σ : ss_S} {x1 x2 x3 : Int32} {l5 : Option Value} {M0 M : eg_I} {l : Launch} {E : eg_E} {G : eg_G} {d kb nb : Nat} {Q : Option Value → eg_G → eg_I → Prop} (hs : sh_H G h) (hE : hu_E M0 M h) (hS : hu_S M h (n + k) L σ) (hL : L ≤ 30000) (h9 : M h 9 = nI rd) (hQ : (∀ M', hu_E M0 M' h → M' h 8 = nI (σ, rd).1.1 → M' h 9 = nI (σ, rd).2 → M' h 10 = nI (σ, rd).1.2.1 → M' h 11 = ss_ans (σ, rd) → (¬ ((σ, rd).1.2.2.1 = true ∨ (σ, rd).1.2.1 = 0) → in_R M' (h + 27) (σ, rd).1.2.2.2.1 (σ, rd).1.2.2.2.2.1 (σ, rd).1.2.2.2.2.2.1 (σ, rd).1.2.2.2.2.2.2 (n + k + (σ, rd).1.2.2.2.1 - 1)) → Q (some (.int (ss_ans (σ, rd)))) G M')) : eg_J l E mX0_run d kb nb Q 87 [some (.ref h), some (.int x1), some (.int x2), some (.int x3), some (.int (nI rd)), l5] [] G M := by
  obtain ⟨g0, g1, g2, g3, g4, g5, gV, g6, gR, g7, gF⟩ := id hs
  obtain ⟨gv1, gv2, gv3, gv4⟩ := id gV
  obtain ⟨gr0, gr1, gr2, gr3, gr4, gr5, gr6⟩ := id gR
  obtain ⟨gf0, gf1, gf2, gf3, gf4, gf5, gf6⟩ := id gF
  obtain ⟨e1, e2, e3, e4, e5, e6⟩ := id hS
  refine eg_aload_n dX0_run_87 rfl rfl ?_
  refine eg_getI gf_RX0_56 rfl (by assumption) dX0_run_88 ?_
  refine eg_topi e1 ?_
  refine eg_if_eq 103 dX0_run_91 (by decide) (fun c => ?_) (fun c => ?_)
  · refine eg_aload_n dX0_run_103 rfl rfl ?_
    refine eg_aload_n dX0_run_104 rfl rfl ?_
    refine eg_getI gf_RX0_65 rfl (by assumption) dX0_run_105 ?_
    refine eg_topi e3 ?_
    refine eg_if_ne 116 dX0_run_108 (by decide) (fun c2 => ?_) (fun c2 => ?_)
    · refine eg_iload dX0_run_116 rfl ?_
      refine eg_putI gp_RX0_35 (fun q => by cases q) rfl rfl rfl (by assumption) dX0_run_118 ?_
      refine eg_aload_n dX0_run_121 rfl rfl ?_
      refine eg_getI gf_RX0_35 rfl (by assumption) dX0_run_122 ?_
      refine eg_topi eg_set_eq ?_
      first
        | (have hsp : σ.2.2.1 = true := Classical.byContradiction fun z => c (by rw [if_neg z])
           have ea : ss_ans (σ, rd) = -6 := if_pos hsp
           rw [ea] at hQ
           exact eg_iret rfl dX0_run_125 (by
             refine hQ _ (fun q z => ?_) ?_ ?_ ?_ eg_set_eq (fun z => ?_)
             · rw [eg_set_ne (by omega)]; exact hE q z
             · rw [eg_set_j (by decide)]; exact e2
             · rw [eg_set_j (by decide)]; exact h9
             · rw [eg_set_j (by decide)]; exact e3
             · exact (e4 (by show 0 < σ.2.1; simp only [not_or] at z; omega)).eq (fun q z1 z2 => eg_set_ne (by omega))))
        | (have hsp : ¬ σ.2.2.1 = true := fun z => absurd (c.symm.trans (if_pos z)) (by decide)
           have hh : σ.2.1 = 0 := (nI_eq (by omega) (by omega)).mp (c2.trans nI_0.symm)
           have ea : ss_ans (σ, rd) = -5 := by unfold ss_ans; rw [if_neg hsp, if_pos hh]
           rw [ea] at hQ
           exact eg_iret rfl dX0_run_125 (by
             refine hQ _ (fun q z => ?_) ?_ ?_ ?_ eg_set_eq (fun z => ?_)
             · rw [eg_set_ne (by omega)]; exact hE q z
             · rw [eg_set_j (by decide)]; exact e2
             · rw [eg_set_j (by decide)]; exact h9
             · rw [eg_set_j (by decide)]; exact e3
             · exact (e4 (by show 0 < σ.2.1; simp only [not_or] at z; omega)).eq (fun q z1 z2 => eg_set_ne (by omega))))
        | (have hsp : ¬ σ.2.2.1 = true := fun z => absurd (c.symm.trans (if_pos z)) (by decide)
           have hh : ¬ σ.2.1 = 0 := fun z => c2 (by rw [z]; rfl)
           have ea : ss_ans (σ, rd) = nI rd := by unfold ss_ans; rw [if_neg hsp, if_neg hh]
           rw [ea] at hQ
           exact eg_iret rfl dX0_run_125 (by
             refine hQ _ (fun q z => ?_) ?_ ?_ ?_ eg_set_eq (fun z => ?_)
             · rw [eg_set_ne (by omega)]; exact hE q z
             · rw [eg_set_j (by decide)]; exact e2
             · rw [eg_set_j (by decide)]; exact h9
             · rw [eg_set_j (by decide)]; exact e3
             · exact (e4 (by show 0 < σ.2.1; simp only [not_or] at z; omega)).eq (fun q z1 z2 => eg_set_ne (by omega))))
    · refine eg_bipush dX0_run_111 (v := -5) (by decide) ?_
      refine eg_goto 118 dX0_run_113 (by decide) ?_
      refine eg_putI gp_RX0_35 (fun q => by cases q) rfl rfl rfl (by assumption) dX0_run_118 ?_
      refine eg_aload_n dX0_run_121 rfl rfl ?_
      refine eg_getI gf_RX0_35 rfl (by assumption) dX0_run_122 ?_
      refine eg_topi eg_set_eq ?_
      first
        | (have hsp : σ.2.2.1 = true := Classical.byContradiction fun z => c (by rw [if_neg z])
           have ea : ss_ans (σ, rd) = -6 := if_pos hsp
           rw [ea] at hQ
           exact eg_iret rfl dX0_run_125 (by
             refine hQ _ (fun q z => ?_) ?_ ?_ ?_ eg_set_eq (fun z => ?_)
             · rw [eg_set_ne (by omega)]; exact hE q z
             · rw [eg_set_j (by decide)]; exact e2
             · rw [eg_set_j (by decide)]; exact h9
             · rw [eg_set_j (by decide)]; exact e3
             · exact (e4 (by show 0 < σ.2.1; simp only [not_or] at z; omega)).eq (fun q z1 z2 => eg_set_ne (by omega))))
        | (have hsp : ¬ σ.2.2.1 = true := fun z => absurd (c.symm.trans (if_pos z)) (by decide)
           have hh : σ.2.1 = 0 := (nI_eq (by omega) (by omega)).mp (c2.trans nI_0.symm)
           have ea : ss_ans (σ, rd) = -5 := by unfold ss_ans; rw [if_neg hsp, if_pos hh]
           rw [ea] at hQ
           exact eg_iret rfl dX0_run_125 (by
             refine hQ _ (fun q z => ?_) ?_ ?_ ?_ eg_set_eq (fun z => ?_)
             · rw [eg_set_ne (by omega)]; exact hE q z
             · rw [eg_set_j (by decide)]; exact e2
             · rw [eg_set_j (by decide)]; exact h9
             · rw [eg_set_j (by decide)]; exact e3
             · exact (e4 (by show 0 < σ.2.1; simp only [not_or] at z; omega)).eq (fun q z1 z2 => eg_set_ne (by omega))))
        | (have hsp : ¬ σ.2.2.1 = true := fun z => absurd (c.symm.trans (if_pos z)) (by decide)
           have hh : ¬ σ.2.1 = 0 := fun z => c2 (by rw [z]; rfl)
           have ea : ss_ans (σ, rd) = nI rd := by unfold ss_ans; rw [if_neg hsp, if_neg hh]
           rw [ea] at hQ
           exact eg_iret rfl dX0_run_125 (by
             refine hQ _ (fun q z => ?_) ?_ ?_ ?_ eg_set_eq (fun z => ?_)
             · rw [eg_set_ne (by omega)]; exact hE q z
             · rw [eg_set_j (by decide)]; exact e2
             · rw [eg_set_j (by decide)]; exact h9
             · rw [eg_set_j (by decide)]; exact e3
             · exact (e4 (by show 0 < σ.2.1; simp only [not_or] at z; omega)).eq (fun q z1 z2 => eg_set_ne (by omega))))
  · refine eg_aload_n dX0_run_94 rfl rfl ?_
    refine eg_bipush dX0_run_95 (v := -6) (by decide) ?_
    refine eg_putI gp_RX0_35 (fun q => by cases q) rfl rfl rfl (by assumption) dX0_run_97 ?_
    refine eg_goto 121 dX0_run_100 (by decide) ?_
    refine eg_aload_n dX0_run_121 rfl rfl ?_
    refine eg_getI gf_RX0_35 rfl (by assumption) dX0_run_122 ?_
    refine eg_topi eg_set_eq ?_
    first
      | (have hsp : σ.2.2.1 = true := Classical.byContradiction fun z => c (by rw [if_neg z])
         have ea : ss_ans (σ, rd) = -6 := if_pos hsp
         rw [ea] at hQ
         exact eg_iret rfl dX0_run_125 (by
           refine hQ _ (fun q z => ?_) ?_ ?_ ?_ eg_set_eq (fun z => ?_)
           · rw [eg_set_ne (by omega)]; exact hE q z
           · rw [eg_set_j (by decide)]; exact e2
           · rw [eg_set_j (by decide)]; exact h9
           · rw [eg_set_j (by decide)]; exact e3
           · exact (e4 (by show 0 < σ.2.1; simp only [not_or] at z; omega)).eq (fun q z1 z2 => eg_set_ne (by omega))))
      | (have hsp : ¬ σ.2.2.1 = true := fun z => absurd (c.symm.trans (if_pos z)) (by decide)
         have hh : σ.2.1 = 0 := (nI_eq (by omega) (by omega)).mp (c2.trans nI_0.symm)
         have ea : ss_ans (σ, rd) = -5 := by unfold ss_ans; rw [if_neg hsp, if_pos hh]
         rw [ea] at hQ
         exact eg_iret rfl dX0_run_125 (by
           refine hQ _ (fun q z => ?_) ?_ ?_ ?_ eg_set_eq (fun z => ?_)
           · rw [eg_set_ne (by omega)]; exact hE q z
           · rw [eg_set_j (by decide)]; exact e2
           · rw [eg_set_j (by decide)]; exact h9
           · rw [eg_set_j (by decide)]; exact e3
           · exact (e4 (by show 0 < σ.2.1; simp only [not_or] at z; omega)).eq (fun q z1 z2 => eg_set_ne (by omega))))
      | (have hsp : ¬ σ.2.2.1 = true := fun z => absurd (c.symm.trans (if_pos z)) (by decide)
         have hh : ¬ σ.2.1 = 0 := fun z => c2 (by rw [z]; rfl)
         have ea : ss_ans (σ, rd) = nI rd := by unfold ss_ans; rw [if_neg hsp, if_neg hh]
         rw [ea] at hQ
         exact eg_iret rfl dX0_run_125 (by
           refine hQ _ (fun q z => ?_) ?_ ?_ ?_ eg_set_eq (fun z => ?_)
           · rw [eg_set_ne (by omega)]; exact hE q z
           · rw [eg_set_j (by decide)]; exact e2
           · rw [eg_set_j (by decide)]; exact h9
           · rw [eg_set_j (by decide)]; exact e3
           · exact (e4 (by show 0 < σ.2.1; simp only [not_or] at z; omega)).eq (fun q z1 z2 => eg_set_ne (by omega))))
set_option maxHeartbeats 4000000 in
theorem lp_X0_run {l : Launch} {E : eg_E} {G : eg_G} {h w n k : Nat} {co : Nat → Nat} {tg : Nat → Int32} {L : Nat} {al : Bool} {cost : Nat} {V : Nat → Nat → Int32} {x2 x3 : Int32} {M0 : eg_I} {d kb nb : Nat} {Q : Option Value → eg_G → eg_I → Prop} (hs : sh_H G h) (hd : 43 ≤ d) (hcost : cost ≤ 30) : ∀ (t rd : Nat) (σ : ss_S) (M : eg_I), rd + t = cost → hu_E M0 M h → hu_C M h w n k co tg L al → hu_P M h (2 ^ (w * n)) (n + k) 0 (fun _ => 0) (fun _ => 0) (fun _ => 0) V → hu_S M h (n + k) L σ → M h 9 = nI rd → (∀ M', hu_E M0 M' h → M' h 8 = nI (ss_rds w (2 ^ (w * n)) (n + k) co tg L al V t rd σ).1.1 → M' h 9 = nI (ss_rds w (2 ^ (w * n)) (n + k) co tg L al V t rd σ).2 → M' h 10 = nI (ss_rds w (2 ^ (w * n)) (n + k) co tg L al V t rd σ).1.2.1 → M' h 11 = ss_ans (ss_rds w (2 ^ (w * n)) (n + k) co tg L al V t rd σ) → (¬ ((ss_rds w (2 ^ (w * n)) (n + k) co tg L al V t rd σ).1.2.2.1 = true ∨ (ss_rds w (2 ^ (w * n)) (n + k) co tg L al V t rd σ).1.2.1 = 0) → in_R M' (h + 27) (ss_rds w (2 ^ (w * n)) (n + k) co tg L al V t rd σ).1.2.2.2.1 (ss_rds w (2 ^ (w * n)) (n + k) co tg L al V t rd σ).1.2.2.2.2.1 (ss_rds w (2 ^ (w * n)) (n + k) co tg L al V t rd σ).1.2.2.2.2.2.1 (ss_rds w (2 ^ (w * n)) (n + k) co tg L al V t rd σ).1.2.2.2.2.2.2 (n + k + (ss_rds w (2 ^ (w * n)) (n + k) co tg L al V t rd σ).1.2.2.2.1 - 1)) → Q (some (.int (ss_ans (ss_rds w (2 ^ (w * n)) (n + k) co tg L al V t rd σ)))) G M') → eg_J l E mX0_run d kb nb Q 40 [some (.ref h), some (.int (nI cost)), some (.int x2), some (.int x3), some (.int (nI rd)), some (.int (nI (rd + 1)))] [] G M := by
  intro t
  induction t with
  | zero =>
    intro rd σ M hrd hE hc hP hS h9 hQ
    obtain ⟨g0, g1, g2, g3, g4, g5, gV, g6, gR, g7, gF⟩ := id hs
    obtain ⟨gv1, gv2, gv3, gv4⟩ := id gV
    obtain ⟨gr0, gr1, gr2, gr3, gr4, gr5, gr6⟩ := id gR
    obtain ⟨gf0, gf1, gf2, gf3, gf4, gf5, gf6⟩ := id gF
    obtain ⟨c1, c2, c3, c4, c5, c6⟩ := id hc
    obtain ⟨e1, e2, e3, e4, e5, e6⟩ := id hS
    obtain ⟨v1, v2, v3, v4, v5, hw1, hw4, hn1, hn2, hk4⟩ := id c1
    have hA := wd_asg hw4 hn2
    refine eg_iload dX0_run_40 rfl ?_
    refine eg_iload_n dX0_run_42 rfl rfl ?_
    refine eg_icmp_gt 87 dX0_run_43 (by decide) (fun c43 => ?_) (fun c43 => absurd (nI_lt (by omega) (by omega)) c43)
    exact lp_X0_run1 hs hE hS c6 h9 hQ
  | succ t ih =>
    intro rd σ M hrd hE hc hP hS h9 hQ
    obtain ⟨g0, g1, g2, g3, g4, g5, gV, g6, gR, g7, gF⟩ := id hs
    obtain ⟨gv1, gv2, gv3, gv4⟩ := id gV
    obtain ⟨gr0, gr1, gr2, gr3, gr4, gr5, gr6⟩ := id gR
    obtain ⟨gf0, gf1, gf2, gf3, gf4, gf5, gf6⟩ := id gF
    obtain ⟨c1, c2', c3, c4, c5, c6⟩ := id hc
    obtain ⟨e1, e2, e3, e4, e5, e6⟩ := id hS
    obtain ⟨v1, v2, v3, v4, v5, hw1, hw4, hn1, hn2, hk4⟩ := id c1
    have hA := wd_asg hw4 hn2
    refine eg_iload dX0_run_40 rfl ?_
    refine eg_iload_n dX0_run_42 rfl rfl ?_
    refine eg_icmp_gt 87 dX0_run_43 (by decide) (fun c43 => absurd c43 (nI_nlt (by omega) (by omega))) (fun c43 => ?_)
    refine eg_aload_n dX0_run_46 rfl rfl ?_
    refine eg_getI gf_RX0_65 rfl (by assumption) dX0_run_47 ?_
    refine eg_topi e3 ?_
    refine eg_if_ne 87 dX0_run_50 (by decide) (fun c => ?_) (fun c => ?_)
    · have hh : 0 < σ.2.1 := Nat.pos_of_ne_zero (fun z => c (by rw [z]; rfl))
      rw [show ss_rds w (2 ^ (w * n)) (n + k) co tg L al V (t + 1) rd σ = (σ, rd) from if_pos (Or.inl hh)] at hQ
      exact lp_X0_run1 hs hE hS c6 h9 hQ
    · refine eg_aload_n dX0_run_53 rfl rfl ?_
      refine eg_getI gf_RX0_56 rfl (by assumption) dX0_run_54 ?_
      refine eg_topi e1 ?_
      refine eg_if_ne 87 dX0_run_57 (by decide) (fun c2 => ?_) (fun c2 => ?_)
      · have hsp : σ.2.2.1 = true := Classical.byContradiction fun z => c2 (by rw [if_neg z])
        rw [show ss_rds w (2 ^ (w * n)) (n + k) co tg L al V (t + 1) rd σ = (σ, rd) from if_pos (Or.inr hsp)] at hQ
        exact lp_X0_run1 hs hE hS c6 h9 hQ
      · have hh : σ.2.1 = 0 := (nI_eq (by omega) (by omega)).mp (c.trans nI_0.symm)
        have hsp : ¬ σ.2.2.1 = true := fun z => absurd (c2.symm.trans (if_pos z)) (by decide)
        rw [show ss_rds w (2 ^ (w * n)) (n + k) co tg L al V (t + 1) rd σ = ss_rds w (2 ^ (w * n)) (n + k) co tg L al V t (rd + 1) (ss_fill w (2 ^ (w * n)) (n + k) co tg L al 12 0 (rd + 1) (fun _ => 0) (fun _ => 0) (fun _ => 0) V σ) from if_neg (fun z => z.elim (fun z => by omega) hsp)] at hQ
        refine eg_aload_n dX0_run_60 rfl rfl ?_
        refine eg_dup dX0_run_61 rfl ?_
        refine eg_getI gf_RX0_62 rfl (by assumption) dX0_run_62 ?_
        refine eg_topi h9 ?_
        refine eg_iconst dX0_run_65 (v := nI 1) (by decide) ?_
        refine eg_iadd dX0_run_66 ?_
        refine eg_topi (nI_add rd 1) ?_
        refine eg_putI gp_RX0_62 (fun q => by cases q) rfl rfl rfl (by assumption) dX0_run_67 ?_
        refine eg_iload dX0_run_70 rfl ?_
        refine eg_istore dX0_run_72 (by decide) rfl ?_
        refine eg_aload_n dX0_run_74 rfl rfl ?_
        refine eg_iconst dX0_run_75 (v := nI 0) (by decide) ?_
        refine eg_iload dX0_run_76 rfl ?_
        have hc1 : hu_C (eg_set M h 9 (nI (rd + 1))) h w n k co tg L al := ⟨c1.eq (eg_set_ne (by omega)), fun o ho => by rw [eg_set_ne (by omega)]; exact c2' o ho, fun s z => by rw [eg_set_ne (by omega)]; exact c3 s z, by rw [eg_set_j (by decide)]; exact c4, by rw [eg_set_j (by decide)]; exact c5, c6⟩
        refine eg_callV2 0 0 gk_X0_fill gi_X0_fill (by assumption) rfl gl_RX0_71 rfl (Nat.le_of_ble_eq_true rfl) (Nat.le_of_ble_eq_true rfl) (Nat.zero_le _) (Nat.zero_le _) (by omega) dX0_run_78 ?_
        refine sp_FS hs 12 _ _ _ _ 0 (rd + 1) (fun _ => 0) (fun _ => 0) (fun _ => 0) V σ (eg_set M h 9 (nI (rd + 1))) (by omega) (by omega) (by omega) hc1 ⟨fun u s z1 z2 => by rw [eg_set_ne (by omega)]; exact hP.1 u s z1 z2, fun j z => absurd z (by omega)⟩ ⟨by rw [eg_set_j (by decide)]; exact e1, by rw [eg_set_j (by decide)]; exact e2, by rw [eg_set_j (by decide)]; exact e3, fun z => absurd z (by omega), e5, e6⟩ (fun M2 f2 p2 s2 => ?_)
        generalize ss_fill w (2 ^ (w * n)) (n + k) co tg L al 12 0 (rd + 1) (fun _ => 0) (fun _ => 0) (fun _ => 0) V σ = σ2 at s2 hQ
        refine eg_iinc dX0_run_81 (by decide) rfl (eg_inc (rd + 1)) rfl ?_
        refine eg_goto 40 dX0_run_84 (by decide) ?_
        refine ih (rd + 1) σ2 M2 (by omega) (fun q z => ?_) ?_ p2 s2 ?_ hQ
        · rw [f2.1 q z, eg_set_ne (by omega)]; exact hE q z
        · exact hc1.fr f2
        · rw [f2.2.2 9 (by decide) (by decide) (by decide), eg_set_eq]
set_option maxHeartbeats 4000000 in
theorem sp_X0_run {l : Launch} {E : eg_E} {G : eg_G} {h w n k : Nat} {co : Nat → Nat} {tg : Nat → Int32} {L : Nat} {al : Bool} {cost : Nat} {V : Nat → Nat → Int32} {x3 : Int32} {M : eg_I} {d kb nb : Nat} {Q : Option Value → eg_G → eg_I → Prop} (hs : sh_H G h) (hd : 43 ≤ d) (hcost : cost ≤ 30) (hL : L ≤ 30000) (hx3 : x3 = if al = true then 1 else 0) (hn3 : narrow .boolean (.int x3) = .int x3) (hf3 : fits .boolean (.int x3) = true) (hin : in_V M (h + 3) w n k) (hV : ∀ u s, u < n + k → s < (2 ^ (w * n)) → M (h + 3 + 2 + u) s = V u s) (hco : ∀ o, o < 13 → M (h + 1) o = nI (co o) ∧ co o ≤ 9) (hT : ∀ s, s < (2 ^ (w * n)) → M (h + 2) s = tg s) (hG : (∀ v M', v < n + k → (∀ u, u < v → (∃ j, j < 2 ^ (w * n) ∧ ¬ V u j = tg j)) → (∀ j, j < 2 ^ (w * n) → V v j = tg j) → hu_E M M' h → M' h 8 = nI 0 → M' h 9 = nI 0 → M' h 10 = nI 1 → M' h 11 = nI 0 → M' (h + 27) 3 = nI 0 → M' (h + 27) 4 = nI v → Q (some (.int (nI 0))) G M')) (hR : ((∀ u, u < n + k → (∃ j, j < 2 ^ (w * n) ∧ ¬ V u j = tg j)) → (∀ M', hu_E M M' h → M' h 8 = nI (ss_rds w (2 ^ (w * n)) (n + k) co tg L al V cost 0 ss_0).1.1 → M' h 9 = nI (ss_rds w (2 ^ (w * n)) (n + k) co tg L al V cost 0 ss_0).2 → M' h 10 = nI (ss_rds w (2 ^ (w * n)) (n + k) co tg L al V cost 0 ss_0).1.2.1 → M' h 11 = ss_ans (ss_rds w (2 ^ (w * n)) (n + k) co tg L al V cost 0 ss_0) → (¬ ((ss_rds w (2 ^ (w * n)) (n + k) co tg L al V cost 0 ss_0).1.2.2.1 = true ∨ (ss_rds w (2 ^ (w * n)) (n + k) co tg L al V cost 0 ss_0).1.2.1 = 0) → in_R M' (h + 27) (ss_rds w (2 ^ (w * n)) (n + k) co tg L al V cost 0 ss_0).1.2.2.2.1 (ss_rds w (2 ^ (w * n)) (n + k) co tg L al V cost 0 ss_0).1.2.2.2.2.1 (ss_rds w (2 ^ (w * n)) (n + k) co tg L al V cost 0 ss_0).1.2.2.2.2.2.1 (ss_rds w (2 ^ (w * n)) (n + k) co tg L al V cost 0 ss_0).1.2.2.2.2.2.2 (n + k + (ss_rds w (2 ^ (w * n)) (n + k) co tg L al V cost 0 ss_0).1.2.2.2.1 - 1)) → Q (some (.int (ss_ans (ss_rds w (2 ^ (w * n)) (n + k) co tg L al V cost 0 ss_0)))) G M'))) : eg_J l E mX0_run d kb nb Q 0 [some (.ref h), some (.int (nI cost)), some (.int (nI L)), some (.int x3), none, none] [] G M := by
  obtain ⟨g0, g1, g2, g3, g4, g5, gV, g6, gR, g7, gF⟩ := id hs
  obtain ⟨gv1, gv2, gv3, gv4⟩ := id gV
  obtain ⟨gr0, gr1, gr2, gr3, gr4, gr5, gr6⟩ := id gR
  obtain ⟨gf0, gf1, gf2, gf3, gf4, gf5, gf6⟩ := id gF
  obtain ⟨i1, i2, i3, i4, i5, hw1, hw4, hn1, hn2, hk4⟩ := id hin
  refine eg_aload_n dX0_run_0 rfl rfl ?_
  refine eg_iload_n dX0_run_1 rfl rfl ?_
  refine eg_putI gp_RX0_49 (fun q => by cases q) rfl rfl rfl (by assumption) dX0_run_2 ?_
  refine eg_aload_n dX0_run_5 rfl rfl ?_
  refine eg_iload_n dX0_run_6 rfl rfl ?_
  refine eg_putI gp_RX0_52 (fun q => by cases q) rfl hn3 hf3 (by assumption) dX0_run_7 ?_
  refine eg_aload_n dX0_run_10 rfl rfl ?_
  refine eg_iconst dX0_run_11 (v := nI 0) (by decide) ?_
  refine eg_putI gp_RX0_56 (fun q => by cases q) rfl rfl rfl (by assumption) dX0_run_12 ?_
  refine eg_aload_n dX0_run_15 rfl rfl ?_
  refine eg_iconst dX0_run_16 (v := nI 0) (by decide) ?_
  refine eg_putI gp_RX0_59 (fun q => by cases q) rfl rfl rfl (by assumption) dX0_run_17 ?_
  refine eg_aload_n dX0_run_20 rfl rfl ?_
  refine eg_iconst dX0_run_21 (v := nI 0) (by decide) ?_
  refine eg_putI gp_RX0_62 (fun q => by cases q) rfl rfl rfl (by assumption) dX0_run_22 ?_
  refine eg_aload_n dX0_run_25 rfl rfl ?_
  refine eg_iconst dX0_run_26 (v := nI 0) (by decide) ?_
  refine eg_putI gp_RX0_65 (fun q => by cases q) rfl rfl rfl (by assumption) dX0_run_27 ?_
  generalize hM1 : eg_set (eg_set (eg_set (eg_set (eg_set (eg_set M h 5 (nI L)) h 6 x3) h 7 (nI 0)) h 8 (nI 0)) h 9 (nI 0)) h 10 (nI 0) = M1
  have o1 : ∀ q, q ≠ h → M1 q = M q := fun q z => by rw [← hM1, eg_set_ne z, eg_set_ne z, eg_set_ne z, eg_set_ne z, eg_set_ne z, eg_set_ne z]
  have a5 : M1 h 5 = nI L := by rw [← hM1, eg_set_j (by decide), eg_set_j (by decide), eg_set_j (by decide), eg_set_j (by decide), eg_set_j (by decide), eg_set_eq]
  have a6 : M1 h 6 = x3 := by rw [← hM1, eg_set_j (by decide), eg_set_j (by decide), eg_set_j (by decide), eg_set_j (by decide), eg_set_eq]
  have a7 : M1 h 7 = nI 0 := by rw [← hM1, eg_set_j (by decide), eg_set_j (by decide), eg_set_j (by decide), eg_set_eq]
  have a8 : M1 h 8 = nI 0 := by rw [← hM1, eg_set_j (by decide), eg_set_j (by decide), eg_set_eq]
  have a9 : M1 h 9 = nI 0 := by rw [← hM1, eg_set_j (by decide), eg_set_eq]
  have a10 : M1 h 10 = nI 0 := by rw [← hM1, eg_set_eq]
  have in1 := hin.eq (o1 (h + 3) (by omega))
  have V1 : ∀ u s, u < n + k → s < 2 ^ (w * n) → M1 (h + 3 + 2 + u) s = V u s := fun u s z1 z2 => by rw [o1 _ (by omega)]; exact hV u s z1 z2
  have T1 : ∀ s, s < 2 ^ (w * n) → M1 (h + 2) s = tg s := fun s z => by rw [o1 _ (by omega)]; exact hT s z
  refine eg_aload_n dX0_run_30 rfl rfl ?_
  refine eg_callV0 0 0 gk_X0_findGiven gi_X0_findGiven (by assumption) rfl gl_RX0_68 rfl (Nat.le_of_ble_eq_true rfl) (Nat.le_of_ble_eq_true rfl) (Nat.zero_le _) (Nat.zero_le _) (by omega) dX0_run_31 ?_
  refine sp_X0_findGiven (k := k) (by omega) hs in1 (fun v z1 z2 z3 => ?_) (fun z1 => ?_)
  · refine eg_iconst dX0_run_34 (v := nI 0) (by decide) ?_
    refine eg_istore dX0_run_35 (by decide) rfl ?_
    refine eg_iconst dX0_run_37 (v := nI 1) (by decide) ?_
    refine eg_istore dX0_run_38 (by decide) rfl ?_
    have b7 : eg_set (eg_set (eg_set M1 (h + 27) 3 (nI 0)) (h + 27) 4 (nI v)) h 10 (nI 1) h 7 = nI 0 := by rw [eg_set_j (by decide), eg_set_ne (by omega), eg_set_ne (by omega)]; exact a7
    have tail : ∀ l5, eg_J l E mX0_run d kb nb Q 87 [some (.ref h), some (.int (nI cost)), some (.int (nI L)), some (.int x3), some (.int (nI 0)), l5] [] G (eg_set (eg_set (eg_set M1 (h + 27) 3 (nI 0)) (h + 27) 4 (nI v)) h 10 (nI 1)) := by
      intro l5
      refine eg_aload_n dX0_run_87 rfl rfl ?_
      refine eg_getI gf_RX0_56 rfl g0 dX0_run_88 ?_
      refine eg_if_eq 103 dX0_run_91 (by decide) (fun _ => ?_) (fun z => absurd b7 z)
      refine eg_aload_n dX0_run_103 rfl rfl ?_
      refine eg_aload_n dX0_run_104 rfl rfl ?_
      refine eg_getI gf_RX0_65 rfl g0 dX0_run_105 ?_
      refine eg_if_ne 116 dX0_run_108 (by decide) (fun _ => ?_) (fun z => absurd (eg_set_eq.symm.trans z) (by decide))
      refine eg_iload dX0_run_116 rfl ?_
      refine eg_putI gp_RX0_35 (fun q => by cases q) rfl rfl rfl g0 dX0_run_118 ?_
      refine eg_aload_n dX0_run_121 rfl rfl ?_
      refine eg_getI gf_RX0_35 rfl g0 dX0_run_122 ?_
      refine eg_topi eg_set_eq ?_
      refine eg_iret rfl dX0_run_125 (hG v _ z1 (fun u y => ?_) (fun j y => ?_) (fun q y => ?_) ?_ ?_ ?_ eg_set_eq ?_ ?_)
      · obtain ⟨j, y1, y2⟩ := z2 u y
        rw [V1 u j (by omega) y1, T1 j y1] at y2
        exact ⟨j, y1, y2⟩
      · have := z3 j y
        rw [V1 v j z1 y, T1 j y] at this
        exact this
      · rw [eg_set_ne (by omega), eg_set_ne (by omega), eg_set_ne (by omega), eg_set_ne (by omega)]; exact o1 q (by omega)
      · rw [eg_set_j (by decide), eg_set_j (by decide), eg_set_ne (by omega), eg_set_ne (by omega)]; exact a8
      · rw [eg_set_j (by decide), eg_set_j (by decide), eg_set_ne (by omega), eg_set_ne (by omega)]; exact a9
      · rw [eg_set_j (by decide), eg_set_eq]
      · rw [eg_set_ne (by omega), eg_set_ne (by omega), eg_set_j (by decide), eg_set_eq]
      · rw [eg_set_ne (by omega), eg_set_ne (by omega), eg_set_eq]
    refine eg_iload dX0_run_40 rfl ?_
    refine eg_iload_n dX0_run_42 rfl rfl ?_
    refine eg_icmp_gt 87 dX0_run_43 (by decide) (fun _ => tail _) (fun _ => ?_)
    refine eg_aload_n dX0_run_46 rfl rfl ?_
    refine eg_getI gf_RX0_65 rfl g0 dX0_run_47 ?_
    refine eg_if_ne 87 dX0_run_50 (by decide) (fun _ => tail _) (fun z => absurd (eg_set_eq.symm.trans z) (by decide))
  · refine eg_iconst dX0_run_34 (v := nI 0) (by decide) ?_
    refine eg_istore dX0_run_35 (by decide) rfl ?_
    refine eg_iconst dX0_run_37 (v := nI 1) (by decide) ?_
    refine eg_istore dX0_run_38 (by decide) rfl ?_
    refine lp_X0_run hs (by omega) hcost cost 0 ss_0 M1 (by omega) (fun q z => o1 q (by omega)) ⟨in1, fun o ho => ⟨by rw [o1 _ (by omega)]; exact (hco o ho).1, (hco o ho).2⟩, T1, a5, by rw [a6]; exact hx3, hL⟩ ⟨V1, fun j z => absurd z (by omega)⟩ ⟨a7, a8, a10, fun z => absurd z (by decide), by decide, by show 0 ≤ L; omega⟩ a9 (hR (fun u y => ?_))
    obtain ⟨j, y1, y2⟩ := z1 u y
    rw [V1 u j (by omega) y1, T1 j y1] at y2
    exact ⟨j, y1, y2⟩
