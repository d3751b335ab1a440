/-! ShortestCode$Row, and the rest of ShortestCode$Values -/
theorem sp_X1_put {l : Launch} {E : eg_E} {d kb nb : Nat} {Q : Option Value → eg_G → eg_I → Prop} {G : eg_G} {M : eg_I} {r p : Nat} {x y z : Int32} (hs : sh_R G r) (hp : p < 12) (hQ : Q none G (eg_set (eg_set (eg_set M (r + 1) p x) (r + 2) p y) (r + 3) p z)) : eg_J l E mX1_put d kb nb Q 0 [some (.ref r), some (.int (nI p)), some (.int x), some (.int y), some (.int z)] [] G M := by
  obtain ⟨s0, s1, s2, s3, s4, s5, s6⟩ := id hs
  refine eg_aload_n dX1_put_0 rfl rfl ?_
  refine eg_getR gf_RX1_9 rfl (by assumption) (by assumption) dX1_put_1 ?_
  refine eg_iload_n dX1_put_4 rfl rfl ?_
  refine eg_iload_n dX1_put_5 rfl rfl ?_
  refine eg_iastN (by assumption) (by omega) (by decide) dX1_put_6 ?_
  refine eg_aload_n dX1_put_7 rfl rfl ?_
  refine eg_getR gf_RX1_15 rfl (by assumption) (by assumption) dX1_put_8 ?_
  refine eg_iload_n dX1_put_11 rfl rfl ?_
  refine eg_iload_n dX1_put_12 rfl rfl ?_
  refine eg_iastN (by assumption) (by omega) (by decide) dX1_put_13 ?_
  refine eg_aload_n dX1_put_14 rfl rfl ?_
  refine eg_getR gf_RX1_18 rfl (by assumption) (by assumption) dX1_put_15 ?_
  refine eg_iload_n dX1_put_18 rfl rfl ?_
  refine eg_iload dX1_put_19 rfl ?_
  refine eg_iastN (by assumption) (by omega) (by decide) dX1_put_21 ?_
  exact eg_vret rfl dX1_put_22 hQ
theorem sp_X1_empty {l : Launch} {E : eg_E} {d kb nb : Nat} {Q : Option Value → eg_G → eg_I → Prop} {G : eg_G} {M : eg_I} {r : Nat} {x : Int32} (hs : sh_R G r) (hQ : Q none G (eg_set (eg_set M r 3 (nI 0)) r 4 x)) : eg_J l E mX1_empty d kb nb Q 0 [some (.ref r), some (.int x)] [] G M := by
  obtain ⟨s0, s1, s2, s3, s4, s5, s6⟩ := id hs
  refine eg_aload_n dX1_empty_0 rfl rfl ?_
  refine eg_iconst dX1_empty_1 (v := nI 0) (by decide) ?_
  refine eg_putI gp_RX1_21 (fun q => by cases q) rfl rfl rfl (by assumption) dX1_empty_2 ?_
  refine eg_aload_n dX1_empty_5 rfl rfl ?_
  refine eg_iload_n dX1_empty_6 rfl rfl ?_
  refine eg_putI gp_RX1_25 (fun q => by cases q) rfl rfl rfl (by assumption) dX1_empty_7 ?_
  exact eg_vret rfl dX1_empty_10 hQ
theorem sp_X1_renumbered {l : Launch} {E : eg_E} {d kb nb : Nat} {Q : Option Value → eg_G → eg_I → Prop} {G : eg_G} {M : eg_I} {x g t : Nat} (hx : x < 2 ^ 30) (hg : g < 2 ^ 30) (hQ : Q (some (.int (nI (rn x g t)))) G M) : eg_J l E mX1_renumbered d kb nb Q 0 [some (.int (nI x)), some (.int (nI g)), some (.int (nI t))] [] G M := by
  refine eg_iload_n dX1_renumbered_0 rfl rfl ?_
  refine eg_iload_n dX1_renumbered_1 rfl rfl ?_
  refine eg_icmp_ne 7 dX1_renumbered_2 (by decide) (fun c => ?_) (fun c => ?_)
  · refine eg_iload_n dX1_renumbered_7 rfl rfl ?_
    refine eg_iload_n dX1_renumbered_8 rfl rfl ?_
    refine eg_icmp_le 18 dX1_renumbered_9 (by decide) (fun c2 => ?_) (fun c2 => ?_)
    · refine eg_iload_n dX1_renumbered_18 rfl rfl ?_
      exact eg_iret rfl dX1_renumbered_19 (by have e : ¬ x = g := fun q => c (by rw [q]); unfold rn at hQ; rw [if_neg e] at hQ; first | (have e2 : ¬ g < x := fun q => absurd c2 (nI_ge q (by omega)); rw [if_neg e2] at hQ; exact hQ) | (have e2 : g < x := Nat.lt_of_not_le (fun q => c2 (nI_le q (by omega))); rw [if_pos e2] at hQ; rw [show nI x - nI 1 = nI (x - 1) from pk_sub (by omega)]; exact hQ))
    · refine eg_iload_n dX1_renumbered_12 rfl rfl ?_
      refine eg_iconst dX1_renumbered_13 (v := nI 1) (by decide) ?_
      refine eg_isub dX1_renumbered_14 ?_
      refine eg_goto 19 dX1_renumbered_15 (by decide) ?_
      exact eg_iret rfl dX1_renumbered_19 (by have e : ¬ x = g := fun q => c (by rw [q]); unfold rn at hQ; rw [if_neg e] at hQ; first | (have e2 : ¬ g < x := fun q => absurd c2 (nI_ge q (by omega)); rw [if_neg e2] at hQ; exact hQ) | (have e2 : g < x := Nat.lt_of_not_le (fun q => c2 (nI_le q (by omega))); rw [if_pos e2] at hQ; rw [show nI x - nI 1 = nI (x - 1) from pk_sub (by omega)]; exact hQ))
  · refine eg_iload_n dX1_renumbered_5 rfl rfl ?_
    exact eg_iret rfl dX1_renumbered_6 (by have e : x = g := (nI_eq (by omega) (by omega)).mp c; unfold rn at hQ; rw [if_pos e] at hQ; exact hQ)
theorem lp_X1_copyFrom {l : Launch} {E : eg_E} {d kb nb : Nat} {Q : Option Value → eg_G → eg_I → Prop} {G : eg_G} {r u len : Nat} {M0 : eg_I} (hd : 1 ≤ d) (hs : sh_R G r) (hu : sh_R G u) (hru : u + 4 ≤ r ∨ r + 4 ≤ u) (hlen : len ≤ 12) (h3 : M0 u 3 = nI len) : ∀ (t s : Nat) (M : eg_I), s + t = len → ((∀ j, j < s → M (r + 1) j = M0 (u + 1) j ∧ M (r + 2) j = M0 (u + 2) j ∧ M (r + 3) j = M0 (u + 3) j) ∧ ∀ q, ¬ (r ≤ q ∧ q < r + 4) → M q = M0 q) → (∀ M', (M' r 3 = nI len ∧ M' r 4 = M0 u 4 ∧ (∀ j, j < len → M' (r + 1) j = M0 (u + 1) j ∧ M' (r + 2) j = M0 (u + 2) j ∧ M' (r + 3) j = M0 (u + 3) j) ∧ ∀ q, ¬ (r ≤ q ∧ q < r + 4) → M' q = M0 q) → Q none G M') → eg_J l E mX1_copyFrom d kb nb Q 2 [some (.ref r), some (.ref u), some (.int (nI s))] [] G M := by
  intro t
  induction t with
  | zero =>
    intro s M hst hi hQ
    obtain ⟨s0, s1, s2, s3, s4, s5, s6⟩ := id hs
    obtain ⟨u0, u1, u2, u3, u4, u5, u6⟩ := id hu
    have e3 : M u 3 = nI len := by rw [hi.2 u (by omega)]; exact h3
    refine eg_iload_n dX1_copyFrom_2 rfl rfl ?_
    refine eg_aload_n dX1_copyFrom_3 rfl rfl ?_
    refine eg_getI gf_RX1_21 rfl (by assumption) dX1_copyFrom_4 ?_
    refine eg_topi e3 ?_
    refine eg_icmp_ge 39 dX1_copyFrom_7 (by decide) (fun c7 => ?_) (fun c7 => absurd (nI_le (by omega) (by omega)) c7)
    refine eg_aload_n dX1_copyFrom_39 rfl rfl ?_
    refine eg_aload_n dX1_copyFrom_40 rfl rfl ?_
    refine eg_getI gf_RX1_21 rfl (by assumption) dX1_copyFrom_41 ?_
    refine eg_topi e3 ?_
    refine eg_putI gp_RX1_21 (fun q => by cases q) rfl rfl rfl (by assumption) dX1_copyFrom_44 ?_
    refine eg_aload_n dX1_copyFrom_47 rfl rfl ?_
    refine eg_aload_n dX1_copyFrom_48 rfl rfl ?_
    refine eg_getI gf_RX1_25 rfl (by assumption) dX1_copyFrom_49 ?_
    refine eg_putI gp_RX1_25 (fun q => by cases q) rfl rfl rfl (by assumption) dX1_copyFrom_52 ?_
    exact eg_vret rfl dX1_copyFrom_55 (hQ _ ⟨by rw [eg_set_j (by decide), eg_set_eq], by rw [eg_set_eq, eg_set_ne (show u ≠ r by omega), hi.2 u (by omega)], fun j hj => by
          rw [eg_set_ne (show r + 1 ≠ r by omega), eg_set_ne (show r + 1 ≠ r by omega), eg_set_ne (show r + 2 ≠ r by omega), eg_set_ne (show r + 2 ≠ r by omega), eg_set_ne (show r + 3 ≠ r by omega), eg_set_ne (show r + 3 ≠ r by omega)]
          exact hi.1 j (by omega), fun q hq => by
          rw [eg_set_ne (show q ≠ r by omega), eg_set_ne (show q ≠ r by omega)]
          exact hi.2 q hq⟩)
  | succ t ih =>
    intro s M hst hi hQ
    obtain ⟨s0, s1, s2, s3, s4, s5, s6⟩ := id hs
    obtain ⟨u0, u1, u2, u3, u4, u5, u6⟩ := id hu
    have e3 : M u 3 = nI len := by rw [hi.2 u (by omega)]; exact h3
    refine eg_iload_n dX1_copyFrom_2 rfl rfl ?_
    refine eg_aload_n dX1_copyFrom_3 rfl rfl ?_
    refine eg_getI gf_RX1_21 rfl (by assumption) dX1_copyFrom_4 ?_
    refine eg_topi e3 ?_
    refine eg_icmp_ge 39 dX1_copyFrom_7 (by decide) (fun c7 => absurd c7 (nI_ge (by omega) (by omega))) (fun c7 => ?_)
    refine eg_aload_n dX1_copyFrom_10 rfl rfl ?_
    refine eg_iload_n dX1_copyFrom_11 rfl rfl ?_
    refine eg_aload_n dX1_copyFrom_12 rfl rfl ?_
    refine eg_getR gf_RX1_9 rfl (by assumption) (by assumption) dX1_copyFrom_13 ?_
    refine eg_iload_n dX1_copyFrom_16 rfl rfl ?_
    refine eg_ialdN (by assumption) (by omega) (by decide) dX1_copyFrom_17 ?_
    refine eg_aload_n dX1_copyFrom_18 rfl rfl ?_
    refine eg_getR gf_RX1_15 rfl (by assumption) (by assumption) dX1_copyFrom_19 ?_
    refine eg_iload_n dX1_copyFrom_22 rfl rfl ?_
    refine eg_ialdN (by assumption) (by omega) (by decide) dX1_copyFrom_23 ?_
    refine eg_aload_n dX1_copyFrom_24 rfl rfl ?_
    refine eg_getR gf_RX1_18 rfl (by assumption) (by assumption) dX1_copyFrom_25 ?_
    refine eg_iload_n dX1_copyFrom_28 rfl rfl ?_
    refine eg_ialdN (by assumption) (by omega) (by decide) dX1_copyFrom_29 ?_
    refine eg_callV4 0 0 gk_X1_put gi_X1_put (by assumption) rfl gl_RX1_28 rfl (Nat.le_of_ble_eq_true rfl) (Nat.le_of_ble_eq_true rfl) (Nat.zero_le _) (Nat.zero_le _) (by omega) dX1_copyFrom_30 ?_
    refine sp_X1_put hs (by omega) ?_
    refine eg_iinc dX1_copyFrom_33 (by decide) rfl (eg_inc s) rfl ?_
    refine eg_goto 2 dX1_copyFrom_36 (by decide) ?_
    refine ih (s + 1) _ (by omega) ⟨fun j hj => ?_, fun q hq => ?_⟩ hQ
    · by_cases e : j = s
      · subst e
        refine ⟨?_, ?_, ?_⟩
        · rw [eg_set_ne (show r + 1 ≠ r + 3 by omega), eg_set_ne (show r + 1 ≠ r + 2 by omega), eg_set_eq, hi.2 (u + 1) (by omega)]
        · rw [eg_set_ne (show r + 2 ≠ r + 3 by omega), eg_set_eq, hi.2 (u + 2) (by omega)]
        · rw [eg_set_eq, hi.2 (u + 3) (by omega)]
      · rw [eg_set_jj e, eg_set_jj e, eg_set_jj e, eg_set_jj e, eg_set_jj e, eg_set_jj e, eg_set_jj e, eg_set_jj e, eg_set_jj e]
        exact hi.1 j (by omega)
    · rw [eg_set_ne (show q ≠ r + 3 by omega), eg_set_ne (show q ≠ r + 2 by omega), eg_set_ne (show q ≠ r + 1 by omega)]
      exact hi.2 q hq
theorem sp_X1_copyFrom {l : Launch} {E : eg_E} {d kb nb : Nat} {Q : Option Value → eg_G → eg_I → Prop} {G : eg_G} {M : eg_I} {r u len : Nat} (hd : 1 ≤ d) (hs : sh_R G r) (hu : sh_R G u) (hru : u + 4 ≤ r ∨ r + 4 ≤ u) (hlen : len ≤ 12) (h3 : M u 3 = nI len) (hQ : ∀ M', (M' r 3 = nI len ∧ M' r 4 = M u 4 ∧ (∀ j, j < len → M' (r + 1) j = M (u + 1) j ∧ M' (r + 2) j = M (u + 2) j ∧ M' (r + 3) j = M (u + 3) j) ∧ ∀ q, ¬ (r ≤ q ∧ q < r + 4) → M' q = M q) → Q none G M') : eg_J l E mX1_copyFrom d kb nb Q 0 [some (.ref r), some (.ref u), none] [] G M := by
  refine eg_iconst dX1_copyFrom_0 (v := nI 0) (by decide) ?_
  refine eg_istore_n dX1_copyFrom_1 rfl (by decide) rfl ?_
  exact lp_X1_copyFrom hd hs hu hru hlen h3 len 0 M (by omega) ⟨fun j hj => absurd hj (by omega), fun q _ => rfl⟩ hQ
theorem lp_X1_remove {l : Launch} {E : eg_E} {d kb nb : Nat} {Q : Option Value → eg_G → eg_I → Prop} {G : eg_G} {r k g t0 len res : Nat} {op lf rt : Nat → Nat} {M0 : eg_I} (hd : 1 ≤ d) (hs : sh_R G r) (hk : k < len) (hr : in_R M0 r len op lf rt res) (hb : ∀ j, j < len → lf j < 2 ^ 30 ∧ rt j < 2 ^ 30) (hg : g < 2 ^ 30) (hres : res < 2 ^ 30) : ∀ (t s : Nat) (M : eg_I) (l5 l6 : Option Value), s + t = len → k + 1 ≤ s → (M r = M0 r ∧ (∀ j, j < len → M (r + 1) j = nI (if k ≤ j ∧ j + 1 < s then op (j + 1) else op j) ∧ M (r + 2) j = nI (if k ≤ j ∧ j + 1 < s then rn (lf (j + 1)) g t0 else lf j) ∧ M (r + 3) j = nI (if k ≤ j ∧ j + 1 < s then rn (rt (j + 1)) g t0 else rt j)) ∧ ∀ q, ¬ (r ≤ q ∧ q < r + 4) → M q = M0 q) → (∀ M', (in_R M' r (len - 1) (cut_at op k) (cut_rn lf k g t0) (cut_rn rt k g t0) (rn res g t0) ∧ ∀ q, ¬ (r ≤ q ∧ q < r + 4) → M' q = M0 q) → Q none G M')  → eg_J l E mX1_remove d kb nb Q 5 [some (.ref r), some (.int (nI k)), some (.int (nI g)), some (.int (nI t0)), some (.int (nI s)), l5, l6] [] G M := by
  intro t
  induction t with
  | zero =>
    intro s M l5 l6 hst hks hi hQ
    obtain ⟨s0, s1, s2, s3, s4, s5, s6⟩ := id hs
    obtain ⟨r3, r4, rl, ra⟩ := id hr
    have e3 : M r 3 = nI len := by rw [hi.1]; exact r3
    have e4 : M r 4 = nI res := by rw [hi.1]; exact r4
    refine eg_iload dX1_remove_5 rfl ?_
    refine eg_aload_n dX1_remove_7 rfl rfl ?_
    refine eg_getI gf_RX1_21 rfl (by assumption) dX1_remove_8 ?_
    refine eg_topi e3 ?_
    refine eg_icmp_ge 67 dX1_remove_11 (by decide) (fun c11 => ?_) (fun c11 => absurd (nI_le (by omega) (by omega)) c11)
    refine eg_aload_n dX1_remove_67 rfl rfl ?_
    refine eg_dup dX1_remove_68 rfl ?_
    refine eg_getI gf_RX1_21 rfl (by assumption) dX1_remove_69 ?_
    refine eg_topi e3 ?_
    refine eg_iconst dX1_remove_72 (v := nI 1) (by decide) ?_
    refine eg_isub dX1_remove_73 ?_
    refine eg_topi (show nI len - nI 1 = nI (len - 1) from pk_sub (by omega)) ?_
    refine eg_putI gp_RX1_21 (fun q => by cases q) rfl rfl rfl (by assumption) dX1_remove_74 ?_
    refine eg_aload_n dX1_remove_77 rfl rfl ?_
    refine eg_aload_n dX1_remove_78 rfl rfl ?_
    refine eg_getI gf_RX1_25 rfl (by assumption) dX1_remove_79 ?_
    refine eg_topi (show _ = nI res by rw [eg_set_j (by decide)]; exact e4) ?_
    refine eg_iload_n dX1_remove_82 rfl rfl ?_
    refine eg_iload_n dX1_remove_83 rfl rfl ?_
    refine eg_callS3 0 0 gk_X1_renumbered gi_X1_renumbered gl_RX1_32 rfl (Nat.le_of_ble_eq_true rfl) (Nat.le_of_ble_eq_true rfl) (Nat.zero_le _) (Nat.zero_le _) (by omega) dX1_remove_84 ?_
    refine sp_X1_renumbered (by omega) (by omega) ?_
    refine eg_putI gp_RX1_25 (fun q => by cases q) rfl rfl rfl (by assumption) dX1_remove_87 ?_
    exact eg_vret rfl dX1_remove_90 (hQ _ ⟨⟨by rw [eg_set_j (by decide), eg_set_eq], by rw [eg_set_eq], by omega, fun j hj => by
            rw [eg_set_ne (show r + 1 ≠ r by omega), eg_set_ne (show r + 1 ≠ r by omega), eg_set_ne (show r + 2 ≠ r by omega), eg_set_ne (show r + 2 ≠ r by omega), eg_set_ne (show r + 3 ≠ r by omega), eg_set_ne (show r + 3 ≠ r by omega)]
            have q := hi.2.1 j (by omega)
            unfold cut_at cut_rn
            by_cases e : j < k
            · rw [if_neg (by omega), if_neg (by omega), if_neg (by omega)] at q
              rw [if_pos e, if_pos e, if_pos e]
              exact q
            · rw [if_pos (by omega), if_pos (by omega), if_pos (by omega)] at q
              rw [if_neg e, if_neg e, if_neg e]
              exact q⟩, fun q hq => by
            rw [eg_set_ne (show q ≠ r by omega), eg_set_ne (show q ≠ r by omega)]
            exact hi.2.2 q hq⟩)
  | succ t ih =>
    intro s M l5 l6 hst hks hi hQ
    obtain ⟨s0, s1, s2, s3, s4, s5, s6⟩ := id hs
    obtain ⟨r3, r4, rl, ra⟩ := id hr
    have e3 : M r 3 = nI len := by rw [hi.1]; exact r3
    have e4 : M r 4 = nI res := by rw [hi.1]; exact r4
    refine eg_iload dX1_remove_5 rfl ?_
    refine eg_aload_n dX1_remove_7 rfl rfl ?_
    refine eg_getI gf_RX1_21 rfl (by assumption) dX1_remove_8 ?_
    refine eg_topi e3 ?_
    refine eg_icmp_ge 67 dX1_remove_11 (by decide) (fun c11 => absurd c11 (nI_ge (by omega) (by omega))) (fun c11 => ?_)
    refine eg_aload_n dX1_remove_14 rfl rfl ?_
    refine eg_getR gf_RX1_15 rfl (by assumption) (by assumption) dX1_remove_15 ?_
    refine eg_iload dX1_remove_18 rfl ?_
    refine eg_ialdN (by assumption) (by omega) (by decide) dX1_remove_20 ?_
    refine eg_topi (show _ = nI (lf s) by rw [(hi.2.1 s (by omega)).2.1, if_neg (by omega)]) ?_
    refine eg_iload_n dX1_remove_21 rfl rfl ?_
    refine eg_iload_n dX1_remove_22 rfl rfl ?_
    refine eg_callS3 0 0 gk_X1_renumbered gi_X1_renumbered gl_RX1_32 rfl (Nat.le_of_ble_eq_true rfl) (Nat.le_of_ble_eq_true rfl) (Nat.zero_le _) (Nat.zero_le _) (by omega) dX1_remove_23 ?_
    refine sp_X1_renumbered (hb s (by omega)).1 hg ?_
    refine eg_istore dX1_remove_26 (by decide) rfl ?_
    refine eg_aload_n dX1_remove_28 rfl rfl ?_
    refine eg_getR gf_RX1_18 rfl (by assumption) (by assumption) dX1_remove_29 ?_
    refine eg_iload dX1_remove_32 rfl ?_
    refine eg_ialdN (by assumption) (by omega) (by decide) dX1_remove_34 ?_
    refine eg_topi (show _ = nI (rt s) by rw [(hi.2.1 s (by omega)).2.2, if_neg (by omega)]) ?_
    refine eg_iload_n dX1_remove_35 rfl rfl ?_
    refine eg_iload_n dX1_remove_36 rfl rfl ?_
    refine eg_callS3 0 0 gk_X1_renumbered gi_X1_renumbered gl_RX1_32 rfl (Nat.le_of_ble_eq_true rfl) (Nat.le_of_ble_eq_true rfl) (Nat.zero_le _) (Nat.zero_le _) (by omega) dX1_remove_37 ?_
    refine sp_X1_renumbered (hb s (by omega)).2 hg ?_
    refine eg_istore dX1_remove_40 (by decide) rfl ?_
    refine eg_aload_n dX1_remove_42 rfl rfl ?_
    refine eg_iload dX1_remove_43 rfl ?_
    refine eg_iconst dX1_remove_45 (v := nI 1) (by decide) ?_
    refine eg_isub dX1_remove_46 ?_
    refine eg_topi (show nI s - nI 1 = nI (s - 1) from pk_sub (by omega)) ?_
    refine eg_aload_n dX1_remove_47 rfl rfl ?_
    refine eg_getR gf_RX1_9 rfl (by assumption) (by assumption) dX1_remove_48 ?_
    refine eg_iload dX1_remove_51 rfl ?_
    refine eg_ialdN (by assumption) (by omega) (by decide) dX1_remove_53 ?_
    refine eg_topi (show _ = nI (op s) by rw [(hi.2.1 s (by omega)).1, if_neg (by omega)]) ?_
    refine eg_iload dX1_remove_54 rfl ?_
    refine eg_iload dX1_remove_56 rfl ?_
    refine eg_callV4 0 0 gk_X1_put gi_X1_put (by assumption) rfl gl_RX1_28 rfl (Nat.le_of_ble_eq_true rfl) (Nat.le_of_ble_eq_true rfl) (Nat.zero_le _) (Nat.zero_le _) (by omega) dX1_remove_58 ?_
    refine sp_X1_put hs (by omega) ?_
    refine eg_iinc dX1_remove_61 (by decide) rfl (eg_inc s) rfl ?_
    refine eg_goto 5 dX1_remove_64 (by decide) ?_
    refine ih (s + 1) _ _ _ (by omega) (by omega) ⟨?_, fun j hj => ?_, fun q hq => ?_⟩  hQ
    · rw [eg_set_ne (show r ≠ r + 3 by omega), eg_set_ne (show r ≠ r + 2 by omega), eg_set_ne (show r ≠ r + 1 by omega)]
      exact hi.1
    · have q := hi.2.1 j hj
      by_cases e : j = s - 1
      · subst e
        rw [eg_set_ne (show r + 1 ≠ r + 3 by omega), eg_set_ne (show r + 1 ≠ r + 2 by omega), eg_set_eq, eg_set_ne (show r + 2 ≠ r + 3 by omega), eg_set_eq, eg_set_eq, show s - 1 + 1 = s by omega, if_pos (by omega), if_pos (by omega), if_pos (by omega)]
        exact ⟨rfl, rfl, rfl⟩
      · rw [eg_set_jj e, eg_set_jj e, eg_set_jj e, eg_set_jj e, eg_set_jj e, eg_set_jj e, eg_set_jj e, eg_set_jj e, eg_set_jj e]
        have hq : (k ≤ j ∧ j + 1 < s + 1) ↔ (k ≤ j ∧ j + 1 < s) := by omega
        simp only [hq]
        exact q
    · rw [eg_set_ne (show q ≠ r + 3 by omega), eg_set_ne (show q ≠ r + 2 by omega), eg_set_ne (show q ≠ r + 1 by omega)]
      exact hi.2.2 q hq
theorem sp_X1_remove {l : Launch} {E : eg_E} {d kb nb : Nat} {Q : Option Value → eg_G → eg_I → Prop} {G : eg_G} {M : eg_I} {r k g t0 len res : Nat} {op lf rt : Nat → Nat} (hd : 1 ≤ d) (hs : sh_R G r) (hk : k < len) (hr : in_R M r len op lf rt res) (hb : ∀ j, j < len → lf j < 2 ^ 30 ∧ rt j < 2 ^ 30) (hg : g < 2 ^ 30) (hres : res < 2 ^ 30) (hQ : ∀ M', (in_R M' r (len - 1) (cut_at op k) (cut_rn lf k g t0) (cut_rn rt k g t0) (rn res g t0) ∧ ∀ q, ¬ (r ≤ q ∧ q < r + 4) → M' q = M q) → Q none G M') : eg_J l E mX1_remove d kb nb Q 0 [some (.ref r), some (.int (nI k)), some (.int (nI g)), some (.int (nI t0)), none, none, none] [] G M := by
  obtain ⟨r3, r4, rl, ra⟩ := id hr
  refine eg_iload_n dX1_remove_0 rfl rfl ?_
  refine eg_iconst dX1_remove_1 (v := nI 1) (by decide) ?_
  refine eg_iadd dX1_remove_2 ?_
  refine eg_topi (nI_add k 1) ?_
  refine eg_istore dX1_remove_3 (by decide) rfl ?_
  exact lp_X1_remove hd hs hk hr hb hg hres (len - (k + 1)) (k + 1) M _ _ (by omega) (by omega) ⟨rfl, fun j hj => by rw [if_neg (by omega), if_neg (by omega), if_neg (by omega)]; exact ra j hj, fun q _ => rfl⟩ hQ
theorem lp_X2_appendConstant {l : Launch} {E : eg_E} {d kb nb : Nat} {Q : Option Value → eg_G → eg_I → Prop} {G : eg_G} {v w n k : Nat} {c : Int32} (hs : sh_V G v) : ∀ (t s : Nat) (M : eg_I), in_V M v w n k → s + t = 2 ^ (w * n) → Q none G (eg_set (eg_fl M (v + 2 + (n + k)) s (2 ^ (w * n)) (fun _ => c)) v 4 (nI (k + 1))) → eg_J l E mX2_appendConstant d kb nb Q 12 [some (.ref v), some (.int c), some (.ref (v + 2 + (n + k))), some (.int (nI s))] [] G M := by
  intro t
  induction t with
  | zero =>
    intro s M h hst hQ
    obtain ⟨hs1, hs2, hs3, hs4⟩ := id hs
    obtain ⟨h1, h2, h3, h4, h5, hw1, hw4, hn1, hn2, hk4⟩ := id h
    have hA := wd_asg hw4 hn2
    refine eg_iload_n dX2_appendConstant_12 rfl rfl ?_
    refine eg_aload_n dX2_appendConstant_13 rfl rfl ?_
    refine eg_getI gf_RX2_26 rfl (by assumption) dX2_appendConstant_14 ?_
    refine eg_topi h5 ?_
    refine eg_icmp_ge 30 dX2_appendConstant_17 (by decide) (fun c17 => ?_) (fun c17 => absurd (nI_le (by omega) (by omega)) c17)
    refine eg_aload_n dX2_appendConstant_30 rfl rfl ?_
    refine eg_dup dX2_appendConstant_31 rfl ?_
    refine eg_getI gf_RX2_29 rfl (by assumption) dX2_appendConstant_32 ?_
    refine eg_topi h4 ?_
    refine eg_iconst dX2_appendConstant_35 (v := nI 1) (by decide) ?_
    refine eg_iadd dX2_appendConstant_36 ?_
    refine eg_topi (nI_add k 1) ?_
    refine eg_putI gp_RX2_29 (fun q => by cases q) rfl rfl rfl (by assumption) dX2_appendConstant_37 ?_
    exact eg_vret rfl dX2_appendConstant_40 (by rw [eg_fl_0 (by omega)] at hQ; exact hQ)
  | succ t ih =>
    intro s M h hst hQ
    obtain ⟨hs1, hs2, hs3, hs4⟩ := id hs
    obtain ⟨h1, h2, h3, h4, h5, hw1, hw4, hn1, hn2, hk4⟩ := id h
    have hA := wd_asg hw4 hn2
    refine eg_iload_n dX2_appendConstant_12 rfl rfl ?_
    refine eg_aload_n dX2_appendConstant_13 rfl rfl ?_
    refine eg_getI gf_RX2_26 rfl (by assumption) dX2_appendConstant_14 ?_
    refine eg_topi h5 ?_
    refine eg_icmp_ge 30 dX2_appendConstant_17 (by decide) (fun c17 => absurd c17 (nI_ge (by omega) (by omega))) (fun c17 => ?_)
    refine eg_aload_n dX2_appendConstant_20 rfl rfl ?_
    refine eg_iload_n dX2_appendConstant_21 rfl rfl ?_
    refine eg_iload_n dX2_appendConstant_22 rfl rfl ?_
    refine eg_iastN (hs4 (n + k) (by omega)).2 (by omega) (by decide) dX2_appendConstant_23 ?_
    refine eg_iinc dX2_appendConstant_24 (by decide) rfl (eg_inc s) rfl ?_
    refine eg_goto 12 dX2_appendConstant_27 (by decide) ?_
    exact ih (s + 1) _ (h.eq (eg_set_ne (by omega))) (by omega) (eg_fl_q (P := fun z => Q none G (eg_set z v 4 (nI (k + 1)))) (f := fun _ => c) (by omega) (fun j g1 _ => rfl) hQ)
theorem sp_X2_appendConstant {l : Launch} {E : eg_E} {d kb nb : Nat} {Q : Option Value → eg_G → eg_I → Prop} {G : eg_G} {M : eg_I} {v w n k : Nat} {c : Int32} (hd : 1 ≤ d) (hs : sh_V G v) (h : in_V M v w n k) (hQ : Q none G (eg_set (eg_fl M (v + 2 + (n + k)) 0 (2 ^ (w * n)) (fun _ => c)) v 4 (nI (k + 1)))) : eg_J l E mX2_appendConstant d kb nb Q 0 [some (.ref v), some (.int c), none, none] [] G M := by
  obtain ⟨hs1, hs2, hs3, hs4⟩ := id hs
  obtain ⟨h1, h2, h3, h4, h5, hw1, hw4, hn1, hn2, hk4⟩ := id h
  refine eg_aload_n dX2_appendConstant_0 rfl rfl ?_
  refine eg_getR gf_RX2_11 rfl (by assumption) (by assumption) dX2_appendConstant_1 ?_
  refine eg_aload_n dX2_appendConstant_4 rfl rfl ?_
  refine eg_callV0 0 0 gk_X2_given gi_X2_given (by assumption) rfl gl_RX2_32 rfl (Nat.le_of_ble_eq_true rfl) (Nat.le_of_ble_eq_true rfl) (Nat.zero_le _) (Nat.zero_le _) (by omega) dX2_appendConstant_5 ?_
  refine sp_X2_given hs1 h ?_
  refine eg_aaldN rfl (by assumption) (by omega) (by decide) (hs4 (n + k) (by omega)).1 dX2_appendConstant_8 ?_
  refine eg_astore_n dX2_appendConstant_9 rfl (by decide) rfl ?_
  refine eg_iconst dX2_appendConstant_10 (v := nI 0) (by decide) ?_
  refine eg_istore_n dX2_appendConstant_11 rfl (by decide) rfl ?_
  exact lp_X2_appendConstant hs (2 ^ (w * n)) 0 M h (by omega) hQ
theorem lp_X2_setInputs1 {l : Launch} {E : eg_E} {d kb nb : Nat} {Q : Option Value → eg_G → eg_I → Prop} {G : eg_G} {v w n k u : Nat} (hs : sh_V G v) (hu : u < n) : ∀ (t s : Nat) (M : eg_I), in_V M v w n k → s + t = 2 ^ (w * n) → eg_J l E mX2_setInputs d kb nb Q 78 [some (.ref v), some (.int (nI w)), some (.int (nI n)), some (.int (nI u)), some (.int (nI (2 ^ (w * n))))] [] G (eg_fl M (v + 2 + u) s (2 ^ (w * n)) (wd_in w u)) → eg_J l E mX2_setInputs d kb nb Q 43 [some (.ref v), some (.int (nI w)), some (.int (nI n)), some (.int (nI u)), some (.int (nI s))] [] G M := by
  intro t
  induction t with
  | zero =>
    intro s M h hst hQ
    obtain ⟨hs1, hs2, hs3, hs4⟩ := id hs
    obtain ⟨h1, h2, h3, h4, h5, hw1, hw4, hn1, hn2, hk4⟩ := id h
    have hA := wd_asg hw4 hn2
    refine eg_iload dX2_setInputs_43 rfl ?_
    refine eg_aload_n dX2_setInputs_45 rfl rfl ?_
    refine eg_getI gf_RX2_26 rfl (by assumption) dX2_setInputs_46 ?_
    refine eg_topi h5 ?_
    refine eg_icmp_ge 78 dX2_setInputs_49 (by decide) (fun c49 => ?_) (fun c49 => absurd (nI_le (by omega) (by omega)) c49)
    have e : s = 2 ^ (w * n) := by omega
    subst e
    rw [eg_fl_0 (by omega)] at hQ
    exact hQ
  | succ t ih =>
    intro s M h hst hQ
    obtain ⟨hs1, hs2, hs3, hs4⟩ := id hs
    obtain ⟨h1, h2, h3, h4, h5, hw1, hw4, hn1, hn2, hk4⟩ := id h
    have hA := wd_asg hw4 hn2
    refine eg_iload dX2_setInputs_43 rfl ?_
    refine eg_aload_n dX2_setInputs_45 rfl rfl ?_
    refine eg_getI gf_RX2_26 rfl (by assumption) dX2_setInputs_46 ?_
    refine eg_topi h5 ?_
    refine eg_icmp_ge 78 dX2_setInputs_49 (by decide) (fun c49 => absurd c49 (nI_ge (by omega) (by omega))) (fun c49 => ?_)
    refine eg_aload_n dX2_setInputs_52 rfl rfl ?_
    refine eg_getR gf_RX2_11 rfl (by assumption) (by assumption) dX2_setInputs_53 ?_
    refine eg_iload_n dX2_setInputs_56 rfl rfl ?_
    refine eg_aaldN rfl (by assumption) (by omega) (by decide) (hs4 u (by omega)).1 dX2_setInputs_57 ?_
    refine eg_iload dX2_setInputs_58 rfl ?_
    refine eg_iload dX2_setInputs_60 rfl ?_
    refine eg_iload_n dX2_setInputs_62 rfl rfl ?_
    refine eg_iload_n dX2_setInputs_63 rfl rfl ?_
    refine eg_imul dX2_setInputs_64 ?_
    refine eg_ishr dX2_setInputs_65 ?_
    refine eg_aload_n dX2_setInputs_66 rfl rfl ?_
    refine eg_getI gf_RX2_20 rfl (by assumption) dX2_setInputs_67 ?_
    refine eg_topi h2 ?_
    refine eg_iand dX2_setInputs_70 ?_
    refine eg_iastN (hs4 u (by omega)).2 (by omega) (by decide) dX2_setInputs_71 ?_
    refine eg_iinc dX2_setInputs_72 (by decide) rfl (eg_inc s) rfl ?_
    refine eg_goto 43 dX2_setInputs_75 (by decide) ?_
    exact ih (s + 1) _ (h.eq (eg_set_ne (by omega))) (by omega) (eg_fl_q (P := fun z => eg_J l E mX2_setInputs d kb nb Q 78 [some (.ref v), some (.int (nI w)), some (.int (nI n)), some (.int (nI u)), some (.int (nI (2 ^ (w * n))))] [] G z) (f := wd_in w u) (by omega) (fun j g1 _ => rfl) hQ)
theorem lp_X2_setInputs {l : Launch} {E : eg_E} {d kb nb : Nat} {Q : Option Value → eg_G → eg_I → Prop} {G : eg_G} {v w n : Nat} {M0 : eg_I} (hs : sh_V G v) : ∀ (t s : Nat) (M : eg_I) (l4 : Option Value), in_V M v w n 0 → s + t = n → ((∀ u z, u < s → z < 2 ^ (w * n) → M (v + 2 + u) z = wd_in w u z) ∧ ∀ q, q ≠ v → ¬ (v + 2 ≤ q ∧ q < v + 2 + n) → M q = M0 q) → (∀ M', (in_V M' v w n 0 ∧ (∀ u s, u < n → s < 2 ^ (w * n) → M' (v + 2 + u) s = wd_in w u s) ∧ ∀ q, q ≠ v → ¬ (v + 2 ≤ q ∧ q < v + 2 + n) → M' q = M0 q) → Q none G M') → eg_J l E mX2_setInputs d kb nb Q 35 [some (.ref v), some (.int (nI w)), some (.int (nI n)), some (.int (nI s)), l4] [] G M := by
  intro t
  induction t with
  | zero =>
    intro s M l4 h hst hi hQ
    obtain ⟨hs1, hs2, hs3, hs4⟩ := id hs
    obtain ⟨h1, h2, h3, h4, h5, hw1, hw4, hn1, hn2, hk4⟩ := id h
    have hA := wd_asg hw4 hn2
    refine eg_iload_n dX2_setInputs_35 rfl rfl ?_
    refine eg_iload_n dX2_setInputs_36 rfl rfl ?_
    refine eg_icmp_ge 84 dX2_setInputs_37 (by decide) (fun c37 => ?_) (fun c37 => absurd (nI_le (by omega) (by omega)) c37)
    exact eg_vret rfl dX2_setInputs_84 (hQ M ⟨h, fun u s g1 g2 => hi.1 u s (by omega) g2, hi.2⟩)
  | succ t ih =>
    intro s M l4 h hst hi hQ
    obtain ⟨hs1, hs2, hs3, hs4⟩ := id hs
    obtain ⟨h1, h2, h3, h4, h5, hw1, hw4, hn1, hn2, hk4⟩ := id h
    have hA := wd_asg hw4 hn2
    refine eg_iload_n dX2_setInputs_35 rfl rfl ?_
    refine eg_iload_n dX2_setInputs_36 rfl rfl ?_
    refine eg_icmp_ge 84 dX2_setInputs_37 (by decide) (fun c37 => absurd c37 (nI_ge (by omega) (by omega))) (fun c37 => ?_)
    refine eg_iconst dX2_setInputs_40 (v := nI 0) (by decide) ?_
    refine eg_istore dX2_setInputs_41 (by decide) rfl ?_
    refine lp_X2_setInputs1 (k := 0) hs (by omega) (2 ^ (w * n)) 0 M h (by omega) ?_
    refine eg_iinc dX2_setInputs_78 (by decide) rfl (eg_inc s) rfl ?_
    refine eg_goto 35 dX2_setInputs_81 (by decide) ?_
    refine ih (s + 1) _ _ (h.eq (eg_fl_ne (by omega))) (by omega) ⟨fun u z g1 g2 => ?_, fun q g1 g2 => ?_⟩ hQ
    · by_cases e : u = s
      · subst e
        exact eg_fl_in (by omega) g2
      · rw [eg_fl_ne (by omega)]
        exact hi.1 u z (by omega) g2
    · rw [eg_fl_ne (by omega)]
      exact hi.2 q g1 g2
theorem sp_X2_setInputs {l : Launch} {E : eg_E} {d kb nb : Nat} {Q : Option Value → eg_G → eg_I → Prop} {G : eg_G} {M : eg_I} {v w n : Nat} (hs : sh_V G v) (hw1 : 1 ≤ w) (hw4 : w ≤ 4) (hn1 : 1 ≤ n) (hn2 : n ≤ 2) (hQ : ∀ M', (in_V M' v w n 0 ∧ (∀ u s, u < n → s < 2 ^ (w * n) → M' (v + 2 + u) s = wd_in w u s) ∧ ∀ q, q ≠ v → ¬ (v + 2 ≤ q ∧ q < v + 2 + n) → M' q = M q) → Q none G M') : eg_J l E mX2_setInputs d kb nb Q 0 [some (.ref v), some (.int (nI w)), some (.int (nI n)), none, none] [] G M := by
  obtain ⟨hs1, hs2, hs3, hs4⟩ := id hs
  refine eg_aload_n dX2_setInputs_0 rfl rfl ?_
  refine eg_iload_n dX2_setInputs_1 rfl rfl ?_
  refine eg_putI gp_RX2_16 (fun q => by cases q) rfl rfl rfl (by assumption) dX2_setInputs_2 ?_
  refine eg_aload_n dX2_setInputs_5 rfl rfl ?_
  refine eg_iconst dX2_setInputs_6 (v := nI 1) (by decide) ?_
  refine eg_iload_n dX2_setInputs_7 rfl rfl ?_
  refine eg_ishl dX2_setInputs_8 ?_
  refine eg_iconst dX2_setInputs_9 (v := nI 1) (by decide) ?_
  refine eg_isub dX2_setInputs_10 ?_
  refine eg_topi (wd_m w hw1 hw4) ?_
  refine eg_putI gp_RX2_20 (fun q => by cases q) rfl rfl rfl (by assumption) dX2_setInputs_11 ?_
  refine eg_aload_n dX2_setInputs_14 rfl rfl ?_
  refine eg_iload_n dX2_setInputs_15 rfl rfl ?_
  refine eg_putI gp_RX2_23 (fun q => by cases q) rfl rfl rfl (by assumption) dX2_setInputs_16 ?_
  refine eg_aload_n dX2_setInputs_19 rfl rfl ?_
  refine eg_iconst dX2_setInputs_20 (v := nI 0) (by decide) ?_
  refine eg_putI gp_RX2_29 (fun q => by cases q) rfl rfl rfl (by assumption) dX2_setInputs_21 ?_
  refine eg_aload_n dX2_setInputs_24 rfl rfl ?_
  refine eg_iconst dX2_setInputs_25 (v := nI 1) (by decide) ?_
  refine eg_iload_n dX2_setInputs_26 rfl rfl ?_
  refine eg_iload_n dX2_setInputs_27 rfl rfl ?_
  refine eg_imul dX2_setInputs_28 ?_
  refine eg_ishl dX2_setInputs_29 ?_
  refine eg_topi (wd_a w n hw1 hw4 hn1 hn2) ?_
  refine eg_putI gp_RX2_26 (fun q => by cases q) rfl rfl rfl (by assumption) dX2_setInputs_30 ?_
  refine eg_iconst dX2_setInputs_33 (v := nI 0) (by decide) ?_
  refine eg_istore_n dX2_setInputs_34 rfl (by decide) rfl ?_
  refine lp_X2_setInputs (M0 := M) hs n 0 _ _ ⟨?_, ?_, ?_, ?_, ?_, hw1, hw4, hn1, hn2, by omega⟩ (by omega) ⟨fun u z g1 => absurd g1 (by omega), fun q g1 g2 => ?_⟩ hQ
  · rw [eg_set_j (by decide), eg_set_j (by decide), eg_set_j (by decide), eg_set_j (by decide), eg_set_eq]
  · rw [eg_set_j (by decide), eg_set_j (by decide), eg_set_j (by decide), eg_set_eq]
  · rw [eg_set_j (by decide), eg_set_j (by decide), eg_set_eq]
  · rw [eg_set_j (by decide), eg_set_eq]
  · rw [eg_set_eq]
  · rw [eg_set_ne g1, eg_set_ne g1, eg_set_ne g1, eg_set_ne g1, eg_set_ne g1]
