/-! ShortestCodeModel: the memory of a state; its calls against the pure ones -/
theorem nI_lm {x : Int32} {N : Nat} (h : N < 2 ^ 31) : nI N - nI 1 < x ↔ nI N ≤ x := by
  rw [Int32.lt_iff_toInt_lt, Int32.le_iff_toInt_le, nI_toInt h]
  cases N with
  | zero =>
    have : (nI 0 - nI 1).toInt = -1 := by decide
    rw [this]
    omega
  | succ N =>
    rw [show nI (N + 1) - nI 1 = nI N from pk_sub (by omega), nI_toInt (by omega)]
    omega
theorem nI_ls {x : Int32} {N : Nat} (h : N + 1 < 2 ^ 31) : nI N < x ↔ nI (N + 1) ≤ x := by
  rw [Int32.lt_iff_toInt_lt, Int32.le_iff_toInt_le, nI_toInt h, nI_toInt (by omega)]
  omega
def in_F (M : eg_I) (a flen : Nat) (fop flf frt : Nat → Nat) (fres : Nat) : Prop := M a 16 = nI flen ∧ M a 17 = nI fres ∧ flen ≤ 12 ∧ ∀ j, j < flen → M (a + 9) j = nI (fop j) ∧ M (a + 10) j = nI (flf j) ∧ M (a + 11) j = nI (frt j)
theorem in_F.eq {M M' : eg_I} {a len res : Nat} {op lf rt : Nat → Nat} (h : in_F M a len op lf rt res) (e0 : M' a 16 = M a 16) (e1 : M' a 17 = M a 17) (e : ∀ q, a + 9 ≤ q → q < a + 12 → M' q = M q) : in_F M' a len op lf rt res := by
  unfold in_F
  rw [e0, e1, e (a + 9) (by omega) (by omega), e (a + 10) (by omega) (by omega), e (a + 11) (by omega) (by omega)]
  exact h
def ri_U (M : eg_I) (a w n k : Nat) (cf : Nat → Int32) (co : Nat → Nat) (tg : Nat → Int32) (len : Nat) (op lf rt : Nat → Nat) (res : Nat) (fnd : Bool) (flen : Nat) (fop flf frt : Nat → Nat) (fres : Nat) (t0 t1 t2 t3 : Int32) : Prop :=
  in_M M a w n k cf ∧ (∀ u s, u < n + k + len → s < 2 ^ (w * n) → M (a + 7) (256 * u + s) = sv w n k cf op lf rt u s) ∧ (∀ o, o < 13 → M (a + 2) o = nI (co o)) ∧ (∀ s, s < 256 → M (a + 3) s = tg s) ∧ in_Q M a len op lf rt res ∧ M a 15 = (if fnd = true then 1 else 0) ∧ (fnd = true → in_F M a flen fop flf frt fres) ∧ M a 21 = t0 ∧ M a 22 = t1 ∧ M a 23 = t2 ∧ M a 24 = t3
/-- the reference's memory holds the state S -/
def ri_I (M : eg_I) (a : Nat) (S : st_T) : Prop :=
  ri_U M a S.1.1 S.1.2.1 S.1.2.2 S.2.1 S.2.2.1 S.2.2.2.1 (sP S).1 (sP S).2.1 (sP S).2.2.1 (sP S).2.2.2.1 (sP S).2.2.2.2 S.2.2.2.2.2.1.1 S.2.2.2.2.2.1.2.1 S.2.2.2.2.2.1.2.2.1 S.2.2.2.2.2.1.2.2.2.1 S.2.2.2.2.2.1.2.2.2.2.1 S.2.2.2.2.2.1.2.2.2.2.2 S.2.2.2.2.2.2.1 S.2.2.2.2.2.2.2.1 S.2.2.2.2.2.2.2.2.1 S.2.2.2.2.2.2.2.2.2
def ri_E (M M' : eg_I) (a : Nat) : Prop := ∀ q, ¬ (a ≤ q ∧ q < a + 19) → M' q = M q
theorem ri_E.rf {M : eg_I} {a : Nat} : ri_E M M a := fun _ _ => rfl
set_option maxHeartbeats 2000000 in
theorem sp_X4_isAssignment {l : Launch} {E : eg_E} {d kb nb : Nat} {Q : Option Value → eg_G → eg_I → Prop} {G : eg_G} {M : eg_I} {a w n k : Nat} {cf : Nat → Int32} {x : Int32} (hd : 1 ≤ d) (hk0 : G.2.1 a = some (.inl 4)) (h : in_M M a w n k cf) (hT : ¬ x < 0 → ¬ nI (2 ^ (w * n)) ≤ x → Q (some (.int 1)) G M) (hF : x < 0 ∨ nI (2 ^ (w * n)) ≤ x → Q (some (.int 0)) G M) : eg_J l E mX4_isAssignment d kb nb Q 0 [some (.ref a), some (.int x)] [] G M := by
  obtain ⟨m0, m1, m2, m3, m4, mc, hw1, hw4, hn1, hn2, hk4⟩ := id h
  have hA := wd_asg hw4 hn2
  refine eg_iload_n dX4_isAssignment_0 rfl rfl ?_
  refine eg_iconst dX4_isAssignment_1 (v := nI 0) (by decide) ?_
  refine eg_aload_n dX4_isAssignment_2 rfl rfl ?_
  refine eg_getI gf_RX4_19 rfl (by assumption) dX4_isAssignment_3 ?_
  refine eg_topi m3 ?_
  refine eg_iconst dX4_isAssignment_6 (v := nI 1) (by decide) ?_
  refine eg_isub dX4_isAssignment_7 ?_
  refine eg_callS3 0 0 gk_X4_within gi_X4_within gl_RX4_101 rfl (Nat.le_of_ble_eq_true rfl) (Nat.le_of_ble_eq_true rfl) (Nat.zero_le _) (Nat.zero_le _) (by omega) dX4_isAssignment_8 ?_
  refine sp_X4_within (fun z1 z2 => ?_) (fun zz => ?_)
  · exact eg_zret rfl rfl dX4_isAssignment_11 (hT z1 (fun q => z2 ((nI_lm (by omega)).mpr q)))
  · exact eg_zret rfl rfl dX4_isAssignment_11 (hF (zz.elim Or.inl (fun q => Or.inr ((nI_lm (by omega)).mp q))))
set_option maxHeartbeats 2000000 in
theorem sp_X4_isValue {l : Launch} {E : eg_E} {d kb nb : Nat} {Q : Option Value → eg_G → eg_I → Prop} {G : eg_G} {M : eg_I} {a w n k len : Nat} {cf : Nat → Int32} {x : Int32} (hd : 2 ≤ d) (hk0 : G.2.1 a = some (.inl 4)) (h : in_M M a w n k cf) (h8 : M a 8 = nI len) (hl : len ≤ 12) (hT : ¬ x < 0 → ¬ nI (n + k + len) ≤ x → Q (some (.int 1)) G M) (hF : x < 0 ∨ nI (n + k + len) ≤ x → Q (some (.int 0)) G M) : eg_J l E mX4_isValue d kb nb Q 0 [some (.ref a), some (.int x)] [] G M := by
  obtain ⟨m0, m1, m2, m3, m4, mc, hw1, hw4, hn1, hn2, hk4⟩ := id h
  have hA := wd_asg hw4 hn2
  refine eg_iload_n dX4_isValue_0 rfl rfl ?_
  refine eg_iconst dX4_isValue_1 (v := nI 0) (by decide) ?_
  refine eg_aload_n dX4_isValue_2 rfl rfl ?_
  refine eg_callV0 0 0 gk_X4_all gi_X4_all (by assumption) rfl gl_RX4_116 rfl (Nat.le_of_ble_eq_true rfl) (Nat.le_of_ble_eq_true rfl) (Nat.zero_le _) (Nat.zero_le _) (by omega) dX4_isValue_3 ?_
  refine sp_X4_all (by omega) hk0 h h8 ?_
  refine eg_iconst dX4_isValue_6 (v := nI 1) (by decide) ?_
  refine eg_isub dX4_isValue_7 ?_
  refine eg_callS3 0 0 gk_X4_within gi_X4_within gl_RX4_101 rfl (Nat.le_of_ble_eq_true rfl) (Nat.le_of_ble_eq_true rfl) (Nat.zero_le _) (Nat.zero_le _) (by omega) dX4_isValue_8 ?_
  refine sp_X4_within (fun z1 z2 => ?_) (fun zz => ?_)
  · exact eg_zret rfl rfl dX4_isValue_11 (hT z1 (fun q => z2 ((nI_lm (by omega)).mpr q)))
  · exact eg_zret rfl rfl dX4_isValue_11 (hF (zz.elim Or.inl (fun q => Or.inr ((nI_lm (by omega)).mp q))))
set_option maxHeartbeats 2000000 in
theorem lp_X4_words {l : Launch} {E : eg_E} {d kb nb : Nat} {Q : Option Value → eg_G → eg_I → Prop} {G : eg_G} {a : Nat} {x y : Int32} (hs : sh_M G a) : ∀ (t s : Nat) (M : eg_I), s + t = 256 → eg_J l E mX4_words d kb nb Q 100 [some (.ref a), some (.int x), some (.int y), some (.int (nI 256))] [] G (eg_fl M (a + 3) s 256 (fun _ => nI 0)) → eg_J l E mX4_words d kb nb Q 80 [some (.ref a), some (.int x), some (.int y), some (.int (nI s))] [] G M := by
  intro t
  induction t with
  | zero =>
    intro s M hst hQ
    obtain ⟨k0, ⟨x5, y5⟩, ⟨x6, y6⟩, ⟨x7, y7⟩, ⟨x9, y9⟩, ⟨x10, y10⟩, ⟨x11, y11⟩, ⟨x13, y13⟩, ⟨x14, y14⟩, ⟨x18, y18⟩, ⟨x19, y19⟩, ⟨x20, y20⟩, ⟨x25, y25⟩, ⟨x26, y26⟩, ⟨x27, y27⟩, ⟨x28, y28⟩, ⟨x30, y30⟩, ⟨x31, y31⟩, ⟨x32, y32⟩⟩ := id hs
    refine eg_iload_n dX4_words_80 rfl rfl ?_
    refine eg_sipush dX4_words_81 (v := nI 256) (by decide) ?_
    refine eg_icmp_ge 100 dX4_words_84 (by decide) (fun c84 => ?_) (fun c84 => absurd (nI_le (a := 256) (by omega) (by omega)) c84)
    have e : s = 256 := by omega
    subst e
    rw [eg_fl_0 (by omega)] at hQ
    exact hQ
  | succ t ih =>
    intro s M hst hQ
    obtain ⟨k0, ⟨x5, y5⟩, ⟨x6, y6⟩, ⟨x7, y7⟩, ⟨x9, y9⟩, ⟨x10, y10⟩, ⟨x11, y11⟩, ⟨x13, y13⟩, ⟨x14, y14⟩, ⟨x18, y18⟩, ⟨x19, y19⟩, ⟨x20, y20⟩, ⟨x25, y25⟩, ⟨x26, y26⟩, ⟨x27, y27⟩, ⟨x28, y28⟩, ⟨x30, y30⟩, ⟨x31, y31⟩, ⟨x32, y32⟩⟩ := id hs
    refine eg_iload_n dX4_words_80 rfl rfl ?_
    refine eg_sipush dX4_words_81 (v := nI 256) (by decide) ?_
    refine eg_icmp_ge 100 dX4_words_84 (by decide) (fun c84 => absurd c84 (nI_ge (b := 256) (by omega) (by omega))) (fun c84 => ?_)
    refine eg_aload_n dX4_words_87 rfl rfl ?_
    refine eg_getR gf_RX4_29 rfl (by assumption) (by assumption) dX4_words_88 ?_
    refine eg_iload_n dX4_words_91 rfl rfl ?_
    refine eg_iconst dX4_words_92 (v := nI 0) (by decide) ?_
    refine eg_iastN (by assumption) (by omega) (by decide) dX4_words_93 ?_
    refine eg_iinc dX4_words_94 (by decide) rfl (eg_inc s) rfl ?_
    refine eg_goto 80 dX4_words_97 (by decide) ?_
    exact ih (s + 1) _ (by omega) (eg_fl_q (P := fun z => eg_J l E mX4_words d kb nb Q 100 [some (.ref a), some (.int x), some (.int y), some (.int (nI 256))] [] G z) (f := fun _ => nI 0) (by omega) (fun j g1 _ => rfl) hQ)
set_option maxHeartbeats 2000000 in
theorem ap_R_words {l : Launch} {E : eg_E} {d kb nb : Nat} {Q : Option Value → eg_G → eg_I → Prop} {G : eg_G} {M : eg_I} {a : Nat} {S : st_T} (hs : sh_M G a) (hok : st_ok S) (hI : ri_I M a S) {x y : Int32} (hd : 4 ≤ d) (hQ : ∀ M', ri_I M' a (ap_words S x y).2 → ri_E M M' a → Q (some (.int (ap_words S x y).1)) G M') : eg_J l E mX4_words d kb nb Q 0 [some (.ref a), some (.int x), some (.int y), none] [] G M := by
  obtain ⟨k0, ⟨x5, y5⟩, ⟨x6, y6⟩, ⟨x7, y7⟩, ⟨x9, y9⟩, ⟨x10, y10⟩, ⟨x11, y11⟩, ⟨x13, y13⟩, ⟨x14, y14⟩, ⟨x18, y18⟩, ⟨x19, y19⟩, ⟨x20, y20⟩, ⟨x25, y25⟩, ⟨x26, y26⟩, ⟨x27, y27⟩, ⟨x28, y28⟩, ⟨x30, y30⟩, ⟨x31, y31⟩, ⟨x32, y32⟩⟩ := id hs
  obtain ⟨⟨w, n, k⟩, cf, co, tg, ⟨len, op, lf, rt, res⟩, ⟨fnd, flen, fop, flf, frt, fres⟩, t0, t1, t2, t3⟩ := S
  replace hI : ri_U M a w n k cf co tg len op lf rt res fnd flen fop flf frt fres t0 t1 t2 t3 := hI
  replace hok : ok_U w n k cf co len op lf rt res fnd flen fop flf frt fres := hok
  obtain ⟨b1, b2, b3, b4, b5, b6, b7, b8, b9, b10, b11⟩ := id hI
  obtain ⟨m0, m1, m2, m3, m4, mc, hw1, hw4, hn1, hn2, hk4⟩ := id b1
  obtain ⟨p3, p4, pl, pa⟩ := id b5
  obtain ⟨-, -, -, -, -, cw, co9, pok, fok⟩ := id hok
  obtain ⟨-, pok2, pok3⟩ := id pok
  have hA := wd_asg hw4 hn2
  refine eg_iload_n dX4_words_0 rfl rfl ?_
  refine eg_iconst dX4_words_1 (v := nI 1) (by decide) ?_
  refine eg_iconst dX4_words_2 (v := nI 4) (by decide) ?_
  refine eg_callS3 0 0 gk_X4_within gi_X4_within gl_RX4_101 rfl (Nat.le_of_ble_eq_true rfl) (Nat.le_of_ble_eq_true rfl) (Nat.zero_le _) (Nat.zero_le _) (by omega) dX4_words_3 ?_
  refine sp_X4_within (fun z1 z2 => ?_) (fun zz => ?_)
  · refine eg_if_eq 18 dX4_words_6 (by decide) (fun z => absurd z (by decide)) (fun _ => ?_)
    refine eg_iload_n dX4_words_9 rfl rfl ?_
    refine eg_iconst dX4_words_10 (v := nI 1) (by decide) ?_
    refine eg_iconst dX4_words_11 (v := nI 2) (by decide) ?_
    refine eg_callS3 0 0 gk_X4_within gi_X4_within gl_RX4_101 rfl (Nat.le_of_ble_eq_true rfl) (Nat.le_of_ble_eq_true rfl) (Nat.zero_le _) (Nat.zero_le _) (by omega) dX4_words_12 ?_
    refine sp_X4_within (fun y1 y2 => ?_) (fun yy => ?_)
    · refine eg_if_ne 21 dX4_words_15 (by decide) (fun _ => ?_) (fun z => absurd z (by decide))
      have e : ap_words ((w, n, k), cf, co, tg, (len, op, lf, rt, res), (fnd, flen, fop, flf, frt, fres), t0, t1, t2, t3) x y = (nI (2 ^ (x.toNatClampNeg * y.toNatClampNeg)), ((x.toNatClampNeg, y.toNatClampNeg, 0), cf, co, (fun _ => 0), (0, op, lf, rt, 0), (false, flen, fop, flf, frt, fres), t0, t1, t2, t3)) := if_neg (fun q => q.elim z1 (fun q => q.elim z2 (fun q => q.elim y1 y2)))
      rw [e] at hQ
      obtain ⟨X, rfl, hX1, hX4⟩ := nI_rng z1 z2 (by omega) (by omega)
      obtain ⟨Y, rfl, hY1, hY2⟩ := nI_rng y1 y2 (by omega) (by omega)
      rw [nI_clamp (by omega), nI_clamp (by omega)] at hQ
      replace hQ : ∀ M', ri_U M' a X Y 0 cf co ((fun _ => 0)) 0 op lf rt 0 false flen fop flf frt fres t0 t1 t2 t3 → ri_E M M' a → Q (some (.int (nI (2 ^ (X * Y))))) G M' := hQ
      refine eg_aload_n dX4_words_21 rfl rfl ?_
      refine eg_iload_n dX4_words_22 rfl rfl ?_
      refine eg_putI gp_RX4_7 (fun q => by cases q) rfl rfl rfl (by assumption) dX4_words_23 ?_
      refine eg_aload_n dX4_words_26 rfl rfl ?_
      refine eg_iload_n dX4_words_27 rfl rfl ?_
      refine eg_putI gp_RX4_13 (fun q => by cases q) rfl rfl rfl (by assumption) dX4_words_28 ?_
      refine eg_aload_n dX4_words_31 rfl rfl ?_
      refine eg_iconst dX4_words_32 (v := nI 1) (by decide) ?_
      refine eg_aload_n dX4_words_33 rfl rfl ?_
      refine eg_getI gf_RX4_7 rfl (by assumption) dX4_words_34 ?_
      refine eg_topi (show _ = nI X by repeat (first | rw [eg_set_eq] | rw [eg_set_j (by decide)] | rw [eg_set_ne (by omega)])) ?_
      refine eg_ishl dX4_words_37 ?_
      refine eg_iconst dX4_words_38 (v := nI 1) (by decide) ?_
      refine eg_isub dX4_words_39 ?_
      refine eg_topi (wd_m X hX1 hX4) ?_
      refine eg_putI gp_RX4_16 (fun q => by cases q) rfl rfl rfl (by assumption) dX4_words_40 ?_
      refine eg_aload_n dX4_words_43 rfl rfl ?_
      refine eg_iconst dX4_words_44 (v := nI 1) (by decide) ?_
      refine eg_aload_n dX4_words_45 rfl rfl ?_
      refine eg_getI gf_RX4_7 rfl (by assumption) dX4_words_46 ?_
      refine eg_topi (show _ = nI X by repeat (first | rw [eg_set_eq] | rw [eg_set_j (by decide)] | rw [eg_set_ne (by omega)])) ?_
      refine eg_aload_n dX4_words_49 rfl rfl ?_
      refine eg_getI gf_RX4_13 rfl (by assumption) dX4_words_50 ?_
      refine eg_topi (show _ = nI Y by repeat (first | rw [eg_set_eq] | rw [eg_set_j (by decide)] | rw [eg_set_ne (by omega)])) ?_
      refine eg_imul dX4_words_53 ?_
      refine eg_ishl dX4_words_54 ?_
      refine eg_topi (wd_a X Y hX1 hX4 hY1 hY2) ?_
      refine eg_putI gp_RX4_19 (fun q => by cases q) rfl rfl rfl (by assumption) dX4_words_55 ?_
      refine eg_aload_n dX4_words_58 rfl rfl ?_
      refine eg_iconst dX4_words_59 (v := nI 0) (by decide) ?_
      refine eg_putI gp_RX4_83 (fun q => by cases q) rfl rfl rfl (by assumption) dX4_words_60 ?_
      refine eg_aload_n dX4_words_63 rfl rfl ?_
      refine eg_iconst dX4_words_64 (v := nI 0) (by decide) ?_
      refine eg_putI gp_RX4_90 (fun q => by cases q) rfl rfl rfl (by assumption) dX4_words_65 ?_
      refine eg_aload_n dX4_words_68 rfl rfl ?_
      refine eg_iconst dX4_words_69 (v := nI 0) (by decide) ?_
      refine eg_putI gp_RX4_105 (fun q => by cases q) rfl rfl rfl (by assumption) dX4_words_70 ?_
      refine eg_aload_n dX4_words_73 rfl rfl ?_
      refine eg_iconst dX4_words_74 (v := nI 0) (by decide) ?_
      refine eg_putI gp_RX4_108 (fun q => by cases q) rfl rfl rfl (by assumption) dX4_words_75 ?_
      refine eg_iconst dX4_words_78 (v := nI 0) (by decide) ?_
      refine eg_istore_n dX4_words_79 rfl (by decide) rfl ?_
      refine lp_X4_words hs 256 0 _ (by omega) ?_
      generalize hM3 : eg_fl (eg_set (eg_set (eg_set (eg_set (eg_set (eg_set (eg_set (eg_set M a 0 (nI X)) a 1 (nI Y)) a 2 (nI (2 ^ X - 1))) a 3 (nI (2 ^ (X * Y)))) a 4 (nI 0)) a 8 (nI 0)) a 12 (nI 0)) a 15 (nI 0)) (a + 3) 0 256 (fun _ => nI 0) = M3
      have o3 : ∀ q, q ≠ a → q ≠ a + 3 → M3 q = M q := fun q y1 y2 => by
        rw [← hM3, eg_fl_ne y2]
        repeat rw [eg_set_ne y1]
      have f3 : ∀ j, 16 ≤ j → M3 a j = M a j := fun j y1 => by
        rw [← hM3, eg_fl_ne (by omega)]
        repeat rw [eg_set_j (by omega)]
      have s0 : M3 a 0 = nI X := by
        rw [← hM3, eg_fl_ne (by omega)]
        repeat (first | rw [eg_set_eq] | rw [eg_set_j (by decide)] | rw [eg_set_ne (by omega)])
      have s1 : M3 a 1 = nI Y := by
        rw [← hM3, eg_fl_ne (by omega)]
        repeat (first | rw [eg_set_eq] | rw [eg_set_j (by decide)] | rw [eg_set_ne (by omega)])
      have s2 : M3 a 2 = nI (2 ^ X - 1) := by
        rw [← hM3, eg_fl_ne (by omega)]
        repeat (first | rw [eg_set_eq] | rw [eg_set_j (by decide)] | rw [eg_set_ne (by omega)])
      have s3 : M3 a 3 = nI (2 ^ (X * Y)) := by
        rw [← hM3, eg_fl_ne (by omega)]
        repeat (first | rw [eg_set_eq] | rw [eg_set_j (by decide)] | rw [eg_set_ne (by omega)])
      have s4 : M3 a 4 = nI 0 := by
        rw [← hM3, eg_fl_ne (by omega)]
        repeat (first | rw [eg_set_eq] | rw [eg_set_j (by decide)] | rw [eg_set_ne (by omega)])
      have s8 : M3 a 8 = nI 0 := by
        rw [← hM3, eg_fl_ne (by omega)]
        repeat (first | rw [eg_set_eq] | rw [eg_set_j (by decide)] | rw [eg_set_ne (by omega)])
      have s12 : M3 a 12 = nI 0 := by
        rw [← hM3, eg_fl_ne (by omega)]
        repeat (first | rw [eg_set_eq] | rw [eg_set_j (by decide)] | rw [eg_set_ne (by omega)])
      have s15 : M3 a 15 = nI 0 := by
        rw [← hM3, eg_fl_ne (by omega)]
        repeat (first | rw [eg_set_eq] | rw [eg_set_j (by decide)] | rw [eg_set_ne (by omega)])
      have c1 : in_M M3 a X Y 0 cf := ⟨s0, s1, s2, s3, s4, fun j hj => absurd hj (by omega), hX1, hX4, hY1, hY2, by omega⟩
      refine eg_aload_n dX4_words_100 rfl rfl ?_
      refine eg_callV0 0 0 gk_X4_reckonAll gi_X4_reckonAll (by assumption) rfl gl_RX4_80 rfl (Nat.le_of_ble_eq_true rfl) (Nat.le_of_ble_eq_true rfl) (Nat.zero_le _) (Nat.zero_le _) (by omega) dX4_words_101 ?_
      refine sp_X4_reckonAll (op := op) (lf := lf) (rt := rt) (len := 0) (by omega) hs (by omega) (fun j hj => absurd hj (by omega)) (fun j hj => absurd hj (by omega)) c1 ⟨s8, fun j hj => absurd hj (by omega)⟩ (fun M4 h3 h4 => ?_)
      refine eg_aload_n dX4_words_104 rfl rfl ?_
      refine eg_getI gf_RX4_19 rfl (by assumption) dX4_words_105 ?_
      refine eg_topi (show _ = nI (2 ^ (X * Y)) by rw [h4 _ (by omega)]; exact s3) ?_
      exact eg_iret rfl dX4_words_108 (hQ M4 ⟨c1.eq (fun j _ => by rw [h4 _ (by omega)]) (h4 _ (by omega)), h3, fun o ho => by rw [h4 _ (by omega), o3 _ (by omega) (by omega)]; exact b3 o ho, fun s q => by rw [h4 _ (by omega), ← hM3, eg_fl_in (by omega) q]; rfl, ⟨by rw [h4 _ (by omega)]; exact s8, by rw [h4 _ (by omega)]; exact s12, by omega, fun j hj => absurd hj (by omega)⟩, by rw [h4 _ (by omega)]; exact s15, fun q => absurd q (by decide), by rw [h4 _ (by omega), f3 _ (by omega)]; exact b8, by rw [h4 _ (by omega), f3 _ (by omega)]; exact b9, by rw [h4 _ (by omega), f3 _ (by omega)]; exact b10, by rw [h4 _ (by omega), f3 _ (by omega)]; exact b11⟩ (fun q z => by rw [h4 _ (by omega), o3 _ (by omega) (by omega)]))
    · refine eg_if_ne 21 dX4_words_15 (by decide) (fun z => absurd (show nI 0 = 0 from rfl) z) (fun _ => ?_)
      have e : ap_words ((w, n, k), cf, co, tg, (len, op, lf, rt, res), (fnd, flen, fop, flf, frt, fres), t0, t1, t2, t3) x y = (-2, ((w, n, k), cf, co, tg, (len, op, lf, rt, res), (fnd, flen, fop, flf, frt, fres), t0, t1, t2, t3)) := if_pos (Or.inr (Or.inr yy))
      rw [e] at hQ
      refine eg_bipush dX4_words_18 (v := -2) (by decide) ?_
      exact eg_iret rfl dX4_words_20 (hQ M hI ri_E.rf)
  · refine eg_if_eq 18 dX4_words_6 (by decide) (fun _ => ?_) (fun z => absurd (show nI 0 = 0 from rfl) z)
    have e : ap_words ((w, n, k), cf, co, tg, (len, op, lf, rt, res), (fnd, flen, fop, flf, frt, fres), t0, t1, t2, t3) x y = (-2, ((w, n, k), cf, co, tg, (len, op, lf, rt, res), (fnd, flen, fop, flf, frt, fres), t0, t1, t2, t3)) := if_pos (zz.elim Or.inl (fun q => Or.inr (Or.inl q)))
    rw [e] at hQ
    refine eg_bipush dX4_words_18 (v := -2) (by decide) ?_
    exact eg_iret rfl dX4_words_20 (hQ M hI ri_E.rf)
set_option maxHeartbeats 2000000 in
theorem ap_R_constant {l : Launch} {E : eg_E} {d kb nb : Nat} {Q : Option Value → eg_G → eg_I → Prop} {G : eg_G} {M : eg_I} {a : Nat} {S : st_T} (hs : sh_M G a) (hok : st_ok S) (hI : ri_I M a S) {x : Int32} (hd : 4 ≤ d) (hQ : ∀ M', ri_I M' a (ap_constant S x).2 → ri_E M M' a → Q (some (.int (ap_constant S x).1)) G M') : eg_J l E mX4_constant d kb nb Q 0 [some (.ref a), some (.int x)] [] G M := by
  obtain ⟨k0, ⟨x5, y5⟩, ⟨x6, y6⟩, ⟨x7, y7⟩, ⟨x9, y9⟩, ⟨x10, y10⟩, ⟨x11, y11⟩, ⟨x13, y13⟩, ⟨x14, y14⟩, ⟨x18, y18⟩, ⟨x19, y19⟩, ⟨x20, y20⟩, ⟨x25, y25⟩, ⟨x26, y26⟩, ⟨x27, y27⟩, ⟨x28, y28⟩, ⟨x30, y30⟩, ⟨x31, y31⟩, ⟨x32, y32⟩⟩ := id hs
  obtain ⟨⟨w, n, k⟩, cf, co, tg, ⟨len, op, lf, rt, res⟩, ⟨fnd, flen, fop, flf, frt, fres⟩, t0, t1, t2, t3⟩ := S
  replace hI : ri_U M a w n k cf co tg len op lf rt res fnd flen fop flf frt fres t0 t1 t2 t3 := hI
  replace hok : ok_U w n k cf co len op lf rt res fnd flen fop flf frt fres := hok
  obtain ⟨b1, b2, b3, b4, b5, b6, b7, b8, b9, b10, b11⟩ := id hI
  obtain ⟨m0, m1, m2, m3, m4, mc, hw1, hw4, hn1, hn2, hk4⟩ := id b1
  obtain ⟨p3, p4, pl, pa⟩ := id b5
  obtain ⟨-, -, -, -, -, cw, co9, pok, fok⟩ := id hok
  obtain ⟨-, pok2, pok3⟩ := id pok
  have hA := wd_asg hw4 hn2
  refine eg_iload_n dX4_constant_0 rfl rfl ?_
  refine eg_iconst dX4_constant_1 (v := nI 0) (by decide) ?_
  refine eg_aload_n dX4_constant_2 rfl rfl ?_
  refine eg_getI gf_RX4_16 rfl (by assumption) dX4_constant_3 ?_
  refine eg_topi m2 ?_
  refine eg_callS3 0 0 gk_X4_within gi_X4_within gl_RX4_101 rfl (Nat.le_of_ble_eq_true rfl) (Nat.le_of_ble_eq_true rfl) (Nat.zero_le _) (Nat.zero_le _) (by omega) dX4_constant_6 ?_
  refine sp_X4_within (fun z1 z2 => ?_) (fun zz => ?_)
  · refine eg_if_ne 15 dX4_constant_9 (by decide) (fun _ => ?_) (fun z => absurd z (by decide))
    refine eg_aload_n dX4_constant_15 rfl rfl ?_
    refine eg_getI gf_RX4_90 rfl (by assumption) dX4_constant_16 ?_
    refine eg_topi p3 ?_
    refine eg_if_le 25 dX4_constant_19 (by decide) (fun c1 => ?_) (fun c1 => ?_)
    · have hl : ¬ 0 < len := fun q => absurd c1 (nI_nle q (by omega))
      refine eg_aload_n dX4_constant_25 rfl rfl ?_
      refine eg_getI gf_RX4_83 rfl (by assumption) dX4_constant_26 ?_
      refine eg_topi m4 ?_
      refine eg_iconst dX4_constant_29 (v := nI 4) (by decide) ?_
      refine eg_icmp_ne 36 dX4_constant_30 (by decide) (fun c2 => ?_) (fun c2 => ?_)
      · have hk : ¬ 4 ≤ k := fun q => c2 (by rw [show k = 4 by omega])
        have e : ap_constant ((w, n, k), cf, co, tg, (len, op, lf, rt, res), (fnd, flen, fop, flf, frt, fres), t0, t1, t2, t3) x = (nI (n + k), ((w, n, k + 1), ss_up cf k x, co, tg, (len, op, lf, rt, res), (false, flen, fop, flf, frt, fres), t0, t1, t2, t3)) := by
          unfold ap_constant
          rw [if_neg (fun q => q.elim z1 z2), if_neg hl, if_neg hk]
        rw [e] at hQ
        replace hQ : ∀ M', ri_U M' a w n (k + 1) (ss_up cf k x) co tg len op lf rt res false flen fop flf frt fres t0 t1 t2 t3 → ri_E M M' a → Q (some (.int (nI (n + k)))) G M' := hQ
        obtain ⟨ex, hx⟩ := nI_cm z1 z2 (by have := wd_mask hw4; omega)
        have hl0 : len = 0 := by omega
        have hcw : ∀ j, j < k + 1 → ∃ z, z < 2 ^ w ∧ ss_up cf k x j = nI z := fun j hj => by
          by_cases e : j = k
          · subst e
            rw [ss_up_e]
            exact ⟨x.toNatClampNeg, by have := Nat.two_pow_pos w; omega, ex⟩
          · rw [ss_up_n e]
            exact cw j (by omega)
        refine eg_aload_n dX4_constant_36 rfl rfl ?_
        refine eg_getR gf_RX4_22 rfl (by assumption) (by assumption) dX4_constant_37 ?_
        refine eg_aload_n dX4_constant_40 rfl rfl ?_
        refine eg_getI gf_RX4_83 rfl (by assumption) dX4_constant_41 ?_
        refine eg_topi m4 ?_
        refine eg_iload_n dX4_constant_44 rfl rfl ?_
        refine eg_iastN (by assumption) (by omega) (by decide) dX4_constant_45 ?_
        refine eg_aload_n dX4_constant_46 rfl rfl ?_
        refine eg_dup dX4_constant_47 rfl ?_
        refine eg_getI gf_RX4_83 rfl (by assumption) dX4_constant_48 ?_
        refine eg_topi (show _ = nI k by rw [eg_set_ne (by omega)]; exact m4) ?_
        refine eg_iconst dX4_constant_51 (v := nI 1) (by decide) ?_
        refine eg_iadd dX4_constant_52 ?_
        refine eg_topi (nI_add k 1) ?_
        refine eg_putI gp_RX4_83 (fun q => by cases q) rfl rfl rfl (by assumption) dX4_constant_53 ?_
        refine eg_aload_n dX4_constant_56 rfl rfl ?_
        refine eg_iconst dX4_constant_57 (v := nI 0) (by decide) ?_
        refine eg_putI gp_RX4_108 (fun q => by cases q) rfl rfl rfl (by assumption) dX4_constant_58 ?_
        generalize hM2 : eg_set (eg_set (eg_set M (a + 1) k x) a 4 (nI (k + 1))) a 15 (nI 0) = M2
        have o2 : ∀ q, q ≠ a → q ≠ a + 1 → M2 q = M q := fun q y1 y2 => by rw [← hM2, eg_set_ne y1, eg_set_ne y1, eg_set_ne y2]
        have f2 : ∀ j, j ≠ 4 → j ≠ 15 → M2 a j = M a j := fun j y1 y2 => by rw [← hM2, eg_set_j y2, eg_set_j y1, eg_set_ne (by omega)]
        have s4 : M2 a 4 = nI (k + 1) := by rw [← hM2, eg_set_j (by decide), eg_set_eq]
        have s15 : M2 a 15 = nI 0 := by rw [← hM2, eg_set_eq]
        have c1 : in_M M2 a w n (k + 1) (ss_up cf k x) := ⟨by rw [f2 _ (by decide) (by decide)]; exact m0, by rw [f2 _ (by decide) (by decide)]; exact m1, by rw [f2 _ (by decide) (by decide)]; exact m2, by rw [f2 _ (by decide) (by decide)]; exact m3, s4, fun j hj => by
          rw [← hM2, eg_set_ne (by omega), eg_set_ne (by omega)]
          by_cases e : j = k
          · subst e; rw [eg_set_eq, ss_up_e]
          · rw [eg_set_j e, ss_up_n e]; exact mc j (by omega), hw1, hw4, hn1, hn2, by omega⟩
        refine eg_aload_n dX4_constant_61 rfl rfl ?_
        refine eg_callV0 0 0 gk_X4_reckonAll gi_X4_reckonAll (by assumption) rfl gl_RX4_80 rfl (Nat.le_of_ble_eq_true rfl) (Nat.le_of_ble_eq_true rfl) (Nat.zero_le _) (Nat.zero_le _) (by omega) dX4_constant_62 ?_
        refine sp_X4_reckonAll (op := op) (lf := lf) (rt := rt) (len := len) (by omega) hs pl (fun j hj => absurd hj (by omega)) hcw c1 ⟨by rw [f2 _ (by decide) (by decide)]; exact p3, fun j hj => absurd hj (by omega)⟩ (fun M4 h3 h4 => ?_)
        have c4 := c1.eq (M' := M4) (fun j _ => by rw [h4 _ (by omega)]) (h4 _ (by omega))
        refine eg_aload_n dX4_constant_65 rfl rfl ?_
        refine eg_callV0 0 0 gk_X4_firsts gi_X4_firsts (by assumption) rfl gl_RX4_86 rfl (Nat.le_of_ble_eq_true rfl) (Nat.le_of_ble_eq_true rfl) (Nat.zero_le _) (Nat.zero_le _) (by omega) dX4_constant_66 ?_
        refine sp_X4_firsts k0 c4 ?_
        refine eg_iconst dX4_constant_69 (v := nI 1) (by decide) ?_
        refine eg_isub dX4_constant_70 ?_
        refine eg_topi (show nI (n + (k + 1)) - nI 1 = nI (n + k) from pk_sub (by omega)) ?_
        exact eg_iret rfl dX4_constant_71 (hQ M4 ⟨c4, h3, fun o ho => by rw [h4 _ (by omega), o2 _ (by omega) (by omega)]; exact b3 o ho, fun s q => by rw [h4 _ (by omega), o2 _ (by omega) (by omega)]; exact b4 s q, b5.eq (by rw [h4 _ (by omega), f2 _ (by decide) (by decide)]) (by rw [h4 _ (by omega), f2 _ (by decide) (by decide)]) (fun q q1 q2 => by rw [h4 _ (by omega), o2 _ (by omega) (by omega)]), by rw [h4 _ (by omega)]; exact s15, fun q => absurd q (by decide), by rw [h4 _ (by omega), f2 _ (by decide) (by decide)]; exact b8, by rw [h4 _ (by omega), f2 _ (by decide) (by decide)]; exact b9, by rw [h4 _ (by omega), f2 _ (by decide) (by decide)]; exact b10, by rw [h4 _ (by omega), f2 _ (by decide) (by decide)]; exact b11⟩ (fun q z => by rw [h4 _ (by omega), o2 _ (by omega) (by omega)]))
      · refine eg_bipush dX4_constant_33 (v := -4) (by decide) ?_
        exact eg_iret rfl dX4_constant_35 (by
            have hk : k = 4 := (nI_eq (by omega) (by omega)).mp c2
            have e : ap_constant ((w, n, k), cf, co, tg, (len, op, lf, rt, res), (fnd, flen, fop, flf, frt, fres), t0, t1, t2, t3) x = (-4, ((w, n, k), cf, co, tg, (len, op, lf, rt, res), (fnd, flen, fop, flf, frt, fres), t0, t1, t2, t3)) := by
              unfold ap_constant
              rw [if_neg (fun q => q.elim z1 z2), if_neg hl, if_pos (Nat.le_of_eq hk.symm)]
            rw [e] at hQ
            exact hQ M hI ri_E.rf)
    · refine eg_bipush dX4_constant_22 (v := -3) (by decide) ?_
      exact eg_iret rfl dX4_constant_24 (by
          have hl : 0 < len := Nat.lt_of_not_le (fun q => c1 (nI_le (a := len) (b := 0) q (by omega)))
          have e : ap_constant ((w, n, k), cf, co, tg, (len, op, lf, rt, res), (fnd, flen, fop, flf, frt, fres), t0, t1, t2, t3) x = (-3, ((w, n, k), cf, co, tg, (len, op, lf, rt, res), (fnd, flen, fop, flf, frt, fres), t0, t1, t2, t3)) := by
            unfold ap_constant
            rw [if_neg (fun q => q.elim z1 z2), if_pos hl]
          rw [e] at hQ
          exact hQ M hI ri_E.rf)
  · refine eg_if_ne 15 dX4_constant_9 (by decide) (fun z => absurd (show nI 0 = 0 from rfl) z) (fun _ => ?_)
    have e : ap_constant ((w, n, k), cf, co, tg, (len, op, lf, rt, res), (fnd, flen, fop, flf, frt, fres), t0, t1, t2, t3) x = (-2, ((w, n, k), cf, co, tg, (len, op, lf, rt, res), (fnd, flen, fop, flf, frt, fres), t0, t1, t2, t3)) := if_pos zz
    rw [e] at hQ
    refine eg_bipush dX4_constant_12 (v := -2) (by decide) ?_
    exact eg_iret rfl dX4_constant_14 (hQ M hI ri_E.rf)
set_option maxHeartbeats 2000000 in
theorem ap_R_cost {l : Launch} {E : eg_E} {d kb nb : Nat} {Q : Option Value → eg_G → eg_I → Prop} {G : eg_G} {M : eg_I} {a : Nat} {S : st_T} (hs : sh_M G a) (hok : st_ok S) (hI : ri_I M a S) {x y : Int32} (hd : 4 ≤ d) (hQ : ∀ M', ri_I M' a (ap_cost S x y).2 → ri_E M M' a → Q (some (.int (ap_cost S x y).1)) G M') : eg_J l E mX4_cost d kb nb Q 0 [some (.ref a), some (.int x), some (.int y), none] [] G M := by
  obtain ⟨k0, ⟨x5, y5⟩, ⟨x6, y6⟩, ⟨x7, y7⟩, ⟨x9, y9⟩, ⟨x10, y10⟩, ⟨x11, y11⟩, ⟨x13, y13⟩, ⟨x14, y14⟩, ⟨x18, y18⟩, ⟨x19, y19⟩, ⟨x20, y20⟩, ⟨x25, y25⟩, ⟨x26, y26⟩, ⟨x27, y27⟩, ⟨x28, y28⟩, ⟨x30, y30⟩, ⟨x31, y31⟩, ⟨x32, y32⟩⟩ := id hs
  obtain ⟨⟨w, n, k⟩, cf, co, tg, ⟨len, op, lf, rt, res⟩, ⟨fnd, flen, fop, flf, frt, fres⟩, t0, t1, t2, t3⟩ := S
  replace hI : ri_U M a w n k cf co tg len op lf rt res fnd flen fop flf frt fres t0 t1 t2 t3 := hI
  replace hok : ok_U w n k cf co len op lf rt res fnd flen fop flf frt fres := hok
  obtain ⟨b1, b2, b3, b4, b5, b6, b7, b8, b9, b10, b11⟩ := id hI
  obtain ⟨m0, m1, m2, m3, m4, mc, hw1, hw4, hn1, hn2, hk4⟩ := id b1
  obtain ⟨p3, p4, pl, pa⟩ := id b5
  obtain ⟨-, -, -, -, -, cw, co9, pok, fok⟩ := id hok
  obtain ⟨-, pok2, pok3⟩ := id pok
  have hA := wd_asg hw4 hn2
  refine eg_iload_n dX4_cost_0 rfl rfl ?_
  refine eg_iconst dX4_cost_1 (v := nI 0) (by decide) ?_
  refine eg_bipush dX4_cost_2 (v := nI 12) (by decide) ?_
  refine eg_callS3 0 0 gk_X4_within gi_X4_within gl_RX4_101 rfl (Nat.le_of_ble_eq_true rfl) (Nat.le_of_ble_eq_true rfl) (Nat.zero_le _) (Nat.zero_le _) (by omega) dX4_cost_4 ?_
  refine sp_X4_within (fun z1 z2 => ?_) (fun zz => ?_)
  · refine eg_if_ne 12 dX4_cost_7 (by decide) (fun _ => ?_) (fun z => absurd z (by decide))
    replace z2 : ¬ nI 13 ≤ x := fun q => z2 ((nI_ls (by omega)).mpr q)
    obtain ⟨ex, hx⟩ := nI_cl z1 z2 (by omega)
    generalize x.toNatClampNeg = X at ex hx
    subst ex
    refine eg_iload_n dX4_cost_12 rfl rfl ?_
    refine eg_iconst dX4_cost_13 (v := nI 0) (by decide) ?_
    refine eg_bipush dX4_cost_14 (v := nI 9) (by decide) ?_
    refine eg_callS3 0 0 gk_X4_within gi_X4_within gl_RX4_101 rfl (Nat.le_of_ble_eq_true rfl) (Nat.le_of_ble_eq_true rfl) (Nat.zero_le _) (Nat.zero_le _) (by omega) dX4_cost_16 ?_
    refine sp_X4_within (fun y1 y2 => ?_) (fun yy => ?_)
    · refine eg_if_ne 25 dX4_cost_19 (by decide) (fun _ => ?_) (fun z => absurd z (by decide))
      obtain ⟨ey, hy⟩ := nI_cm y1 y2 (by omega)
      have e : ap_cost ((w, n, k), cf, co, tg, (len, op, lf, rt, res), (fnd, flen, fop, flf, frt, fres), t0, t1, t2, t3) (nI X) y = (nI (co X), ((w, n, k), cf, ss_up co X y.toNatClampNeg, tg, (len, op, lf, rt, res), (fnd, flen, fop, flf, frt, fres), t0, t1, t2, t3)) := by
        unfold ap_cost
        rw [if_neg (fun q => q.elim z1 z2), if_neg (fun q => q.elim y1 y2), nI_clamp (by omega)]
      generalize y.toNatClampNeg = Y at e ey hy
      rw [e] at hQ
      replace hQ : ∀ M', ri_U M' a w n k cf (ss_up co X Y) tg len op lf rt res fnd flen fop flf frt fres t0 t1 t2 t3 → ri_E M M' a → Q (some (.int (nI (co X)))) G M' := hQ
      subst ey
      refine eg_aload_n dX4_cost_25 rfl rfl ?_
      refine eg_getR gf_RX4_26 rfl (by assumption) (by assumption) dX4_cost_26 ?_
      refine eg_iload_n dX4_cost_29 rfl rfl ?_
      refine eg_ialdN (by assumption) (by omega) (by decide) dX4_cost_30 ?_
      refine eg_topi (b3 X hx) ?_
      refine eg_istore_n dX4_cost_31 rfl (by decide) rfl ?_
      refine eg_aload_n dX4_cost_32 rfl rfl ?_
      refine eg_getR gf_RX4_26 rfl (by assumption) (by assumption) dX4_cost_33 ?_
      refine eg_iload_n dX4_cost_36 rfl rfl ?_
      refine eg_iload_n dX4_cost_37 rfl rfl ?_
      refine eg_iastN (by assumption) (by omega) (by decide) dX4_cost_38 ?_
      refine eg_iload_n dX4_cost_39 rfl rfl ?_
      exact eg_iret rfl dX4_cost_40 (hQ _ ⟨b1.eq (fun j hj => by rw [eg_set_ne (by omega)]) (by rw [eg_set_ne (by omega)]), fun u s q1 q2 => by rw [eg_set_ne (by omega)]; exact b2 u s q1 q2, fun o ho => by
              by_cases q : o = X
              · subst q; rw [eg_set_eq, ss_up_e]
              · rw [eg_set_j q, ss_up_n q]; exact b3 o ho, fun s q => by rw [eg_set_ne (by omega)]; exact b4 s q, b5.eq (by rw [eg_set_ne (by omega)]) (by rw [eg_set_ne (by omega)]) (fun q q1 q2 => by rw [eg_set_ne (by omega)]), by rw [eg_set_ne (by omega)]; exact b6, fun q => (b7 q).eq (by rw [eg_set_ne (by omega)]) (by rw [eg_set_ne (by omega)]) (fun q q1 q2 => by rw [eg_set_ne (by omega)]), by rw [eg_set_ne (by omega)]; exact b8, by rw [eg_set_ne (by omega)]; exact b9, by rw [eg_set_ne (by omega)]; exact b10, by rw [eg_set_ne (by omega)]; exact b11⟩ (fun q z => eg_set_ne (by omega)))
    · refine eg_if_ne 25 dX4_cost_19 (by decide) (fun z => absurd (show nI 0 = 0 from rfl) z) (fun _ => ?_)
      have e : ap_cost ((w, n, k), cf, co, tg, (len, op, lf, rt, res), (fnd, flen, fop, flf, frt, fres), t0, t1, t2, t3) (nI X) y = (-2, ((w, n, k), cf, co, tg, (len, op, lf, rt, res), (fnd, flen, fop, flf, frt, fres), t0, t1, t2, t3)) := by
        unfold ap_cost
        rw [if_neg (fun q => q.elim z1 z2)]
        exact if_pos yy
      rw [e] at hQ
      refine eg_bipush dX4_cost_22 (v := -2) (by decide) ?_
      exact eg_iret rfl dX4_cost_24 (hQ M hI ri_E.rf)
  · refine eg_if_ne 12 dX4_cost_7 (by decide) (fun z => absurd (show nI 0 = 0 from rfl) z) (fun _ => ?_)
    have e : ap_cost ((w, n, k), cf, co, tg, (len, op, lf, rt, res), (fnd, flen, fop, flf, frt, fres), t0, t1, t2, t3) x y = (-1, ((w, n, k), cf, co, tg, (len, op, lf, rt, res), (fnd, flen, fop, flf, frt, fres), t0, t1, t2, t3)) := if_pos (zz.elim Or.inl (fun q => Or.inr ((nI_ls (by omega)).mp q)))
    rw [e] at hQ
    refine eg_iconst dX4_cost_10 (v := -1) (by decide) ?_
    exact eg_iret rfl dX4_cost_11 (hQ M hI ri_E.rf)
set_option maxHeartbeats 2000000 in
theorem ap_R_target {l : Launch} {E : eg_E} {d kb nb : Nat} {Q : Option Value → eg_G → eg_I → Prop} {G : eg_G} {M : eg_I} {a : Nat} {S : st_T} (hs : sh_M G a) (hok : st_ok S) (hI : ri_I M a S) {x y : Int32} (hd : 4 ≤ d) (hQ : ∀ M', ri_I M' a (ap_target S x y).2 → ri_E M M' a → Q (some (.int (ap_target S x y).1)) G M') : eg_J l E mX4_target d kb nb Q 0 [some (.ref a), some (.int x), some (.int y), none] [] G M := by
  obtain ⟨k0, ⟨x5, y5⟩, ⟨x6, y6⟩, ⟨x7, y7⟩, ⟨x9, y9⟩, ⟨x10, y10⟩, ⟨x11, y11⟩, ⟨x13, y13⟩, ⟨x14, y14⟩, ⟨x18, y18⟩, ⟨x19, y19⟩, ⟨x20, y20⟩, ⟨x25, y25⟩, ⟨x26, y26⟩, ⟨x27, y27⟩, ⟨x28, y28⟩, ⟨x30, y30⟩, ⟨x31, y31⟩, ⟨x32, y32⟩⟩ := id hs
  obtain ⟨⟨w, n, k⟩, cf, co, tg, ⟨len, op, lf, rt, res⟩, ⟨fnd, flen, fop, flf, frt, fres⟩, t0, t1, t2, t3⟩ := S
  replace hI : ri_U M a w n k cf co tg len op lf rt res fnd flen fop flf frt fres t0 t1 t2 t3 := hI
  replace hok : ok_U w n k cf co len op lf rt res fnd flen fop flf frt fres := hok
  obtain ⟨b1, b2, b3, b4, b5, b6, b7, b8, b9, b10, b11⟩ := id hI
  obtain ⟨m0, m1, m2, m3, m4, mc, hw1, hw4, hn1, hn2, hk4⟩ := id b1
  obtain ⟨p3, p4, pl, pa⟩ := id b5
  obtain ⟨-, -, -, -, -, cw, co9, pok, fok⟩ := id hok
  obtain ⟨-, pok2, pok3⟩ := id pok
  have hA := wd_asg hw4 hn2
  refine eg_aload_n dX4_target_0 rfl rfl ?_
  refine eg_iload_n dX4_target_1 rfl rfl ?_
  refine eg_callV1 0 0 gk_X4_isAssignment gi_X4_isAssignment (by assumption) rfl gl_RX4_112 rfl (Nat.le_of_ble_eq_true rfl) (Nat.le_of_ble_eq_true rfl) (Nat.zero_le _) (Nat.zero_le _) (by omega) dX4_target_2 ?_
  refine sp_X4_isAssignment (by omega) k0 b1 (fun z1 z2 => ?_) (fun zz => ?_)
  · refine eg_if_ne 10 dX4_target_5 (by decide) (fun _ => ?_) (fun z => absurd z (by decide))
    obtain ⟨ex, hx⟩ := nI_cl z1 z2 (by omega)
    generalize x.toNatClampNeg = X at ex hx
    subst ex
    refine eg_iload_n dX4_target_10 rfl rfl ?_
    refine eg_iconst dX4_target_11 (v := nI 0) (by decide) ?_
    refine eg_aload_n dX4_target_12 rfl rfl ?_
    refine eg_getI gf_RX4_16 rfl (by assumption) dX4_target_13 ?_
    refine eg_topi m2 ?_
    refine eg_callS3 0 0 gk_X4_within gi_X4_within gl_RX4_101 rfl (Nat.le_of_ble_eq_true rfl) (Nat.le_of_ble_eq_true rfl) (Nat.zero_le _) (Nat.zero_le _) (by omega) dX4_target_16 ?_
    refine sp_X4_within (fun y1 y2 => ?_) (fun yy => ?_)
    · refine eg_if_ne 25 dX4_target_19 (by decide) (fun _ => ?_) (fun z => absurd z (by decide))
      have e : ap_target ((w, n, k), cf, co, tg, (len, op, lf, rt, res), (fnd, flen, fop, flf, frt, fres), t0, t1, t2, t3) (nI X) y = (tg X, ((w, n, k), cf, co, ss_up tg X y, (len, op, lf, rt, res), (fnd, flen, fop, flf, frt, fres), t0, t1, t2, t3)) := by
        unfold ap_target
        rw [if_neg (fun q => q.elim z1 z2), if_neg (fun q => q.elim y1 y2), nI_clamp (by omega)]
      rw [e] at hQ
      replace hQ : ∀ M', ri_U M' a w n k cf co (ss_up tg X y) len op lf rt res fnd flen fop flf frt fres t0 t1 t2 t3 → ri_E M M' a → Q (some (.int (tg X))) G M' := hQ
      refine eg_aload_n dX4_target_25 rfl rfl ?_
      refine eg_getR gf_RX4_29 rfl (by assumption) (by assumption) dX4_target_26 ?_
      refine eg_iload_n dX4_target_29 rfl rfl ?_
      refine eg_ialdN (by assumption) (by omega) (by decide) dX4_target_30 ?_
      refine eg_topi (b4 X (by omega)) ?_
      refine eg_istore_n dX4_target_31 rfl (by decide) rfl ?_
      refine eg_aload_n dX4_target_32 rfl rfl ?_
      refine eg_getR gf_RX4_29 rfl (by assumption) (by assumption) dX4_target_33 ?_
      refine eg_iload_n dX4_target_36 rfl rfl ?_
      refine eg_iload_n dX4_target_37 rfl rfl ?_
      refine eg_iastN (by assumption) (by omega) (by decide) dX4_target_38 ?_
      refine eg_iload_n dX4_target_39 rfl rfl ?_
      exact eg_iret rfl dX4_target_40 (hQ _ ⟨b1.eq (fun j hj => by rw [eg_set_ne (by omega)]) (by rw [eg_set_ne (by omega)]), fun u s q1 q2 => by rw [eg_set_ne (by omega)]; exact b2 u s q1 q2, fun o ho => by rw [eg_set_ne (by omega)]; exact b3 o ho, fun s hs2 => by
              by_cases q : s = X
              · subst q; rw [eg_set_eq, ss_up_e]
              · rw [eg_set_j q, ss_up_n q]; exact b4 s hs2, b5.eq (by rw [eg_set_ne (by omega)]) (by rw [eg_set_ne (by omega)]) (fun q q1 q2 => by rw [eg_set_ne (by omega)]), by rw [eg_set_ne (by omega)]; exact b6, fun q => (b7 q).eq (by rw [eg_set_ne (by omega)]) (by rw [eg_set_ne (by omega)]) (fun q q1 q2 => by rw [eg_set_ne (by omega)]), by rw [eg_set_ne (by omega)]; exact b8, by rw [eg_set_ne (by omega)]; exact b9, by rw [eg_set_ne (by omega)]; exact b10, by rw [eg_set_ne (by omega)]; exact b11⟩ (fun q z => eg_set_ne (by omega)))
    · refine eg_if_ne 25 dX4_target_19 (by decide) (fun z => absurd (show nI 0 = 0 from rfl) z) (fun _ => ?_)
      have e : ap_target ((w, n, k), cf, co, tg, (len, op, lf, rt, res), (fnd, flen, fop, flf, frt, fres), t0, t1, t2, t3) (nI X) y = (-2, ((w, n, k), cf, co, tg, (len, op, lf, rt, res), (fnd, flen, fop, flf, frt, fres), t0, t1, t2, t3)) := by
        unfold ap_target
        rw [if_neg (fun q => q.elim z1 z2)]
        exact if_pos yy
      rw [e] at hQ
      refine eg_bipush dX4_target_22 (v := -2) (by decide) ?_
      exact eg_iret rfl dX4_target_24 (hQ M hI ri_E.rf)
  · refine eg_if_ne 10 dX4_target_5 (by decide) (fun z => absurd (show nI 0 = 0 from rfl) z) (fun _ => ?_)
    have e : ap_target ((w, n, k), cf, co, tg, (len, op, lf, rt, res), (fnd, flen, fop, flf, frt, fres), t0, t1, t2, t3) x y = (-1, ((w, n, k), cf, co, tg, (len, op, lf, rt, res), (fnd, flen, fop, flf, frt, fres), t0, t1, t2, t3)) := if_pos zz
    rw [e] at hQ
    refine eg_iconst dX4_target_8 (v := -1) (by decide) ?_
    exact eg_iret rfl dX4_target_9 (hQ M hI ri_E.rf)
set_option maxHeartbeats 2000000 in
theorem ap_R_result {l : Launch} {E : eg_E} {d kb nb : Nat} {Q : Option Value → eg_G → eg_I → Prop} {G : eg_G} {M : eg_I} {a : Nat} {S : st_T} (hs : sh_M G a) (hok : st_ok S) (hI : ri_I M a S) {x : Int32} (hd : 4 ≤ d) (hQ : ∀ M', ri_I M' a (ap_result S x).2 → ri_E M M' a → Q (some (.int (ap_result S x).1)) G M') : eg_J l E mX4_result d kb nb Q 0 [some (.ref a), some (.int x), none] [] G M := by
  obtain ⟨k0, ⟨x5, y5⟩, ⟨x6, y6⟩, ⟨x7, y7⟩, ⟨x9, y9⟩, ⟨x10, y10⟩, ⟨x11, y11⟩, ⟨x13, y13⟩, ⟨x14, y14⟩, ⟨x18, y18⟩, ⟨x19, y19⟩, ⟨x20, y20⟩, ⟨x25, y25⟩, ⟨x26, y26⟩, ⟨x27, y27⟩, ⟨x28, y28⟩, ⟨x30, y30⟩, ⟨x31, y31⟩, ⟨x32, y32⟩⟩ := id hs
  obtain ⟨⟨w, n, k⟩, cf, co, tg, ⟨len, op, lf, rt, res⟩, ⟨fnd, flen, fop, flf, frt, fres⟩, t0, t1, t2, t3⟩ := S
  replace hI : ri_U M a w n k cf co tg len op lf rt res fnd flen fop flf frt fres t0 t1 t2 t3 := hI
  replace hok : ok_U w n k cf co len op lf rt res fnd flen fop flf frt fres := hok
  obtain ⟨b1, b2, b3, b4, b5, b6, b7, b8, b9, b10, b11⟩ := id hI
  obtain ⟨m0, m1, m2, m3, m4, mc, hw1, hw4, hn1, hn2, hk4⟩ := id b1
  obtain ⟨p3, p4, pl, pa⟩ := id b5
  obtain ⟨-, -, -, -, -, cw, co9, pok, fok⟩ := id hok
  obtain ⟨-, pok2, pok3⟩ := id pok
  have hA := wd_asg hw4 hn2
  refine eg_aload_n dX4_result_0 rfl rfl ?_
  refine eg_iload_n dX4_result_1 rfl rfl ?_
  refine eg_callV1 0 0 gk_X4_isValue gi_X4_isValue (by assumption) rfl gl_RX4_119 rfl (Nat.le_of_ble_eq_true rfl) (Nat.le_of_ble_eq_true rfl) (Nat.zero_le _) (Nat.zero_le _) (by omega) dX4_result_2 ?_
  refine sp_X4_isValue (by omega) k0 b1 p3 pl (fun z1 z2 => ?_) (fun zz => ?_)
  · refine eg_if_ne 10 dX4_result_5 (by decide) (fun _ => ?_) (fun z => absurd z (by decide))
    obtain ⟨ex, hx⟩ := nI_cl z1 z2 (by omega)
    have e : ap_result ((w, n, k), cf, co, tg, (len, op, lf, rt, res), (fnd, flen, fop, flf, frt, fres), t0, t1, t2, t3) x = (nI res, ((w, n, k), cf, co, tg, (len, op, lf, rt, x.toNatClampNeg), (fnd, flen, fop, flf, frt, fres), t0, t1, t2, t3)) := if_neg (fun q => q.elim z1 z2)
    generalize x.toNatClampNeg = X at ex hx e
    rw [e] at hQ
    replace hQ : ∀ M', ri_U M' a w n k cf co tg len op lf rt X fnd flen fop flf frt fres t0 t1 t2 t3 → ri_E M M' a → Q (some (.int (nI res))) G M' := hQ
    subst ex
    refine eg_aload_n dX4_result_10 rfl rfl ?_
    refine eg_getI gf_RX4_105 rfl (by assumption) dX4_result_11 ?_
    refine eg_topi p4 ?_
    refine eg_istore_n dX4_result_14 rfl (by decide) rfl ?_
    refine eg_aload_n dX4_result_15 rfl rfl ?_
    refine eg_iload_n dX4_result_16 rfl rfl ?_
    refine eg_putI gp_RX4_105 (fun q => by cases q) rfl rfl rfl (by assumption) dX4_result_17 ?_
    refine eg_iload_n dX4_result_20 rfl rfl ?_
    exact eg_iret rfl dX4_result_21 (hQ _ ⟨b1.eq (fun j hj => by rw [eg_set_j (by omega)]) (by rw [eg_set_ne (by omega)]), fun u s q1 q2 => by rw [eg_set_ne (by omega)]; exact b2 u s q1 q2, fun o ho => by rw [eg_set_ne (by omega)]; exact b3 o ho, fun s q => by rw [eg_set_ne (by omega)]; exact b4 s q, ⟨by rw [eg_set_j (by decide)]; exact p3, eg_set_eq, pl, fun j hj => by rw [eg_set_ne (by omega), eg_set_ne (by omega), eg_set_ne (by omega)]; exact pa j hj⟩, by rw [eg_set_j (by omega)]; exact b6, fun q => (b7 q).eq (by rw [eg_set_j (by omega)]) (by rw [eg_set_j (by omega)]) (fun q q1 q2 => by rw [eg_set_ne (by omega)]), by rw [eg_set_j (by omega)]; exact b8, by rw [eg_set_j (by omega)]; exact b9, by rw [eg_set_j (by omega)]; exact b10, by rw [eg_set_j (by omega)]; exact b11⟩ (fun q z => eg_set_ne (by omega)))
  · refine eg_if_ne 10 dX4_result_5 (by decide) (fun z => absurd (show nI 0 = 0 from rfl) z) (fun _ => ?_)
    have e : ap_result ((w, n, k), cf, co, tg, (len, op, lf, rt, res), (fnd, flen, fop, flf, frt, fres), t0, t1, t2, t3) x = (-1, ((w, n, k), cf, co, tg, (len, op, lf, rt, res), (fnd, flen, fop, flf, frt, fres), t0, t1, t2, t3)) := if_pos zz
    rw [e] at hQ
    refine eg_iconst dX4_result_8 (v := -1) (by decide) ?_
    exact eg_iret rfl dX4_result_9 (hQ M hI ri_E.rf)
set_option maxHeartbeats 2000000 in
theorem ap_R_drop {l : Launch} {E : eg_E} {d kb nb : Nat} {Q : Option Value → eg_G → eg_I → Prop} {G : eg_G} {M : eg_I} {a : Nat} {S : st_T} (hs : sh_M G a) (hok : st_ok S) (hI : ri_I M a S) (hd : 4 ≤ d) (hQ : ∀ M', ri_I M' a (ap_drop S).2 → ri_E M M' a → Q (some (.int (ap_drop S).1)) G M') : eg_J l E mX4_drop d kb nb Q 0 [some (.ref a)] [] G M := by
  obtain ⟨k0, ⟨x5, y5⟩, ⟨x6, y6⟩, ⟨x7, y7⟩, ⟨x9, y9⟩, ⟨x10, y10⟩, ⟨x11, y11⟩, ⟨x13, y13⟩, ⟨x14, y14⟩, ⟨x18, y18⟩, ⟨x19, y19⟩, ⟨x20, y20⟩, ⟨x25, y25⟩, ⟨x26, y26⟩, ⟨x27, y27⟩, ⟨x28, y28⟩, ⟨x30, y30⟩, ⟨x31, y31⟩, ⟨x32, y32⟩⟩ := id hs
  obtain ⟨⟨w, n, k⟩, cf, co, tg, ⟨len, op, lf, rt, res⟩, ⟨fnd, flen, fop, flf, frt, fres⟩, t0, t1, t2, t3⟩ := S
  replace hI : ri_U M a w n k cf co tg len op lf rt res fnd flen fop flf frt fres t0 t1 t2 t3 := hI
  replace hok : ok_U w n k cf co len op lf rt res fnd flen fop flf frt fres := hok
  obtain ⟨b1, b2, b3, b4, b5, b6, b7, b8, b9, b10, b11⟩ := id hI
  obtain ⟨m0, m1, m2, m3, m4, mc, hw1, hw4, hn1, hn2, hk4⟩ := id b1
  obtain ⟨p3, p4, pl, pa⟩ := id b5
  obtain ⟨-, -, -, -, -, cw, co9, pok, fok⟩ := id hok
  obtain ⟨-, pok2, pok3⟩ := id pok
  have hA := wd_asg hw4 hn2
  by_cases h0 : len = 0
  · rw [show ap_drop ((w, n, k), cf, co, tg, (len, op, lf, rt, res), (fnd, flen, fop, flf, frt, fres), t0, t1, t2, t3) = (-3, ((w, n, k), cf, co, tg, (len, op, lf, rt, res), (fnd, flen, fop, flf, frt, fres), t0, t1, t2, t3)) from if_pos h0] at hQ
    refine eg_aload_n dX4_drop_0 rfl rfl ?_
    refine eg_getI gf_RX4_90 rfl (by assumption) dX4_drop_1 ?_
    refine eg_topi p3 ?_
    refine eg_if_ne 10 dX4_drop_4 (by decide) (fun c4 => absurd (show nI len = 0 by rw [h0]; rfl) c4) (fun c4 => ?_)
    refine eg_bipush dX4_drop_7 (v := -3) (by decide) ?_
    exact eg_iret rfl dX4_drop_9 (hQ M hI ri_E.rf)
  · refine eg_aload_n dX4_drop_0 rfl rfl ?_
    refine eg_getI gf_RX4_90 rfl (by assumption) dX4_drop_1 ?_
    refine eg_topi p3 ?_
    refine eg_if_ne 10 dX4_drop_4 (by decide) (fun c4 => ?_) (fun c4 => absurd c4 (nI_ne0 (by omega) (by omega)))
    refine eg_aload_n dX4_drop_10 rfl rfl ?_
    refine eg_getI gf_RX4_105 rfl (by assumption) dX4_drop_11 ?_
    refine eg_topi p4 ?_
    refine eg_aload_n dX4_drop_14 rfl rfl ?_
    refine eg_callV0 0 0 gk_X4_all gi_X4_all (by assumption) rfl gl_RX4_116 rfl (Nat.le_of_ble_eq_true rfl) (Nat.le_of_ble_eq_true rfl) (Nat.zero_le _) (Nat.zero_le _) (by omega) dX4_drop_15 ?_
    refine sp_X4_all (by omega) k0 b1 p3 ?_
    refine eg_iconst dX4_drop_18 (v := nI 1) (by decide) ?_
    refine eg_isub dX4_drop_19 ?_
    refine eg_topi (show nI (n + k + len) - nI 1 = nI (n + k + (len - 1)) by rw [show n + k + (len - 1) = n + k + len - 1 by omega]; exact pk_sub (by omega)) ?_
    refine eg_icmp_ne 28 dX4_drop_20 (by decide) (fun c => ?_) (fun c => ?_)
    · have hne : ¬ res = n + k + (len - 1) := fun q => c (by rw [q])
      have e : ap_drop ((w, n, k), cf, co, tg, (len, op, lf, rt, res), (fnd, flen, fop, flf, frt, fres), t0, t1, t2, t3) = (nI (len - 1), ((w, n, k), cf, co, tg, (len - 1, op, lf, rt, res), (fnd, flen, fop, flf, frt, fres), t0, t1, t2, t3)) := by
        unfold ap_drop
        rw [if_neg h0, if_neg hne]
      rw [e] at hQ
      replace hQ : ∀ M', ri_U M' a w n k cf co tg (len - 1) op lf rt res fnd flen fop flf frt fres t0 t1 t2 t3 → ri_E M M' a → Q (some (.int (nI (len - 1)))) G M' := hQ
      refine eg_aload_n dX4_drop_28 rfl rfl ?_
      refine eg_dup dX4_drop_29 rfl ?_
      refine eg_getI gf_RX4_90 rfl (by assumption) dX4_drop_30 ?_
      refine eg_topi p3 ?_
      refine eg_iconst dX4_drop_33 (v := nI 1) (by decide) ?_
      refine eg_isub dX4_drop_34 ?_
      refine eg_topi (show nI len - nI 1 = nI (len - 1) from pk_sub (by omega)) ?_
      refine eg_putI gp_RX4_90 (fun q => by cases q) rfl rfl rfl (by assumption) dX4_drop_35 ?_
      refine eg_aload_n dX4_drop_38 rfl rfl ?_
      refine eg_getI gf_RX4_90 rfl (by assumption) dX4_drop_39 ?_
      refine eg_topi (show _ = nI (len - 1) from eg_set_eq) ?_
      exact eg_iret rfl dX4_drop_42 (hQ _ ⟨b1.eq (fun j hj => by rw [eg_set_j (by omega)]) (by rw [eg_set_ne (by omega)]), fun u s q1 q2 => by rw [eg_set_ne (by omega)]; exact b2 u s (by omega) q2, fun o ho => by rw [eg_set_ne (by omega)]; exact b3 o ho, fun s q => by rw [eg_set_ne (by omega)]; exact b4 s q, ⟨eg_set_eq, by rw [eg_set_j (by decide)]; exact p4, by omega, fun j hj => by rw [eg_set_ne (by omega), eg_set_ne (by omega), eg_set_ne (by omega)]; exact pa j (by omega)⟩, by rw [eg_set_j (by omega)]; exact b6, fun q => (b7 q).eq (by rw [eg_set_j (by omega)]) (by rw [eg_set_j (by omega)]) (fun q q1 q2 => by rw [eg_set_ne (by omega)]), by rw [eg_set_j (by omega)]; exact b8, by rw [eg_set_j (by omega)]; exact b9, by rw [eg_set_j (by omega)]; exact b10, by rw [eg_set_j (by omega)]; exact b11⟩ (fun q z => eg_set_ne (by omega)))
    · have heq : res = n + k + (len - 1) := (nI_eq (by omega) (by omega)).mp c
      have e : ap_drop ((w, n, k), cf, co, tg, (len, op, lf, rt, res), (fnd, flen, fop, flf, frt, fres), t0, t1, t2, t3) = (nI (len - 1), ((w, n, k), cf, co, tg, (len - 1, op, lf, rt, 0), (fnd, flen, fop, flf, frt, fres), t0, t1, t2, t3)) := by
        unfold ap_drop
        rw [if_neg h0, if_pos heq]
      rw [e] at hQ
      replace hQ : ∀ M', ri_U M' a w n k cf co tg (len - 1) op lf rt 0 fnd flen fop flf frt fres t0 t1 t2 t3 → ri_E M M' a → Q (some (.int (nI (len - 1)))) G M' := hQ
      refine eg_aload_n dX4_drop_23 rfl rfl ?_
      refine eg_iconst dX4_drop_24 (v := nI 0) (by decide) ?_
      refine eg_putI gp_RX4_105 (fun q => by cases q) rfl rfl rfl (by assumption) dX4_drop_25 ?_
      refine eg_aload_n dX4_drop_28 rfl rfl ?_
      refine eg_dup dX4_drop_29 rfl ?_
      refine eg_getI gf_RX4_90 rfl (by assumption) dX4_drop_30 ?_
      refine eg_topi (show _ = nI len by rw [eg_set_j (by decide)]; exact p3) ?_
      refine eg_iconst dX4_drop_33 (v := nI 1) (by decide) ?_
      refine eg_isub dX4_drop_34 ?_
      refine eg_topi (show nI len - nI 1 = nI (len - 1) from pk_sub (by omega)) ?_
      refine eg_putI gp_RX4_90 (fun q => by cases q) rfl rfl rfl (by assumption) dX4_drop_35 ?_
      refine eg_aload_n dX4_drop_38 rfl rfl ?_
      refine eg_getI gf_RX4_90 rfl (by assumption) dX4_drop_39 ?_
      refine eg_topi (show _ = nI (len - 1) from eg_set_eq) ?_
      exact eg_iret rfl dX4_drop_42 (hQ _ ⟨b1.eq (fun j hj => by rw [eg_set_j (by omega), eg_set_j (by omega)]) (by rw [eg_set_ne (by omega), eg_set_ne (by omega)]), fun u s q1 q2 => by rw [eg_set_ne (by omega), eg_set_ne (by omega)]; exact b2 u s (by omega) q2, fun o ho => by rw [eg_set_ne (by omega), eg_set_ne (by omega)]; exact b3 o ho, fun s q => by rw [eg_set_ne (by omega), eg_set_ne (by omega)]; exact b4 s q, ⟨eg_set_eq, by rw [eg_set_j (by decide), eg_set_eq], by omega, fun j hj => by rw [eg_set_ne (by omega), eg_set_ne (by omega), eg_set_ne (by omega), eg_set_ne (by omega), eg_set_ne (by omega), eg_set_ne (by omega)]; exact pa j (by omega)⟩, by rw [eg_set_j (by omega), eg_set_j (by omega)]; exact b6, fun q => (b7 q).eq (by rw [eg_set_j (by omega), eg_set_j (by omega)]) (by rw [eg_set_j (by omega), eg_set_j (by omega)]) (fun q q1 q2 => by rw [eg_set_ne (by omega), eg_set_ne (by omega)]), by rw [eg_set_j (by omega), eg_set_j (by omega)]; exact b8, by rw [eg_set_j (by omega), eg_set_j (by omega)]; exact b9, by rw [eg_set_j (by omega), eg_set_j (by omega)]; exact b10, by rw [eg_set_j (by omega), eg_set_j (by omega)]; exact b11⟩ (fun q z => by rw [eg_set_ne (by omega), eg_set_ne (by omega)]))
