/-! ShortestCode$Hunt: its state, and its methods -/
def hu_C (M : eg_I) (h w n k : Nat) (co : Nat → Nat) (tg : Nat → Int32) (L : Nat) (al : Bool) : Prop := in_V M (h + 3) w n k ∧ (∀ o, o < 13 → M (h + 1) o = nI (co o) ∧ co o ≤ 9) ∧ (∀ s, s < 2 ^ (w * n) → M (h + 2) s = tg s) ∧ M h 5 = nI L ∧ M h 6 = (if al = true then 1 else 0) ∧ L ≤ 30000
def hu_S (M : eg_I) (h g L : Nat) (σ : ss_S) : Prop := M h 7 = (if σ.2.2.1 = true then 1 else 0) ∧ M h 8 = nI σ.1 ∧ M h 10 = nI σ.2.1 ∧ (0 < σ.2.1 → in_R M (h + 27) σ.2.2.2.1 σ.2.2.2.2.1 σ.2.2.2.2.2.1 σ.2.2.2.2.2.2 (g + σ.2.2.2.1 - 1)) ∧ σ.2.1 ≤ σ.1 ∧ σ.1 ≤ L
def hu_P (M : eg_I) (h A g p : Nat) (ro ra rb : Nat → Nat) (V : Nat → Nat → Int32) : Prop := (∀ u s, u < g + p → s < A → M (h + 3 + 2 + u) s = V u s) ∧ ∀ j, j < p → M (h + 23 + 1) j = nI (ro j) ∧ M (h + 23 + 2) j = nI (ra j) ∧ M (h + 23 + 3) j = nI (rb j)
def hu_F (M M' : eg_I) (h : Nat) : Prop := (∀ q, ¬ (h ≤ q ∧ q < h + 31) → M' q = M q) ∧ (∀ q, h + 1 ≤ q → q ≤ h + 4 → M' q = M q) ∧ ∀ j, j ≠ 7 → j ≠ 8 → j ≠ 10 → M' h j = M h j
theorem hu_F.rf {M : eg_I} {h : Nat} : hu_F M M h := ⟨fun _ _ => rfl, fun _ _ _ => rfl, fun _ _ _ _ => rfl⟩
theorem hu_F.tr {M M' M2 : eg_I} {h : Nat} (a : hu_F M M' h) (b : hu_F M' M2 h) : hu_F M M2 h := ⟨fun q g => (b.1 q g).trans (a.1 q g), fun q g1 g2 => (b.2.1 q g1 g2).trans (a.2.1 q g1 g2), fun j g1 g2 g3 => (b.2.2 j g1 g2 g3).trans (a.2.2 j g1 g2 g3)⟩
theorem hu_C.fr {M M' : eg_I} {h w n k : Nat} {co : Nat → Nat} {tg : Nat → Int32} {L : Nat} {al : Bool} (c : hu_C M h w n k co tg L al) (f : hu_F M M' h) : hu_C M' h w n k co tg L al := by
  obtain ⟨c1, c2, c3, c4, c5, c6⟩ := c
  refine ⟨c1.eq (f.2.1 _ (by omega) (by omega)), fun o ho => ?_, fun s hs => ?_, ?_, ?_, c6⟩
  · rw [f.2.1 (h + 1) (by omega) (by omega)]; exact c2 o ho
  · rw [f.2.1 (h + 2) (by omega) (by omega)]; exact c3 s hs
  · rw [f.2.2 5 (by decide) (by decide) (by decide)]; exact c4
  · rw [f.2.2 6 (by decide) (by decide) (by decide)]; exact c5
theorem hu_P.dn {M : eg_I} {h A g p o a b : Nat} {ro ra rb : Nat → Nat} {V : Nat → Nat → Int32} {x : Nat → Int32} (c : hu_P M h A g (p + 1) (ss_up ro p o) (ss_up ra p a) (ss_up rb p b) (ss_up V (g + p) x)) : hu_P M h A g p ro ra rb V := by
  refine ⟨fun u s hu hs => ?_, fun j hj => ?_⟩
  · have := c.1 u s (by omega) hs
    unfold ss_up at this
    rw [if_neg (by omega)] at this
    exact this
  · have := c.2 j (by omega)
    unfold ss_up at this
    rw [if_neg (by omega), if_neg (by omega), if_neg (by omega)] at this
    exact this
/-- the cells that a state of the search reads have not changed -/
theorem hu_S.eq {M M' : eg_I} {h g L : Nat} {σ : ss_S} (c : hu_S M h g L σ) (e0 : M' h = M h) (e : ∀ q, h + 27 ≤ q → q < h + 31 → M' q = M q) : hu_S M' h g L σ := by
  obtain ⟨c1, c2, c3, c4, c5⟩ := c
  refine ⟨by rw [e0]; exact c1, by rw [e0]; exact c2, by rw [e0]; exact c3, fun q => (c4 q).eq (fun z z1 z2 => e z (by omega) (by omega)), c5⟩
theorem sp_X3_takesOne {l : Launch} {E : eg_E} {d kb nb : Nat} {Q : Option Value → eg_G → eg_I → Prop} {G : eg_G} {M : eg_I} {o : Nat} (ho : o < 13) (hT : o = 0 ∨ o = 1 → Q (some (.int 1)) G M) (hF : ¬ (o = 0 ∨ o = 1) → Q (some (.int 0)) G M) : eg_J l E mX3_takesOne d kb nb Q 0 [some (.int (nI o))] [] G M := by
  have k0 : nI o = 0 → o = 0 := fun q => (nI_eq (by omega) (by omega)).mp (q.trans nI_0.symm)
  have k1 : nI o = nI 1 → o = 1 := fun q => (nI_eq (by omega) (by omega)).mp q
  refine eg_iload_n dX3_takesOne_0 rfl rfl ?_
  refine eg_if_eq 9 dX3_takesOne_1 (by decide) (fun ca => ?_) (fun ca => ?_)
  · refine eg_iconst dX3_takesOne_9 (v := nI 1) (by decide) ?_
    refine eg_goto 14 dX3_takesOne_10 (by decide) ?_
    exact eg_zret rfl rfl dX3_takesOne_14 (by first | exact hT (Or.inl (k0 ca)) | exact hT (Or.inr (k1 cb)) | exact hF (fun q => q.elim (fun z => ca (by rw [z]; rfl)) (fun z => cb (by rw [z]))))
  · refine eg_iload_n dX3_takesOne_4 rfl rfl ?_
    refine eg_iconst dX3_takesOne_5 (v := nI 1) (by decide) ?_
    refine eg_icmp_ne 13 dX3_takesOne_6 (by decide) (fun cb => ?_) (fun cb => ?_)
    · refine eg_iconst dX3_takesOne_13 (v := nI 0) (by decide) ?_
      exact eg_zret rfl rfl dX3_takesOne_14 (by first | exact hT (Or.inl (k0 ca)) | exact hT (Or.inr (k1 cb)) | exact hF (fun q => q.elim (fun z => ca (by rw [z]; rfl)) (fun z => cb (by rw [z]))))
    · refine eg_iconst dX3_takesOne_9 (v := nI 1) (by decide) ?_
      refine eg_goto 14 dX3_takesOne_10 (by decide) ?_
      exact eg_zret rfl rfl dX3_takesOne_14 (by first | exact hT (Or.inl (k0 ca)) | exact hT (Or.inr (k1 cb)) | exact hF (fun q => q.elim (fun z => ca (by rw [z]; rfl)) (fun z => cb (by rw [z]))))
theorem sp_X3_isOrdered {l : Launch} {E : eg_E} {d kb nb : Nat} {Q : Option Value → eg_G → eg_I → Prop} {G : eg_G} {M : eg_I} {o : Nat} (ho : o < 13) (hT : (o = 2 ∨ o = 3 ∨ o = 4 ∨ o = 5 ∨ o = 7 ∨ o = 12) → Q (some (.int 1)) G M) (hF : ¬ (o = 2 ∨ o = 3 ∨ o = 4 ∨ o = 5 ∨ o = 7 ∨ o = 12) → Q (some (.int 0)) G M) : eg_J l E mX3_isOrdered d kb nb Q 0 [some (.int (nI o))] [] G M := by
  match o, ho with
  | 0, _ =>
    refine eg_iload_n dX3_isOrdered_0 rfl rfl ?_
    refine eg_tableOut 62 dX3_isOrdered_1 (by decide) (by decide) ?_
    refine eg_iconst dX3_isOrdered_62 (v := nI 0) (by decide) ?_
    exact eg_zret rfl rfl dX3_isOrdered_63 (hF (by decide))
  | 1, _ =>
    refine eg_iload_n dX3_isOrdered_0 rfl rfl ?_
    refine eg_tableOut 62 dX3_isOrdered_1 (by decide) (by decide) ?_
    refine eg_iconst dX3_isOrdered_62 (v := nI 0) (by decide) ?_
    exact eg_zret rfl rfl dX3_isOrdered_63 (hF (by decide))
  | 2, _ =>
    refine eg_iload_n dX3_isOrdered_0 rfl rfl ?_
    refine eg_tableIn 60 dX3_isOrdered_1 (by decide) (by decide) rfl (by decide) ?_
    refine eg_iconst dX3_isOrdered_60 (v := nI 1) (by decide) ?_
    exact eg_zret rfl rfl dX3_isOrdered_61 (hT (by decide))
  | 3, _ =>
    refine eg_iload_n dX3_isOrdered_0 rfl rfl ?_
    refine eg_tableIn 60 dX3_isOrdered_1 (by decide) (by decide) rfl (by decide) ?_
    refine eg_iconst dX3_isOrdered_60 (v := nI 1) (by decide) ?_
    exact eg_zret rfl rfl dX3_isOrdered_61 (hT (by decide))
  | 4, _ =>
    refine eg_iload_n dX3_isOrdered_0 rfl rfl ?_
    refine eg_tableIn 60 dX3_isOrdered_1 (by decide) (by decide) rfl (by decide) ?_
    refine eg_iconst dX3_isOrdered_60 (v := nI 1) (by decide) ?_
    exact eg_zret rfl rfl dX3_isOrdered_61 (hT (by decide))
  | 5, _ =>
    refine eg_iload_n dX3_isOrdered_0 rfl rfl ?_
    refine eg_tableIn 60 dX3_isOrdered_1 (by decide) (by decide) rfl (by decide) ?_
    refine eg_iconst dX3_isOrdered_60 (v := nI 1) (by decide) ?_
    exact eg_zret rfl rfl dX3_isOrdered_61 (hT (by decide))
  | 6, _ =>
    refine eg_iload_n dX3_isOrdered_0 rfl rfl ?_
    refine eg_tableIn 62 dX3_isOrdered_1 (by decide) (by decide) rfl (by decide) ?_
    refine eg_iconst dX3_isOrdered_62 (v := nI 0) (by decide) ?_
    exact eg_zret rfl rfl dX3_isOrdered_63 (hF (by decide))
  | 7, _ =>
    refine eg_iload_n dX3_isOrdered_0 rfl rfl ?_
    refine eg_tableIn 60 dX3_isOrdered_1 (by decide) (by decide) rfl (by decide) ?_
    refine eg_iconst dX3_isOrdered_60 (v := nI 1) (by decide) ?_
    exact eg_zret rfl rfl dX3_isOrdered_61 (hT (by decide))
  | 8, _ =>
    refine eg_iload_n dX3_isOrdered_0 rfl rfl ?_
    refine eg_tableIn 62 dX3_isOrdered_1 (by decide) (by decide) rfl (by decide) ?_
    refine eg_iconst dX3_isOrdered_62 (v := nI 0) (by decide) ?_
    exact eg_zret rfl rfl dX3_isOrdered_63 (hF (by decide))
  | 9, _ =>
    refine eg_iload_n dX3_isOrdered_0 rfl rfl ?_
    refine eg_tableIn 62 dX3_isOrdered_1 (by decide) (by decide) rfl (by decide) ?_
    refine eg_iconst dX3_isOrdered_62 (v := nI 0) (by decide) ?_
    exact eg_zret rfl rfl dX3_isOrdered_63 (hF (by decide))
  | 10, _ =>
    refine eg_iload_n dX3_isOrdered_0 rfl rfl ?_
    refine eg_tableIn 62 dX3_isOrdered_1 (by decide) (by decide) rfl (by decide) ?_
    refine eg_iconst dX3_isOrdered_62 (v := nI 0) (by decide) ?_
    exact eg_zret rfl rfl dX3_isOrdered_63 (hF (by decide))
  | 11, _ =>
    refine eg_iload_n dX3_isOrdered_0 rfl rfl ?_
    refine eg_tableIn 62 dX3_isOrdered_1 (by decide) (by decide) rfl (by decide) ?_
    refine eg_iconst dX3_isOrdered_62 (v := nI 0) (by decide) ?_
    exact eg_zret rfl rfl dX3_isOrdered_63 (hF (by decide))
  | 12, _ =>
    refine eg_iload_n dX3_isOrdered_0 rfl rfl ?_
    refine eg_tableIn 60 dX3_isOrdered_1 (by decide) (by decide) rfl (by decide) ?_
    refine eg_iconst dX3_isOrdered_60 (v := nI 1) (by decide) ?_
    exact eg_zret rfl rfl dX3_isOrdered_61 (hT (by decide))
  | o + 13, ho => exact absurd ho (by omega)
theorem sp_X3_isOperation {l : Launch} {E : eg_E} {d kb nb : Nat} {Q : Option Value → eg_G → eg_I → Prop} {G : eg_G} {M : eg_I} {x : Int32} (hT : ¬ x < 0 → ¬ nI 13 ≤ x → Q (some (.int 1)) G M) (hF : x < 0 ∨ nI 13 ≤ x → Q (some (.int 0)) G M) : eg_J l E mX3_isOperation d kb nb Q 0 [some (.int x)] [] G M := by
  refine eg_iload_n dX3_isOperation_0 rfl rfl ?_
  refine eg_if_lt 14 dX3_isOperation_1 (by decide) (fun ca => ?_) (fun ca => ?_)
  · refine eg_iconst dX3_isOperation_14 (v := nI 0) (by decide) ?_
    exact eg_zret rfl rfl dX3_isOperation_15 (by first | exact hT ca cb | exact hF (Or.inl ca) | exact hF (Or.inr cb))
  · refine eg_iload_n dX3_isOperation_4 rfl rfl ?_
    refine eg_bipush dX3_isOperation_5 (v := nI 13) (by decide) ?_
    refine eg_icmp_ge 14 dX3_isOperation_7 (by decide) (fun cb => ?_) (fun cb => ?_)
    · refine eg_iconst dX3_isOperation_14 (v := nI 0) (by decide) ?_
      exact eg_zret rfl rfl dX3_isOperation_15 (by first | exact hT ca cb | exact hF (Or.inl ca) | exact hF (Or.inr cb))
    · refine eg_iconst dX3_isOperation_10 (v := nI 1) (by decide) ?_
      refine eg_goto 15 dX3_isOperation_11 (by decide) ?_
      exact eg_zret rfl rfl dX3_isOperation_15 (by first | exact hT ca cb | exact hF (Or.inl ca) | exact hF (Or.inr cb))
theorem sp_X0_isOver {l : Launch} {E : eg_E} {d kb nb : Nat} {Q : Option Value → eg_G → eg_I → Prop} {G : eg_G} {M : eg_I} {h w n k L : Nat} {co : Nat → Nat} {tg : Nat → Int32} {al : Bool} {σ : ss_S} (hs : sh_H G h) (hc : hu_C M h w n k co tg L al) (hS : hu_S M h (n + k) L σ) (hT : ss_over al σ → Q (some (.int 1)) G M) (hF : ¬ ss_over al σ → Q (some (.int 0)) G M) : eg_J l E mX0_isOver d kb nb Q 0 [some (.ref h)] [] G M := by
  obtain ⟨g0, g1, g2, g3, g4, g5, gV, g6, gR, g7, gF⟩ := id hs
  obtain ⟨gv1, gv2, gv3, gv4⟩ := id gV
  obtain ⟨gr0, gr1, gr2, gr3, gr4, gr5, gr6⟩ := id gR
  obtain ⟨gf0, gf1, gf2, gf3, gf4, gf5, gf6⟩ := id gF
  obtain ⟨c1, c2, c3, c4, c5, c6⟩ := hc
  obtain ⟨e1, e2, e3, e4, e5, e6⟩ := hS
  have k7 : M h 7 = 0 → ¬ σ.2.2.1 = true := fun q z => by rw [e1, if_pos z] at q; exact absurd q (by decide)
  have k7' : ¬ M h 7 = 0 → σ.2.2.1 = true := fun q => Classical.byContradiction fun z => q (by rw [e1, if_neg z])
  have k10 : M h 10 ≤ 0 → ¬ 0 < σ.2.1 := fun q z => by rw [e3] at q; exact absurd q (nI_nle z (by omega))
  have k10' : ¬ M h 10 ≤ 0 → 0 < σ.2.1 := fun q => Nat.pos_of_ne_zero fun z => q (by rw [e3, z]; decide)
  have k6 : M h 6 = 0 → al = false := fun q => by cases al with | false => rfl | true => rw [c5, if_pos rfl] at q; exact absurd q (by decide)
  have k6' : ¬ M h 6 = 0 → ¬ al = false := fun q z => q (by rw [c5, z]; rfl)
  refine eg_aload_n dX0_isOver_0 rfl rfl ?_
  refine eg_getI gf_RX0_56 rfl (by assumption) dX0_isOver_1 ?_
  refine eg_if_ne 21 dX0_isOver_4 (by decide) (fun ca => ?_) (fun ca => ?_)
  · refine eg_iconst dX0_isOver_21 (v := nI 1) (by decide) ?_
    refine eg_goto 26 dX0_isOver_22 (by decide) ?_
    exact eg_zret rfl rfl dX0_isOver_26 (by first | exact hT (Or.inl (k7' ca)) | exact hT (Or.inr ⟨k10' cb, k6 cc⟩) | exact hF (fun q => q.elim (k7 ca) (fun z => k10 cb z.1)) | exact hF (fun q => q.elim (k7 ca) (fun z => k6' cc z.2)))
  · refine eg_aload_n dX0_isOver_7 rfl rfl ?_
    refine eg_getI gf_RX0_65 rfl (by assumption) dX0_isOver_8 ?_
    refine eg_if_le 25 dX0_isOver_11 (by decide) (fun cb => ?_) (fun cb => ?_)
    · refine eg_iconst dX0_isOver_25 (v := nI 0) (by decide) ?_
      exact eg_zret rfl rfl dX0_isOver_26 (by first | exact hT (Or.inl (k7' ca)) | exact hT (Or.inr ⟨k10' cb, k6 cc⟩) | exact hF (fun q => q.elim (k7 ca) (fun z => k10 cb z.1)) | exact hF (fun q => q.elim (k7 ca) (fun z => k6' cc z.2)))
    · refine eg_aload_n dX0_isOver_14 rfl rfl ?_
      refine eg_getI gf_RX0_52 rfl (by assumption) dX0_isOver_15 ?_
      refine eg_if_ne 25 dX0_isOver_18 (by decide) (fun cc => ?_) (fun cc => ?_)
      · refine eg_iconst dX0_isOver_25 (v := nI 0) (by decide) ?_
        exact eg_zret rfl rfl dX0_isOver_26 (by first | exact hT (Or.inl (k7' ca)) | exact hT (Or.inr ⟨k10' cb, k6 cc⟩) | exact hF (fun q => q.elim (k7 ca) (fun z => k10 cb z.1)) | exact hF (fun q => q.elim (k7 ca) (fun z => k6' cc z.2)))
      · refine eg_iconst dX0_isOver_21 (v := nI 1) (by decide) ?_
        refine eg_goto 26 dX0_isOver_22 (by decide) ?_
        exact eg_zret rfl rfl dX0_isOver_26 (by first | exact hT (Or.inl (k7' ca)) | exact hT (Or.inr ⟨k10' cb, k6 cc⟩) | exact hF (fun q => q.elim (k7 ca) (fun z => k10 cb z.1)) | exact hF (fun q => q.elim (k7 ca) (fun z => k6' cc z.2)))
theorem sp_X0_hit {l : Launch} {E : eg_E} {d kb nb : Nat} {Q : Option Value → eg_G → eg_I → Prop} {G : eg_G} {M : eg_I} {h A g L p : Nat} {σ : ss_S} {ro ra rb : Nat → Nat} {V : Nat → Nat → Int32} (hd : 2 ≤ d) (hs : sh_H G h) (hS : hu_S M h g L σ) (hP : hu_P M h A g (p + 1) ro ra rb V) (hp : p < 12) (hg : g ≤ 6) (hlt : σ.2.1 + 1 ≤ σ.1) (hL : L ≤ 30000) (hQ : ∀ M', hu_F M M' h → hu_P M' h A g (p + 1) ro ra rb V → hu_S M' h g L (ss_hit p ro ra rb σ) → Q none G M') : eg_J l E mX0_hit d kb nb Q 0 [some (.ref h), some (.int (nI p)), some (.int (nI (g + p)))] [] G M := by
  obtain ⟨g0, g1, g2, g3, g4, g5, gV, g6, gR, g7, gF⟩ := id hs
  obtain ⟨gv1, gv2, gv3, gv4⟩ := id gV
  obtain ⟨gr0, gr1, gr2, gr3, gr4, gr5, gr6⟩ := id gR
  obtain ⟨gf0, gf1, gf2, gf3, gf4, gf5, gf6⟩ := id gF
  obtain ⟨e1, e2, e3, e4, e5, e6⟩ := id hS
  refine eg_aload_n dX0_hit_0 rfl rfl ?_
  refine eg_dup dX0_hit_1 rfl ?_
  refine eg_getI gf_RX0_65 rfl (by assumption) dX0_hit_2 ?_
  refine eg_topi e3 ?_
  refine eg_iconst dX0_hit_5 (v := nI 1) (by decide) ?_
  refine eg_iadd dX0_hit_6 ?_
  refine eg_topi (nI_add σ.2.1 1) ?_
  refine eg_putI gp_RX0_65 (fun q => by cases q) rfl rfl rfl (by assumption) dX0_hit_7 ?_
  refine eg_aload_n dX0_hit_10 rfl rfl ?_
  refine eg_getI gf_RX0_65 rfl (by assumption) dX0_hit_11 ?_
  refine eg_topi eg_set_eq ?_
  refine eg_iconst dX0_hit_14 (v := nI 1) (by decide) ?_
  refine eg_icmp_ne 47 dX0_hit_15 (by decide) (fun c => ?_) (fun c => ?_)
  · have hz : ¬ σ.2.1 = 0 := fun q => c (by rw [q])
    rw [ss_hit_s hz] at hQ
    refine eg_vret rfl dX0_hit_47 (hQ _ ⟨fun q g => eg_set_ne (by omega), fun q z1 z2 => eg_set_ne (by omega), fun j z1 z2 z3 => eg_set_j z3⟩ ⟨fun u s z1 z2 => ?_, fun j z1 => ?_⟩ ⟨?_, ?_, ?_, fun z => ?_, ?_, ?_⟩)
    · rw [eg_set_ne (by omega)]; exact hP.1 u s z1 z2
    · rw [eg_set_ne (by omega), eg_set_ne (by omega), eg_set_ne (by omega)]; exact hP.2 j z1
    · rw [eg_set_j (by decide)]; exact e1
    · rw [eg_set_j (by decide)]; exact e2
    · exact eg_set_eq
    · exact (e4 (by omega)).eq (fun q z1 z2 => eg_set_ne (by omega))
    · exact hlt
    · exact e6
  · refine eg_aload_n dX0_hit_18 rfl rfl ?_
    refine eg_getR gf_RX0_28 rfl (by assumption) (by assumption) dX0_hit_19 ?_
    refine eg_iload_n dX0_hit_22 rfl rfl ?_
    refine eg_iconst dX0_hit_23 (v := nI 1) (by decide) ?_
    refine eg_iadd dX0_hit_24 ?_
    refine eg_topi (nI_add p 1) ?_
    refine eg_putI gp_RX0_124 (fun q => by cases q) rfl rfl rfl (by assumption) dX0_hit_25 ?_
    refine eg_aload_n dX0_hit_28 rfl rfl ?_
    refine eg_getR gf_RX0_28 rfl (by assumption) (by assumption) dX0_hit_29 ?_
    refine eg_iload_n dX0_hit_32 rfl rfl ?_
    refine eg_putI gp_RX0_127 (fun q => by cases q) rfl rfl rfl (by assumption) dX0_hit_33 ?_
    refine eg_aload_n dX0_hit_36 rfl rfl ?_
    refine eg_getR gf_RX0_32 rfl (by assumption) (by assumption) dX0_hit_37 ?_
    refine eg_aload_n dX0_hit_40 rfl rfl ?_
    refine eg_getR gf_RX0_28 rfl (by assumption) (by assumption) dX0_hit_41 ?_
    refine eg_callV1 0 0 gk_X1_copyFrom gi_X1_copyFrom (by assumption) rfl gl_RX0_130 rfl (Nat.le_of_ble_eq_true rfl) (Nat.le_of_ble_eq_true rfl) (Nat.zero_le _) (Nat.zero_le _) (by omega) dX0_hit_44 ?_
    refine sp_X1_copyFrom (len := p + 1) (by omega) gF gR (by omega) (by omega) (by rw [eg_set_j (by decide), eg_set_eq]) (fun M2 h2 => ?_)
    have hz : σ.2.1 = 0 := by have := (nI_eq (by omega) (by omega)).mp c; omega
    obtain ⟨m3, m4, ma, mf⟩ := h2
    rw [ss_hit_0 hz] at hQ
    have eo : ∀ q, ¬ (h + 27 ≤ q ∧ q < h + 31) → q ≠ h → q ≠ h + 23 → M2 q = M q := fun q z1 z2 z3 => by rw [mf q (by omega), eg_set_ne z3, eg_set_ne z3, eg_set_ne z2]
    have eh : ∀ j, M2 h j = eg_set M h 10 (nI (σ.2.1 + 1)) h j := fun j => by rw [mf h (by omega), eg_set_ne (by omega), eg_set_ne (by omega)]
    refine eg_vret rfl dX0_hit_47 (hQ _ ⟨fun q z => eo q (by omega) (by omega) (by omega), fun q z1 z2 => eo q (by omega) (by omega) (by omega), fun j z1 z2 z3 => by rw [eh j, eg_set_j z3]⟩ ⟨fun u s z1 z2 => ?_, fun j z1 => ?_⟩ ⟨?_, ?_, ?_, fun z => ?_, ?_, ?_⟩)
    · rw [eo _ (by omega) (by omega) (by omega)]; exact hP.1 u s z1 z2
    · rw [eo _ (by omega) (by omega) (by omega), eo _ (by omega) (by omega) (by omega), eo _ (by omega) (by omega) (by omega)]; exact hP.2 j z1
    · rw [eh, eg_set_j (by decide)]; exact e1
    · rw [eh, eg_set_j (by decide)]; exact e2
    · rw [eh, eg_set_eq]
    · refine ⟨m3, ?_, by show p + 1 ≤ 12; omega, fun j hj => ?_⟩
      · rw [m4, eg_set_eq]; rfl
      · have := ma j hj
        rw [eg_set_ne (show h + 23 + 1 ≠ h + 23 by omega), eg_set_ne (show h + 23 + 1 ≠ h + 23 by omega), eg_set_ne (show h + 23 + 1 ≠ h by omega), eg_set_ne (show h + 23 + 2 ≠ h + 23 by omega), eg_set_ne (show h + 23 + 2 ≠ h + 23 by omega), eg_set_ne (show h + 23 + 2 ≠ h by omega), eg_set_ne (show h + 23 + 3 ≠ h + 23 by omega), eg_set_ne (show h + 23 + 3 ≠ h + 23 by omega), eg_set_ne (show h + 23 + 3 ≠ h by omega)] at this
        rw [this.1, this.2.1, this.2.2]
        exact hP.2 j hj
    · exact hlt
    · exact e6
