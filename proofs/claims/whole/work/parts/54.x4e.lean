/-! ShortestCodeModel: turns, advance, open, isTarget, isNew, note -/
/-- the candidates from (o, x, y) on -/
def ss_rem (co : Nat → Nat) (r N o x y : Nat) : List (Nat × Nat × Nat) := ss_bs o x y N ++ (ss_as o (x + 1) N ++ ss_os co r (o + 1) N)
section RM
variable {co : Nat → Nat} {r N o x y : Nat}
theorem ss_be_lt (hN : 1 ≤ N) (hy : y < N) (h : o = 0 ∨ o = 1 → y = 0) : y < ss_be o N := by
  unfold ss_be
  by_cases e : o = 0 ∨ o = 1
  · rw [if_pos e]; have := h e; omega
  · rw [if_neg e]; exact hy
theorem ss_rem_s (hN : 1 ≤ N) (hy : y < N) (h : o = 0 ∨ o = 1 → y = 0) : ss_rem co r N o x y = (o, x, y) :: ss_rem co r N o x (y + 1) := by
  unfold ss_rem
  rw [ss_bs_s (ss_be_lt hN hy h)]
  rfl
theorem ss_b0_lt (hN : 1 ≤ N) (hx : x < N) : ss_b0 o x < N := by
  unfold ss_b0
  split <;> omega
theorem ss_b0_1 (h : o = 0 ∨ o = 1) : ss_b0 o x = 0 := by
  unfold ss_b0
  rw [if_neg (by omega)]
theorem ss_rem_b (h : (o = 0 ∨ o = 1) ∨ N ≤ y + 1) : ss_rem co r N o x (y + 1) = ss_as o (x + 1) N ++ ss_os co r (o + 1) N := by
  unfold ss_rem
  rw [ss_bs_0, List.nil_append]
  unfold ss_be
  by_cases e : o = 0 ∨ o = 1
  · rw [if_pos e]; omega
  · rw [if_neg e]; exact h.resolve_left e
theorem ss_rem_a (hx : x < N) : ss_as o x N ++ ss_os co r (o + 1) N = ss_rem co r N o x (ss_b0 o x) := by
  unfold ss_rem
  rw [ss_as_s hx, List.append_assoc]
theorem ss_rem_0 (hx : N ≤ x) : ss_as o x N ++ ss_os co r (o + 1) N = ss_os co r (o + 1) N := by
  rw [ss_as_0 hx, List.nil_append]
theorem ss_os_y (ho : o < 13) (hN : 1 ≤ N) (hc : 0 < co o ∧ co o ≤ r) : ss_os co r o N = (o, 0, 0) :: ss_rem co r N o 0 1 := by
  rw [ss_os_s ho, if_pos hc, ss_rem_a (by omega)]
  have : ss_b0 o 0 = 0 := by
    unfold ss_b0
    split <;> rfl
  rw [this, ss_rem_s hN (by omega) (fun _ => rfl)]
theorem ss_os_n (ho : o < 13) (hc : ¬ (0 < co o ∧ co o ≤ r)) : ss_os co r o N = ss_os co r (o + 1) N := by
  rw [ss_os_s ho, if_neg hc, List.nil_append]
end RM
def ac_C (M : eg_I) (a p o x y : Nat) : Prop := M (a + 12) p = nI o ∧ M (a + 13) p = nI x ∧ M (a + 14) p = nI y
/-- what advance may change -/
def ac_F (M M' : eg_I) (a p : Nat) : Prop := ∀ q j, ¬ (a + 12 ≤ q ∧ q < a + 15 ∧ j = p) → M' q j = M q j
theorem ac_F.rf {M : eg_I} {a p : Nat} : ac_F M M a p := fun _ _ _ => rfl
theorem ac_F.tr {M M' M2 : eg_I} {a p : Nat} (h : ac_F M M' a p) (g : ac_F M' M2 a p) : ac_F M M2 a p := fun q j z => (g q j z).trans (h q j z)
theorem ac_F.st {M : eg_I} {a p q : Nat} {x : Int32} (h1 : a + 12 ≤ q) (h2 : q < a + 15) : ac_F M (eg_set M q p x) a p := fun q' j z => if_neg (by omega)
/-- where the counter of a place stands, and what is left -/
def rc_I (M : eg_I) (a : Nat) (co : Nat → Nat) (p r N : Nat) (l : List (Nat × Nat × Nat)) : Prop := (M (a + 12) p = -1 ∧ M (a + 13) p = nI 0 ∧ M (a + 14) p = -1 ∧ l = ss_os co r 0 N) ∨ ∃ o x y, o < 13 ∧ x < N ∧ y < N ∧ (o = 0 ∨ o = 1 → y = 0) ∧ 0 < co o ∧ co o ≤ r ∧ ac_C M a p o x y ∧ l = ss_rem co r N o x (y + 1)
set_option maxHeartbeats 2000000 in
theorem sp_X4_turns {l : Launch} {E : eg_E} {d kb nb : Nat} {Q : Option Value → eg_G → eg_I → Prop} {G : eg_G} {M : eg_I} {o : Nat} (ho : o < 13) (hT : (o = 2 ∨ o = 3 ∨ o = 4 ∨ o = 5 ∨ o = 7 ∨ o = 12) → Q (some (.int 1)) G M) (hF : ¬ (o = 2 ∨ o = 3 ∨ o = 4 ∨ o = 5 ∨ o = 7 ∨ o = 12) → Q (some (.int 0)) G M) : eg_J l E mX4_turns d kb nb Q 0 [some (.int (nI o))] [] G M := by
  match o, ho with
  | 0, _ =>
    refine eg_iload_n dX4_turns_0 rfl rfl ?_
    refine eg_iconst dX4_turns_1 (v := nI 2) (by decide) ?_
    refine eg_icmp_lt 10 dX4_turns_2 (by decide) (fun c2 => ?_) (fun c2 => absurd (by decide) c2)
    refine eg_iload_n dX4_turns_10 rfl rfl ?_
    refine eg_bipush dX4_turns_11 (v := nI 7) (by decide) ?_
    refine eg_icmp_eq 22 dX4_turns_13 (by decide) (fun c13 => absurd c13 (by decide)) (fun c13 => ?_)
    refine eg_iload_n dX4_turns_16 rfl rfl ?_
    refine eg_bipush dX4_turns_17 (v := nI 12) (by decide) ?_
    refine eg_icmp_ne 26 dX4_turns_19 (by decide) (fun c19 => ?_) (fun c19 => absurd c19 (by decide))
    refine eg_iconst dX4_turns_26 (v := nI 0) (by decide) ?_
    exact eg_zret rfl rfl dX4_turns_27 (hF (by decide))
  | 1, _ =>
    refine eg_iload_n dX4_turns_0 rfl rfl ?_
    refine eg_iconst dX4_turns_1 (v := nI 2) (by decide) ?_
    refine eg_icmp_lt 10 dX4_turns_2 (by decide) (fun c2 => ?_) (fun c2 => absurd (by decide) c2)
    refine eg_iload_n dX4_turns_10 rfl rfl ?_
    refine eg_bipush dX4_turns_11 (v := nI 7) (by decide) ?_
    refine eg_icmp_eq 22 dX4_turns_13 (by decide) (fun c13 => absurd c13 (by decide)) (fun c13 => ?_)
    refine eg_iload_n dX4_turns_16 rfl rfl ?_
    refine eg_bipush dX4_turns_17 (v := nI 12) (by decide) ?_
    refine eg_icmp_ne 26 dX4_turns_19 (by decide) (fun c19 => ?_) (fun c19 => absurd c19 (by decide))
    refine eg_iconst dX4_turns_26 (v := nI 0) (by decide) ?_
    exact eg_zret rfl rfl dX4_turns_27 (hF (by decide))
  | 2, _ =>
    refine eg_iload_n dX4_turns_0 rfl rfl ?_
    refine eg_iconst dX4_turns_1 (v := nI 2) (by decide) ?_
    refine eg_icmp_lt 10 dX4_turns_2 (by decide) (fun c2 => absurd c2 (by decide)) (fun c2 => ?_)
    refine eg_iload_n dX4_turns_5 rfl rfl ?_
    refine eg_iconst dX4_turns_6 (v := nI 5) (by decide) ?_
    refine eg_icmp_le 22 dX4_turns_7 (by decide) (fun c7 => ?_) (fun c7 => absurd (by decide) c7)
    refine eg_iconst dX4_turns_22 (v := nI 1) (by decide) ?_
    refine eg_goto 27 dX4_turns_23 (by decide) ?_
    exact eg_zret rfl rfl dX4_turns_27 (hT (by decide))
  | 3, _ =>
    refine eg_iload_n dX4_turns_0 rfl rfl ?_
    refine eg_iconst dX4_turns_1 (v := nI 2) (by decide) ?_
    refine eg_icmp_lt 10 dX4_turns_2 (by decide) (fun c2 => absurd c2 (by decide)) (fun c2 => ?_)
    refine eg_iload_n dX4_turns_5 rfl rfl ?_
    refine eg_iconst dX4_turns_6 (v := nI 5) (by decide) ?_
    refine eg_icmp_le 22 dX4_turns_7 (by decide) (fun c7 => ?_) (fun c7 => absurd (by decide) c7)
    refine eg_iconst dX4_turns_22 (v := nI 1) (by decide) ?_
    refine eg_goto 27 dX4_turns_23 (by decide) ?_
    exact eg_zret rfl rfl dX4_turns_27 (hT (by decide))
  | 4, _ =>
    refine eg_iload_n dX4_turns_0 rfl rfl ?_
    refine eg_iconst dX4_turns_1 (v := nI 2) (by decide) ?_
    refine eg_icmp_lt 10 dX4_turns_2 (by decide) (fun c2 => absurd c2 (by decide)) (fun c2 => ?_)
    refine eg_iload_n dX4_turns_5 rfl rfl ?_
    refine eg_iconst dX4_turns_6 (v := nI 5) (by decide) ?_
    refine eg_icmp_le 22 dX4_turns_7 (by decide) (fun c7 => ?_) (fun c7 => absurd (by decide) c7)
    refine eg_iconst dX4_turns_22 (v := nI 1) (by decide) ?_
    refine eg_goto 27 dX4_turns_23 (by decide) ?_
    exact eg_zret rfl rfl dX4_turns_27 (hT (by decide))
  | 5, _ =>
    refine eg_iload_n dX4_turns_0 rfl rfl ?_
    refine eg_iconst dX4_turns_1 (v := nI 2) (by decide) ?_
    refine eg_icmp_lt 10 dX4_turns_2 (by decide) (fun c2 => absurd c2 (by decide)) (fun c2 => ?_)
    refine eg_iload_n dX4_turns_5 rfl rfl ?_
    refine eg_iconst dX4_turns_6 (v := nI 5) (by decide) ?_
    refine eg_icmp_le 22 dX4_turns_7 (by decide) (fun c7 => ?_) (fun c7 => absurd (by decide) c7)
    refine eg_iconst dX4_turns_22 (v := nI 1) (by decide) ?_
    refine eg_goto 27 dX4_turns_23 (by decide) ?_
    exact eg_zret rfl rfl dX4_turns_27 (hT (by decide))
  | 6, _ =>
    refine eg_iload_n dX4_turns_0 rfl rfl ?_
    refine eg_iconst dX4_turns_1 (v := nI 2) (by decide) ?_
    refine eg_icmp_lt 10 dX4_turns_2 (by decide) (fun c2 => absurd c2 (by decide)) (fun c2 => ?_)
    refine eg_iload_n dX4_turns_5 rfl rfl ?_
    refine eg_iconst dX4_turns_6 (v := nI 5) (by decide) ?_
    refine eg_icmp_le 22 dX4_turns_7 (by decide) (fun c7 => absurd c7 (by decide)) (fun c7 => ?_)
    refine eg_iload_n dX4_turns_10 rfl rfl ?_
    refine eg_bipush dX4_turns_11 (v := nI 7) (by decide) ?_
    refine eg_icmp_eq 22 dX4_turns_13 (by decide) (fun c13 => absurd c13 (by decide)) (fun c13 => ?_)
    refine eg_iload_n dX4_turns_16 rfl rfl ?_
    refine eg_bipush dX4_turns_17 (v := nI 12) (by decide) ?_
    refine eg_icmp_ne 26 dX4_turns_19 (by decide) (fun c19 => ?_) (fun c19 => absurd c19 (by decide))
    refine eg_iconst dX4_turns_26 (v := nI 0) (by decide) ?_
    exact eg_zret rfl rfl dX4_turns_27 (hF (by decide))
  | 7, _ =>
    refine eg_iload_n dX4_turns_0 rfl rfl ?_
    refine eg_iconst dX4_turns_1 (v := nI 2) (by decide) ?_
    refine eg_icmp_lt 10 dX4_turns_2 (by decide) (fun c2 => absurd c2 (by decide)) (fun c2 => ?_)
    refine eg_iload_n dX4_turns_5 rfl rfl ?_
    refine eg_iconst dX4_turns_6 (v := nI 5) (by decide) ?_
    refine eg_icmp_le 22 dX4_turns_7 (by decide) (fun c7 => absurd c7 (by decide)) (fun c7 => ?_)
    refine eg_iload_n dX4_turns_10 rfl rfl ?_
    refine eg_bipush dX4_turns_11 (v := nI 7) (by decide) ?_
    refine eg_icmp_eq 22 dX4_turns_13 (by decide) (fun c13 => ?_) (fun c13 => absurd (by decide) c13)
    refine eg_iconst dX4_turns_22 (v := nI 1) (by decide) ?_
    refine eg_goto 27 dX4_turns_23 (by decide) ?_
    exact eg_zret rfl rfl dX4_turns_27 (hT (by decide))
  | 8, _ =>
    refine eg_iload_n dX4_turns_0 rfl rfl ?_
    refine eg_iconst dX4_turns_1 (v := nI 2) (by decide) ?_
    refine eg_icmp_lt 10 dX4_turns_2 (by decide) (fun c2 => absurd c2 (by decide)) (fun c2 => ?_)
    refine eg_iload_n dX4_turns_5 rfl rfl ?_
    refine eg_iconst dX4_turns_6 (v := nI 5) (by decide) ?_
    refine eg_icmp_le 22 dX4_turns_7 (by decide) (fun c7 => absurd c7 (by decide)) (fun c7 => ?_)
    refine eg_iload_n dX4_turns_10 rfl rfl ?_
    refine eg_bipush dX4_turns_11 (v := nI 7) (by decide) ?_
    refine eg_icmp_eq 22 dX4_turns_13 (by decide) (fun c13 => absurd c13 (by decide)) (fun c13 => ?_)
    refine eg_iload_n dX4_turns_16 rfl rfl ?_
    refine eg_bipush dX4_turns_17 (v := nI 12) (by decide) ?_
    refine eg_icmp_ne 26 dX4_turns_19 (by decide) (fun c19 => ?_) (fun c19 => absurd c19 (by decide))
    refine eg_iconst dX4_turns_26 (v := nI 0) (by decide) ?_
    exact eg_zret rfl rfl dX4_turns_27 (hF (by decide))
  | 9, _ =>
    refine eg_iload_n dX4_turns_0 rfl rfl ?_
    refine eg_iconst dX4_turns_1 (v := nI 2) (by decide) ?_
    refine eg_icmp_lt 10 dX4_turns_2 (by decide) (fun c2 => absurd c2 (by decide)) (fun c2 => ?_)
    refine eg_iload_n dX4_turns_5 rfl rfl ?_
    refine eg_iconst dX4_turns_6 (v := nI 5) (by decide) ?_
    refine eg_icmp_le 22 dX4_turns_7 (by decide) (fun c7 => absurd c7 (by decide)) (fun c7 => ?_)
    refine eg_iload_n dX4_turns_10 rfl rfl ?_
    refine eg_bipush dX4_turns_11 (v := nI 7) (by decide) ?_
    refine eg_icmp_eq 22 dX4_turns_13 (by decide) (fun c13 => absurd c13 (by decide)) (fun c13 => ?_)
    refine eg_iload_n dX4_turns_16 rfl rfl ?_
    refine eg_bipush dX4_turns_17 (v := nI 12) (by decide) ?_
    refine eg_icmp_ne 26 dX4_turns_19 (by decide) (fun c19 => ?_) (fun c19 => absurd c19 (by decide))
    refine eg_iconst dX4_turns_26 (v := nI 0) (by decide) ?_
    exact eg_zret rfl rfl dX4_turns_27 (hF (by decide))
  | 10, _ =>
    refine eg_iload_n dX4_turns_0 rfl rfl ?_
    refine eg_iconst dX4_turns_1 (v := nI 2) (by decide) ?_
    refine eg_icmp_lt 10 dX4_turns_2 (by decide) (fun c2 => absurd c2 (by decide)) (fun c2 => ?_)
    refine eg_iload_n dX4_turns_5 rfl rfl ?_
    refine eg_iconst dX4_turns_6 (v := nI 5) (by decide) ?_
    refine eg_icmp_le 22 dX4_turns_7 (by decide) (fun c7 => absurd c7 (by decide)) (fun c7 => ?_)
    refine eg_iload_n dX4_turns_10 rfl rfl ?_
    refine eg_bipush dX4_turns_11 (v := nI 7) (by decide) ?_
    refine eg_icmp_eq 22 dX4_turns_13 (by decide) (fun c13 => absurd c13 (by decide)) (fun c13 => ?_)
    refine eg_iload_n dX4_turns_16 rfl rfl ?_
    refine eg_bipush dX4_turns_17 (v := nI 12) (by decide) ?_
    refine eg_icmp_ne 26 dX4_turns_19 (by decide) (fun c19 => ?_) (fun c19 => absurd c19 (by decide))
    refine eg_iconst dX4_turns_26 (v := nI 0) (by decide) ?_
    exact eg_zret rfl rfl dX4_turns_27 (hF (by decide))
  | 11, _ =>
    refine eg_iload_n dX4_turns_0 rfl rfl ?_
    refine eg_iconst dX4_turns_1 (v := nI 2) (by decide) ?_
    refine eg_icmp_lt 10 dX4_turns_2 (by decide) (fun c2 => absurd c2 (by decide)) (fun c2 => ?_)
    refine eg_iload_n dX4_turns_5 rfl rfl ?_
    refine eg_iconst dX4_turns_6 (v := nI 5) (by decide) ?_
    refine eg_icmp_le 22 dX4_turns_7 (by decide) (fun c7 => absurd c7 (by decide)) (fun c7 => ?_)
    refine eg_iload_n dX4_turns_10 rfl rfl ?_
    refine eg_bipush dX4_turns_11 (v := nI 7) (by decide) ?_
    refine eg_icmp_eq 22 dX4_turns_13 (by decide) (fun c13 => absurd c13 (by decide)) (fun c13 => ?_)
    refine eg_iload_n dX4_turns_16 rfl rfl ?_
    refine eg_bipush dX4_turns_17 (v := nI 12) (by decide) ?_
    refine eg_icmp_ne 26 dX4_turns_19 (by decide) (fun c19 => ?_) (fun c19 => absurd c19 (by decide))
    refine eg_iconst dX4_turns_26 (v := nI 0) (by decide) ?_
    exact eg_zret rfl rfl dX4_turns_27 (hF (by decide))
  | 12, _ =>
    refine eg_iload_n dX4_turns_0 rfl rfl ?_
    refine eg_iconst dX4_turns_1 (v := nI 2) (by decide) ?_
    refine eg_icmp_lt 10 dX4_turns_2 (by decide) (fun c2 => absurd c2 (by decide)) (fun c2 => ?_)
    refine eg_iload_n dX4_turns_5 rfl rfl ?_
    refine eg_iconst dX4_turns_6 (v := nI 5) (by decide) ?_
    refine eg_icmp_le 22 dX4_turns_7 (by decide) (fun c7 => absurd c7 (by decide)) (fun c7 => ?_)
    refine eg_iload_n dX4_turns_10 rfl rfl ?_
    refine eg_bipush dX4_turns_11 (v := nI 7) (by decide) ?_
    refine eg_icmp_eq 22 dX4_turns_13 (by decide) (fun c13 => absurd c13 (by decide)) (fun c13 => ?_)
    refine eg_iload_n dX4_turns_16 rfl rfl ?_
    refine eg_bipush dX4_turns_17 (v := nI 12) (by decide) ?_
    refine eg_icmp_ne 26 dX4_turns_19 (by decide) (fun c19 => absurd (by decide) c19) (fun c19 => ?_)
    refine eg_iconst dX4_turns_22 (v := nI 1) (by decide) ?_
    refine eg_goto 27 dX4_turns_23 (by decide) ?_
    exact eg_zret rfl rfl dX4_turns_27 (hT (by decide))
  | o + 13, ho => exact absurd ho (by omega)
set_option maxHeartbeats 2000000 in
theorem lp_X4_advG {l : Launch} {E : eg_E} {d kb nb : Nat} {Q : Option Value → eg_G → eg_I → Prop} {G : eg_G} {M : eg_I} {a p r N : Nat} {co : Nat → Nat} {o x y : Nat} {l3 : Option Value} (hs : sh_M G a) (hp : p < 12) (hN1 : 1 ≤ N) (hN : N ≤ 18) (hc9 : ∀ o, o < 13 → co o ≤ 9) (hr : r ≤ 30) (hco : ∀ o, o < 13 → M (a + 2) o = nI (co o)) (h15 : M (a + 15) p = nI r) (ho : o < 13) (hx : x < N) (hc1 : 0 < co o) (hc2 : co o ≤ r) (hC : ac_C M a p o x y) (hQ : Q (some (.int 1)) G M) : eg_J l E mX4_advance d kb nb Q 94 [some (.ref a), some (.int (nI p)), some (.int (nI N)), l3] [] G M := by
  obtain ⟨k0, ⟨x5, y5⟩, ⟨x6, y6⟩, ⟨x7, y7⟩, ⟨x9, y9⟩, ⟨x10, y10⟩, ⟨x11, y11⟩, ⟨x13, y13⟩, ⟨x14, y14⟩, ⟨x18, y18⟩, ⟨x19, y19⟩, ⟨x20, y20⟩, ⟨x25, y25⟩, ⟨x26, y26⟩, ⟨x27, y27⟩, ⟨x28, y28⟩, ⟨x30, y30⟩, ⟨x31, y31⟩, ⟨x32, y32⟩⟩ := id hs
  have hc9o := hc9 o ho
  refine eg_aload_n dX4_advance_94 rfl rfl ?_
  refine eg_getR gf_RX4_59 rfl (by assumption) (by assumption) dX4_advance_95 ?_
  refine eg_iload_n dX4_advance_98 rfl rfl ?_
  refine eg_ialdN (by assumption) (by omega) (by decide) dX4_advance_99 ?_
  refine eg_topi hC.1 ?_
  refine eg_bipush dX4_advance_100 (v := nI 13) (by decide) ?_
  refine eg_icmp_ge 185 dX4_advance_102 (by decide) (fun c102 => absurd c102 (nI_ge (b := 13) (by omega) (by omega))) (fun c102 => ?_)
  refine eg_aload_n dX4_advance_105 rfl rfl ?_
  refine eg_getR gf_RX4_59 rfl (by assumption) (by assumption) dX4_advance_106 ?_
  refine eg_iload_n dX4_advance_109 rfl rfl ?_
  refine eg_ialdN (by assumption) (by omega) (by decide) dX4_advance_110 ?_
  refine eg_topi hC.1 ?_
  refine eg_if_lt 158 dX4_advance_111 (by decide) (fun c111 => absurd c111 (nI_pos (by omega))) (fun c111 => ?_)
  refine eg_aload_n dX4_advance_114 rfl rfl ?_
  refine eg_getR gf_RX4_62 rfl (by assumption) (by assumption) dX4_advance_115 ?_
  refine eg_iload_n dX4_advance_118 rfl rfl ?_
  refine eg_ialdN (by assumption) (by omega) (by decide) dX4_advance_119 ?_
  refine eg_topi hC.2.1 ?_
  refine eg_iload_n dX4_advance_120 rfl rfl ?_
  refine eg_icmp_ge 158 dX4_advance_121 (by decide) (fun c121 => absurd c121 (nI_ge (by omega) (by omega))) (fun c121 => ?_)
  refine eg_aload_n dX4_advance_124 rfl rfl ?_
  refine eg_getR gf_RX4_26 rfl (by assumption) (by assumption) dX4_advance_125 ?_
  refine eg_aload_n dX4_advance_128 rfl rfl ?_
  refine eg_getR gf_RX4_59 rfl (by assumption) (by assumption) dX4_advance_129 ?_
  refine eg_iload_n dX4_advance_132 rfl rfl ?_
  refine eg_ialdN (by assumption) (by omega) (by decide) dX4_advance_133 ?_
  refine eg_topi hC.1 ?_
  refine eg_ialdN (by assumption) ho (by decide) dX4_advance_134 ?_
  refine eg_topi (hco o ho) ?_
  refine eg_if_eq 158 dX4_advance_135 (by decide) (fun c135 => absurd c135 (nI_ne0 hc1 (by omega))) (fun c135 => ?_)
  refine eg_aload_n dX4_advance_138 rfl rfl ?_
  refine eg_getR gf_RX4_26 rfl (by assumption) (by assumption) dX4_advance_139 ?_
  refine eg_aload_n dX4_advance_142 rfl rfl ?_
  refine eg_getR gf_RX4_59 rfl (by assumption) (by assumption) dX4_advance_143 ?_
  refine eg_iload_n dX4_advance_146 rfl rfl ?_
  refine eg_ialdN (by assumption) (by omega) (by decide) dX4_advance_147 ?_
  refine eg_topi hC.1 ?_
  refine eg_ialdN (by assumption) ho (by decide) dX4_advance_148 ?_
  refine eg_topi (hco o ho) ?_
  refine eg_aload_n dX4_advance_149 rfl rfl ?_
  refine eg_getR gf_RX4_68 rfl (by assumption) (by assumption) dX4_advance_150 ?_
  refine eg_iload_n dX4_advance_153 rfl rfl ?_
  refine eg_ialdN (by assumption) (by omega) (by decide) dX4_advance_154 ?_
  refine eg_topi h15 ?_
  refine eg_icmp_le 185 dX4_advance_155 (by decide) (fun c155 => ?_) (fun c155 => absurd (nI_le hc2 (by omega)) c155)
  refine eg_aload_n dX4_advance_185 rfl rfl ?_
  refine eg_getR gf_RX4_59 rfl (by assumption) (by assumption) dX4_advance_186 ?_
  refine eg_iload_n dX4_advance_189 rfl rfl ?_
  refine eg_ialdN (by assumption) (by omega) (by decide) dX4_advance_190 ?_
  refine eg_topi hC.1 ?_
  refine eg_bipush dX4_advance_191 (v := nI 13) (by decide) ?_
  refine eg_icmp_ge 200 dX4_advance_193 (by decide) (fun c193 => absurd c193 (nI_ge (b := 13) (by omega) (by omega))) (fun c193 => ?_)
  refine eg_iconst dX4_advance_196 (v := nI 1) (by decide) ?_
  refine eg_goto 201 dX4_advance_197 (by decide) ?_
  exact eg_zret rfl rfl dX4_advance_201 hQ
set_option maxHeartbeats 2000000 in
theorem lp_X4_advO {l : Launch} {E : eg_E} {d kb nb : Nat} {Q : Option Value → eg_G → eg_I → Prop} {G : eg_G} {a p r N : Nat} {co : Nat → Nat} {l3 : Option Value} (hs : sh_M G a) (hp : p < 12) (hN1 : 1 ≤ N) (hN : N ≤ 18) (hc9 : ∀ o, o < 13 → co o ≤ 9) (hr : r ≤ 30) : ∀ (c o : Nat) (M : eg_I), o + c = 13 → (∀ o, o < 13 → M (a + 2) o = nI (co o)) → M (a + 15) p = nI r → ac_C M a p o 0 0 → (ss_os co r o N = [] → ∀ M', ac_F M M' a p → Q (some (.int 0)) G M') → (∀ o2 x2 y2 M', ss_os co r o N = (o2, x2, y2) :: ss_rem co r N o2 x2 (y2 + 1) → o2 < 13 → x2 < N → y2 < N → (o2 = 0 ∨ o2 = 1 → y2 = 0) → 0 < co o2 → co o2 ≤ r → ac_C M' a p o2 x2 y2 → ac_F M M' a p → Q (some (.int 1)) G M') → eg_J l E mX4_advance d kb nb Q 94 [some (.ref a), some (.int (nI p)), some (.int (nI N)), l3] [] G M := by
  intro c
  induction c with
  | zero =>
    intro o M hoc hco h15 hC hPN hPS
    obtain ⟨k0, ⟨x5, y5⟩, ⟨x6, y6⟩, ⟨x7, y7⟩, ⟨x9, y9⟩, ⟨x10, y10⟩, ⟨x11, y11⟩, ⟨x13, y13⟩, ⟨x14, y14⟩, ⟨x18, y18⟩, ⟨x19, y19⟩, ⟨x20, y20⟩, ⟨x25, y25⟩, ⟨x26, y26⟩, ⟨x27, y27⟩, ⟨x28, y28⟩, ⟨x30, y30⟩, ⟨x31, y31⟩, ⟨x32, y32⟩⟩ := id hs
    have ho : o = 13 := by omega
    subst ho
    refine eg_aload_n dX4_advance_94 rfl rfl ?_
    refine eg_getR gf_RX4_59 rfl (by assumption) (by assumption) dX4_advance_95 ?_
    refine eg_iload_n dX4_advance_98 rfl rfl ?_
    refine eg_ialdN (by assumption) (by omega) (by decide) dX4_advance_99 ?_
    refine eg_topi hC.1 ?_
    refine eg_bipush dX4_advance_100 (v := nI 13) (by decide) ?_
    refine eg_icmp_ge 185 dX4_advance_102 (by decide) (fun c102 => ?_) (fun c102 => absurd (nI_le (a := 13) (b := 13) (by omega) (by omega)) c102)
    refine eg_aload_n dX4_advance_185 rfl rfl ?_
    refine eg_getR gf_RX4_59 rfl (by assumption) (by assumption) dX4_advance_186 ?_
    refine eg_iload_n dX4_advance_189 rfl rfl ?_
    refine eg_ialdN (by assumption) (by omega) (by decide) dX4_advance_190 ?_
    refine eg_topi hC.1 ?_
    refine eg_bipush dX4_advance_191 (v := nI 13) (by decide) ?_
    refine eg_icmp_ge 200 dX4_advance_193 (by decide) (fun c193 => ?_) (fun c193 => absurd (nI_le (a := 13) (b := 13) (by omega) (by omega)) c193)
    refine eg_iconst dX4_advance_200 (v := nI 0) (by decide) ?_
    exact eg_zret rfl rfl dX4_advance_201 (hPN (ss_os_0 (by omega)) M ac_F.rf)
  | succ c ih =>
    intro o M hoc hco h15 hC hPN hPS
    obtain ⟨k0, ⟨x5, y5⟩, ⟨x6, y6⟩, ⟨x7, y7⟩, ⟨x9, y9⟩, ⟨x10, y10⟩, ⟨x11, y11⟩, ⟨x13, y13⟩, ⟨x14, y14⟩, ⟨x18, y18⟩, ⟨x19, y19⟩, ⟨x20, y20⟩, ⟨x25, y25⟩, ⟨x26, y26⟩, ⟨x27, y27⟩, ⟨x28, y28⟩, ⟨x30, y30⟩, ⟨x31, y31⟩, ⟨x32, y32⟩⟩ := id hs
    have ho : o < 13 := by omega
    have hc9o := hc9 o ho
    refine eg_aload_n dX4_advance_94 rfl rfl ?_
    refine eg_getR gf_RX4_59 rfl (by assumption) (by assumption) dX4_advance_95 ?_
    refine eg_iload_n dX4_advance_98 rfl rfl ?_
    refine eg_ialdN (by assumption) (by omega) (by decide) dX4_advance_99 ?_
    refine eg_topi hC.1 ?_
    refine eg_bipush dX4_advance_100 (v := nI 13) (by decide) ?_
    refine eg_icmp_ge 185 dX4_advance_102 (by decide) (fun c102 => absurd c102 (nI_ge (b := 13) (by omega) (by omega))) (fun c102 => ?_)
    refine eg_aload_n dX4_advance_105 rfl rfl ?_
    refine eg_getR gf_RX4_59 rfl (by assumption) (by assumption) dX4_advance_106 ?_
    refine eg_iload_n dX4_advance_109 rfl rfl ?_
    refine eg_ialdN (by assumption) (by omega) (by decide) dX4_advance_110 ?_
    refine eg_topi hC.1 ?_
    refine eg_if_lt 158 dX4_advance_111 (by decide) (fun c111 => absurd c111 (nI_pos (by omega))) (fun c111 => ?_)
    refine eg_aload_n dX4_advance_114 rfl rfl ?_
    refine eg_getR gf_RX4_62 rfl (by assumption) (by assumption) dX4_advance_115 ?_
    refine eg_iload_n dX4_advance_118 rfl rfl ?_
    refine eg_ialdN (by assumption) (by omega) (by decide) dX4_advance_119 ?_
    refine eg_topi hC.2.1 ?_
    refine eg_iload_n dX4_advance_120 rfl rfl ?_
    refine eg_icmp_ge 158 dX4_advance_121 (by decide) (fun c121 => absurd c121 (nI_ge (by omega) (by omega))) (fun c121 => ?_)
    refine eg_aload_n dX4_advance_124 rfl rfl ?_
    refine eg_getR gf_RX4_26 rfl (by assumption) (by assumption) dX4_advance_125 ?_
    refine eg_aload_n dX4_advance_128 rfl rfl ?_
    refine eg_getR gf_RX4_59 rfl (by assumption) (by assumption) dX4_advance_129 ?_
    refine eg_iload_n dX4_advance_132 rfl rfl ?_
    refine eg_ialdN (by assumption) (by omega) (by decide) dX4_advance_133 ?_
    refine eg_topi hC.1 ?_
    refine eg_ialdN (by assumption) ho (by decide) dX4_advance_134 ?_
    refine eg_topi (hco o ho) ?_
    refine eg_if_eq 158 dX4_advance_135 (by decide) (fun e1 => ?_) (fun e1 => ?_)
    · have hbad : ¬ (0 < co o ∧ co o ≤ r) := fun q => absurd e1 (nI_ne0 q.1 (by omega))
      have en := ss_os_n (N := N) (o := o) (by omega) hbad
      refine eg_aload_n dX4_advance_158 rfl rfl ?_
      refine eg_getR gf_RX4_59 rfl (by assumption) (by assumption) dX4_advance_159 ?_
      refine eg_iload_n dX4_advance_162 rfl rfl ?_
      refine eg_dup2 dX4_advance_163 rfl rfl ?_
      refine eg_ialdN (by assumption) (by omega) (by decide) dX4_advance_164 ?_
      refine eg_topi hC.1 ?_
      refine eg_iconst dX4_advance_165 (v := nI 1) (by decide) ?_
      refine eg_iadd dX4_advance_166 ?_
      refine eg_topi (nI_add o 1) ?_
      refine eg_iastN (by assumption) (by omega) (by decide) dX4_advance_167 ?_
      refine eg_aload_n dX4_advance_168 rfl rfl ?_
      refine eg_getR gf_RX4_62 rfl (by assumption) (by assumption) dX4_advance_169 ?_
      refine eg_iload_n dX4_advance_172 rfl rfl ?_
      refine eg_iconst dX4_advance_173 (v := nI 0) (by decide) ?_
      refine eg_iastN (by assumption) (by omega) (by decide) dX4_advance_174 ?_
      refine eg_aload_n dX4_advance_175 rfl rfl ?_
      refine eg_getR gf_RX4_65 rfl (by assumption) (by assumption) dX4_advance_176 ?_
      refine eg_iload_n dX4_advance_179 rfl rfl ?_
      refine eg_iconst dX4_advance_180 (v := nI 0) (by decide) ?_
      refine eg_iastN (by assumption) (by omega) (by decide) dX4_advance_181 ?_
      refine eg_goto 94 dX4_advance_182 (by decide) ?_
      generalize hM1 : eg_set (eg_set (eg_set M (a + 12) p (nI (o + 1))) (a + 13) p (nI 0)) (a + 14) p (nI 0) = M1
      have hF : ac_F M M1 a p := by
        rw [← hM1]
        exact (ac_F.st (by omega) (by omega)).tr ((ac_F.st (by omega) (by omega)).tr (ac_F.st (by omega) (by omega)))
      refine ih (o + 1) M1 (by omega) (fun o ho => by rw [hF _ _ (by omega)]; exact hco o ho) (by rw [hF _ _ (by omega)]; exact h15) ⟨?_, ?_, ?_⟩ (fun z M2 z2 => hPN (en.trans z) M2 (hF.tr z2)) (fun o x y M2 z z1 z2 z3 z4 z5 z6 z7 z8 => hPS o x y M2 (en.trans z) z1 z2 z3 z4 z5 z6 z7 (hF.tr z8))
      · rw [← hM1, eg_set_ne (by omega), eg_set_ne (by omega), eg_set_eq]
      · rw [← hM1, eg_set_ne (by omega), eg_set_eq]
      · rw [← hM1, eg_set_eq]
    · refine eg_aload_n dX4_advance_138 rfl rfl ?_
      refine eg_getR gf_RX4_26 rfl (by assumption) (by assumption) dX4_advance_139 ?_
      refine eg_aload_n dX4_advance_142 rfl rfl ?_
      refine eg_getR gf_RX4_59 rfl (by assumption) (by assumption) dX4_advance_143 ?_
      refine eg_iload_n dX4_advance_146 rfl rfl ?_
      refine eg_ialdN (by assumption) (by omega) (by decide) dX4_advance_147 ?_
      refine eg_topi hC.1 ?_
      refine eg_ialdN (by assumption) ho (by decide) dX4_advance_148 ?_
      refine eg_topi (hco o ho) ?_
      refine eg_aload_n dX4_advance_149 rfl rfl ?_
      refine eg_getR gf_RX4_68 rfl (by assumption) (by assumption) dX4_advance_150 ?_
      refine eg_iload_n dX4_advance_153 rfl rfl ?_
      refine eg_ialdN (by assumption) (by omega) (by decide) dX4_advance_154 ?_
      refine eg_topi h15 ?_
      refine eg_icmp_le 185 dX4_advance_155 (by decide) (fun e2 => ?_) (fun e2 => ?_)
      · have hc2 : co o ≤ r := Nat.le_of_not_lt (fun q => absurd e2 (nI_ge q (by omega)))
        have hc1 : 0 < co o := Nat.pos_of_ne_zero (fun q => e1 (by rw [q]; rfl))
        refine eg_aload_n dX4_advance_185 rfl rfl ?_
        refine eg_getR gf_RX4_59 rfl (by assumption) (by assumption) dX4_advance_186 ?_
        refine eg_iload_n dX4_advance_189 rfl rfl ?_
        refine eg_ialdN (by assumption) (by omega) (by decide) dX4_advance_190 ?_
        refine eg_topi hC.1 ?_
        refine eg_bipush dX4_advance_191 (v := nI 13) (by decide) ?_
        refine eg_icmp_ge 200 dX4_advance_193 (by decide) (fun c193 => absurd c193 (nI_ge (b := 13) (by omega) (by omega))) (fun c193 => ?_)
        refine eg_iconst dX4_advance_196 (v := nI 1) (by decide) ?_
        refine eg_goto 201 dX4_advance_197 (by decide) ?_
        exact eg_zret rfl rfl dX4_advance_201 (hPS o 0 0 M (ss_os_y ho hN1 ⟨hc1, hc2⟩) ho (by omega) (by omega) (fun _ => rfl) hc1 hc2 hC ac_F.rf)
      · have hbad : ¬ (0 < co o ∧ co o ≤ r) := fun q => e2 (nI_le q.2 (by omega))
        have en := ss_os_n (N := N) (o := o) (by omega) hbad
        refine eg_aload_n dX4_advance_158 rfl rfl ?_
        refine eg_getR gf_RX4_59 rfl (by assumption) (by assumption) dX4_advance_159 ?_
        refine eg_iload_n dX4_advance_162 rfl rfl ?_
        refine eg_dup2 dX4_advance_163 rfl rfl ?_
        refine eg_ialdN (by assumption) (by omega) (by decide) dX4_advance_164 ?_
        refine eg_topi hC.1 ?_
        refine eg_iconst dX4_advance_165 (v := nI 1) (by decide) ?_
        refine eg_iadd dX4_advance_166 ?_
        refine eg_topi (nI_add o 1) ?_
        refine eg_iastN (by assumption) (by omega) (by decide) dX4_advance_167 ?_
        refine eg_aload_n dX4_advance_168 rfl rfl ?_
        refine eg_getR gf_RX4_62 rfl (by assumption) (by assumption) dX4_advance_169 ?_
        refine eg_iload_n dX4_advance_172 rfl rfl ?_
        refine eg_iconst dX4_advance_173 (v := nI 0) (by decide) ?_
        refine eg_iastN (by assumption) (by omega) (by decide) dX4_advance_174 ?_
        refine eg_aload_n dX4_advance_175 rfl rfl ?_
        refine eg_getR gf_RX4_65 rfl (by assumption) (by assumption) dX4_advance_176 ?_
        refine eg_iload_n dX4_advance_179 rfl rfl ?_
        refine eg_iconst dX4_advance_180 (v := nI 0) (by decide) ?_
        refine eg_iastN (by assumption) (by omega) (by decide) dX4_advance_181 ?_
        refine eg_goto 94 dX4_advance_182 (by decide) ?_
        generalize hM1 : eg_set (eg_set (eg_set M (a + 12) p (nI (o + 1))) (a + 13) p (nI 0)) (a + 14) p (nI 0) = M1
        have hF : ac_F M M1 a p := by
          rw [← hM1]
          exact (ac_F.st (by omega) (by omega)).tr ((ac_F.st (by omega) (by omega)).tr (ac_F.st (by omega) (by omega)))
        refine ih (o + 1) M1 (by omega) (fun o ho => by rw [hF _ _ (by omega)]; exact hco o ho) (by rw [hF _ _ (by omega)]; exact h15) ⟨?_, ?_, ?_⟩ (fun z M2 z2 => hPN (en.trans z) M2 (hF.tr z2)) (fun o x y M2 z z1 z2 z3 z4 z5 z6 z7 z8 => hPS o x y M2 (en.trans z) z1 z2 z3 z4 z5 z6 z7 (hF.tr z8))
        · rw [← hM1, eg_set_ne (by omega), eg_set_ne (by omega), eg_set_eq]
        · rw [← hM1, eg_set_ne (by omega), eg_set_eq]
        · rw [← hM1, eg_set_eq]
set_option maxHeartbeats 2000000 in
theorem sp_X4_advance {l : Launch} {E : eg_E} {d kb nb : Nat} {Q : Option Value → eg_G → eg_I → Prop} {G : eg_G} {M : eg_I} {a w n k p r : Nat} {cf : Nat → Int32} {co : Nat → Nat} {l_ : List (Nat × Nat × Nat)} (hd : 1 ≤ d) (hs : sh_M G a) (hp : p < 12) (hc9 : ∀ o, o < 13 → co o ≤ 9) (hr : r ≤ 30) (h : in_M M a w n k cf) (hco : ∀ o, o < 13 → M (a + 2) o = nI (co o)) (h15 : M (a + 15) p = nI r) (hcu : rc_I M a co p r (n + k + p) l_) (hPN : (l_ = [] → ∀ M', ac_F M M' a p → Q (some (.int 0)) G M')) (hPS : (∀ o2 x2 y2 M', l_ = (o2, x2, y2) :: ss_rem co r (n + k + p) o2 x2 (y2 + 1) → o2 < 13 → x2 < (n + k + p) → y2 < (n + k + p) → (o2 = 0 ∨ o2 = 1 → y2 = 0) → 0 < co o2 → co o2 ≤ r → ac_C M' a p o2 x2 y2 → ac_F M M' a p → Q (some (.int 1)) G M')) : eg_J l E mX4_advance d kb nb Q 0 [some (.ref a), some (.int (nI p)), none, none] [] G M := by
  obtain ⟨k0, ⟨x5, y5⟩, ⟨x6, y6⟩, ⟨x7, y7⟩, ⟨x9, y9⟩, ⟨x10, y10⟩, ⟨x11, y11⟩, ⟨x13, y13⟩, ⟨x14, y14⟩, ⟨x18, y18⟩, ⟨x19, y19⟩, ⟨x20, y20⟩, ⟨x25, y25⟩, ⟨x26, y26⟩, ⟨x27, y27⟩, ⟨x28, y28⟩, ⟨x30, y30⟩, ⟨x31, y31⟩, ⟨x32, y32⟩⟩ := id hs
  obtain ⟨m0, m1, m2, m3, m4, mc, hw1, hw4, hn1, hn2, hk4⟩ := id h
  have hA := wd_asg hw4 hn2
  rcases hcu with ⟨q1, q2, q3, q4⟩ | ⟨o, x, y, ho, hx, hy, hz, hc1, hc2, ⟨q1, q2, q3⟩, q4⟩
  · refine eg_aload_n dX4_advance_0 rfl rfl ?_
    refine eg_callV0 0 0 gk_X4_firsts gi_X4_firsts (by assumption) rfl gl_RX4_86 rfl (Nat.le_of_ble_eq_true rfl) (Nat.le_of_ble_eq_true rfl) (Nat.zero_le _) (Nat.zero_le _) (by omega) dX4_advance_1 ?_
    refine sp_X4_firsts k0 h ?_
    refine eg_iload_n dX4_advance_4 rfl rfl ?_
    refine eg_iadd dX4_advance_5 ?_
    refine eg_topi (nI_add (n + k) p) ?_
    refine eg_istore_n dX4_advance_6 rfl (by decide) rfl ?_
    refine eg_aload_n dX4_advance_7 rfl rfl ?_
    refine eg_getR gf_RX4_59 rfl (by assumption) (by assumption) dX4_advance_8 ?_
    refine eg_iload_n dX4_advance_11 rfl rfl ?_
    refine eg_ialdN (by assumption) (by omega) (by decide) dX4_advance_12 ?_
    refine eg_topi q1 ?_
    refine eg_if_eq 26 dX4_advance_13 (by decide) (fun c13 => absurd c13 (show ¬ (-1 : Int32) = 0 by decide)) (fun c13 => ?_)
    refine eg_aload_n dX4_advance_16 rfl rfl ?_
    refine eg_getR gf_RX4_59 rfl (by assumption) (by assumption) dX4_advance_17 ?_
    refine eg_iload_n dX4_advance_20 rfl rfl ?_
    refine eg_ialdN (by assumption) (by omega) (by decide) dX4_advance_21 ?_
    refine eg_topi q1 ?_
    refine eg_iconst dX4_advance_22 (v := nI 1) (by decide) ?_
    refine eg_icmp_ne 30 dX4_advance_23 (by decide) (fun c23 => ?_) (fun c23 => absurd c23 (show ¬ (-1 : Int32) = nI 1 by decide))
    refine eg_iconst dX4_advance_30 (v := nI 0) (by decide) ?_
    refine eg_istore_n dX4_advance_31 rfl (by decide) rfl ?_
    refine eg_aload_n dX4_advance_32 rfl rfl ?_
    refine eg_getR gf_RX4_65 rfl (by assumption) (by assumption) dX4_advance_33 ?_
    refine eg_iload_n dX4_advance_36 rfl rfl ?_
    refine eg_dup2 dX4_advance_37 rfl rfl ?_
    refine eg_ialdN (by assumption) (by omega) (by decide) dX4_advance_38 ?_
    refine eg_topi q3 ?_
    refine eg_iconst dX4_advance_39 (v := nI 1) (by decide) ?_
    refine eg_iadd dX4_advance_40 ?_
    refine eg_topi (show (-1 : Int32) + nI 1 = nI 0 by decide) ?_
    refine eg_iastN (by assumption) (by omega) (by decide) dX4_advance_41 ?_
    refine eg_iload_n dX4_advance_42 rfl rfl ?_
    refine eg_if_ne 56 dX4_advance_43 (by decide) (fun c43 => absurd (show nI 0 = 0 from rfl) c43) (fun c43 => ?_)
    refine eg_aload_n dX4_advance_46 rfl rfl ?_
    refine eg_getR gf_RX4_65 rfl (by assumption) (by assumption) dX4_advance_47 ?_
    refine eg_iload_n dX4_advance_50 rfl rfl ?_
    refine eg_ialdN (by assumption) (by omega) (by decide) dX4_advance_51 ?_
    refine eg_topi eg_set_eq ?_
    refine eg_iload_n dX4_advance_52 rfl rfl ?_
    refine eg_icmp_lt 94 dX4_advance_53 (by decide) (fun c53 => ?_) (fun c53 => absurd (nI_lt (a := 0) (by omega) (by omega)) c53)
    refine eg_aload_n dX4_advance_94 rfl rfl ?_
    refine eg_getR gf_RX4_59 rfl (by assumption) (by assumption) dX4_advance_95 ?_
    refine eg_iload_n dX4_advance_98 rfl rfl ?_
    refine eg_ialdN (by assumption) (by omega) (by decide) dX4_advance_99 ?_
    refine eg_topi (show _ = -1 by rw [eg_set_ne (by omega)]; exact q1) ?_
    refine eg_bipush dX4_advance_100 (v := nI 13) (by decide) ?_
    refine eg_icmp_ge 185 dX4_advance_102 (by decide) (fun c102 => absurd c102 (show ¬ nI 13 ≤ (-1 : Int32) by decide)) (fun c102 => ?_)
    refine eg_aload_n dX4_advance_105 rfl rfl ?_
    refine eg_getR gf_RX4_59 rfl (by assumption) (by assumption) dX4_advance_106 ?_
    refine eg_iload_n dX4_advance_109 rfl rfl ?_
    refine eg_ialdN (by assumption) (by omega) (by decide) dX4_advance_110 ?_
    refine eg_topi (show _ = -1 by rw [eg_set_ne (by omega)]; exact q1) ?_
    refine eg_if_lt 158 dX4_advance_111 (by decide) (fun c111 => ?_) (fun c111 => absurd (show (-1 : Int32) < 0 by decide) c111)
    refine eg_aload_n dX4_advance_158 rfl rfl ?_
    refine eg_getR gf_RX4_59 rfl (by assumption) (by assumption) dX4_advance_159 ?_
    refine eg_iload_n dX4_advance_162 rfl rfl ?_
    refine eg_dup2 dX4_advance_163 rfl rfl ?_
    refine eg_ialdN (by assumption) (by omega) (by decide) dX4_advance_164 ?_
    refine eg_topi (show _ = -1 by rw [eg_set_ne (by omega)]; exact q1) ?_
    refine eg_iconst dX4_advance_165 (v := nI 1) (by decide) ?_
    refine eg_iadd dX4_advance_166 ?_
    refine eg_topi (show (-1 : Int32) + nI 1 = nI 0 by decide) ?_
    refine eg_iastN (by assumption) (by omega) (by decide) dX4_advance_167 ?_
    refine eg_aload_n dX4_advance_168 rfl rfl ?_
    refine eg_getR gf_RX4_62 rfl (by assumption) (by assumption) dX4_advance_169 ?_
    refine eg_iload_n dX4_advance_172 rfl rfl ?_
    refine eg_iconst dX4_advance_173 (v := nI 0) (by decide) ?_
    refine eg_iastN (by assumption) (by omega) (by decide) dX4_advance_174 ?_
    refine eg_aload_n dX4_advance_175 rfl rfl ?_
    refine eg_getR gf_RX4_65 rfl (by assumption) (by assumption) dX4_advance_176 ?_
    refine eg_iload_n dX4_advance_179 rfl rfl ?_
    refine eg_iconst dX4_advance_180 (v := nI 0) (by decide) ?_
    refine eg_iastN (by assumption) (by omega) (by decide) dX4_advance_181 ?_
    refine eg_goto 94 dX4_advance_182 (by decide) ?_
    generalize hM1 : eg_set (eg_set (eg_set (eg_set M (a + 14) p (nI 0)) (a + 12) p (nI 0)) (a + 13) p (nI 0)) (a + 14) p (nI 0) = M1
    have hF : ac_F M M1 a p := by
      rw [← hM1]
      exact (ac_F.st (by omega) (by omega)).tr ((ac_F.st (by omega) (by omega)).tr ((ac_F.st (by omega) (by omega)).tr (ac_F.st (by omega) (by omega))))
    refine lp_X4_advO hs hp (by omega) (by omega) hc9 hr 13 0 M1 (by omega) (fun o ho => by rw [hF _ _ (by omega)]; exact hco o ho) (by rw [hF _ _ (by omega)]; exact h15) ⟨?_, ?_, ?_⟩ (fun z M2 z2 => hPN (q4.trans z) M2 (hF.tr z2)) (fun o x y M2 z z1 z2 z3 z4 z5 z6 z7 z8 => hPS o x y M2 (q4.trans z) z1 z2 z3 z4 z5 z6 z7 (hF.tr z8))
    · rw [← hM1, eg_set_ne (by omega), eg_set_ne (by omega), eg_set_eq]
    · rw [← hM1, eg_set_ne (by omega), eg_set_eq]
    · rw [← hM1, eg_set_eq]
  · refine eg_aload_n dX4_advance_0 rfl rfl ?_
    refine eg_callV0 0 0 gk_X4_firsts gi_X4_firsts (by assumption) rfl gl_RX4_86 rfl (Nat.le_of_ble_eq_true rfl) (Nat.le_of_ble_eq_true rfl) (Nat.zero_le _) (Nat.zero_le _) (by omega) dX4_advance_1 ?_
    refine sp_X4_firsts k0 h ?_
    refine eg_iload_n dX4_advance_4 rfl rfl ?_
    refine eg_iadd dX4_advance_5 ?_
    refine eg_topi (nI_add (n + k) p) ?_
    refine eg_istore_n dX4_advance_6 rfl (by decide) rfl ?_
    refine eg_aload_n dX4_advance_7 rfl rfl ?_
    refine eg_getR gf_RX4_59 rfl (by assumption) (by assumption) dX4_advance_8 ?_
    refine eg_iload_n dX4_advance_11 rfl rfl ?_
    refine eg_ialdN (by assumption) (by omega) (by decide) dX4_advance_12 ?_
    refine eg_topi q1 ?_
    refine eg_if_eq 26 dX4_advance_13 (by decide) (fun e1 => ?_) (fun e1 => ?_)
    · have h1 : o = 0 ∨ o = 1 := Or.inl ((nI_eq (b := 0) (by omega) (by omega)).mp e1)
      have hb : (o = 0 ∨ o = 1) ∨ n + k + p ≤ y + 1 := Or.inl h1
      refine eg_iconst dX4_advance_26 (v := nI 1) (by decide) ?_
      refine eg_goto 31 dX4_advance_27 (by decide) ?_
      refine eg_istore_n dX4_advance_31 rfl (by decide) rfl ?_
      refine eg_aload_n dX4_advance_32 rfl rfl ?_
      refine eg_getR gf_RX4_65 rfl (by assumption) (by assumption) dX4_advance_33 ?_
      refine eg_iload_n dX4_advance_36 rfl rfl ?_
      refine eg_dup2 dX4_advance_37 rfl rfl ?_
      refine eg_ialdN (by assumption) (by omega) (by decide) dX4_advance_38 ?_
      refine eg_topi q3 ?_
      refine eg_iconst dX4_advance_39 (v := nI 1) (by decide) ?_
      refine eg_iadd dX4_advance_40 ?_
      refine eg_topi (nI_add y 1) ?_
      refine eg_iastN (by assumption) (by omega) (by decide) dX4_advance_41 ?_
      refine eg_iload_n dX4_advance_42 rfl rfl ?_
      refine eg_if_ne 56 dX4_advance_43 (by decide) (fun c43 => ?_) (fun c43 => absurd c43 (show ¬ nI 1 = 0 by decide))
      refine eg_aload_n dX4_advance_56 rfl rfl ?_
      refine eg_getR gf_RX4_62 rfl (by assumption) (by assumption) dX4_advance_57 ?_
      refine eg_iload_n dX4_advance_60 rfl rfl ?_
      refine eg_dup2 dX4_advance_61 rfl rfl ?_
      refine eg_ialdN (by assumption) (by omega) (by decide) dX4_advance_62 ?_
      refine eg_topi (show _ = nI x by rw [eg_set_ne (by omega)]; exact q2) ?_
      refine eg_iconst dX4_advance_63 (v := nI 1) (by decide) ?_
      refine eg_iadd dX4_advance_64 ?_
      refine eg_topi (nI_add x 1) ?_
      refine eg_iastN (by assumption) (by omega) (by decide) dX4_advance_65 ?_
      refine eg_aload_n dX4_advance_66 rfl rfl ?_
      refine eg_getR gf_RX4_65 rfl (by assumption) (by assumption) dX4_advance_67 ?_
      refine eg_iload_n dX4_advance_70 rfl rfl ?_
      refine eg_aload_n dX4_advance_71 rfl rfl ?_
      refine eg_getR gf_RX4_59 rfl (by assumption) (by assumption) dX4_advance_72 ?_
      refine eg_iload_n dX4_advance_75 rfl rfl ?_
      refine eg_ialdN (by assumption) (by omega) (by decide) dX4_advance_76 ?_
      refine eg_topi (show _ = nI o by rw [eg_set_ne (by omega), eg_set_ne (by omega)]; exact q1) ?_
      refine eg_callS1 0 0 gk_X4_turns gi_X4_turns gl_RX4_137 rfl (Nat.le_of_ble_eq_true rfl) (Nat.le_of_ble_eq_true rfl) (Nat.zero_le _) (Nat.zero_le _) (by omega) dX4_advance_77 ?_
      refine sp_X4_turns ho (fun ht => ?_) (fun ht => ?_)
      · refine eg_if_eq 92 dX4_advance_80 (by decide) (fun z => absurd z (by decide)) (fun _ => ?_)
        refine eg_aload_n dX4_advance_83 rfl rfl ?_
        refine eg_getR gf_RX4_62 rfl (by assumption) (by assumption) dX4_advance_84 ?_
        refine eg_iload_n dX4_advance_87 rfl rfl ?_
        refine eg_ialdN (by assumption) (by omega) (by decide) dX4_advance_88 ?_
        refine eg_topi (show _ = nI (x + 1) from eg_set_eq) ?_
        refine eg_goto 93 dX4_advance_89 (by decide) ?_
        refine eg_iastN (by assumption) (by omega) (by decide) dX4_advance_93 ?_
        generalize hM1 : eg_set (eg_set (eg_set M (a + 14) p (nI (y + 1))) (a + 13) p (nI (x + 1))) (a + 14) p (nI (x + 1)) = M1
        have hF : ac_F M M1 a p := by
          rw [← hM1]
          exact (ac_F.st (by omega) (by omega)).tr ((ac_F.st (by omega) (by omega)).tr (ac_F.st (by omega) (by omega)))
        have hb0 : ss_b0 o (x + 1) = x + 1 := if_pos ht
        have hC1 : ac_C M1 a p o (x + 1) (ss_b0 o (x + 1)) := by
          rw [hb0]
          refine ⟨?_, ?_, ?_⟩
          · rw [← hM1, eg_set_ne (by omega), eg_set_ne (by omega), eg_set_ne (by omega)]; exact q1
          · rw [← hM1, eg_set_ne (by omega), eg_set_eq]
          · rw [← hM1, eg_set_eq]
        have e4 := q4.trans (ss_rem_b hb)
        by_cases hx1 : x + 1 < n + k + p
        · have hbl := ss_b0_lt (o := o) (by omega) hx1
          refine lp_X4_advG (o := o) (x := x + 1) (y := ss_b0 o (x + 1)) hs hp (by omega) (by omega) hc9 hr (fun o ho => by rw [hF _ _ (by omega)]; exact hco o ho) (by rw [hF _ _ (by omega)]; exact h15) ho (by omega) hc1 hc2 hC1 (hPS o (x + 1) (ss_b0 o (x + 1)) M1 ((e4.trans (ss_rem_a hx1)).trans (ss_rem_s (by omega) hbl (fun z => ss_b0_1 z))) ho (by omega) (by omega) (fun z => ss_b0_1 z) hc1 hc2 hC1 hF)
        · have e5 := e4.trans (ss_rem_0 (by omega))
          refine eg_aload_n dX4_advance_94 rfl rfl ?_
          refine eg_getR gf_RX4_59 rfl (by assumption) (by assumption) dX4_advance_95 ?_
          refine eg_iload_n dX4_advance_98 rfl rfl ?_
          refine eg_ialdN (by assumption) (by omega) (by decide) dX4_advance_99 ?_
          refine eg_topi hC1.1 ?_
          refine eg_bipush dX4_advance_100 (v := nI 13) (by decide) ?_
          refine eg_icmp_ge 185 dX4_advance_102 (by decide) (fun c102 => absurd c102 (nI_ge (b := 13) (by omega) (by omega))) (fun c102 => ?_)
          refine eg_aload_n dX4_advance_105 rfl rfl ?_
          refine eg_getR gf_RX4_59 rfl (by assumption) (by assumption) dX4_advance_106 ?_
          refine eg_iload_n dX4_advance_109 rfl rfl ?_
          refine eg_ialdN (by assumption) (by omega) (by decide) dX4_advance_110 ?_
          refine eg_topi hC1.1 ?_
          refine eg_if_lt 158 dX4_advance_111 (by decide) (fun c111 => absurd c111 (nI_pos (by omega))) (fun c111 => ?_)
          refine eg_aload_n dX4_advance_114 rfl rfl ?_
          refine eg_getR gf_RX4_62 rfl (by assumption) (by assumption) dX4_advance_115 ?_
          refine eg_iload_n dX4_advance_118 rfl rfl ?_
          refine eg_ialdN (by assumption) (by omega) (by decide) dX4_advance_119 ?_
          refine eg_topi hC1.2.1 ?_
          refine eg_iload_n dX4_advance_120 rfl rfl ?_
          refine eg_icmp_ge 158 dX4_advance_121 (by decide) (fun c121 => ?_) (fun c121 => absurd (nI_le (by omega) (by omega)) c121)
          refine eg_aload_n dX4_advance_158 rfl rfl ?_
          refine eg_getR gf_RX4_59 rfl (by assumption) (by assumption) dX4_advance_159 ?_
          refine eg_iload_n dX4_advance_162 rfl rfl ?_
          refine eg_dup2 dX4_advance_163 rfl rfl ?_
          refine eg_ialdN (by assumption) (by omega) (by decide) dX4_advance_164 ?_
          refine eg_topi hC1.1 ?_
          refine eg_iconst dX4_advance_165 (v := nI 1) (by decide) ?_
          refine eg_iadd dX4_advance_166 ?_
          refine eg_topi (nI_add o 1) ?_
          refine eg_iastN (by assumption) (by omega) (by decide) dX4_advance_167 ?_
          refine eg_aload_n dX4_advance_168 rfl rfl ?_
          refine eg_getR gf_RX4_62 rfl (by assumption) (by assumption) dX4_advance_169 ?_
          refine eg_iload_n dX4_advance_172 rfl rfl ?_
          refine eg_iconst dX4_advance_173 (v := nI 0) (by decide) ?_
          refine eg_iastN (by assumption) (by omega) (by decide) dX4_advance_174 ?_
          refine eg_aload_n dX4_advance_175 rfl rfl ?_
          refine eg_getR gf_RX4_65 rfl (by assumption) (by assumption) dX4_advance_176 ?_
          refine eg_iload_n dX4_advance_179 rfl rfl ?_
          refine eg_iconst dX4_advance_180 (v := nI 0) (by decide) ?_
          refine eg_iastN (by assumption) (by omega) (by decide) dX4_advance_181 ?_
          refine eg_goto 94 dX4_advance_182 (by decide) ?_
          generalize hM2 : eg_set (eg_set (eg_set M1 (a + 12) p (nI (o + 1))) (a + 13) p (nI 0)) (a + 14) p (nI 0) = M2
          have hF2 : ac_F M M2 a p := by
            rw [← hM2]
            exact hF.tr ((ac_F.st (by omega) (by omega)).tr ((ac_F.st (by omega) (by omega)).tr (ac_F.st (by omega) (by omega))))
          refine lp_X4_advO hs hp (by omega) (by omega) hc9 hr (13 - (o + 1)) (o + 1) M2 (by omega) (fun o ho => by rw [hF2 _ _ (by omega)]; exact hco o ho) (by rw [hF2 _ _ (by omega)]; exact h15) ⟨?_, ?_, ?_⟩ (fun z M3 z2 => hPN (e5.trans z) M3 (hF2.tr z2)) (fun o x y M3 z z1 z2 z3 z4 z5 z6 z7 z8 => hPS o x y M3 (e5.trans z) z1 z2 z3 z4 z5 z6 z7 (hF2.tr z8))
          · rw [← hM2, eg_set_ne (by omega), eg_set_ne (by omega), eg_set_eq]
          · rw [← hM2, eg_set_ne (by omega), eg_set_eq]
          · rw [← hM2, eg_set_eq]
      · refine eg_if_eq 92 dX4_advance_80 (by decide) (fun _ => ?_) (fun z => absurd (show nI 0 = 0 from rfl) z)
        refine eg_iconst dX4_advance_92 (v := nI 0) (by decide) ?_
        refine eg_iastN (by assumption) (by omega) (by decide) dX4_advance_93 ?_
        generalize hM1 : eg_set (eg_set (eg_set M (a + 14) p (nI (y + 1))) (a + 13) p (nI (x + 1))) (a + 14) p (nI 0) = M1
        have hF : ac_F M M1 a p := by
          rw [← hM1]
          exact (ac_F.st (by omega) (by omega)).tr ((ac_F.st (by omega) (by omega)).tr (ac_F.st (by omega) (by omega)))
        have hb0 : ss_b0 o (x + 1) = 0 := if_neg ht
        have hC1 : ac_C M1 a p o (x + 1) (ss_b0 o (x + 1)) := by
          rw [hb0]
          refine ⟨?_, ?_, ?_⟩
          · rw [← hM1, eg_set_ne (by omega), eg_set_ne (by omega), eg_set_ne (by omega)]; exact q1
          · rw [← hM1, eg_set_ne (by omega), eg_set_eq]
          · rw [← hM1, eg_set_eq]
        have e4 := q4.trans (ss_rem_b hb)
        by_cases hx1 : x + 1 < n + k + p
        · have hbl := ss_b0_lt (o := o) (by omega) hx1
          refine lp_X4_advG (o := o) (x := x + 1) (y := ss_b0 o (x + 1)) hs hp (by omega) (by omega) hc9 hr (fun o ho => by rw [hF _ _ (by omega)]; exact hco o ho) (by rw [hF _ _ (by omega)]; exact h15) ho (by omega) hc1 hc2 hC1 (hPS o (x + 1) (ss_b0 o (x + 1)) M1 ((e4.trans (ss_rem_a hx1)).trans (ss_rem_s (by omega) hbl (fun z => ss_b0_1 z))) ho (by omega) (by omega) (fun z => ss_b0_1 z) hc1 hc2 hC1 hF)
        · have e5 := e4.trans (ss_rem_0 (by omega))
          refine eg_aload_n dX4_advance_94 rfl rfl ?_
          refine eg_getR gf_RX4_59 rfl (by assumption) (by assumption) dX4_advance_95 ?_
          refine eg_iload_n dX4_advance_98 rfl rfl ?_
          refine eg_ialdN (by assumption) (by omega) (by decide) dX4_advance_99 ?_
          refine eg_topi hC1.1 ?_
          refine eg_bipush dX4_advance_100 (v := nI 13) (by decide) ?_
          refine eg_icmp_ge 185 dX4_advance_102 (by decide) (fun c102 => absurd c102 (nI_ge (b := 13) (by omega) (by omega))) (fun c102 => ?_)
          refine eg_aload_n dX4_advance_105 rfl rfl ?_
          refine eg_getR gf_RX4_59 rfl (by assumption) (by assumption) dX4_advance_106 ?_
          refine eg_iload_n dX4_advance_109 rfl rfl ?_
          refine eg_ialdN (by assumption) (by omega) (by decide) dX4_advance_110 ?_
          refine eg_topi hC1.1 ?_
          refine eg_if_lt 158 dX4_advance_111 (by decide) (fun c111 => absurd c111 (nI_pos (by omega))) (fun c111 => ?_)
          refine eg_aload_n dX4_advance_114 rfl rfl ?_
          refine eg_getR gf_RX4_62 rfl (by assumption) (by assumption) dX4_advance_115 ?_
          refine eg_iload_n dX4_advance_118 rfl rfl ?_
          refine eg_ialdN (by assumption) (by omega) (by decide) dX4_advance_119 ?_
          refine eg_topi hC1.2.1 ?_
          refine eg_iload_n dX4_advance_120 rfl rfl ?_
          refine eg_icmp_ge 158 dX4_advance_121 (by decide) (fun c121 => ?_) (fun c121 => absurd (nI_le (by omega) (by omega)) c121)
          refine eg_aload_n dX4_advance_158 rfl rfl ?_
          refine eg_getR gf_RX4_59 rfl (by assumption) (by assumption) dX4_advance_159 ?_
          refine eg_iload_n dX4_advance_162 rfl rfl ?_
          refine eg_dup2 dX4_advance_163 rfl rfl ?_
          refine eg_ialdN (by assumption) (by omega) (by decide) dX4_advance_164 ?_
          refine eg_topi hC1.1 ?_
          refine eg_iconst dX4_advance_165 (v := nI 1) (by decide) ?_
          refine eg_iadd dX4_advance_166 ?_
          refine eg_topi (nI_add o 1) ?_
          refine eg_iastN (by assumption) (by omega) (by decide) dX4_advance_167 ?_
          refine eg_aload_n dX4_advance_168 rfl rfl ?_
          refine eg_getR gf_RX4_62 rfl (by assumption) (by assumption) dX4_advance_169 ?_
          refine eg_iload_n dX4_advance_172 rfl rfl ?_
          refine eg_iconst dX4_advance_173 (v := nI 0) (by decide) ?_
          refine eg_iastN (by assumption) (by omega) (by decide) dX4_advance_174 ?_
          refine eg_aload_n dX4_advance_175 rfl rfl ?_
          refine eg_getR gf_RX4_65 rfl (by assumption) (by assumption) dX4_advance_176 ?_
          refine eg_iload_n dX4_advance_179 rfl rfl ?_
          refine eg_iconst dX4_advance_180 (v := nI 0) (by decide) ?_
          refine eg_iastN (by assumption) (by omega) (by decide) dX4_advance_181 ?_
          refine eg_goto 94 dX4_advance_182 (by decide) ?_
          generalize hM2 : eg_set (eg_set (eg_set M1 (a + 12) p (nI (o + 1))) (a + 13) p (nI 0)) (a + 14) p (nI 0) = M2
          have hF2 : ac_F M M2 a p := by
            rw [← hM2]
            exact hF.tr ((ac_F.st (by omega) (by omega)).tr ((ac_F.st (by omega) (by omega)).tr (ac_F.st (by omega) (by omega))))
          refine lp_X4_advO hs hp (by omega) (by omega) hc9 hr (13 - (o + 1)) (o + 1) M2 (by omega) (fun o ho => by rw [hF2 _ _ (by omega)]; exact hco o ho) (by rw [hF2 _ _ (by omega)]; exact h15) ⟨?_, ?_, ?_⟩ (fun z M3 z2 => hPN (e5.trans z) M3 (hF2.tr z2)) (fun o x y M3 z z1 z2 z3 z4 z5 z6 z7 z8 => hPS o x y M3 (e5.trans z) z1 z2 z3 z4 z5 z6 z7 (hF2.tr z8))
          · rw [← hM2, eg_set_ne (by omega), eg_set_ne (by omega), eg_set_eq]
          · rw [← hM2, eg_set_ne (by omega), eg_set_eq]
          · rw [← hM2, eg_set_eq]
    · refine eg_aload_n dX4_advance_16 rfl rfl ?_
      refine eg_getR gf_RX4_59 rfl (by assumption) (by assumption) dX4_advance_17 ?_
      refine eg_iload_n dX4_advance_20 rfl rfl ?_
      refine eg_ialdN (by assumption) (by omega) (by decide) dX4_advance_21 ?_
      refine eg_topi q1 ?_
      refine eg_iconst dX4_advance_22 (v := nI 1) (by decide) ?_
      refine eg_icmp_ne 30 dX4_advance_23 (by decide) (fun e2 => ?_) (fun e2 => ?_)
      · have h1 : ¬ (o = 0 ∨ o = 1) := fun q => q.elim (fun q => e1 (by rw [q]; rfl)) (fun q => e2 (by rw [q]))
        refine eg_iconst dX4_advance_30 (v := nI 0) (by decide) ?_
        refine eg_istore_n dX4_advance_31 rfl (by decide) rfl ?_
        refine eg_aload_n dX4_advance_32 rfl rfl ?_
        refine eg_getR gf_RX4_65 rfl (by assumption) (by assumption) dX4_advance_33 ?_
        refine eg_iload_n dX4_advance_36 rfl rfl ?_
        refine eg_dup2 dX4_advance_37 rfl rfl ?_
        refine eg_ialdN (by assumption) (by omega) (by decide) dX4_advance_38 ?_
        refine eg_topi q3 ?_
        refine eg_iconst dX4_advance_39 (v := nI 1) (by decide) ?_
        refine eg_iadd dX4_advance_40 ?_
        refine eg_topi (nI_add y 1) ?_
        refine eg_iastN (by assumption) (by omega) (by decide) dX4_advance_41 ?_
        refine eg_iload_n dX4_advance_42 rfl rfl ?_
        refine eg_if_ne 56 dX4_advance_43 (by decide) (fun c43 => absurd (show nI 0 = 0 from rfl) c43) (fun c43 => ?_)
        refine eg_aload_n dX4_advance_46 rfl rfl ?_
        refine eg_getR gf_RX4_65 rfl (by assumption) (by assumption) dX4_advance_47 ?_
        refine eg_iload_n dX4_advance_50 rfl rfl ?_
        refine eg_ialdN (by assumption) (by omega) (by decide) dX4_advance_51 ?_
        refine eg_topi eg_set_eq ?_
        refine eg_iload_n dX4_advance_52 rfl rfl ?_
        refine eg_icmp_lt 94 dX4_advance_53 (by decide) (fun e3 => ?_) (fun e3 => ?_)
        · have hlt : y + 1 < n + k + p := Nat.lt_of_not_le (fun q => absurd e3 (fun z => absurd (nI_le q (by omega)) (Int32.not_le.mpr z)))
          have hF : ac_F M (eg_set M (a + 14) p (nI (y + 1))) a p := ac_F.st (by omega) (by omega)
          have hC1 : ac_C (eg_set M (a + 14) p (nI (y + 1))) a p o x (y + 1) := ⟨by rw [eg_set_ne (by omega)]; exact q1, by rw [eg_set_ne (by omega)]; exact q2, eg_set_eq⟩
          refine lp_X4_advG (o := o) (x := x) (y := y + 1) hs hp (by omega) (by omega) hc9 hr (fun o ho => by rw [hF _ _ (by omega)]; exact hco o ho) (by rw [hF _ _ (by omega)]; exact h15) ho (by omega) hc1 hc2 hC1 (hPS o (x) (y + 1) _ (q4.trans (ss_rem_s (by omega) hlt (fun z => absurd z h1))) ho (by omega) (by omega) (fun z => absurd z h1) hc1 hc2 hC1 hF)
        · have hb : (o = 0 ∨ o = 1) ∨ n + k + p ≤ y + 1 := Or.inr (Nat.le_of_not_lt (fun q => e3 (nI_lt q (by omega))))
          refine eg_aload_n dX4_advance_56 rfl rfl ?_
          refine eg_getR gf_RX4_62 rfl (by assumption) (by assumption) dX4_advance_57 ?_
          refine eg_iload_n dX4_advance_60 rfl rfl ?_
          refine eg_dup2 dX4_advance_61 rfl rfl ?_
          refine eg_ialdN (by assumption) (by omega) (by decide) dX4_advance_62 ?_
          refine eg_topi (show _ = nI x by rw [eg_set_ne (by omega)]; exact q2) ?_
          refine eg_iconst dX4_advance_63 (v := nI 1) (by decide) ?_
          refine eg_iadd dX4_advance_64 ?_
          refine eg_topi (nI_add x 1) ?_
          refine eg_iastN (by assumption) (by omega) (by decide) dX4_advance_65 ?_
          refine eg_aload_n dX4_advance_66 rfl rfl ?_
          refine eg_getR gf_RX4_65 rfl (by assumption) (by assumption) dX4_advance_67 ?_
          refine eg_iload_n dX4_advance_70 rfl rfl ?_
          refine eg_aload_n dX4_advance_71 rfl rfl ?_
          refine eg_getR gf_RX4_59 rfl (by assumption) (by assumption) dX4_advance_72 ?_
          refine eg_iload_n dX4_advance_75 rfl rfl ?_
          refine eg_ialdN (by assumption) (by omega) (by decide) dX4_advance_76 ?_
          refine eg_topi (show _ = nI o by rw [eg_set_ne (by omega), eg_set_ne (by omega)]; exact q1) ?_
          refine eg_callS1 0 0 gk_X4_turns gi_X4_turns gl_RX4_137 rfl (Nat.le_of_ble_eq_true rfl) (Nat.le_of_ble_eq_true rfl) (Nat.zero_le _) (Nat.zero_le _) (by omega) dX4_advance_77 ?_
          refine sp_X4_turns ho (fun ht => ?_) (fun ht => ?_)
          · refine eg_if_eq 92 dX4_advance_80 (by decide) (fun z => absurd z (by decide)) (fun _ => ?_)
            refine eg_aload_n dX4_advance_83 rfl rfl ?_
            refine eg_getR gf_RX4_62 rfl (by assumption) (by assumption) dX4_advance_84 ?_
            refine eg_iload_n dX4_advance_87 rfl rfl ?_
            refine eg_ialdN (by assumption) (by omega) (by decide) dX4_advance_88 ?_
            refine eg_topi (show _ = nI (x + 1) from eg_set_eq) ?_
            refine eg_goto 93 dX4_advance_89 (by decide) ?_
            refine eg_iastN (by assumption) (by omega) (by decide) dX4_advance_93 ?_
            generalize hM1 : eg_set (eg_set (eg_set M (a + 14) p (nI (y + 1))) (a + 13) p (nI (x + 1))) (a + 14) p (nI (x + 1)) = M1
            have hF : ac_F M M1 a p := by
              rw [← hM1]
              exact (ac_F.st (by omega) (by omega)).tr ((ac_F.st (by omega) (by omega)).tr (ac_F.st (by omega) (by omega)))
            have hb0 : ss_b0 o (x + 1) = x + 1 := if_pos ht
            have hC1 : ac_C M1 a p o (x + 1) (ss_b0 o (x + 1)) := by
              rw [hb0]
              refine ⟨?_, ?_, ?_⟩
              · rw [← hM1, eg_set_ne (by omega), eg_set_ne (by omega), eg_set_ne (by omega)]; exact q1
              · rw [← hM1, eg_set_ne (by omega), eg_set_eq]
              · rw [← hM1, eg_set_eq]
            have e4 := q4.trans (ss_rem_b hb)
            by_cases hx1 : x + 1 < n + k + p
            · have hbl := ss_b0_lt (o := o) (by omega) hx1
              refine lp_X4_advG (o := o) (x := x + 1) (y := ss_b0 o (x + 1)) hs hp (by omega) (by omega) hc9 hr (fun o ho => by rw [hF _ _ (by omega)]; exact hco o ho) (by rw [hF _ _ (by omega)]; exact h15) ho (by omega) hc1 hc2 hC1 (hPS o (x + 1) (ss_b0 o (x + 1)) M1 ((e4.trans (ss_rem_a hx1)).trans (ss_rem_s (by omega) hbl (fun z => ss_b0_1 z))) ho (by omega) (by omega) (fun z => ss_b0_1 z) hc1 hc2 hC1 hF)
            · have e5 := e4.trans (ss_rem_0 (by omega))
              refine eg_aload_n dX4_advance_94 rfl rfl ?_
              refine eg_getR gf_RX4_59 rfl (by assumption) (by assumption) dX4_advance_95 ?_
              refine eg_iload_n dX4_advance_98 rfl rfl ?_
              refine eg_ialdN (by assumption) (by omega) (by decide) dX4_advance_99 ?_
              refine eg_topi hC1.1 ?_
              refine eg_bipush dX4_advance_100 (v := nI 13) (by decide) ?_
              refine eg_icmp_ge 185 dX4_advance_102 (by decide) (fun c102 => absurd c102 (nI_ge (b := 13) (by omega) (by omega))) (fun c102 => ?_)
              refine eg_aload_n dX4_advance_105 rfl rfl ?_
              refine eg_getR gf_RX4_59 rfl (by assumption) (by assumption) dX4_advance_106 ?_
              refine eg_iload_n dX4_advance_109 rfl rfl ?_
              refine eg_ialdN (by assumption) (by omega) (by decide) dX4_advance_110 ?_
              refine eg_topi hC1.1 ?_
              refine eg_if_lt 158 dX4_advance_111 (by decide) (fun c111 => absurd c111 (nI_pos (by omega))) (fun c111 => ?_)
              refine eg_aload_n dX4_advance_114 rfl rfl ?_
              refine eg_getR gf_RX4_62 rfl (by assumption) (by assumption) dX4_advance_115 ?_
              refine eg_iload_n dX4_advance_118 rfl rfl ?_
              refine eg_ialdN (by assumption) (by omega) (by decide) dX4_advance_119 ?_
              refine eg_topi hC1.2.1 ?_
              refine eg_iload_n dX4_advance_120 rfl rfl ?_
              refine eg_icmp_ge 158 dX4_advance_121 (by decide) (fun c121 => ?_) (fun c121 => absurd (nI_le (by omega) (by omega)) c121)
              refine eg_aload_n dX4_advance_158 rfl rfl ?_
              refine eg_getR gf_RX4_59 rfl (by assumption) (by assumption) dX4_advance_159 ?_
              refine eg_iload_n dX4_advance_162 rfl rfl ?_
              refine eg_dup2 dX4_advance_163 rfl rfl ?_
              refine eg_ialdN (by assumption) (by omega) (by decide) dX4_advance_164 ?_
              refine eg_topi hC1.1 ?_
              refine eg_iconst dX4_advance_165 (v := nI 1) (by decide) ?_
              refine eg_iadd dX4_advance_166 ?_
              refine eg_topi (nI_add o 1) ?_
              refine eg_iastN (by assumption) (by omega) (by decide) dX4_advance_167 ?_
              refine eg_aload_n dX4_advance_168 rfl rfl ?_
              refine eg_getR gf_RX4_62 rfl (by assumption) (by assumption) dX4_advance_169 ?_
              refine eg_iload_n dX4_advance_172 rfl rfl ?_
              refine eg_iconst dX4_advance_173 (v := nI 0) (by decide) ?_
              refine eg_iastN (by assumption) (by omega) (by decide) dX4_advance_174 ?_
              refine eg_aload_n dX4_advance_175 rfl rfl ?_
              refine eg_getR gf_RX4_65 rfl (by assumption) (by assumption) dX4_advance_176 ?_
              refine eg_iload_n dX4_advance_179 rfl rfl ?_
              refine eg_iconst dX4_advance_180 (v := nI 0) (by decide) ?_
              refine eg_iastN (by assumption) (by omega) (by decide) dX4_advance_181 ?_
              refine eg_goto 94 dX4_advance_182 (by decide) ?_
              generalize hM2 : eg_set (eg_set (eg_set M1 (a + 12) p (nI (o + 1))) (a + 13) p (nI 0)) (a + 14) p (nI 0) = M2
              have hF2 : ac_F M M2 a p := by
                rw [← hM2]
                exact hF.tr ((ac_F.st (by omega) (by omega)).tr ((ac_F.st (by omega) (by omega)).tr (ac_F.st (by omega) (by omega))))
              refine lp_X4_advO hs hp (by omega) (by omega) hc9 hr (13 - (o + 1)) (o + 1) M2 (by omega) (fun o ho => by rw [hF2 _ _ (by omega)]; exact hco o ho) (by rw [hF2 _ _ (by omega)]; exact h15) ⟨?_, ?_, ?_⟩ (fun z M3 z2 => hPN (e5.trans z) M3 (hF2.tr z2)) (fun o x y M3 z z1 z2 z3 z4 z5 z6 z7 z8 => hPS o x y M3 (e5.trans z) z1 z2 z3 z4 z5 z6 z7 (hF2.tr z8))
              · rw [← hM2, eg_set_ne (by omega), eg_set_ne (by omega), eg_set_eq]
              · rw [← hM2, eg_set_ne (by omega), eg_set_eq]
              · rw [← hM2, eg_set_eq]
          · refine eg_if_eq 92 dX4_advance_80 (by decide) (fun _ => ?_) (fun z => absurd (show nI 0 = 0 from rfl) z)
            refine eg_iconst dX4_advance_92 (v := nI 0) (by decide) ?_
            refine eg_iastN (by assumption) (by omega) (by decide) dX4_advance_93 ?_
            generalize hM1 : eg_set (eg_set (eg_set M (a + 14) p (nI (y + 1))) (a + 13) p (nI (x + 1))) (a + 14) p (nI 0) = M1
            have hF : ac_F M M1 a p := by
              rw [← hM1]
              exact (ac_F.st (by omega) (by omega)).tr ((ac_F.st (by omega) (by omega)).tr (ac_F.st (by omega) (by omega)))
            have hb0 : ss_b0 o (x + 1) = 0 := if_neg ht
            have hC1 : ac_C M1 a p o (x + 1) (ss_b0 o (x + 1)) := by
              rw [hb0]
              refine ⟨?_, ?_, ?_⟩
              · rw [← hM1, eg_set_ne (by omega), eg_set_ne (by omega), eg_set_ne (by omega)]; exact q1
              · rw [← hM1, eg_set_ne (by omega), eg_set_eq]
              · rw [← hM1, eg_set_eq]
            have e4 := q4.trans (ss_rem_b hb)
            by_cases hx1 : x + 1 < n + k + p
            · have hbl := ss_b0_lt (o := o) (by omega) hx1
              refine lp_X4_advG (o := o) (x := x + 1) (y := ss_b0 o (x + 1)) hs hp (by omega) (by omega) hc9 hr (fun o ho => by rw [hF _ _ (by omega)]; exact hco o ho) (by rw [hF _ _ (by omega)]; exact h15) ho (by omega) hc1 hc2 hC1 (hPS o (x + 1) (ss_b0 o (x + 1)) M1 ((e4.trans (ss_rem_a hx1)).trans (ss_rem_s (by omega) hbl (fun z => ss_b0_1 z))) ho (by omega) (by omega) (fun z => ss_b0_1 z) hc1 hc2 hC1 hF)
            · have e5 := e4.trans (ss_rem_0 (by omega))
              refine eg_aload_n dX4_advance_94 rfl rfl ?_
              refine eg_getR gf_RX4_59 rfl (by assumption) (by assumption) dX4_advance_95 ?_
              refine eg_iload_n dX4_advance_98 rfl rfl ?_
              refine eg_ialdN (by assumption) (by omega) (by decide) dX4_advance_99 ?_
              refine eg_topi hC1.1 ?_
              refine eg_bipush dX4_advance_100 (v := nI 13) (by decide) ?_
              refine eg_icmp_ge 185 dX4_advance_102 (by decide) (fun c102 => absurd c102 (nI_ge (b := 13) (by omega) (by omega))) (fun c102 => ?_)
              refine eg_aload_n dX4_advance_105 rfl rfl ?_
              refine eg_getR gf_RX4_59 rfl (by assumption) (by assumption) dX4_advance_106 ?_
              refine eg_iload_n dX4_advance_109 rfl rfl ?_
              refine eg_ialdN (by assumption) (by omega) (by decide) dX4_advance_110 ?_
              refine eg_topi hC1.1 ?_
              refine eg_if_lt 158 dX4_advance_111 (by decide) (fun c111 => absurd c111 (nI_pos (by omega))) (fun c111 => ?_)
              refine eg_aload_n dX4_advance_114 rfl rfl ?_
              refine eg_getR gf_RX4_62 rfl (by assumption) (by assumption) dX4_advance_115 ?_
              refine eg_iload_n dX4_advance_118 rfl rfl ?_
              refine eg_ialdN (by assumption) (by omega) (by decide) dX4_advance_119 ?_
              refine eg_topi hC1.2.1 ?_
              refine eg_iload_n dX4_advance_120 rfl rfl ?_
              refine eg_icmp_ge 158 dX4_advance_121 (by decide) (fun c121 => ?_) (fun c121 => absurd (nI_le (by omega) (by omega)) c121)
              refine eg_aload_n dX4_advance_158 rfl rfl ?_
              refine eg_getR gf_RX4_59 rfl (by assumption) (by assumption) dX4_advance_159 ?_
              refine eg_iload_n dX4_advance_162 rfl rfl ?_
              refine eg_dup2 dX4_advance_163 rfl rfl ?_
              refine eg_ialdN (by assumption) (by omega) (by decide) dX4_advance_164 ?_
              refine eg_topi hC1.1 ?_
              refine eg_iconst dX4_advance_165 (v := nI 1) (by decide) ?_
              refine eg_iadd dX4_advance_166 ?_
              refine eg_topi (nI_add o 1) ?_
              refine eg_iastN (by assumption) (by omega) (by decide) dX4_advance_167 ?_
              refine eg_aload_n dX4_advance_168 rfl rfl ?_
              refine eg_getR gf_RX4_62 rfl (by assumption) (by assumption) dX4_advance_169 ?_
              refine eg_iload_n dX4_advance_172 rfl rfl ?_
              refine eg_iconst dX4_advance_173 (v := nI 0) (by decide) ?_
              refine eg_iastN (by assumption) (by omega) (by decide) dX4_advance_174 ?_
              refine eg_aload_n dX4_advance_175 rfl rfl ?_
              refine eg_getR gf_RX4_65 rfl (by assumption) (by assumption) dX4_advance_176 ?_
              refine eg_iload_n dX4_advance_179 rfl rfl ?_
              refine eg_iconst dX4_advance_180 (v := nI 0) (by decide) ?_
              refine eg_iastN (by assumption) (by omega) (by decide) dX4_advance_181 ?_
              refine eg_goto 94 dX4_advance_182 (by decide) ?_
              generalize hM2 : eg_set (eg_set (eg_set M1 (a + 12) p (nI (o + 1))) (a + 13) p (nI 0)) (a + 14) p (nI 0) = M2
              have hF2 : ac_F M M2 a p := by
                rw [← hM2]
                exact hF.tr ((ac_F.st (by omega) (by omega)).tr ((ac_F.st (by omega) (by omega)).tr (ac_F.st (by omega) (by omega))))
              refine lp_X4_advO hs hp (by omega) (by omega) hc9 hr (13 - (o + 1)) (o + 1) M2 (by omega) (fun o ho => by rw [hF2 _ _ (by omega)]; exact hco o ho) (by rw [hF2 _ _ (by omega)]; exact h15) ⟨?_, ?_, ?_⟩ (fun z M3 z2 => hPN (e5.trans z) M3 (hF2.tr z2)) (fun o x y M3 z z1 z2 z3 z4 z5 z6 z7 z8 => hPS o x y M3 (e5.trans z) z1 z2 z3 z4 z5 z6 z7 (hF2.tr z8))
              · rw [← hM2, eg_set_ne (by omega), eg_set_ne (by omega), eg_set_eq]
              · rw [← hM2, eg_set_ne (by omega), eg_set_eq]
              · rw [← hM2, eg_set_eq]
      · have h1 : o = 0 ∨ o = 1 := Or.inr ((nI_eq (b := 1) (by omega) (by omega)).mp e2)
        have hb : (o = 0 ∨ o = 1) ∨ n + k + p ≤ y + 1 := Or.inl h1
        refine eg_iconst dX4_advance_26 (v := nI 1) (by decide) ?_
        refine eg_goto 31 dX4_advance_27 (by decide) ?_
        refine eg_istore_n dX4_advance_31 rfl (by decide) rfl ?_
        refine eg_aload_n dX4_advance_32 rfl rfl ?_
        refine eg_getR gf_RX4_65 rfl (by assumption) (by assumption) dX4_advance_33 ?_
        refine eg_iload_n dX4_advance_36 rfl rfl ?_
        refine eg_dup2 dX4_advance_37 rfl rfl ?_
        refine eg_ialdN (by assumption) (by omega) (by decide) dX4_advance_38 ?_
        refine eg_topi q3 ?_
        refine eg_iconst dX4_advance_39 (v := nI 1) (by decide) ?_
        refine eg_iadd dX4_advance_40 ?_
        refine eg_topi (nI_add y 1) ?_
        refine eg_iastN (by assumption) (by omega) (by decide) dX4_advance_41 ?_
        refine eg_iload_n dX4_advance_42 rfl rfl ?_
        refine eg_if_ne 56 dX4_advance_43 (by decide) (fun c43 => ?_) (fun c43 => absurd c43 (show ¬ nI 1 = 0 by decide))
        refine eg_aload_n dX4_advance_56 rfl rfl ?_
        refine eg_getR gf_RX4_62 rfl (by assumption) (by assumption) dX4_advance_57 ?_
        refine eg_iload_n dX4_advance_60 rfl rfl ?_
        refine eg_dup2 dX4_advance_61 rfl rfl ?_
        refine eg_ialdN (by assumption) (by omega) (by decide) dX4_advance_62 ?_
        refine eg_topi (show _ = nI x by rw [eg_set_ne (by omega)]; exact q2) ?_
        refine eg_iconst dX4_advance_63 (v := nI 1) (by decide) ?_
        refine eg_iadd dX4_advance_64 ?_
        refine eg_topi (nI_add x 1) ?_
        refine eg_iastN (by assumption) (by omega) (by decide) dX4_advance_65 ?_
        refine eg_aload_n dX4_advance_66 rfl rfl ?_
        refine eg_getR gf_RX4_65 rfl (by assumption) (by assumption) dX4_advance_67 ?_
        refine eg_iload_n dX4_advance_70 rfl rfl ?_
        refine eg_aload_n dX4_advance_71 rfl rfl ?_
        refine eg_getR gf_RX4_59 rfl (by assumption) (by assumption) dX4_advance_72 ?_
        refine eg_iload_n dX4_advance_75 rfl rfl ?_
        refine eg_ialdN (by assumption) (by omega) (by decide) dX4_advance_76 ?_
        refine eg_topi (show _ = nI o by rw [eg_set_ne (by omega), eg_set_ne (by omega)]; exact q1) ?_
        refine eg_callS1 0 0 gk_X4_turns gi_X4_turns gl_RX4_137 rfl (Nat.le_of_ble_eq_true rfl) (Nat.le_of_ble_eq_true rfl) (Nat.zero_le _) (Nat.zero_le _) (by omega) dX4_advance_77 ?_
        refine sp_X4_turns ho (fun ht => ?_) (fun ht => ?_)
        · refine eg_if_eq 92 dX4_advance_80 (by decide) (fun z => absurd z (by decide)) (fun _ => ?_)
          refine eg_aload_n dX4_advance_83 rfl rfl ?_
          refine eg_getR gf_RX4_62 rfl (by assumption) (by assumption) dX4_advance_84 ?_
          refine eg_iload_n dX4_advance_87 rfl rfl ?_
          refine eg_ialdN (by assumption) (by omega) (by decide) dX4_advance_88 ?_
          refine eg_topi (show _ = nI (x + 1) from eg_set_eq) ?_
          refine eg_goto 93 dX4_advance_89 (by decide) ?_
          refine eg_iastN (by assumption) (by omega) (by decide) dX4_advance_93 ?_
          generalize hM1 : eg_set (eg_set (eg_set M (a + 14) p (nI (y + 1))) (a + 13) p (nI (x + 1))) (a + 14) p (nI (x + 1)) = M1
          have hF : ac_F M M1 a p := by
            rw [← hM1]
            exact (ac_F.st (by omega) (by omega)).tr ((ac_F.st (by omega) (by omega)).tr (ac_F.st (by omega) (by omega)))
          have hb0 : ss_b0 o (x + 1) = x + 1 := if_pos ht
          have hC1 : ac_C M1 a p o (x + 1) (ss_b0 o (x + 1)) := by
            rw [hb0]
            refine ⟨?_, ?_, ?_⟩
            · rw [← hM1, eg_set_ne (by omega), eg_set_ne (by omega), eg_set_ne (by omega)]; exact q1
            · rw [← hM1, eg_set_ne (by omega), eg_set_eq]
            · rw [← hM1, eg_set_eq]
          have e4 := q4.trans (ss_rem_b hb)
          by_cases hx1 : x + 1 < n + k + p
          · have hbl := ss_b0_lt (o := o) (by omega) hx1
            refine lp_X4_advG (o := o) (x := x + 1) (y := ss_b0 o (x + 1)) hs hp (by omega) (by omega) hc9 hr (fun o ho => by rw [hF _ _ (by omega)]; exact hco o ho) (by rw [hF _ _ (by omega)]; exact h15) ho (by omega) hc1 hc2 hC1 (hPS o (x + 1) (ss_b0 o (x + 1)) M1 ((e4.trans (ss_rem_a hx1)).trans (ss_rem_s (by omega) hbl (fun z => ss_b0_1 z))) ho (by omega) (by omega) (fun z => ss_b0_1 z) hc1 hc2 hC1 hF)
          · have e5 := e4.trans (ss_rem_0 (by omega))
            refine eg_aload_n dX4_advance_94 rfl rfl ?_
            refine eg_getR gf_RX4_59 rfl (by assumption) (by assumption) dX4_advance_95 ?_
            refine eg_iload_n dX4_advance_98 rfl rfl ?_
            refine eg_ialdN (by assumption) (by omega) (by decide) dX4_advance_99 ?_
            refine eg_topi hC1.1 ?_
            refine eg_bipush dX4_advance_100 (v := nI 13) (by decide) ?_
            refine eg_icmp_ge 185 dX4_advance_102 (by decide) (fun c102 => absurd c102 (nI_ge (b := 13) (by omega) (by omega))) (fun c102 => ?_)
            refine eg_aload_n dX4_advance_105 rfl rfl ?_
            refine eg_getR gf_RX4_59 rfl (by assumption) (by assumption) dX4_advance_106 ?_
            refine eg_iload_n dX4_advance_109 rfl rfl ?_
            refine eg_ialdN (by assumption) (by omega) (by decide) dX4_advance_110 ?_
            refine eg_topi hC1.1 ?_
            refine eg_if_lt 158 dX4_advance_111 (by decide) (fun c111 => absurd c111 (nI_pos (by omega))) (fun c111 => ?_)
            refine eg_aload_n dX4_advance_114 rfl rfl ?_
            refine eg_getR gf_RX4_62 rfl (by assumption) (by assumption) dX4_advance_115 ?_
            refine eg_iload_n dX4_advance_118 rfl rfl ?_
            refine eg_ialdN (by assumption) (by omega) (by decide) dX4_advance_119 ?_
            refine eg_topi hC1.2.1 ?_
            refine eg_iload_n dX4_advance_120 rfl rfl ?_
            refine eg_icmp_ge 158 dX4_advance_121 (by decide) (fun c121 => ?_) (fun c121 => absurd (nI_le (by omega) (by omega)) c121)
            refine eg_aload_n dX4_advance_158 rfl rfl ?_
            refine eg_getR gf_RX4_59 rfl (by assumption) (by assumption) dX4_advance_159 ?_
            refine eg_iload_n dX4_advance_162 rfl rfl ?_
            refine eg_dup2 dX4_advance_163 rfl rfl ?_
            refine eg_ialdN (by assumption) (by omega) (by decide) dX4_advance_164 ?_
            refine eg_topi hC1.1 ?_
            refine eg_iconst dX4_advance_165 (v := nI 1) (by decide) ?_
            refine eg_iadd dX4_advance_166 ?_
            refine eg_topi (nI_add o 1) ?_
            refine eg_iastN (by assumption) (by omega) (by decide) dX4_advance_167 ?_
            refine eg_aload_n dX4_advance_168 rfl rfl ?_
            refine eg_getR gf_RX4_62 rfl (by assumption) (by assumption) dX4_advance_169 ?_
            refine eg_iload_n dX4_advance_172 rfl rfl ?_
            refine eg_iconst dX4_advance_173 (v := nI 0) (by decide) ?_
            refine eg_iastN (by assumption) (by omega) (by decide) dX4_advance_174 ?_
            refine eg_aload_n dX4_advance_175 rfl rfl ?_
            refine eg_getR gf_RX4_65 rfl (by assumption) (by assumption) dX4_advance_176 ?_
            refine eg_iload_n dX4_advance_179 rfl rfl ?_
            refine eg_iconst dX4_advance_180 (v := nI 0) (by decide) ?_
            refine eg_iastN (by assumption) (by omega) (by decide) dX4_advance_181 ?_
            refine eg_goto 94 dX4_advance_182 (by decide) ?_
            generalize hM2 : eg_set (eg_set (eg_set M1 (a + 12) p (nI (o + 1))) (a + 13) p (nI 0)) (a + 14) p (nI 0) = M2
            have hF2 : ac_F M M2 a p := by
              rw [← hM2]
              exact hF.tr ((ac_F.st (by omega) (by omega)).tr ((ac_F.st (by omega) (by omega)).tr (ac_F.st (by omega) (by omega))))
            refine lp_X4_advO hs hp (by omega) (by omega) hc9 hr (13 - (o + 1)) (o + 1) M2 (by omega) (fun o ho => by rw [hF2 _ _ (by omega)]; exact hco o ho) (by rw [hF2 _ _ (by omega)]; exact h15) ⟨?_, ?_, ?_⟩ (fun z M3 z2 => hPN (e5.trans z) M3 (hF2.tr z2)) (fun o x y M3 z z1 z2 z3 z4 z5 z6 z7 z8 => hPS o x y M3 (e5.trans z) z1 z2 z3 z4 z5 z6 z7 (hF2.tr z8))
            · rw [← hM2, eg_set_ne (by omega), eg_set_ne (by omega), eg_set_eq]
            · rw [← hM2, eg_set_ne (by omega), eg_set_eq]
            · rw [← hM2, eg_set_eq]
        · refine eg_if_eq 92 dX4_advance_80 (by decide) (fun _ => ?_) (fun z => absurd (show nI 0 = 0 from rfl) z)
          refine eg_iconst dX4_advance_92 (v := nI 0) (by decide) ?_
          refine eg_iastN (by assumption) (by omega) (by decide) dX4_advance_93 ?_
          generalize hM1 : eg_set (eg_set (eg_set M (a + 14) p (nI (y + 1))) (a + 13) p (nI (x + 1))) (a + 14) p (nI 0) = M1
          have hF : ac_F M M1 a p := by
            rw [← hM1]
            exact (ac_F.st (by omega) (by omega)).tr ((ac_F.st (by omega) (by omega)).tr (ac_F.st (by omega) (by omega)))
          have hb0 : ss_b0 o (x + 1) = 0 := if_neg ht
          have hC1 : ac_C M1 a p o (x + 1) (ss_b0 o (x + 1)) := by
            rw [hb0]
            refine ⟨?_, ?_, ?_⟩
            · rw [← hM1, eg_set_ne (by omega), eg_set_ne (by omega), eg_set_ne (by omega)]; exact q1
            · rw [← hM1, eg_set_ne (by omega), eg_set_eq]
            · rw [← hM1, eg_set_eq]
          have e4 := q4.trans (ss_rem_b hb)
          by_cases hx1 : x + 1 < n + k + p
          · have hbl := ss_b0_lt (o := o) (by omega) hx1
            refine lp_X4_advG (o := o) (x := x + 1) (y := ss_b0 o (x + 1)) hs hp (by omega) (by omega) hc9 hr (fun o ho => by rw [hF _ _ (by omega)]; exact hco o ho) (by rw [hF _ _ (by omega)]; exact h15) ho (by omega) hc1 hc2 hC1 (hPS o (x + 1) (ss_b0 o (x + 1)) M1 ((e4.trans (ss_rem_a hx1)).trans (ss_rem_s (by omega) hbl (fun z => ss_b0_1 z))) ho (by omega) (by omega) (fun z => ss_b0_1 z) hc1 hc2 hC1 hF)
          · have e5 := e4.trans (ss_rem_0 (by omega))
            refine eg_aload_n dX4_advance_94 rfl rfl ?_
            refine eg_getR gf_RX4_59 rfl (by assumption) (by assumption) dX4_advance_95 ?_
            refine eg_iload_n dX4_advance_98 rfl rfl ?_
            refine eg_ialdN (by assumption) (by omega) (by decide) dX4_advance_99 ?_
            refine eg_topi hC1.1 ?_
            refine eg_bipush dX4_advance_100 (v := nI 13) (by decide) ?_
            refine eg_icmp_ge 185 dX4_advance_102 (by decide) (fun c102 => absurd c102 (nI_ge (b := 13) (by omega) (by omega))) (fun c102 => ?_)
            refine eg_aload_n dX4_advance_105 rfl rfl ?_
            refine eg_getR gf_RX4_59 rfl (by assumption) (by assumption) dX4_advance_106 ?_
            refine eg_iload_n dX4_advance_109 rfl rfl ?_
            refine eg_ialdN (by assumption) (by omega) (by decide) dX4_advance_110 ?_
            refine eg_topi hC1.1 ?_
            refine eg_if_lt 158 dX4_advance_111 (by decide) (fun c111 => absurd c111 (nI_pos (by omega))) (fun c111 => ?_)
            refine eg_aload_n dX4_advance_114 rfl rfl ?_
            refine eg_getR gf_RX4_62 rfl (by assumption) (by assumption) dX4_advance_115 ?_
            refine eg_iload_n dX4_advance_118 rfl rfl ?_
            refine eg_ialdN (by assumption) (by omega) (by decide) dX4_advance_119 ?_
            refine eg_topi hC1.2.1 ?_
            refine eg_iload_n dX4_advance_120 rfl rfl ?_
            refine eg_icmp_ge 158 dX4_advance_121 (by decide) (fun c121 => ?_) (fun c121 => absurd (nI_le (by omega) (by omega)) c121)
            refine eg_aload_n dX4_advance_158 rfl rfl ?_
            refine eg_getR gf_RX4_59 rfl (by assumption) (by assumption) dX4_advance_159 ?_
            refine eg_iload_n dX4_advance_162 rfl rfl ?_
            refine eg_dup2 dX4_advance_163 rfl rfl ?_
            refine eg_ialdN (by assumption) (by omega) (by decide) dX4_advance_164 ?_
            refine eg_topi hC1.1 ?_
            refine eg_iconst dX4_advance_165 (v := nI 1) (by decide) ?_
            refine eg_iadd dX4_advance_166 ?_
            refine eg_topi (nI_add o 1) ?_
            refine eg_iastN (by assumption) (by omega) (by decide) dX4_advance_167 ?_
            refine eg_aload_n dX4_advance_168 rfl rfl ?_
            refine eg_getR gf_RX4_62 rfl (by assumption) (by assumption) dX4_advance_169 ?_
            refine eg_iload_n dX4_advance_172 rfl rfl ?_
            refine eg_iconst dX4_advance_173 (v := nI 0) (by decide) ?_
            refine eg_iastN (by assumption) (by omega) (by decide) dX4_advance_174 ?_
            refine eg_aload_n dX4_advance_175 rfl rfl ?_
            refine eg_getR gf_RX4_65 rfl (by assumption) (by assumption) dX4_advance_176 ?_
            refine eg_iload_n dX4_advance_179 rfl rfl ?_
            refine eg_iconst dX4_advance_180 (v := nI 0) (by decide) ?_
            refine eg_iastN (by assumption) (by omega) (by decide) dX4_advance_181 ?_
            refine eg_goto 94 dX4_advance_182 (by decide) ?_
            generalize hM2 : eg_set (eg_set (eg_set M1 (a + 12) p (nI (o + 1))) (a + 13) p (nI 0)) (a + 14) p (nI 0) = M2
            have hF2 : ac_F M M2 a p := by
              rw [← hM2]
              exact hF.tr ((ac_F.st (by omega) (by omega)).tr ((ac_F.st (by omega) (by omega)).tr (ac_F.st (by omega) (by omega))))
            refine lp_X4_advO hs hp (by omega) (by omega) hc9 hr (13 - (o + 1)) (o + 1) M2 (by omega) (fun o ho => by rw [hF2 _ _ (by omega)]; exact hco o ho) (by rw [hF2 _ _ (by omega)]; exact h15) ⟨?_, ?_, ?_⟩ (fun z M3 z2 => hPN (e5.trans z) M3 (hF2.tr z2)) (fun o x y M3 z z1 z2 z3 z4 z5 z6 z7 z8 => hPS o x y M3 (e5.trans z) z1 z2 z3 z4 z5 z6 z7 (hF2.tr z8))
            · rw [← hM2, eg_set_ne (by omega), eg_set_ne (by omega), eg_set_eq]
            · rw [← hM2, eg_set_ne (by omega), eg_set_eq]
            · rw [← hM2, eg_set_eq]
set_option maxHeartbeats 2000000 in
theorem sp_X4_open {l : Launch} {E : eg_E} {d kb nb : Nat} {Q : Option Value → eg_G → eg_I → Prop} {G : eg_G} {M : eg_I} {a p : Nat} {x : Int32} (hs : sh_M G a) (hp : p < 12) (hQ : ∀ M', M' (a + 15) p = x → M' (a + 12) p = -1 → M' (a + 13) p = nI 0 → M' (a + 14) p = -1 → (∀ q j, ¬ (a + 12 ≤ q ∧ q < a + 16 ∧ j = p) → M' q j = M q j) → Q none G M') : eg_J l E mX4_open d kb nb Q 0 [some (.ref a), some (.int (nI p)), some (.int x)] [] G M := by
  obtain ⟨k0, ⟨x5, y5⟩, ⟨x6, y6⟩, ⟨x7, y7⟩, ⟨x9, y9⟩, ⟨x10, y10⟩, ⟨x11, y11⟩, ⟨x13, y13⟩, ⟨x14, y14⟩, ⟨x18, y18⟩, ⟨x19, y19⟩, ⟨x20, y20⟩, ⟨x25, y25⟩, ⟨x26, y26⟩, ⟨x27, y27⟩, ⟨x28, y28⟩, ⟨x30, y30⟩, ⟨x31, y31⟩, ⟨x32, y32⟩⟩ := id hs
  refine eg_aload_n dX4_open_0 rfl rfl ?_
  refine eg_getR gf_RX4_68 rfl (by assumption) (by assumption) dX4_open_1 ?_
  refine eg_iload_n dX4_open_4 rfl rfl ?_
  refine eg_iload_n dX4_open_5 rfl rfl ?_
  refine eg_iastN (by assumption) (by omega) (by decide) dX4_open_6 ?_
  refine eg_aload_n dX4_open_7 rfl rfl ?_
  refine eg_getR gf_RX4_59 rfl (by assumption) (by assumption) dX4_open_8 ?_
  refine eg_iload_n dX4_open_11 rfl rfl ?_
  refine eg_iconst dX4_open_12 (v := -1) (by decide) ?_
  refine eg_iastN (by assumption) (by omega) (by decide) dX4_open_13 ?_
  refine eg_aload_n dX4_open_14 rfl rfl ?_
  refine eg_getR gf_RX4_62 rfl (by assumption) (by assumption) dX4_open_15 ?_
  refine eg_iload_n dX4_open_18 rfl rfl ?_
  refine eg_iconst dX4_open_19 (v := nI 0) (by decide) ?_
  refine eg_iastN (by assumption) (by omega) (by decide) dX4_open_20 ?_
  refine eg_aload_n dX4_open_21 rfl rfl ?_
  refine eg_getR gf_RX4_65 rfl (by assumption) (by assumption) dX4_open_22 ?_
  refine eg_iload_n dX4_open_25 rfl rfl ?_
  refine eg_iconst dX4_open_26 (v := -1) (by decide) ?_
  refine eg_iastN (by assumption) (by omega) (by decide) dX4_open_27 ?_
  exact eg_vret rfl dX4_open_28 (hQ _ (by rw [eg_set_ne (by omega), eg_set_ne (by omega), eg_set_ne (by omega), eg_set_eq]) (by rw [eg_set_ne (by omega), eg_set_ne (by omega), eg_set_eq]) (by rw [eg_set_ne (by omega), eg_set_eq]) eg_set_eq (fun q j z => by
      unfold eg_set
      rw [if_neg (by omega), if_neg (by omega), if_neg (by omega), if_neg (by omega)]))
set_option maxHeartbeats 2000000 in
theorem lp_X4_isTarget {l : Launch} {E : eg_E} {d kb nb : Nat} {Q : Option Value → eg_G → eg_I → Prop} {G : eg_G} {M : eg_I} {a w n k v : Nat} {cf : Nat → Int32} (hs : sh_M G a) (h : in_M M a w n k cf) (hv : v < 18) (hT : (∀ s, s < 2 ^ (w * n) → M (a + 8) (256 * v + s) = M (a + 3) s) → Q (some (.int 1)) G M) (hF : (∃ s, s < 2 ^ (w * n) ∧ ¬ M (a + 8) (256 * v + s) = M (a + 3) s) → Q (some (.int 0)) G M) : ∀ (c s : Nat), s + c = 2 ^ (w * n) → (∀ z, z < s → M (a + 8) (256 * v + z) = M (a + 3) z) → eg_J l E mX4_isTarget d kb nb Q 2 [some (.ref a), some (.int (nI v)), some (.int (nI s))] [] G M := by
  intro c
  induction c with
  | zero =>
    intro s hst hi
    obtain ⟨k0, ⟨x5, y5⟩, ⟨x6, y6⟩, ⟨x7, y7⟩, ⟨x9, y9⟩, ⟨x10, y10⟩, ⟨x11, y11⟩, ⟨x13, y13⟩, ⟨x14, y14⟩, ⟨x18, y18⟩, ⟨x19, y19⟩, ⟨x20, y20⟩, ⟨x25, y25⟩, ⟨x26, y26⟩, ⟨x27, y27⟩, ⟨x28, y28⟩, ⟨x30, y30⟩, ⟨x31, y31⟩, ⟨x32, y32⟩⟩ := id hs
    obtain ⟨m0, m1, m2, m3, m4, mc, hw1, hw4, hn1, hn2, hk4⟩ := id h
    have hA := wd_asg hw4 hn2
    refine eg_iload_n dX4_isTarget_2 rfl rfl ?_
    refine eg_aload_n dX4_isTarget_3 rfl rfl ?_
    refine eg_getI gf_RX4_19 rfl (by assumption) dX4_isTarget_4 ?_
    refine eg_topi m3 ?_
    refine eg_icmp_ge 39 dX4_isTarget_7 (by decide) (fun c7 => ?_) (fun c7 => absurd (nI_le (by omega) (by omega)) c7)
    refine eg_iconst dX4_isTarget_39 (v := nI 1) (by decide) ?_
    exact eg_zret rfl rfl dX4_isTarget_40 (hT (fun z hz => hi z (by omega)))
  | succ c ih =>
    intro s hst hi
    obtain ⟨k0, ⟨x5, y5⟩, ⟨x6, y6⟩, ⟨x7, y7⟩, ⟨x9, y9⟩, ⟨x10, y10⟩, ⟨x11, y11⟩, ⟨x13, y13⟩, ⟨x14, y14⟩, ⟨x18, y18⟩, ⟨x19, y19⟩, ⟨x20, y20⟩, ⟨x25, y25⟩, ⟨x26, y26⟩, ⟨x27, y27⟩, ⟨x28, y28⟩, ⟨x30, y30⟩, ⟨x31, y31⟩, ⟨x32, y32⟩⟩ := id hs
    obtain ⟨m0, m1, m2, m3, m4, mc, hw1, hw4, hn1, hn2, hk4⟩ := id h
    have hA := wd_asg hw4 hn2
    refine eg_iload_n dX4_isTarget_2 rfl rfl ?_
    refine eg_aload_n dX4_isTarget_3 rfl rfl ?_
    refine eg_getI gf_RX4_19 rfl (by assumption) dX4_isTarget_4 ?_
    refine eg_topi m3 ?_
    refine eg_icmp_ge 39 dX4_isTarget_7 (by decide) (fun c7 => absurd c7 (nI_ge (by omega) (by omega))) (fun c7 => ?_)
    refine eg_aload_n dX4_isTarget_10 rfl rfl ?_
    refine eg_getR gf_RX4_44 rfl (by assumption) (by assumption) dX4_isTarget_11 ?_
    refine eg_sipush dX4_isTarget_14 (v := nI 256) (by decide) ?_
    refine eg_iload_n dX4_isTarget_17 rfl rfl ?_
    refine eg_imul dX4_isTarget_18 ?_
    refine eg_topi (pk_mul 256 v) ?_
    refine eg_iload_n dX4_isTarget_19 rfl rfl ?_
    refine eg_iadd dX4_isTarget_20 ?_
    refine eg_topi (nI_add (256 * v) s) ?_
    refine eg_ialdN (by assumption) (by omega) (by decide) dX4_isTarget_21 ?_
    refine eg_aload_n dX4_isTarget_22 rfl rfl ?_
    refine eg_getR gf_RX4_29 rfl (by assumption) (by assumption) dX4_isTarget_23 ?_
    refine eg_iload_n dX4_isTarget_26 rfl rfl ?_
    refine eg_ialdN (by assumption) (by omega) (by decide) dX4_isTarget_27 ?_
    refine eg_icmp_eq 33 dX4_isTarget_28 (by decide) (fun e => ?_) (fun e => ?_)
    · refine eg_iinc dX4_isTarget_33 (by decide) rfl (eg_inc s) rfl ?_
      refine eg_goto 2 dX4_isTarget_36 (by decide) ?_
      refine ih (s + 1) (by omega) (fun z hz => ?_)
      by_cases e2 : z = s
      · subst e2; exact e
      · exact hi z (by omega)
    · refine eg_iconst dX4_isTarget_31 (v := nI 0) (by decide) ?_
      exact eg_zret rfl rfl dX4_isTarget_32 (hF ⟨s, by omega, e⟩)
set_option maxHeartbeats 2000000 in
theorem sp_X4_isTarget {l : Launch} {E : eg_E} {d kb nb : Nat} {Q : Option Value → eg_G → eg_I → Prop} {G : eg_G} {M : eg_I} {a w n k v : Nat} {cf : Nat → Int32} (hs : sh_M G a) (h : in_M M a w n k cf) (hv : v < 18) (hT : (∀ s, s < 2 ^ (w * n) → M (a + 8) (256 * v + s) = M (a + 3) s) → Q (some (.int 1)) G M) (hF : (∃ s, s < 2 ^ (w * n) ∧ ¬ M (a + 8) (256 * v + s) = M (a + 3) s) → Q (some (.int 0)) G M) : eg_J l E mX4_isTarget d kb nb Q 0 [some (.ref a), some (.int (nI v)), none] [] G M := by
  refine eg_iconst dX4_isTarget_0 (v := nI 0) (by decide) ?_
  refine eg_istore_n dX4_isTarget_1 rfl (by decide) rfl ?_
  exact lp_X4_isTarget hs h hv hT hF (2 ^ (w * n)) 0 (by omega) (fun z hz => absurd hz (by omega))
set_option maxHeartbeats 2000000 in
theorem lp_X4_isNew {l : Launch} {E : eg_E} {d kb nb : Nat} {Q : Option Value → eg_G → eg_I → Prop} {G : eg_G} {M : eg_I} {a w n k v : Nat} {cf : Nat → Int32} (hd : 1 ≤ d) (hs : sh_M G a) (h : in_M M a w n k cf) (hv : v < 18) (hT : (∀ y, y < v → ¬ (∀ s, s < 2 ^ (w * n) → M (a + 8) (256 * v + s) = M (a + 8) (256 * y + s))) → Q (some (.int 1)) G M) (hF : (∃ y, y < v ∧ (∀ s, s < 2 ^ (w * n) → M (a + 8) (256 * v + s) = M (a + 8) (256 * y + s))) → Q (some (.int 0)) G M) : ∀ (c b : Nat), b + c = v → (∀ y, y < b → ¬ (∀ s, s < 2 ^ (w * n) → M (a + 8) (256 * v + s) = M (a + 8) (256 * y + s))) → eg_J l E mX4_isNew d kb nb Q 2 [some (.ref a), some (.int (nI v)), some (.int (nI b))] [] G M := by
  intro c
  induction c with
  | zero =>
    intro b hbc hi
    obtain ⟨k0, ⟨x5, y5⟩, ⟨x6, y6⟩, ⟨x7, y7⟩, ⟨x9, y9⟩, ⟨x10, y10⟩, ⟨x11, y11⟩, ⟨x13, y13⟩, ⟨x14, y14⟩, ⟨x18, y18⟩, ⟨x19, y19⟩, ⟨x20, y20⟩, ⟨x25, y25⟩, ⟨x26, y26⟩, ⟨x27, y27⟩, ⟨x28, y28⟩, ⟨x30, y30⟩, ⟨x31, y31⟩, ⟨x32, y32⟩⟩ := id hs
    obtain ⟨m0, m1, m2, m3, m4, mc, hw1, hw4, hn1, hn2, hk4⟩ := id h
    have hA := wd_asg hw4 hn2
    refine eg_iload_n dX4_isNew_2 rfl rfl ?_
    refine eg_iload_n dX4_isNew_3 rfl rfl ?_
    refine eg_icmp_ge 31 dX4_isNew_4 (by decide) (fun c4 => ?_) (fun c4 => absurd (nI_le (by omega) (by omega)) c4)
    refine eg_iconst dX4_isNew_31 (v := nI 1) (by decide) ?_
    exact eg_zret rfl rfl dX4_isNew_32 (hT (fun y hy => hi y (by omega)))
  | succ c ih =>
    intro b hbc hi
    obtain ⟨k0, ⟨x5, y5⟩, ⟨x6, y6⟩, ⟨x7, y7⟩, ⟨x9, y9⟩, ⟨x10, y10⟩, ⟨x11, y11⟩, ⟨x13, y13⟩, ⟨x14, y14⟩, ⟨x18, y18⟩, ⟨x19, y19⟩, ⟨x20, y20⟩, ⟨x25, y25⟩, ⟨x26, y26⟩, ⟨x27, y27⟩, ⟨x28, y28⟩, ⟨x30, y30⟩, ⟨x31, y31⟩, ⟨x32, y32⟩⟩ := id hs
    obtain ⟨m0, m1, m2, m3, m4, mc, hw1, hw4, hn1, hn2, hk4⟩ := id h
    have hA := wd_asg hw4 hn2
    refine eg_iload_n dX4_isNew_2 rfl rfl ?_
    refine eg_iload_n dX4_isNew_3 rfl rfl ?_
    refine eg_icmp_ge 31 dX4_isNew_4 (by decide) (fun c4 => absurd c4 (nI_ge (by omega) (by omega))) (fun c4 => ?_)
    refine eg_aload_n dX4_isNew_7 rfl rfl ?_
    refine eg_getR gf_RX4_44 rfl (by assumption) (by assumption) dX4_isNew_8 ?_
    refine eg_iload_n dX4_isNew_11 rfl rfl ?_
    refine eg_iload_n dX4_isNew_12 rfl rfl ?_
    refine eg_aload_n dX4_isNew_13 rfl rfl ?_
    refine eg_getI gf_RX4_19 rfl (by assumption) dX4_isNew_14 ?_
    refine eg_topi m3 ?_
    refine eg_callS4 0 0 gk_X4_isSame gi_X4_isSame gl_RX4_122 rfl (Nat.le_of_ble_eq_true rfl) (Nat.le_of_ble_eq_true rfl) (Nat.zero_le _) (Nat.zero_le _) (by omega) dX4_isNew_17 ?_
    refine sp_X4_isSame (u := v) (v := b) y14 hv (by omega) hA (fun hT2 => ?_) (fun hF2 => ?_)
    · refine eg_if_eq 25 dX4_isNew_20 (by decide) (fun z => absurd z (by decide)) (fun _ => ?_)
      refine eg_iconst dX4_isNew_23 (v := nI 0) (by decide) ?_
      exact eg_zret rfl rfl dX4_isNew_24 (hF ⟨b, by omega, hT2⟩)
    · refine eg_if_eq 25 dX4_isNew_20 (by decide) (fun _ => ?_) (fun z => absurd (show nI 0 = 0 from rfl) z)
      refine eg_iinc dX4_isNew_25 (by decide) rfl (eg_inc b) rfl ?_
      refine eg_goto 2 dX4_isNew_28 (by decide) ?_
      refine ih (b + 1) (by omega) (fun y hy => ?_)
      by_cases e : y = b
      · subst e
        obtain ⟨s, z1, z2⟩ := hF2
        exact fun q => z2 (q s z1)
      · exact hi y (by omega)
set_option maxHeartbeats 2000000 in
theorem sp_X4_isNew {l : Launch} {E : eg_E} {d kb nb : Nat} {Q : Option Value → eg_G → eg_I → Prop} {G : eg_G} {M : eg_I} {a w n k v : Nat} {cf : Nat → Int32} (hd : 1 ≤ d) (hs : sh_M G a) (h : in_M M a w n k cf) (hv : v < 18) (hT : (∀ y, y < v → ¬ (∀ s, s < 2 ^ (w * n) → M (a + 8) (256 * v + s) = M (a + 8) (256 * y + s))) → Q (some (.int 1)) G M) (hF : (∃ y, y < v ∧ (∀ s, s < 2 ^ (w * n) → M (a + 8) (256 * v + s) = M (a + 8) (256 * y + s))) → Q (some (.int 0)) G M) : eg_J l E mX4_isNew d kb nb Q 0 [some (.ref a), some (.int (nI v)), none] [] G M := by
  refine eg_iconst dX4_isNew_0 (v := nI 0) (by decide) ?_
  refine eg_istore_n dX4_isNew_1 rfl (by decide) rfl ?_
  exact lp_X4_isNew hd hs h hv hT hF v 0 (by omega) (fun z hz => absurd hz (by omega))
set_option maxHeartbeats 2000000 in
theorem lp_X4_note {l : Launch} {E : eg_E} {d kb nb : Nat} {Q : Option Value → eg_G → eg_I → Prop} {G : eg_G} {a p : Nat} (hs : sh_M G a) (hp : p < 12) : ∀ (c s : Nat) (M : eg_I), s + c = p + 1 → (∀ M', (∀ j, s ≤ j → j < p + 1 → M' (a + 16) j = M (a + 12) j ∧ M' (a + 17) j = M (a + 13) j ∧ M' (a + 18) j = M (a + 14) j) → (∀ q j, ¬ (a + 16 ≤ q ∧ q < a + 19 ∧ s ≤ j) → M' q j = M q j) → eg_J l E mX4_note d kb nb Q 63 [some (.ref a), some (.int (nI p)), some (.int (nI (p + 1)))] [] G M') → eg_J l E mX4_note d kb nb Q 16 [some (.ref a), some (.int (nI p)), some (.int (nI s))] [] G M := by
  intro c
  induction c with
  | zero =>
    intro s M hst kk
    obtain ⟨k0, ⟨x5, y5⟩, ⟨x6, y6⟩, ⟨x7, y7⟩, ⟨x9, y9⟩, ⟨x10, y10⟩, ⟨x11, y11⟩, ⟨x13, y13⟩, ⟨x14, y14⟩, ⟨x18, y18⟩, ⟨x19, y19⟩, ⟨x20, y20⟩, ⟨x25, y25⟩, ⟨x26, y26⟩, ⟨x27, y27⟩, ⟨x28, y28⟩, ⟨x30, y30⟩, ⟨x31, y31⟩, ⟨x32, y32⟩⟩ := id hs
    refine eg_iload_n dX4_note_16 rfl rfl ?_
    refine eg_iload_n dX4_note_17 rfl rfl ?_
    refine eg_icmp_gt 63 dX4_note_18 (by decide) (fun c18 => ?_) (fun c18 => absurd (nI_lt (by omega) (by omega)) c18)
    have e : s = p + 1 := by omega
    subst e
    exact kk M (fun j z1 z2 => absurd z2 (by omega)) (fun _ _ _ => rfl)
  | succ c ih =>
    intro s M hst kk
    obtain ⟨k0, ⟨x5, y5⟩, ⟨x6, y6⟩, ⟨x7, y7⟩, ⟨x9, y9⟩, ⟨x10, y10⟩, ⟨x11, y11⟩, ⟨x13, y13⟩, ⟨x14, y14⟩, ⟨x18, y18⟩, ⟨x19, y19⟩, ⟨x20, y20⟩, ⟨x25, y25⟩, ⟨x26, y26⟩, ⟨x27, y27⟩, ⟨x28, y28⟩, ⟨x30, y30⟩, ⟨x31, y31⟩, ⟨x32, y32⟩⟩ := id hs
    refine eg_iload_n dX4_note_16 rfl rfl ?_
    refine eg_iload_n dX4_note_17 rfl rfl ?_
    refine eg_icmp_gt 63 dX4_note_18 (by decide) (fun c18 => absurd c18 (fun z => absurd (nI_le (by omega) (by omega)) (Int32.not_le.mpr z))) (fun c18 => ?_)
    refine eg_aload_n dX4_note_21 rfl rfl ?_
    refine eg_getR gf_RX4_71 rfl (by assumption) (by assumption) dX4_note_22 ?_
    refine eg_iload_n dX4_note_25 rfl rfl ?_
    refine eg_aload_n dX4_note_26 rfl rfl ?_
    refine eg_getR gf_RX4_59 rfl (by assumption) (by assumption) dX4_note_27 ?_
    refine eg_iload_n dX4_note_30 rfl rfl ?_
    refine eg_ialdN (by assumption) (by omega) (by decide) dX4_note_31 ?_
    refine eg_iastN (by assumption) (by omega) (by decide) dX4_note_32 ?_
    refine eg_aload_n dX4_note_33 rfl rfl ?_
    refine eg_getR gf_RX4_74 rfl (by assumption) (by assumption) dX4_note_34 ?_
    refine eg_iload_n dX4_note_37 rfl rfl ?_
    refine eg_aload_n dX4_note_38 rfl rfl ?_
    refine eg_getR gf_RX4_62 rfl (by assumption) (by assumption) dX4_note_39 ?_
    refine eg_iload_n dX4_note_42 rfl rfl ?_
    refine eg_ialdN (by assumption) (by omega) (by decide) dX4_note_43 ?_
    refine eg_topi (show _ = M (a + 13) s by rw [eg_set_ne (by omega)]) ?_
    refine eg_iastN (by assumption) (by omega) (by decide) dX4_note_44 ?_
    refine eg_aload_n dX4_note_45 rfl rfl ?_
    refine eg_getR gf_RX4_77 rfl (by assumption) (by assumption) dX4_note_46 ?_
    refine eg_iload_n dX4_note_49 rfl rfl ?_
    refine eg_aload_n dX4_note_50 rfl rfl ?_
    refine eg_getR gf_RX4_65 rfl (by assumption) (by assumption) dX4_note_51 ?_
    refine eg_iload_n dX4_note_54 rfl rfl ?_
    refine eg_ialdN (by assumption) (by omega) (by decide) dX4_note_55 ?_
    refine eg_topi (show _ = M (a + 14) s by rw [eg_set_ne (by omega), eg_set_ne (by omega)]) ?_
    refine eg_iastN (by assumption) (by omega) (by decide) dX4_note_56 ?_
    refine eg_iinc dX4_note_57 (by decide) rfl (eg_inc s) rfl ?_
    refine eg_goto 16 dX4_note_60 (by decide) ?_
    generalize hM1 : eg_set (eg_set (eg_set M (a + 16) s (M (a + 12) s)) (a + 17) s (M (a + 13) s)) (a + 18) s (M (a + 14) s) = M1
    have o1 : ∀ q j, ¬ (a + 16 ≤ q ∧ q < a + 19 ∧ j = s) → M1 q j = M q j := fun q j z => by
      rw [← hM1]
      unfold eg_set
      rw [if_neg (by omega), if_neg (by omega), if_neg (by omega)]
    refine ih (s + 1) M1 (by omega) (fun M2 h2 h3 => ?_)
    refine kk M2 (fun j z1 z2 => ?_) (fun q j z => by rw [h3 q j (by omega), o1 q j (by omega)])
    by_cases e : j = s
    · subst e
      rw [h3 _ _ (by omega), h3 _ _ (by omega), h3 _ _ (by omega), ← hM1]
      refine ⟨?_, ?_, ?_⟩
      · rw [eg_set_ne (by omega), eg_set_ne (by omega), eg_set_eq]
      · rw [eg_set_ne (by omega), eg_set_eq]
      · rw [eg_set_eq]
    · have := h2 j (by omega) z2
      rw [o1 _ _ (by omega), o1 _ _ (by omega), o1 _ _ (by omega)] at this
      exact this
set_option maxHeartbeats 2000000 in
theorem sp_X4_note {l : Launch} {E : eg_E} {d kb nb : Nat} {Q : Option Value → eg_G → eg_I → Prop} {G : eg_G} {M : eg_I} {a p f : Nat} (hs : sh_M G a) (hp : p < 12) (h23 : M a 23 = nI f) (hf31 : f < 2 ^ 31) (hQ0 : f = 0 → ∀ M', M' a 29 = nI (p + 1) → (∀ j, j < p + 1 → M' (a + 16) j = M (a + 12) j ∧ M' (a + 17) j = M (a + 13) j ∧ M' (a + 18) j = M (a + 14) j) → M' a 23 = nI (f + 1) → (∀ q j, ¬ (q = a ∧ (j = 23 ∨ j = 29)) → ¬ (a + 16 ≤ q ∧ q < a + 19) → M' q j = M q j) → Q none G M') (hQ1 : ¬ f = 0 → Q none G (eg_set M a 23 (nI (f + 1)))) : eg_J l E mX4_note d kb nb Q 0 [some (.ref a), some (.int (nI p)), none] [] G M := by
  obtain ⟨k0, ⟨x5, y5⟩, ⟨x6, y6⟩, ⟨x7, y7⟩, ⟨x9, y9⟩, ⟨x10, y10⟩, ⟨x11, y11⟩, ⟨x13, y13⟩, ⟨x14, y14⟩, ⟨x18, y18⟩, ⟨x19, y19⟩, ⟨x20, y20⟩, ⟨x25, y25⟩, ⟨x26, y26⟩, ⟨x27, y27⟩, ⟨x28, y28⟩, ⟨x30, y30⟩, ⟨x31, y31⟩, ⟨x32, y32⟩⟩ := id hs
  refine eg_aload_n dX4_note_0 rfl rfl ?_
  refine eg_getI gf_RX4_140 rfl (by assumption) dX4_note_1 ?_
  refine eg_topi h23 ?_
  refine eg_if_ne 63 dX4_note_4 (by decide) (fun e => ?_) (fun e => ?_)
  · have hf : ¬ f = 0 := fun q => e (by rw [q]; rfl)
    refine eg_aload_n dX4_note_63 rfl rfl ?_
    refine eg_dup dX4_note_64 rfl ?_
    refine eg_getI gf_RX4_140 rfl (by assumption) dX4_note_65 ?_
    refine eg_topi (show _ = nI f by exact h23) ?_
    refine eg_iconst dX4_note_68 (v := nI 1) (by decide) ?_
    refine eg_iadd dX4_note_69 ?_
    refine eg_topi (nI_add f 1) ?_
    refine eg_putI gp_RX4_140 (fun q => by cases q) rfl rfl rfl (by assumption) dX4_note_70 ?_
    exact eg_vret rfl dX4_note_73 (hQ1 hf)
  · have hf : f = 0 := (nI_eq (b := 0) (by omega) (by omega)).mp e
    refine eg_aload_n dX4_note_7 rfl rfl ?_
    refine eg_iload_n dX4_note_8 rfl rfl ?_
    refine eg_iconst dX4_note_9 (v := nI 1) (by decide) ?_
    refine eg_iadd dX4_note_10 ?_
    refine eg_topi (nI_add p 1) ?_
    refine eg_putI gp_RX4_143 (fun q => by cases q) rfl rfl rfl (by assumption) dX4_note_11 ?_
    refine eg_iconst dX4_note_14 (v := nI 0) (by decide) ?_
    refine eg_istore_n dX4_note_15 rfl (by decide) rfl ?_
    refine lp_X4_note hs hp (p + 1) 0 _ (by omega) (fun M1 h1 h2 => ?_)
    refine eg_aload_n dX4_note_63 rfl rfl ?_
    refine eg_dup dX4_note_64 rfl ?_
    refine eg_getI gf_RX4_140 rfl (by assumption) dX4_note_65 ?_
    refine eg_topi (show _ = nI f by rw [h2 _ _ (by omega), eg_set_j (by decide)]; exact h23) ?_
    refine eg_iconst dX4_note_68 (v := nI 1) (by decide) ?_
    refine eg_iadd dX4_note_69 ?_
    refine eg_topi (nI_add f 1) ?_
    refine eg_putI gp_RX4_140 (fun q => by cases q) rfl rfl rfl (by assumption) dX4_note_70 ?_
    exact eg_vret rfl dX4_note_73 (hQ0 hf _ (by rw [eg_set_j (by decide), h2 _ _ (by omega), eg_set_eq]) (fun j hj => by
      rw [eg_set_ne (by omega), eg_set_ne (by omega), eg_set_ne (by omega)]
      have := h1 j (by omega) hj
      rw [eg_set_ne (by omega), eg_set_ne (by omega), eg_set_ne (by omega)] at this
      exact this) (by rw [eg_set_eq]) (fun q j z1 z2 => by
      have : ∀ x : Int32, eg_set M1 a 23 x q j = M1 q j := fun x => if_neg (by omega)
      rw [this, h2 q j (by omega)]
      exact if_neg (by omega)))
