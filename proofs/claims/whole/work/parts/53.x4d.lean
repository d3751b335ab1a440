/-! ShortestCodeModel: isSame, lose, loseTwin, loseIdle, clean -/
theorem hb_sh : ∀ v, v < 18 → ((nI v &&& 31).toBitVec.smod 32#32).toNat = v := by decide +kernel
theorem hb_one : ∀ u, u < 18 → ∀ v, v < 18 → (nI 1 <<< (nI u &&& 31)).toBitVec.getLsbD v = decide (v = u) := by decide +kernel
theorem hb_bit {x : Int32} {v : Nat} (hv : v < 18) : (x >>> (nI v &&& 31)) &&& nI 1 = 0 ↔ x.toBitVec.getLsbD v = false := by
  have e : ((x >>> (nI v &&& 31)) &&& nI 1).toBitVec.getLsbD 0 = x.toBitVec.getLsbD v := by
    rw [Int32.toBitVec_and, Int32.toBitVec_shiftRight, BitVec.getLsbD_and]
    show ((x.toBitVec.sshiftRight ((nI v &&& 31).toBitVec.smod 32#32).toNat).getLsbD 0 && true) = _
    rw [hb_sh v hv, BitVec.getLsbD_sshiftRight, Bool.and_true, if_pos (by omega), Nat.add_zero]
    simp
  constructor
  · intro h
    rw [h] at e
    exact e.symm
  · intro h
    apply Int32.toBitVec_inj.mp
    apply BitVec.eq_of_getLsbD_eq
    intro i hi
    by_cases q : i = 0
    · subst q
      rw [e, h]
      rfl
    · rw [Int32.toBitVec_and, BitVec.getLsbD_and]
      have : (nI 1).toBitVec.getLsbD i = false := by
        show (1#32).getLsbD i = false
        rw [BitVec.getLsbD_one]
        simp [q]
      rw [this, Bool.and_false]
      show false = (0#32).getLsbD i
      simp
theorem hb_set {x : Int32} {u v : Nat} (hu : u < 18) (hv : v < 18) : (x ||| (nI 1 <<< (nI u &&& 31))).toBitVec.getLsbD v = true ↔ (x.toBitVec.getLsbD v = true ∨ v = u) := by
  rw [Int32.toBitVec_or, BitVec.getLsbD_or, hb_one u hu v hv, Bool.or_eq_true, decide_eq_true_iff]
def rn1 (v t x : Nat) : Nat := if x = v then t else x
def rn2 (v x : Nat) : Nat := if v < x then x - 1 else x
theorem rn_21 {v t x : Nat} (h : t ≤ v) : rn2 v (rn1 v t x) = rn x v t := by
  unfold rn2 rn1 rn
  by_cases e : x = v
  · rw [if_pos e, if_pos e, if_neg (by omega)]
  · rw [if_neg e, if_neg e]
theorem rn1_lt {v t x N : Nat} (h1 : t < N) (h2 : x < N) : rn1 v t x < N := by
  unfold rn1
  split <;> omega
def rl_I (M : eg_I) (a w n k : Nat) (cf : Nat → Int32) (p : pg_T) : Prop := in_M M a w n k cf ∧ in_Q M a p.1 p.2.1 p.2.2.1 p.2.2.2.1 p.2.2.2.2 ∧ (∀ u s, u < n + k + p.1 → s < 2 ^ (w * n) → M (a + 7) (256 * u + s) = sv w n k cf p.2.1 p.2.2.1 p.2.2.2.1 u s) ∧ pg_ok (n + k) p.1 p.2.1 p.2.2.1 p.2.2.2.1 p.2.2.2.2
def rl_F (M M' : eg_I) (a : Nat) : Prop := (∀ q, q ≠ a → ¬ (a + 4 ≤ q ∧ q < a + 8) → M' q = M q) ∧ ∀ i, i ≠ 8 → i ≠ 12 → M' a i = M a i
theorem rl_F.tr {M M' M2 : eg_I} {b : Nat} (a : rl_F M M' b) (c : rl_F M' M2 b) : rl_F M M2 b := ⟨fun q z1 z2 => (c.1 q z1 z2).trans (a.1 q z1 z2), fun i z1 z2 => (c.2 i z1 z2).trans (a.2 i z1 z2)⟩
theorem rl_F.rf {M : eg_I} {b : Nat} : rl_F M M b := ⟨fun _ _ _ => rfl, fun _ _ _ => rfl⟩
theorem cut_21 {g j t i len : Nat} {f : Nat → Nat} (hf : ∀ i, i < len → f i < g + i) (hj : j < len) (ht : t < g + j) (hi : i < len - 1) : rn2 (g + j) (if i < j then rn1 (g + j) t (f i) else rn1 (g + j) t (f (i + 1))) = cut_rn f j (g + j) t i := by
  unfold cut_rn
  by_cases e : i < j
  · rw [if_pos e, if_pos e]
    have := hf i (by omega)
    have e1 : rn1 (g + j) t (f i) = f i := by
      unfold rn1
      rw [if_neg (by omega)]
    rw [e1]
    unfold rn2
    rw [if_neg (by omega)]
  · rw [if_neg e, if_neg e]
    exact rn_21 (by omega)
set_option maxHeartbeats 2000000 in
theorem lp_X4_isSame {l : Launch} {E : eg_E} {d kb nb : Nat} {Q : Option Value → eg_G → eg_I → Prop} {G : eg_G} {M : eg_I} {q u v A : Nat} (hq : G.2.1 q = some (.inr (.int, 4608))) (hu : u < 18) (hv : v < 18) (hA : A ≤ 256) (hT : (∀ s, s < A → M q (256 * u + s) = M q (256 * v + s)) → Q (some (.int 1)) G M) (hF : (∃ s, s < A ∧ ¬ M q (256 * u + s) = M q (256 * v + s)) → Q (some (.int 0)) G M) : ∀ (c s : Nat), s + c = A → (∀ z, z < s → M q (256 * u + z) = M q (256 * v + z)) → eg_J l E mX4_isSame d kb nb Q 3 [some (.ref q), some (.int (nI u)), some (.int (nI v)), some (.int (nI A)), some (.int (nI s))] [] G M := by
  intro c
  induction c with
  | zero =>
    intro s hst hi
    refine eg_iload dX4_isSame_3 rfl ?_
    refine eg_iload_n dX4_isSame_5 rfl rfl ?_
    refine eg_icmp_ge 40 dX4_isSame_6 (by decide) (fun c6 => ?_) (fun c6 => absurd (nI_le (by omega) (by omega)) c6)
    refine eg_iconst dX4_isSame_40 (v := nI 1) (by decide) ?_
    exact eg_zret rfl rfl dX4_isSame_41 (hT (fun z hz => hi z (by omega)))
  | succ c ih =>
    intro s hst hi
    refine eg_iload dX4_isSame_3 rfl ?_
    refine eg_iload_n dX4_isSame_5 rfl rfl ?_
    refine eg_icmp_ge 40 dX4_isSame_6 (by decide) (fun c6 => absurd c6 (nI_ge (by omega) (by omega))) (fun c6 => ?_)
    refine eg_aload_n dX4_isSame_9 rfl rfl ?_
    refine eg_sipush dX4_isSame_10 (v := nI 256) (by decide) ?_
    refine eg_iload_n dX4_isSame_13 rfl rfl ?_
    refine eg_imul dX4_isSame_14 ?_
    refine eg_topi (pk_mul 256 u) ?_
    refine eg_iload dX4_isSame_15 rfl ?_
    refine eg_iadd dX4_isSame_17 ?_
    refine eg_topi (nI_add (256 * u) s) ?_
    refine eg_ialdN (by assumption) (by omega) (by decide) dX4_isSame_18 ?_
    refine eg_aload_n dX4_isSame_19 rfl rfl ?_
    refine eg_sipush dX4_isSame_20 (v := nI 256) (by decide) ?_
    refine eg_iload_n dX4_isSame_23 rfl rfl ?_
    refine eg_imul dX4_isSame_24 ?_
    refine eg_topi (pk_mul 256 v) ?_
    refine eg_iload dX4_isSame_25 rfl ?_
    refine eg_iadd dX4_isSame_27 ?_
    refine eg_topi (nI_add (256 * v) s) ?_
    refine eg_ialdN (by assumption) (by omega) (by decide) dX4_isSame_28 ?_
    refine eg_icmp_eq 34 dX4_isSame_29 (by decide) (fun e => ?_) (fun e => ?_)
    · refine eg_iinc dX4_isSame_34 (by decide) rfl (eg_inc s) rfl ?_
      refine eg_goto 3 dX4_isSame_37 (by decide) ?_
      refine ih (s + 1) (by omega) (fun z hz => ?_)
      by_cases e2 : z = s
      · subst e2; exact e
      · exact hi z (by omega)
    · refine eg_iconst dX4_isSame_32 (v := nI 0) (by decide) ?_
      exact eg_zret rfl rfl dX4_isSame_33 (hF ⟨s, by omega, e⟩)
set_option maxHeartbeats 2000000 in
theorem sp_X4_isSame {l : Launch} {E : eg_E} {d kb nb : Nat} {Q : Option Value → eg_G → eg_I → Prop} {G : eg_G} {M : eg_I} {q u v A : Nat} (hq : G.2.1 q = some (.inr (.int, 4608))) (hu : u < 18) (hv : v < 18) (hA : A ≤ 256) (hT : (∀ s, s < A → M q (256 * u + s) = M q (256 * v + s)) → Q (some (.int 1)) G M) (hF : (∃ s, s < A ∧ ¬ M q (256 * u + s) = M q (256 * v + s)) → Q (some (.int 0)) G M) : eg_J l E mX4_isSame d kb nb Q 0 [some (.ref q), some (.int (nI u)), some (.int (nI v)), some (.int (nI A)), none] [] G M := by
  refine eg_iconst dX4_isSame_0 (v := nI 0) (by decide) ?_
  refine eg_istore dX4_isSame_1 (by decide) rfl ?_
  exact lp_X4_isSame hq hu hv hA hT hF A 0 (by omega) (fun z hz => absurd hz (by omega))
set_option maxHeartbeats 2000000 in
theorem lp_X4_lose1 {l : Launch} {E : eg_E} {d kb nb : Nat} {Q : Option Value → eg_G → eg_I → Prop} {G : eg_G} {a len v t : Nat} {x1 : Int32} {lf rt : Nat → Nat} (hs : sh_M G a) (hl : len ≤ 12) (ht : t < 100) (hv : v < 100) (hb : ∀ i, i < len → lf i < 100 ∧ rt i < 100) : ∀ (c s : Nat) (M : eg_I), M a 8 = nI len → (∀ j, s ≤ j → j < len → M (a + 5) j = nI (lf j) ∧ M (a + 6) j = nI (rt j)) → s + c = len → (∀ M', (∀ j, s ≤ j → j < len → M' (a + 5) j = nI (rn1 v t (lf j)) ∧ M' (a + 6) j = nI (rn1 v t (rt j))) → (∀ q j, ¬ ((q = a + 5 ∨ q = a + 6) ∧ s ≤ j) → M' q j = M q j) → eg_J l E mX4_lose d kb nb Q 83 [some (.ref a), some (.int x1), some (.int (nI t)), some (.int (nI v)), some (.int (nI len))] [] G M') → eg_J l E mX4_lose d kb nb Q 10 [some (.ref a), some (.int x1), some (.int (nI t)), some (.int (nI v)), some (.int (nI s))] [] G M := by
  intro c
  induction c with
  | zero =>
    intro s M h8 hf hst kk
    obtain ⟨k0, ⟨x5, y5⟩, ⟨x6, y6⟩, ⟨x7, y7⟩, ⟨x9, y9⟩, ⟨x10, y10⟩, ⟨x11, y11⟩, ⟨x13, y13⟩, ⟨x14, y14⟩, ⟨x18, y18⟩, ⟨x19, y19⟩, ⟨x20, y20⟩, ⟨x25, y25⟩, ⟨x26, y26⟩, ⟨x27, y27⟩, ⟨x28, y28⟩, ⟨x30, y30⟩, ⟨x31, y31⟩, ⟨x32, y32⟩⟩ := id hs
    refine eg_iload dX4_lose_10 rfl ?_
    refine eg_aload_n dX4_lose_12 rfl rfl ?_
    refine eg_getI gf_RX4_90 rfl (by assumption) dX4_lose_13 ?_
    refine eg_topi h8 ?_
    refine eg_icmp_ge 83 dX4_lose_16 (by decide) (fun c16 => ?_) (fun c16 => absurd (nI_le (by omega) (by omega)) c16)
    have e : s = len := by omega
    subst e
    exact kk M (fun j z1 z2 => absurd z2 (by omega)) (fun _ _ _ => rfl)
  | succ c ih =>
    intro s M h8 hf hst kk
    obtain ⟨k0, ⟨x5, y5⟩, ⟨x6, y6⟩, ⟨x7, y7⟩, ⟨x9, y9⟩, ⟨x10, y10⟩, ⟨x11, y11⟩, ⟨x13, y13⟩, ⟨x14, y14⟩, ⟨x18, y18⟩, ⟨x19, y19⟩, ⟨x20, y20⟩, ⟨x25, y25⟩, ⟨x26, y26⟩, ⟨x27, y27⟩, ⟨x28, y28⟩, ⟨x30, y30⟩, ⟨x31, y31⟩, ⟨x32, y32⟩⟩ := id hs
    have hf0 := hf s (by omega) (by omega)
    have hb0 := hb s (by omega)
    refine eg_iload dX4_lose_10 rfl ?_
    refine eg_aload_n dX4_lose_12 rfl rfl ?_
    refine eg_getI gf_RX4_90 rfl (by assumption) dX4_lose_13 ?_
    refine eg_topi h8 ?_
    refine eg_icmp_ge 83 dX4_lose_16 (by decide) (fun c16 => absurd c16 (nI_ge (by omega) (by omega))) (fun c16 => ?_)
    refine eg_aload_n dX4_lose_19 rfl rfl ?_
    refine eg_getR gf_RX4_35 rfl (by assumption) (by assumption) dX4_lose_20 ?_
    refine eg_iload dX4_lose_23 rfl ?_
    refine eg_aload_n dX4_lose_25 rfl rfl ?_
    refine eg_getR gf_RX4_35 rfl (by assumption) (by assumption) dX4_lose_26 ?_
    refine eg_iload dX4_lose_29 rfl ?_
    refine eg_ialdN (by assumption) (by omega) (by decide) dX4_lose_31 ?_
    refine eg_topi hf0.1 ?_
    refine eg_iload_n dX4_lose_32 rfl rfl ?_
    refine eg_icmp_ne 40 dX4_lose_33 (by decide) (fun e1 => ?_) (fun e1 => ?_)
    · refine eg_aload_n dX4_lose_40 rfl rfl ?_
      refine eg_getR gf_RX4_35 rfl (by assumption) (by assumption) dX4_lose_41 ?_
      refine eg_iload dX4_lose_44 rfl ?_
      refine eg_ialdN (by assumption) (by omega) (by decide) dX4_lose_46 ?_
      refine eg_topi hf0.1 ?_
      refine eg_topi (show nI (lf s) = nI (rn1 v t (lf s)) by unfold rn1; rw [if_neg (fun q => e1 (by rw [q]))]) ?_
      refine eg_iastN (by assumption) (by omega) (by decide) dX4_lose_47 ?_
      refine eg_aload_n dX4_lose_48 rfl rfl ?_
      refine eg_getR gf_RX4_38 rfl (by assumption) (by assumption) dX4_lose_49 ?_
      refine eg_iload dX4_lose_52 rfl ?_
      refine eg_aload_n dX4_lose_54 rfl rfl ?_
      refine eg_getR gf_RX4_38 rfl (by assumption) (by assumption) dX4_lose_55 ?_
      refine eg_iload dX4_lose_58 rfl ?_
      refine eg_ialdN (by assumption) (by omega) (by decide) dX4_lose_60 ?_
      refine eg_topi (show _ = nI (rt s) by rw [eg_set_ne (by omega)]; exact hf0.2) ?_
      refine eg_iload_n dX4_lose_61 rfl rfl ?_
      refine eg_icmp_ne 69 dX4_lose_62 (by decide) (fun e2 => ?_) (fun e2 => ?_)
      · refine eg_aload_n dX4_lose_69 rfl rfl ?_
        refine eg_getR gf_RX4_38 rfl (by assumption) (by assumption) dX4_lose_70 ?_
        refine eg_iload dX4_lose_73 rfl ?_
        refine eg_ialdN (by assumption) (by omega) (by decide) dX4_lose_75 ?_
        refine eg_topi (show _ = nI (rt s) by rw [eg_set_ne (by omega)]; exact hf0.2) ?_
        refine eg_topi (show nI (rt s) = nI (rn1 v t (rt s)) by unfold rn1; rw [if_neg (fun q => e2 (by rw [q]))]) ?_
        refine eg_iastN (by assumption) (by omega) (by decide) dX4_lose_76 ?_
        refine eg_iinc dX4_lose_77 (by decide) rfl (eg_inc s) rfl ?_
        refine eg_goto 10 dX4_lose_80 (by decide) ?_
        refine ih (s + 1) _ (by rw [eg_set_ne (by omega), eg_set_ne (by omega)]; exact h8) (fun j z1 z2 => ?_) (by omega) (fun M2 h2 h3 => ?_)
        · rw [eg_set_ne (by omega), eg_set_j (by omega), eg_set_j (by omega), eg_set_ne (by omega)]
          exact hf j (by omega) z2
        · refine kk M2 (fun j z1 z2 => ?_) (fun q j z => ?_)
          · by_cases e : j = s
            · subst e
              rw [h3 _ _ (by omega), h3 _ _ (by omega)]
              refine ⟨?_, ?_⟩
              · rw [eg_set_ne (by omega), eg_set_eq]
              · rw [eg_set_eq]
            · exact h2 j (by omega) z2
          · rw [h3 q j (by omega)]
            unfold eg_set
            rw [if_neg (by omega), if_neg (by omega)]
      · refine eg_iload_n dX4_lose_65 rfl rfl ?_
        refine eg_goto 76 dX4_lose_66 (by decide) ?_
        refine eg_topi (show nI t = nI (rn1 v t (rt s)) by unfold rn1; rw [if_pos ((nI_eq (by omega) (by omega)).mp e2)]) ?_
        refine eg_iastN (by assumption) (by omega) (by decide) dX4_lose_76 ?_
        refine eg_iinc dX4_lose_77 (by decide) rfl (eg_inc s) rfl ?_
        refine eg_goto 10 dX4_lose_80 (by decide) ?_
        refine ih (s + 1) _ (by rw [eg_set_ne (by omega), eg_set_ne (by omega)]; exact h8) (fun j z1 z2 => ?_) (by omega) (fun M2 h2 h3 => ?_)
        · rw [eg_set_ne (by omega), eg_set_j (by omega), eg_set_j (by omega), eg_set_ne (by omega)]
          exact hf j (by omega) z2
        · refine kk M2 (fun j z1 z2 => ?_) (fun q j z => ?_)
          · by_cases e : j = s
            · subst e
              rw [h3 _ _ (by omega), h3 _ _ (by omega)]
              refine ⟨?_, ?_⟩
              · rw [eg_set_ne (by omega), eg_set_eq]
              · rw [eg_set_eq]
            · exact h2 j (by omega) z2
          · rw [h3 q j (by omega)]
            unfold eg_set
            rw [if_neg (by omega), if_neg (by omega)]
    · refine eg_iload_n dX4_lose_36 rfl rfl ?_
      refine eg_goto 47 dX4_lose_37 (by decide) ?_
      refine eg_topi (show nI t = nI (rn1 v t (lf s)) by unfold rn1; rw [if_pos ((nI_eq (by omega) (by omega)).mp e1)]) ?_
      refine eg_iastN (by assumption) (by omega) (by decide) dX4_lose_47 ?_
      refine eg_aload_n dX4_lose_48 rfl rfl ?_
      refine eg_getR gf_RX4_38 rfl (by assumption) (by assumption) dX4_lose_49 ?_
      refine eg_iload dX4_lose_52 rfl ?_
      refine eg_aload_n dX4_lose_54 rfl rfl ?_
      refine eg_getR gf_RX4_38 rfl (by assumption) (by assumption) dX4_lose_55 ?_
      refine eg_iload dX4_lose_58 rfl ?_
      refine eg_ialdN (by assumption) (by omega) (by decide) dX4_lose_60 ?_
      refine eg_topi (show _ = nI (rt s) by rw [eg_set_ne (by omega)]; exact hf0.2) ?_
      refine eg_iload_n dX4_lose_61 rfl rfl ?_
      refine eg_icmp_ne 69 dX4_lose_62 (by decide) (fun e2 => ?_) (fun e2 => ?_)
      · refine eg_aload_n dX4_lose_69 rfl rfl ?_
        refine eg_getR gf_RX4_38 rfl (by assumption) (by assumption) dX4_lose_70 ?_
        refine eg_iload dX4_lose_73 rfl ?_
        refine eg_ialdN (by assumption) (by omega) (by decide) dX4_lose_75 ?_
        refine eg_topi (show _ = nI (rt s) by rw [eg_set_ne (by omega)]; exact hf0.2) ?_
        refine eg_topi (show nI (rt s) = nI (rn1 v t (rt s)) by unfold rn1; rw [if_neg (fun q => e2 (by rw [q]))]) ?_
        refine eg_iastN (by assumption) (by omega) (by decide) dX4_lose_76 ?_
        refine eg_iinc dX4_lose_77 (by decide) rfl (eg_inc s) rfl ?_
        refine eg_goto 10 dX4_lose_80 (by decide) ?_
        refine ih (s + 1) _ (by rw [eg_set_ne (by omega), eg_set_ne (by omega)]; exact h8) (fun j z1 z2 => ?_) (by omega) (fun M2 h2 h3 => ?_)
        · rw [eg_set_ne (by omega), eg_set_j (by omega), eg_set_j (by omega), eg_set_ne (by omega)]
          exact hf j (by omega) z2
        · refine kk M2 (fun j z1 z2 => ?_) (fun q j z => ?_)
          · by_cases e : j = s
            · subst e
              rw [h3 _ _ (by omega), h3 _ _ (by omega)]
              refine ⟨?_, ?_⟩
              · rw [eg_set_ne (by omega), eg_set_eq]
              · rw [eg_set_eq]
            · exact h2 j (by omega) z2
          · rw [h3 q j (by omega)]
            unfold eg_set
            rw [if_neg (by omega), if_neg (by omega)]
      · refine eg_iload_n dX4_lose_65 rfl rfl ?_
        refine eg_goto 76 dX4_lose_66 (by decide) ?_
        refine eg_topi (show nI t = nI (rn1 v t (rt s)) by unfold rn1; rw [if_pos ((nI_eq (by omega) (by omega)).mp e2)]) ?_
        refine eg_iastN (by assumption) (by omega) (by decide) dX4_lose_76 ?_
        refine eg_iinc dX4_lose_77 (by decide) rfl (eg_inc s) rfl ?_
        refine eg_goto 10 dX4_lose_80 (by decide) ?_
        refine ih (s + 1) _ (by rw [eg_set_ne (by omega), eg_set_ne (by omega)]; exact h8) (fun j z1 z2 => ?_) (by omega) (fun M2 h2 h3 => ?_)
        · rw [eg_set_ne (by omega), eg_set_j (by omega), eg_set_j (by omega), eg_set_ne (by omega)]
          exact hf j (by omega) z2
        · refine kk M2 (fun j z1 z2 => ?_) (fun q j z => ?_)
          · by_cases e : j = s
            · subst e
              rw [h3 _ _ (by omega), h3 _ _ (by omega)]
              refine ⟨?_, ?_⟩
              · rw [eg_set_ne (by omega), eg_set_eq]
              · rw [eg_set_eq]
            · exact h2 j (by omega) z2
          · rw [h3 q j (by omega)]
            unfold eg_set
            rw [if_neg (by omega), if_neg (by omega)]
set_option maxHeartbeats 2000000 in
theorem lp_X4_lose3 {l : Launch} {E : eg_E} {d kb nb : Nat} {Q : Option Value → eg_G → eg_I → Prop} {G : eg_G} {a len v t : Nat} {x1 : Int32} {lf rt : Nat → Nat} (hs : sh_M G a) (hl : len ≤ 12) (ht : t < 100) (hv : v < 100) (hb : ∀ i, i < len → lf i < 100 ∧ rt i < 100) : ∀ (c s : Nat) (M : eg_I), M a 8 = nI len → (∀ j, s ≤ j → j < len → M (a + 5) j = nI (lf j) ∧ M (a + 6) j = nI (rt j)) → s + c = len → (∀ M', (∀ j, s ≤ j → j < len → M' (a + 5) j = nI (rn2 v (lf j)) ∧ M' (a + 6) j = nI (rn2 v (rt j))) → (∀ q j, ¬ ((q = a + 5 ∨ q = a + 6) ∧ s ≤ j) → M' q j = M q j) → eg_J l E mX4_lose d kb nb Q 249 [some (.ref a), some (.int x1), some (.int (nI t)), some (.int (nI v)), some (.int (nI len))] [] G M') → eg_J l E mX4_lose d kb nb Q 182 [some (.ref a), some (.int x1), some (.int (nI t)), some (.int (nI v)), some (.int (nI s))] [] G M := by
  intro c
  induction c with
  | zero =>
    intro s M h8 hf hst kk
    obtain ⟨k0, ⟨x5, y5⟩, ⟨x6, y6⟩, ⟨x7, y7⟩, ⟨x9, y9⟩, ⟨x10, y10⟩, ⟨x11, y11⟩, ⟨x13, y13⟩, ⟨x14, y14⟩, ⟨x18, y18⟩, ⟨x19, y19⟩, ⟨x20, y20⟩, ⟨x25, y25⟩, ⟨x26, y26⟩, ⟨x27, y27⟩, ⟨x28, y28⟩, ⟨x30, y30⟩, ⟨x31, y31⟩, ⟨x32, y32⟩⟩ := id hs
    refine eg_iload dX4_lose_182 rfl ?_
    refine eg_aload_n dX4_lose_184 rfl rfl ?_
    refine eg_getI gf_RX4_90 rfl (by assumption) dX4_lose_185 ?_
    refine eg_topi h8 ?_
    refine eg_icmp_ge 249 dX4_lose_188 (by decide) (fun c188 => ?_) (fun c188 => absurd (nI_le (by omega) (by omega)) c188)
    have e : s = len := by omega
    subst e
    exact kk M (fun j z1 z2 => absurd z2 (by omega)) (fun _ _ _ => rfl)
  | succ c ih =>
    intro s M h8 hf hst kk
    obtain ⟨k0, ⟨x5, y5⟩, ⟨x6, y6⟩, ⟨x7, y7⟩, ⟨x9, y9⟩, ⟨x10, y10⟩, ⟨x11, y11⟩, ⟨x13, y13⟩, ⟨x14, y14⟩, ⟨x18, y18⟩, ⟨x19, y19⟩, ⟨x20, y20⟩, ⟨x25, y25⟩, ⟨x26, y26⟩, ⟨x27, y27⟩, ⟨x28, y28⟩, ⟨x30, y30⟩, ⟨x31, y31⟩, ⟨x32, y32⟩⟩ := id hs
    have hf0 := hf s (by omega) (by omega)
    have hb0 := hb s (by omega)
    refine eg_iload dX4_lose_182 rfl ?_
    refine eg_aload_n dX4_lose_184 rfl rfl ?_
    refine eg_getI gf_RX4_90 rfl (by assumption) dX4_lose_185 ?_
    refine eg_topi h8 ?_
    refine eg_icmp_ge 249 dX4_lose_188 (by decide) (fun c188 => absurd c188 (nI_ge (by omega) (by omega))) (fun c188 => ?_)
    refine eg_aload_n dX4_lose_191 rfl rfl ?_
    refine eg_getR gf_RX4_35 rfl (by assumption) (by assumption) dX4_lose_192 ?_
    refine eg_iload dX4_lose_195 rfl ?_
    refine eg_dup2 dX4_lose_197 rfl rfl ?_
    refine eg_ialdN (by assumption) (by omega) (by decide) dX4_lose_198 ?_
    refine eg_topi hf0.1 ?_
    refine eg_aload_n dX4_lose_199 rfl rfl ?_
    refine eg_getR gf_RX4_35 rfl (by assumption) (by assumption) dX4_lose_200 ?_
    refine eg_iload dX4_lose_203 rfl ?_
    refine eg_ialdN (by assumption) (by omega) (by decide) dX4_lose_205 ?_
    refine eg_topi hf0.1 ?_
    refine eg_iload_n dX4_lose_206 rfl rfl ?_
    refine eg_icmp_le 214 dX4_lose_207 (by decide) (fun e1 => ?_) (fun e1 => ?_)
    · refine eg_iconst dX4_lose_214 (v := nI 0) (by decide) ?_
      refine eg_isub dX4_lose_215 ?_
      refine eg_topi (show nI (lf s) - nI 0 = nI (rn2 v (lf s)) by unfold rn2; rw [if_neg (fun q => absurd e1 (nI_ge q (by omega)))]; exact pk_sub (Nat.zero_le _)) ?_
      refine eg_iastN (by assumption) (by omega) (by decide) dX4_lose_216 ?_
      refine eg_aload_n dX4_lose_217 rfl rfl ?_
      refine eg_getR gf_RX4_38 rfl (by assumption) (by assumption) dX4_lose_218 ?_
      refine eg_iload dX4_lose_221 rfl ?_
      refine eg_dup2 dX4_lose_223 rfl rfl ?_
      refine eg_ialdN (by assumption) (by omega) (by decide) dX4_lose_224 ?_
      refine eg_topi (show _ = nI (rt s) by rw [eg_set_ne (by omega)]; exact hf0.2) ?_
      refine eg_aload_n dX4_lose_225 rfl rfl ?_
      refine eg_getR gf_RX4_38 rfl (by assumption) (by assumption) dX4_lose_226 ?_
      refine eg_iload dX4_lose_229 rfl ?_
      refine eg_ialdN (by assumption) (by omega) (by decide) dX4_lose_231 ?_
      refine eg_topi (show _ = nI (rt s) by rw [eg_set_ne (by omega)]; exact hf0.2) ?_
      refine eg_iload_n dX4_lose_232 rfl rfl ?_
      refine eg_icmp_le 240 dX4_lose_233 (by decide) (fun e2 => ?_) (fun e2 => ?_)
      · refine eg_iconst dX4_lose_240 (v := nI 0) (by decide) ?_
        refine eg_isub dX4_lose_241 ?_
        refine eg_topi (show nI (rt s) - nI 0 = nI (rn2 v (rt s)) by unfold rn2; rw [if_neg (fun q => absurd e2 (nI_ge q (by omega)))]; exact pk_sub (Nat.zero_le _)) ?_
        refine eg_iastN (by assumption) (by omega) (by decide) dX4_lose_242 ?_
        refine eg_iinc dX4_lose_243 (by decide) rfl (eg_inc s) rfl ?_
        refine eg_goto 182 dX4_lose_246 (by decide) ?_
        refine ih (s + 1) _ (by rw [eg_set_ne (by omega), eg_set_ne (by omega)]; exact h8) (fun j z1 z2 => ?_) (by omega) (fun M2 h2 h3 => ?_)
        · rw [eg_set_ne (by omega), eg_set_j (by omega), eg_set_j (by omega), eg_set_ne (by omega)]
          exact hf j (by omega) z2
        · refine kk M2 (fun j z1 z2 => ?_) (fun q j z => ?_)
          · by_cases e : j = s
            · subst e
              rw [h3 _ _ (by omega), h3 _ _ (by omega)]
              refine ⟨?_, ?_⟩
              · rw [eg_set_ne (by omega), eg_set_eq]
              · rw [eg_set_eq]
            · exact h2 j (by omega) z2
          · rw [h3 q j (by omega)]
            unfold eg_set
            rw [if_neg (by omega), if_neg (by omega)]
      · refine eg_iconst dX4_lose_236 (v := nI 1) (by decide) ?_
        refine eg_goto 241 dX4_lose_237 (by decide) ?_
        refine eg_isub dX4_lose_241 ?_
        have hgt : v < rt s := Nat.lt_of_not_le (fun q => e2 (nI_le q (by omega)))
        refine eg_topi (show nI (rt s) - nI 1 = nI (rn2 v (rt s)) by unfold rn2; rw [if_pos hgt]; exact pk_sub (by omega)) ?_
        refine eg_iastN (by assumption) (by omega) (by decide) dX4_lose_242 ?_
        refine eg_iinc dX4_lose_243 (by decide) rfl (eg_inc s) rfl ?_
        refine eg_goto 182 dX4_lose_246 (by decide) ?_
        refine ih (s + 1) _ (by rw [eg_set_ne (by omega), eg_set_ne (by omega)]; exact h8) (fun j z1 z2 => ?_) (by omega) (fun M2 h2 h3 => ?_)
        · rw [eg_set_ne (by omega), eg_set_j (by omega), eg_set_j (by omega), eg_set_ne (by omega)]
          exact hf j (by omega) z2
        · refine kk M2 (fun j z1 z2 => ?_) (fun q j z => ?_)
          · by_cases e : j = s
            · subst e
              rw [h3 _ _ (by omega), h3 _ _ (by omega)]
              refine ⟨?_, ?_⟩
              · rw [eg_set_ne (by omega), eg_set_eq]
              · rw [eg_set_eq]
            · exact h2 j (by omega) z2
          · rw [h3 q j (by omega)]
            unfold eg_set
            rw [if_neg (by omega), if_neg (by omega)]
    · refine eg_iconst dX4_lose_210 (v := nI 1) (by decide) ?_
      refine eg_goto 215 dX4_lose_211 (by decide) ?_
      refine eg_isub dX4_lose_215 ?_
      have hgt : v < lf s := Nat.lt_of_not_le (fun q => e1 (nI_le q (by omega)))
      refine eg_topi (show nI (lf s) - nI 1 = nI (rn2 v (lf s)) by unfold rn2; rw [if_pos hgt]; exact pk_sub (by omega)) ?_
      refine eg_iastN (by assumption) (by omega) (by decide) dX4_lose_216 ?_
      refine eg_aload_n dX4_lose_217 rfl rfl ?_
      refine eg_getR gf_RX4_38 rfl (by assumption) (by assumption) dX4_lose_218 ?_
      refine eg_iload dX4_lose_221 rfl ?_
      refine eg_dup2 dX4_lose_223 rfl rfl ?_
      refine eg_ialdN (by assumption) (by omega) (by decide) dX4_lose_224 ?_
      refine eg_topi (show _ = nI (rt s) by rw [eg_set_ne (by omega)]; exact hf0.2) ?_
      refine eg_aload_n dX4_lose_225 rfl rfl ?_
      refine eg_getR gf_RX4_38 rfl (by assumption) (by assumption) dX4_lose_226 ?_
      refine eg_iload dX4_lose_229 rfl ?_
      refine eg_ialdN (by assumption) (by omega) (by decide) dX4_lose_231 ?_
      refine eg_topi (show _ = nI (rt s) by rw [eg_set_ne (by omega)]; exact hf0.2) ?_
      refine eg_iload_n dX4_lose_232 rfl rfl ?_
      refine eg_icmp_le 240 dX4_lose_233 (by decide) (fun e2 => ?_) (fun e2 => ?_)
      · refine eg_iconst dX4_lose_240 (v := nI 0) (by decide) ?_
        refine eg_isub dX4_lose_241 ?_
        refine eg_topi (show nI (rt s) - nI 0 = nI (rn2 v (rt s)) by unfold rn2; rw [if_neg (fun q => absurd e2 (nI_ge q (by omega)))]; exact pk_sub (Nat.zero_le _)) ?_
        refine eg_iastN (by assumption) (by omega) (by decide) dX4_lose_242 ?_
        refine eg_iinc dX4_lose_243 (by decide) rfl (eg_inc s) rfl ?_
        refine eg_goto 182 dX4_lose_246 (by decide) ?_
        refine ih (s + 1) _ (by rw [eg_set_ne (by omega), eg_set_ne (by omega)]; exact h8) (fun j z1 z2 => ?_) (by omega) (fun M2 h2 h3 => ?_)
        · rw [eg_set_ne (by omega), eg_set_j (by omega), eg_set_j (by omega), eg_set_ne (by omega)]
          exact hf j (by omega) z2
        · refine kk M2 (fun j z1 z2 => ?_) (fun q j z => ?_)
          · by_cases e : j = s
            · subst e
              rw [h3 _ _ (by omega), h3 _ _ (by omega)]
              refine ⟨?_, ?_⟩
              · rw [eg_set_ne (by omega), eg_set_eq]
              · rw [eg_set_eq]
            · exact h2 j (by omega) z2
          · rw [h3 q j (by omega)]
            unfold eg_set
            rw [if_neg (by omega), if_neg (by omega)]
      · refine eg_iconst dX4_lose_236 (v := nI 1) (by decide) ?_
        refine eg_goto 241 dX4_lose_237 (by decide) ?_
        refine eg_isub dX4_lose_241 ?_
        have hgt : v < rt s := Nat.lt_of_not_le (fun q => e2 (nI_le q (by omega)))
        refine eg_topi (show nI (rt s) - nI 1 = nI (rn2 v (rt s)) by unfold rn2; rw [if_pos hgt]; exact pk_sub (by omega)) ?_
        refine eg_iastN (by assumption) (by omega) (by decide) dX4_lose_242 ?_
        refine eg_iinc dX4_lose_243 (by decide) rfl (eg_inc s) rfl ?_
        refine eg_goto 182 dX4_lose_246 (by decide) ?_
        refine ih (s + 1) _ (by rw [eg_set_ne (by omega), eg_set_ne (by omega)]; exact h8) (fun j z1 z2 => ?_) (by omega) (fun M2 h2 h3 => ?_)
        · rw [eg_set_ne (by omega), eg_set_j (by omega), eg_set_j (by omega), eg_set_ne (by omega)]
          exact hf j (by omega) z2
        · refine kk M2 (fun j z1 z2 => ?_) (fun q j z => ?_)
          · by_cases e : j = s
            · subst e
              rw [h3 _ _ (by omega), h3 _ _ (by omega)]
              refine ⟨?_, ?_⟩
              · rw [eg_set_ne (by omega), eg_set_eq]
              · rw [eg_set_eq]
            · exact h2 j (by omega) z2
          · rw [h3 q j (by omega)]
            unfold eg_set
            rw [if_neg (by omega), if_neg (by omega)]
set_option maxHeartbeats 2000000 in
theorem lp_X4_lose2 {l : Launch} {E : eg_E} {d kb nb : Nat} {Q : Option Value → eg_G → eg_I → Prop} {G : eg_G} {a len : Nat} {x1 x2 x3 : Int32} (hs : sh_M G a) (hl : len < 12) : ∀ (c s : Nat) (M : eg_I), M a 8 = nI len → s + c = len → (∀ M', (∀ q, a + 4 ≤ q → q < a + 7 → ∀ j, s ≤ j → j < len → M' q j = M q (j + 1)) → (∀ q j, ¬ (a + 4 ≤ q ∧ q < a + 7 ∧ s ≤ j) → M' q j = M q j) → eg_J l E mX4_lose d kb nb Q 179 [some (.ref a), some (.int x1), some (.int x2), some (.int x3), some (.int (nI len))] [] G M') → eg_J l E mX4_lose d kb nb Q 116 [some (.ref a), some (.int x1), some (.int x2), some (.int x3), some (.int (nI s))] [] G M := by
  intro c
  induction c with
  | zero =>
    intro s M h8 hst kk
    obtain ⟨k0, ⟨x5, y5⟩, ⟨x6, y6⟩, ⟨x7, y7⟩, ⟨x9, y9⟩, ⟨x10, y10⟩, ⟨x11, y11⟩, ⟨x13, y13⟩, ⟨x14, y14⟩, ⟨x18, y18⟩, ⟨x19, y19⟩, ⟨x20, y20⟩, ⟨x25, y25⟩, ⟨x26, y26⟩, ⟨x27, y27⟩, ⟨x28, y28⟩, ⟨x30, y30⟩, ⟨x31, y31⟩, ⟨x32, y32⟩⟩ := id hs
    refine eg_iload dX4_lose_116 rfl ?_
    refine eg_aload_n dX4_lose_118 rfl rfl ?_
    refine eg_getI gf_RX4_90 rfl (by assumption) dX4_lose_119 ?_
    refine eg_topi h8 ?_
    refine eg_icmp_ge 179 dX4_lose_122 (by decide) (fun c122 => ?_) (fun c122 => absurd (nI_le (by omega) (by omega)) c122)
    have e : s = len := by omega
    subst e
    exact kk M (fun q _ _ j z1 z2 => absurd z2 (by omega)) (fun _ _ _ => rfl)
  | succ c ih =>
    intro s M h8 hst kk
    obtain ⟨k0, ⟨x5, y5⟩, ⟨x6, y6⟩, ⟨x7, y7⟩, ⟨x9, y9⟩, ⟨x10, y10⟩, ⟨x11, y11⟩, ⟨x13, y13⟩, ⟨x14, y14⟩, ⟨x18, y18⟩, ⟨x19, y19⟩, ⟨x20, y20⟩, ⟨x25, y25⟩, ⟨x26, y26⟩, ⟨x27, y27⟩, ⟨x28, y28⟩, ⟨x30, y30⟩, ⟨x31, y31⟩, ⟨x32, y32⟩⟩ := id hs
    refine eg_iload dX4_lose_116 rfl ?_
    refine eg_aload_n dX4_lose_118 rfl rfl ?_
    refine eg_getI gf_RX4_90 rfl (by assumption) dX4_lose_119 ?_
    refine eg_topi h8 ?_
    refine eg_icmp_ge 179 dX4_lose_122 (by decide) (fun c122 => absurd c122 (nI_ge (by omega) (by omega))) (fun c122 => ?_)
    refine eg_aload_n dX4_lose_125 rfl rfl ?_
    refine eg_getR gf_RX4_32 rfl (by assumption) (by assumption) dX4_lose_126 ?_
    refine eg_iload dX4_lose_129 rfl ?_
    refine eg_aload_n dX4_lose_131 rfl rfl ?_
    refine eg_getR gf_RX4_32 rfl (by assumption) (by assumption) dX4_lose_132 ?_
    refine eg_iload dX4_lose_135 rfl ?_
    refine eg_iconst dX4_lose_137 (v := nI 1) (by decide) ?_
    refine eg_iadd dX4_lose_138 ?_
    refine eg_topi (nI_add s 1) ?_
    refine eg_ialdN (by assumption) (by omega) (by decide) dX4_lose_139 ?_
    refine eg_iastN (by assumption) (by omega) (by decide) dX4_lose_140 ?_
    refine eg_aload_n dX4_lose_141 rfl rfl ?_
    refine eg_getR gf_RX4_35 rfl (by assumption) (by assumption) dX4_lose_142 ?_
    refine eg_iload dX4_lose_145 rfl ?_
    refine eg_aload_n dX4_lose_147 rfl rfl ?_
    refine eg_getR gf_RX4_35 rfl (by assumption) (by assumption) dX4_lose_148 ?_
    refine eg_iload dX4_lose_151 rfl ?_
    refine eg_iconst dX4_lose_153 (v := nI 1) (by decide) ?_
    refine eg_iadd dX4_lose_154 ?_
    refine eg_topi (nI_add s 1) ?_
    refine eg_ialdN (by assumption) (by omega) (by decide) dX4_lose_155 ?_
    refine eg_topi (show _ = M (a + 5) (s + 1) by rw [eg_set_ne (by omega)]) ?_
    refine eg_iastN (by assumption) (by omega) (by decide) dX4_lose_156 ?_
    refine eg_aload_n dX4_lose_157 rfl rfl ?_
    refine eg_getR gf_RX4_38 rfl (by assumption) (by assumption) dX4_lose_158 ?_
    refine eg_iload dX4_lose_161 rfl ?_
    refine eg_aload_n dX4_lose_163 rfl rfl ?_
    refine eg_getR gf_RX4_38 rfl (by assumption) (by assumption) dX4_lose_164 ?_
    refine eg_iload dX4_lose_167 rfl ?_
    refine eg_iconst dX4_lose_169 (v := nI 1) (by decide) ?_
    refine eg_iadd dX4_lose_170 ?_
    refine eg_topi (nI_add s 1) ?_
    refine eg_ialdN (by assumption) (by omega) (by decide) dX4_lose_171 ?_
    refine eg_topi (show _ = M (a + 6) (s + 1) by rw [eg_set_ne (by omega), eg_set_ne (by omega)]) ?_
    refine eg_iastN (by assumption) (by omega) (by decide) dX4_lose_172 ?_
    refine eg_iinc dX4_lose_173 (by decide) rfl (eg_inc s) rfl ?_
    refine eg_goto 116 dX4_lose_176 (by decide) ?_
    generalize hM1 : eg_set (eg_set (eg_set M (a + 4) s (M (a + 4) (s + 1))) (a + 5) s (M (a + 5) (s + 1))) (a + 6) s (M (a + 6) (s + 1)) = M1
    have o1 : ∀ q j, j ≠ s → M1 q j = M q j := fun q j z => by rw [← hM1, eg_set_jj z, eg_set_jj z, eg_set_jj z]
    have o2 : ∀ q, ¬ (a + 4 ≤ q ∧ q < a + 7) → M1 q = M q := fun q z => by rw [← hM1, eg_set_ne (by omega), eg_set_ne (by omega), eg_set_ne (by omega)]
    have o3 : ∀ q, a + 4 ≤ q → q < a + 7 → M1 q s = M q (s + 1) := fun q z1 z2 => by
      rw [← hM1]
      have : q = a + 4 ∨ q = a + 5 ∨ q = a + 6 := by omega
      rcases this with rfl | rfl | rfl
      · rw [eg_set_ne (by omega), eg_set_ne (by omega), eg_set_eq]
      · rw [eg_set_ne (by omega), eg_set_eq]
      · rw [eg_set_eq]
    refine ih (s + 1) M1 (by rw [o2 _ (by omega)]; exact h8) (by omega) (fun M2 h2 h3 => ?_)
    refine kk M2 (fun q z1 z2 j z3 z4 => ?_) (fun q j z => ?_)
    · by_cases e : j = s
      · subst e
        rw [h3 _ _ (by omega), o3 q z1 z2]
      · rw [h2 q z1 z2 j (by omega) z4, o1 _ _ (by omega)]
    · rw [h3 q j (by omega)]
      by_cases e : a + 4 ≤ q ∧ q < a + 7
      · exact o1 _ _ (by omega)
      · rw [o2 q e]
set_option maxHeartbeats 2000000 in
theorem lp_X4_loseB {l : Launch} {E : eg_E} {d kb nb : Nat} {Q : Option Value → eg_G → eg_I → Prop} {G : eg_G} {M : eg_I} {a w n k len res j t : Nat} {cf : Nat → Int32} {op lf rt : Nat → Nat} {l4 : Option Value} (hd : 3 ≤ d) (hs : sh_M G a) (hcw : ∀ i, i < k → ∃ z, z < 2 ^ w ∧ cf i = nI z) (h : in_M M a w n k cf) (c4 : pg_ok (n + k) len op lf rt res) (hj : j < len) (ht : t < n + k + j) (h8 : M a 8 = nI (len - 1)) (h12 : M a 12 = nI (rn1 (n + k + j) t res)) (hp : ∀ i, i < len → M (a + 4) i = nI (op i) ∧ M (a + 5) i = nI (rn1 (n + k + j) t (lf i)) ∧ M (a + 6) i = nI (rn1 (n + k + j) t (rt i))) (hQ : ∀ M', rl_I M' a w n k cf (pg_rm (n + k) j t (len, op, lf, rt, res)) → (∀ q, q ≠ a → ¬ (a + 4 ≤ q ∧ q < a + 8) → M' q = M q) → (∀ i, i ≠ 12 → M' a i = M a i) → Q none G M') : eg_J l E mX4_lose d kb nb Q 113 [some (.ref a), some (.int (nI j)), some (.int (nI t)), some (.int (nI (n + k + j))), l4] [] G M := by
  obtain ⟨k0, ⟨x5, y5⟩, ⟨x6, y6⟩, ⟨x7, y7⟩, ⟨x9, y9⟩, ⟨x10, y10⟩, ⟨x11, y11⟩, ⟨x13, y13⟩, ⟨x14, y14⟩, ⟨x18, y18⟩, ⟨x19, y19⟩, ⟨x20, y20⟩, ⟨x25, y25⟩, ⟨x26, y26⟩, ⟨x27, y27⟩, ⟨x28, y28⟩, ⟨x30, y30⟩, ⟨x31, y31⟩, ⟨x32, y32⟩⟩ := id hs
  obtain ⟨m0, m1, m2, m3, m4, mc, hw1, hw4, hn1, hn2, hk4⟩ := id h
  have hA := wd_asg hw4 hn2
  obtain ⟨pl, pok2, pok3⟩ := id c4
  refine eg_iload_n dX4_lose_113 rfl rfl ?_
  refine eg_istore dX4_lose_114 (by decide) rfl ?_
  refine lp_X4_lose2 hs (show len - 1 < 12 by omega) (len - 1 - j) j M h8 (by omega) (fun M1 h1 h2 => ?_)
  refine eg_iconst dX4_lose_179 (v := nI 0) (by decide) ?_
  refine eg_istore dX4_lose_180 (by decide) rfl ?_
  refine lp_X4_lose3 (lf := (fun i => if i < j then rn1 (n + k + j) t (lf i) else rn1 (n + k + j) t (lf (i + 1)))) (rt := (fun i => if i < j then rn1 (n + k + j) t (rt i) else rn1 (n + k + j) t (rt (i + 1)))) (v := (n + k + j)) (t := t) hs (show len - 1 ≤ 12 by omega) (by omega) (by omega) (fun i hi => ?_) (len - 1) 0 M1 (by rw [h2 _ _ (by omega)]; exact h8) (fun i _ hi => ?_) (by omega) (fun M2 h3 h4 => ?_)
  · have q1 := pok2 i (by omega)
    have q2 := pok2 (i + 1) (by omega)
    refine ⟨?_, ?_⟩
    · split
      · exact rn1_lt (v := (n + k + j)) (N := 100) (t := t) (by omega) (by omega)
      · exact rn1_lt (v := (n + k + j)) (N := 100) (t := t) (by omega) (by omega)
    · split
      · exact rn1_lt (v := (n + k + j)) (N := 100) (t := t) (by omega) (by omega)
      · exact rn1_lt (v := (n + k + j)) (N := 100) (t := t) (by omega) (by omega)
  · by_cases e : i < j
    · rw [if_pos e, if_pos e, h2 _ _ (by omega), h2 _ _ (by omega)]
      exact (hp i (by omega)).2
    · rw [if_neg e, if_neg e, h1 _ (by omega) (by omega) i (by omega) hi, h1 _ (by omega) (by omega) i (by omega) hi]
      exact (hp (i + 1) (by omega)).2
  have ga : ∀ i, M2 a i = M a i := fun i => by rw [h4 _ _ (by omega), h2 _ _ (by omega)]
  have g12 : M2 a 12 = nI (rn1 (n + k + j) t res) := by rw [ga]; exact h12
  have hr1 : rn1 (n + k + j) t res < 100 := rn1_lt (v := (n + k + j)) (N := 100) (t := t) (by omega) (by omega)
  refine eg_aload_n dX4_lose_249 rfl rfl ?_
  refine eg_dup dX4_lose_250 rfl ?_
  refine eg_getI gf_RX4_105 rfl (by assumption) dX4_lose_251 ?_
  refine eg_topi g12 ?_
  refine eg_aload_n dX4_lose_254 rfl rfl ?_
  refine eg_getI gf_RX4_105 rfl (by assumption) dX4_lose_255 ?_
  refine eg_topi g12 ?_
  refine eg_iload_n dX4_lose_258 rfl rfl ?_
  refine eg_icmp_le 266 dX4_lose_259 (by decide) (fun e => ?_) (fun e => ?_)
  · refine eg_iconst dX4_lose_266 (v := nI 0) (by decide) ?_
    refine eg_isub dX4_lose_267 ?_
    refine eg_topi (show nI (rn1 (n + k + j) t res) - nI 0 = nI (rn res (n + k + j) t) by rw [← rn_21 (show t ≤ (n + k + j) by omega)]; unfold rn2; rw [if_neg (fun q => absurd e (nI_ge q (by omega)))]; exact pk_sub (Nat.zero_le _)) ?_
    refine eg_putI gp_RX4_105 (fun q => by cases q) rfl rfl rfl (by assumption) dX4_lose_268 ?_
    have ok1 := pg_rm_ok c4 (by omega) hj ht
    generalize hM3 : eg_set M2 a 12 (nI (rn res (n + k + j) t)) = M3
    have o3 : ∀ q, q ≠ a → M3 q = M2 q := fun q z => by rw [← hM3, eg_set_ne z]
    have f3 : ∀ i, i ≠ 12 → M3 a i = M a i := fun i z => by rw [← hM3, eg_set_j z, ga]
    have oq : ∀ q, q ≠ a → ¬ (a + 4 ≤ q ∧ q < a + 8) → M3 q = M q := fun q z1 z2 => by
      rw [o3 q z1]
      funext i
      rw [h4 _ _ (by omega), h2 _ _ (by omega)]
    have e1 : in_M M3 a w n k cf := h.eq (fun i hi => f3 i (by omega)) (oq _ (by omega) (by omega))
    have hr : in_Q M3 a (len - 1) (cut_at op j) (cut_rn lf j (n + k + j) t) (cut_rn rt j (n + k + j) t) (rn res (n + k + j) t) := by
      refine ⟨by rw [f3 _ (by decide)]; exact h8, by rw [← hM3, eg_set_eq], by omega, fun i hi => ?_⟩
      rw [o3 _ (by omega), o3 _ (by omega), o3 _ (by omega)]
      have g5 := h3 i (by omega) hi
      refine ⟨?_, ?_, ?_⟩
      · rw [h4 _ _ (by omega)]
        unfold cut_at
        by_cases e : i < j
        · rw [if_pos e, h2 _ _ (by omega)]; exact (hp i (by omega)).1
        · rw [if_neg e, h1 _ (by omega) (by omega) i (by omega) hi]; exact (hp (i + 1) (by omega)).1
      · rw [g5.1]
        exact congrArg nI (cut_21 (fun i hi => (pok2 i hi).2.1) hj ht hi)
      · rw [g5.2]
        exact congrArg nI (cut_21 (fun i hi => (pok2 i hi).2.2.1) hj ht hi)
    refine eg_aload_n dX4_lose_271 rfl rfl ?_
    refine eg_callV0 0 0 gk_X4_reckonAll gi_X4_reckonAll (by assumption) rfl gl_RX4_80 rfl (Nat.le_of_ble_eq_true rfl) (Nat.le_of_ble_eq_true rfl) (Nat.zero_le _) (Nat.zero_le _) (by omega) dX4_lose_272 ?_
    refine sp_X4_reckonAll (op := cut_at op j) (lf := cut_rn lf j (n + k + j) t) (rt := cut_rn rt j (n + k + j) t) (len := len - 1) (by omega) hs (by omega) (fun i hi => ⟨(ok1.2.1 i hi).1, (ok1.2.1 i hi).2.1, (ok1.2.1 i hi).2.2.1⟩) hcw e1 ⟨hr.1, hr.2.2.2⟩ (fun M4 h5 h6 => ?_)
    exact eg_vret rfl dX4_lose_275 (hQ M4 ⟨e1.eq (fun j _ => by rw [h6 _ (by omega)]) (h6 _ (by omega)), hr.eq (by rw [h6 _ (by omega)]) (by rw [h6 _ (by omega)]) (fun q q1 q2 => h6 q (by omega)), h5, ok1⟩ (fun q z1 z2 => by rw [h6 q (by omega), oq q z1 z2]) (fun i z => by rw [h6 _ (by omega), f3 i z]))
  · refine eg_iconst dX4_lose_262 (v := nI 1) (by decide) ?_
    refine eg_goto 267 dX4_lose_263 (by decide) ?_
    refine eg_isub dX4_lose_267 ?_
    have hgt : (n + k + j) < rn1 (n + k + j) t res := Nat.lt_of_not_le (fun q => e (nI_le q (by omega)))
    refine eg_topi (show nI (rn1 (n + k + j) t res) - nI 1 = nI (rn res (n + k + j) t) by rw [← rn_21 (show t ≤ (n + k + j) by omega)]; unfold rn2; rw [if_pos hgt]; exact pk_sub (by omega)) ?_
    refine eg_putI gp_RX4_105 (fun q => by cases q) rfl rfl rfl (by assumption) dX4_lose_268 ?_
    have ok1 := pg_rm_ok c4 (by omega) hj ht
    generalize hM3 : eg_set M2 a 12 (nI (rn res (n + k + j) t)) = M3
    have o3 : ∀ q, q ≠ a → M3 q = M2 q := fun q z => by rw [← hM3, eg_set_ne z]
    have f3 : ∀ i, i ≠ 12 → M3 a i = M a i := fun i z => by rw [← hM3, eg_set_j z, ga]
    have oq : ∀ q, q ≠ a → ¬ (a + 4 ≤ q ∧ q < a + 8) → M3 q = M q := fun q z1 z2 => by
      rw [o3 q z1]
      funext i
      rw [h4 _ _ (by omega), h2 _ _ (by omega)]
    have e1 : in_M M3 a w n k cf := h.eq (fun i hi => f3 i (by omega)) (oq _ (by omega) (by omega))
    have hr : in_Q M3 a (len - 1) (cut_at op j) (cut_rn lf j (n + k + j) t) (cut_rn rt j (n + k + j) t) (rn res (n + k + j) t) := by
      refine ⟨by rw [f3 _ (by decide)]; exact h8, by rw [← hM3, eg_set_eq], by omega, fun i hi => ?_⟩
      rw [o3 _ (by omega), o3 _ (by omega), o3 _ (by omega)]
      have g5 := h3 i (by omega) hi
      refine ⟨?_, ?_, ?_⟩
      · rw [h4 _ _ (by omega)]
        unfold cut_at
        by_cases e : i < j
        · rw [if_pos e, h2 _ _ (by omega)]; exact (hp i (by omega)).1
        · rw [if_neg e, h1 _ (by omega) (by omega) i (by omega) hi]; exact (hp (i + 1) (by omega)).1
      · rw [g5.1]
        exact congrArg nI (cut_21 (fun i hi => (pok2 i hi).2.1) hj ht hi)
      · rw [g5.2]
        exact congrArg nI (cut_21 (fun i hi => (pok2 i hi).2.2.1) hj ht hi)
    refine eg_aload_n dX4_lose_271 rfl rfl ?_
    refine eg_callV0 0 0 gk_X4_reckonAll gi_X4_reckonAll (by assumption) rfl gl_RX4_80 rfl (Nat.le_of_ble_eq_true rfl) (Nat.le_of_ble_eq_true rfl) (Nat.zero_le _) (Nat.zero_le _) (by omega) dX4_lose_272 ?_
    refine sp_X4_reckonAll (op := cut_at op j) (lf := cut_rn lf j (n + k + j) t) (rt := cut_rn rt j (n + k + j) t) (len := len - 1) (by omega) hs (by omega) (fun i hi => ⟨(ok1.2.1 i hi).1, (ok1.2.1 i hi).2.1, (ok1.2.1 i hi).2.2.1⟩) hcw e1 ⟨hr.1, hr.2.2.2⟩ (fun M4 h5 h6 => ?_)
    exact eg_vret rfl dX4_lose_275 (hQ M4 ⟨e1.eq (fun j _ => by rw [h6 _ (by omega)]) (h6 _ (by omega)), hr.eq (by rw [h6 _ (by omega)]) (by rw [h6 _ (by omega)]) (fun q q1 q2 => h6 q (by omega)), h5, ok1⟩ (fun q z1 z2 => by rw [h6 q (by omega), oq q z1 z2]) (fun i z => by rw [h6 _ (by omega), f3 i z]))
set_option maxHeartbeats 2000000 in
theorem sp_X4_lose {l : Launch} {E : eg_E} {d kb nb : Nat} {Q : Option Value → eg_G → eg_I → Prop} {G : eg_G} {M : eg_I} {a w n k : Nat} {cf : Nat → Int32} {p : pg_T} (hs : sh_M G a) (hcw : ∀ i, i < k → ∃ z, z < 2 ^ w ∧ cf i = nI z) (hI : rl_I M a w n k cf p) {j t : Nat} (hd : 3 ≤ d) (hj : j < p.1) (ht : t < n + k + j) (hQ : ∀ M', rl_I M' a w n k cf (pg_rm (n + k) j t p) → rl_F M M' a → Q none G M') : eg_J l E mX4_lose d kb nb Q 0 [some (.ref a), some (.int (nI j)), some (.int (nI t)), none, none] [] G M := by
  obtain ⟨k0, ⟨x5, y5⟩, ⟨x6, y6⟩, ⟨x7, y7⟩, ⟨x9, y9⟩, ⟨x10, y10⟩, ⟨x11, y11⟩, ⟨x13, y13⟩, ⟨x14, y14⟩, ⟨x18, y18⟩, ⟨x19, y19⟩, ⟨x20, y20⟩, ⟨x25, y25⟩, ⟨x26, y26⟩, ⟨x27, y27⟩, ⟨x28, y28⟩, ⟨x30, y30⟩, ⟨x31, y31⟩, ⟨x32, y32⟩⟩ := id hs
  obtain ⟨len, op, lf, rt, res⟩ := p
  obtain ⟨c1, c2, c3, c4⟩ := id hI
  replace c2 : in_Q M a len op lf rt res := c2
  replace c3 : ∀ u s, u < n + k + len → s < 2 ^ (w * n) → M (a + 7) (256 * u + s) = sv w n k cf op lf rt u s := c3
  replace c4 : pg_ok (n + k) len op lf rt res := c4
  obtain ⟨m0, m1, m2, m3, m4, mc, hw1, hw4, hn1, hn2, hk4⟩ := id c1
  obtain ⟨p3, p4, pl, pa⟩ := id c2
  obtain ⟨-, pok2, pok3⟩ := id c4
  have hA := wd_asg hw4 hn2
  replace hj : j < len := hj
  refine eg_aload_n dX4_lose_0 rfl rfl ?_
  refine eg_callV0 0 0 gk_X4_firsts gi_X4_firsts (by assumption) rfl gl_RX4_86 rfl (Nat.le_of_ble_eq_true rfl) (Nat.le_of_ble_eq_true rfl) (Nat.zero_le _) (Nat.zero_le _) (by omega) dX4_lose_1 ?_
  refine sp_X4_firsts k0 c1 ?_
  refine eg_iload_n dX4_lose_4 rfl rfl ?_
  refine eg_iadd dX4_lose_5 ?_
  refine eg_topi (nI_add (n + k) j) ?_
  refine eg_istore_n dX4_lose_6 rfl (by decide) rfl ?_
  refine eg_iconst dX4_lose_7 (v := nI 0) (by decide) ?_
  refine eg_istore dX4_lose_8 (by decide) rfl ?_
  refine lp_X4_lose1 (lf := lf) (rt := rt) (v := (n + k + j)) (t := t) hs pl (by omega) (by omega) (fun i hi => ⟨by have := (pok2 i hi).2.1; omega, by have := (pok2 i hi).2.2.1; omega⟩) len 0 M p3 (fun i _ hi => (pa i hi).2) (by omega) (fun M1 h1 h2 => ?_)
  refine eg_aload_n dX4_lose_83 rfl rfl ?_
  refine eg_aload_n dX4_lose_84 rfl rfl ?_
  refine eg_getI gf_RX4_105 rfl (by assumption) dX4_lose_85 ?_
  refine eg_topi (show M1 a 12 = nI res by rw [h2 _ _ (by omega)]; exact p4) ?_
  refine eg_iload_n dX4_lose_88 rfl rfl ?_
  refine eg_icmp_ne 96 dX4_lose_89 (by decide) (fun e => ?_) (fun e => ?_)
  · refine eg_aload_n dX4_lose_96 rfl rfl ?_
    refine eg_getI gf_RX4_105 rfl (by assumption) dX4_lose_97 ?_
    refine eg_topi (show M1 a 12 = nI res by rw [h2 _ _ (by omega)]; exact p4) ?_
    refine eg_topi (show nI res = nI (rn1 (n + k + j) t res) by unfold rn1; rw [if_neg (fun q => e (by rw [q]))]) ?_
    refine eg_putI gp_RX4_105 (fun q => by cases q) rfl rfl rfl (by assumption) dX4_lose_100 ?_
    refine eg_aload_n dX4_lose_103 rfl rfl ?_
    refine eg_dup dX4_lose_104 rfl ?_
    refine eg_getI gf_RX4_90 rfl (by assumption) dX4_lose_105 ?_
    refine eg_topi (show _ = nI len by rw [eg_set_j (by decide), h2 _ _ (by omega)]; exact p3) ?_
    refine eg_iconst dX4_lose_108 (v := nI 1) (by decide) ?_
    refine eg_isub dX4_lose_109 ?_
    refine eg_topi (show nI len - nI 1 = nI (len - 1) from pk_sub (by omega)) ?_
    refine eg_putI gp_RX4_90 (fun q => by cases q) rfl rfl rfl (by assumption) dX4_lose_110 ?_
    generalize hM2 : eg_set (eg_set M1 a 12 (nI (rn1 (n + k + j) t res))) a 8 (nI (len - 1)) = M2
    have o2 : ∀ q, q ≠ a → ¬ (q = a + 5 ∨ q = a + 6) → M2 q = M q := fun q z1 z2 => by
      rw [← hM2, eg_set_ne z1, eg_set_ne z1]
      funext i
      exact h2 _ _ (by omega)
    have f2 : ∀ i, i ≠ 8 → i ≠ 12 → M2 a i = M a i := fun i z1 z2 => by rw [← hM2, eg_set_j z1, eg_set_j z2, h2 _ _ (by omega)]
    have o5 : ∀ q, q ≠ a → M2 q = M1 q := fun q z1 => by rw [← hM2, eg_set_ne z1, eg_set_ne z1]
    refine lp_X4_loseB (op := op) (lf := lf) (rt := rt) (res := res) hd hs hcw (c1.eq (fun i hi => f2 i (by omega) (by omega)) (o2 _ (by omega) (by omega))) c4 hj ht (by rw [← hM2, eg_set_eq]) (by rw [← hM2, eg_set_j (by decide), eg_set_eq]) (fun i hi => ?_) (fun M3 e1 e2 e3 => hQ M3 e1 ⟨fun q z1 z2 => by rw [e2 q z1 z2, o2 q z1 (by omega)], fun i z1 z2 => by rw [e3 i z2, f2 i z1 z2]⟩)
    rw [o2 _ (by omega) (by omega), o5 _ (by omega), o5 _ (by omega)]
    exact ⟨(pa i hi).1, h1 i (by omega) hi⟩
  · refine eg_iload_n dX4_lose_92 rfl rfl ?_
    refine eg_goto 100 dX4_lose_93 (by decide) ?_
    refine eg_topi (show nI t = nI (rn1 (n + k + j) t res) by unfold rn1; rw [if_pos ((nI_eq (by omega) (by omega)).mp e)]) ?_
    refine eg_putI gp_RX4_105 (fun q => by cases q) rfl rfl rfl (by assumption) dX4_lose_100 ?_
    refine eg_aload_n dX4_lose_103 rfl rfl ?_
    refine eg_dup dX4_lose_104 rfl ?_
    refine eg_getI gf_RX4_90 rfl (by assumption) dX4_lose_105 ?_
    refine eg_topi (show _ = nI len by rw [eg_set_j (by decide), h2 _ _ (by omega)]; exact p3) ?_
    refine eg_iconst dX4_lose_108 (v := nI 1) (by decide) ?_
    refine eg_isub dX4_lose_109 ?_
    refine eg_topi (show nI len - nI 1 = nI (len - 1) from pk_sub (by omega)) ?_
    refine eg_putI gp_RX4_90 (fun q => by cases q) rfl rfl rfl (by assumption) dX4_lose_110 ?_
    generalize hM2 : eg_set (eg_set M1 a 12 (nI (rn1 (n + k + j) t res))) a 8 (nI (len - 1)) = M2
    have o2 : ∀ q, q ≠ a → ¬ (q = a + 5 ∨ q = a + 6) → M2 q = M q := fun q z1 z2 => by
      rw [← hM2, eg_set_ne z1, eg_set_ne z1]
      funext i
      exact h2 _ _ (by omega)
    have f2 : ∀ i, i ≠ 8 → i ≠ 12 → M2 a i = M a i := fun i z1 z2 => by rw [← hM2, eg_set_j z1, eg_set_j z2, h2 _ _ (by omega)]
    have o5 : ∀ q, q ≠ a → M2 q = M1 q := fun q z1 => by rw [← hM2, eg_set_ne z1, eg_set_ne z1]
    refine lp_X4_loseB (op := op) (lf := lf) (rt := rt) (res := res) hd hs hcw (c1.eq (fun i hi => f2 i (by omega) (by omega)) (o2 _ (by omega) (by omega))) c4 hj ht (by rw [← hM2, eg_set_eq]) (by rw [← hM2, eg_set_j (by decide), eg_set_eq]) (fun i hi => ?_) (fun M3 e1 e2 e3 => hQ M3 e1 ⟨fun q z1 z2 => by rw [e2 q z1 z2, o2 q z1 (by omega)], fun i z1 z2 => by rw [e3 i z2, f2 i z1 z2]⟩)
    rw [o2 _ (by omega) (by omega), o5 _ (by omega), o5 _ (by omega)]
    exact ⟨(pa i hi).1, h1 i (by omega) hi⟩
set_option maxHeartbeats 2000000 in
theorem lp_X4_loseTwin1 {l : Launch} {E : eg_E} {d kb nb : Nat} {Q : Option Value → eg_G → eg_I → Prop} {G : eg_G} {M : eg_I} {a w n k v : Nat} {cf : Nat → Int32} {x1 : Int32} (hd : 1 ≤ d) (hs : sh_M G a) (h : in_M M a w n k cf) (hv : v < 18) (kN : (∀ y, y < v → ¬ (∀ s, s < 2 ^ (w * n) → M (a + 7) (256 * v + s) = M (a + 7) (256 * y + s))) → eg_J l E mX4_loseTwin d kb nb Q 54 [some (.ref a), some (.int x1), some (.int (nI v)), some (.int (nI v))] [] G M) (kS : ∀ u, u < v → (∀ s, s < 2 ^ (w * n) → M (a + 7) (256 * v + s) = M (a + 7) (256 * u + s)) → (∀ y, y < u → ¬ (∀ s, s < 2 ^ (w * n) → M (a + 7) (256 * v + s) = M (a + 7) (256 * y + s))) → eg_J l E mX4_loseTwin d kb nb Q 40 [some (.ref a), some (.int x1), some (.int (nI v)), some (.int (nI u))] [] G M) : ∀ (c b : Nat), b + c = v → (∀ y, y < b → ¬ (∀ s, s < 2 ^ (w * n) → M (a + 7) (256 * v + s) = M (a + 7) (256 * y + s))) → eg_J l E mX4_loseTwin d kb nb Q 19 [some (.ref a), some (.int x1), some (.int (nI v)), some (.int (nI b))] [] G M := by
  intro c
  induction c with
  | zero =>
    intro b hbc hi
    obtain ⟨k0, ⟨x5, y5⟩, ⟨x6, y6⟩, ⟨x7, y7⟩, ⟨x9, y9⟩, ⟨x10, y10⟩, ⟨x11, y11⟩, ⟨x13, y13⟩, ⟨x14, y14⟩, ⟨x18, y18⟩, ⟨x19, y19⟩, ⟨x20, y20⟩, ⟨x25, y25⟩, ⟨x26, y26⟩, ⟨x27, y27⟩, ⟨x28, y28⟩, ⟨x30, y30⟩, ⟨x31, y31⟩, ⟨x32, y32⟩⟩ := id hs
    obtain ⟨m0, m1, m2, m3, m4, mc, hw1, hw4, hn1, hn2, hk4⟩ := id h
    have hA := wd_asg hw4 hn2
    refine eg_iload_n dX4_loseTwin_19 rfl rfl ?_
    refine eg_iload_n dX4_loseTwin_20 rfl rfl ?_
    refine eg_icmp_ge 54 dX4_loseTwin_21 (by decide) (fun c21 => ?_) (fun c21 => absurd (nI_le (by omega) (by omega)) c21)
    have e : b = v := by omega
    subst e
    exact kN hi
  | succ c ih =>
    intro b hbc hi
    obtain ⟨k0, ⟨x5, y5⟩, ⟨x6, y6⟩, ⟨x7, y7⟩, ⟨x9, y9⟩, ⟨x10, y10⟩, ⟨x11, y11⟩, ⟨x13, y13⟩, ⟨x14, y14⟩, ⟨x18, y18⟩, ⟨x19, y19⟩, ⟨x20, y20⟩, ⟨x25, y25⟩, ⟨x26, y26⟩, ⟨x27, y27⟩, ⟨x28, y28⟩, ⟨x30, y30⟩, ⟨x31, y31⟩, ⟨x32, y32⟩⟩ := id hs
    obtain ⟨m0, m1, m2, m3, m4, mc, hw1, hw4, hn1, hn2, hk4⟩ := id h
    have hA := wd_asg hw4 hn2
    refine eg_iload_n dX4_loseTwin_19 rfl rfl ?_
    refine eg_iload_n dX4_loseTwin_20 rfl rfl ?_
    refine eg_icmp_ge 54 dX4_loseTwin_21 (by decide) (fun c21 => absurd c21 (nI_ge (by omega) (by omega))) (fun c21 => ?_)
    refine eg_aload_n dX4_loseTwin_24 rfl rfl ?_
    refine eg_getR gf_RX4_41 rfl (by assumption) (by assumption) dX4_loseTwin_25 ?_
    refine eg_iload_n dX4_loseTwin_28 rfl rfl ?_
    refine eg_iload_n dX4_loseTwin_29 rfl rfl ?_
    refine eg_aload_n dX4_loseTwin_30 rfl rfl ?_
    refine eg_getI gf_RX4_19 rfl (by assumption) dX4_loseTwin_31 ?_
    refine eg_topi m3 ?_
    refine eg_callS4 0 0 gk_X4_isSame gi_X4_isSame gl_RX4_122 rfl (Nat.le_of_ble_eq_true rfl) (Nat.le_of_ble_eq_true rfl) (Nat.zero_le _) (Nat.zero_le _) (by omega) dX4_loseTwin_34 ?_
    refine sp_X4_isSame (u := v) (v := b) y13 hv (by omega) hA (fun hT => ?_) (fun hF => ?_)
    · refine eg_if_eq 48 dX4_loseTwin_37 (by decide) (fun z => absurd z (by decide)) (fun _ => ?_)
      exact kS b (by omega) hT hi
    · refine eg_if_eq 48 dX4_loseTwin_37 (by decide) (fun _ => ?_) (fun z => absurd (show nI 0 = 0 from rfl) z)
      refine eg_iinc dX4_loseTwin_48 (by decide) rfl (eg_inc b) rfl ?_
      refine eg_goto 19 dX4_loseTwin_51 (by decide) ?_
      refine ih (b + 1) (by omega) (fun y hy => ?_)
      by_cases e : y = b
      · subst e
        obtain ⟨s, z1, z2⟩ := hF
        exact fun q => z2 (q s z1)
      · exact hi y (by omega)
set_option maxHeartbeats 2000000 in
theorem lp_X4_loseTwin {l : Launch} {E : eg_E} {d kb nb : Nat} {Q : Option Value → eg_G → eg_I → Prop} {G : eg_G} {M : eg_I} {a w n k : Nat} {cf : Nat → Int32} {p : pg_T} (hs : sh_M G a) (hcw : ∀ i, i < k → ∃ z, z < 2 ^ w ∧ cf i = nI z) (hI : rl_I M a w n k cf p) (hd : 4 ≤ d) : ∀ (c j : Nat) (l2 l3 : Option Value), j + c = p.1 → (∀ q M', cl_rep (2 ^ (w * n)) (n + k) (sv w n k cf p.2.1 p.2.2.1 p.2.2.2.1) c j = some q → rl_I M' a w n k cf (pg_rm (n + k) q.1 q.2 p) → q.1 < p.1 → rl_F M M' a → Q (some (.int 1)) G M') → (cl_rep (2 ^ (w * n)) (n + k) (sv w n k cf p.2.1 p.2.2.1 p.2.2.2.1) c j = none → Q (some (.int 0)) G M) → eg_J l E mX4_loseTwin d kb nb Q 2 [some (.ref a), some (.int (nI j)), l2, l3] [] G M := by
  intro c
  induction c with
  | zero =>
    intro j l2 l3 hjt hT hN
    obtain ⟨k0, ⟨x5, y5⟩, ⟨x6, y6⟩, ⟨x7, y7⟩, ⟨x9, y9⟩, ⟨x10, y10⟩, ⟨x11, y11⟩, ⟨x13, y13⟩, ⟨x14, y14⟩, ⟨x18, y18⟩, ⟨x19, y19⟩, ⟨x20, y20⟩, ⟨x25, y25⟩, ⟨x26, y26⟩, ⟨x27, y27⟩, ⟨x28, y28⟩, ⟨x30, y30⟩, ⟨x31, y31⟩, ⟨x32, y32⟩⟩ := id hs
    obtain ⟨len, op, lf, rt, res⟩ := p
    obtain ⟨c1, c2, c3, c4⟩ := id hI
    replace c2 : in_Q M a len op lf rt res := c2
    replace c3 : ∀ u s, u < n + k + len → s < 2 ^ (w * n) → M (a + 7) (256 * u + s) = sv w n k cf op lf rt u s := c3
    replace c4 : pg_ok (n + k) len op lf rt res := c4
    obtain ⟨m0, m1, m2, m3, m4, mc, hw1, hw4, hn1, hn2, hk4⟩ := id c1
    obtain ⟨p3, p4, pl, pa⟩ := id c2
    obtain ⟨-, pok2, pok3⟩ := id c4
    have hA := wd_asg hw4 hn2
    replace hjt : j + 0 = len := hjt
    refine eg_iload_n dX4_loseTwin_2 rfl rfl ?_
    refine eg_aload_n dX4_loseTwin_3 rfl rfl ?_
    refine eg_getI gf_RX4_90 rfl (by assumption) dX4_loseTwin_4 ?_
    refine eg_topi p3 ?_
    refine eg_icmp_ge 60 dX4_loseTwin_7 (by decide) (fun c7 => ?_) (fun c7 => absurd (nI_le (by omega) (by omega)) c7)
    refine eg_iconst dX4_loseTwin_60 (v := nI 0) (by decide) ?_
    exact eg_zret rfl rfl dX4_loseTwin_61 (hN rfl)
  | succ c ih =>
    intro j l2 l3 hjt hT hN
    obtain ⟨k0, ⟨x5, y5⟩, ⟨x6, y6⟩, ⟨x7, y7⟩, ⟨x9, y9⟩, ⟨x10, y10⟩, ⟨x11, y11⟩, ⟨x13, y13⟩, ⟨x14, y14⟩, ⟨x18, y18⟩, ⟨x19, y19⟩, ⟨x20, y20⟩, ⟨x25, y25⟩, ⟨x26, y26⟩, ⟨x27, y27⟩, ⟨x28, y28⟩, ⟨x30, y30⟩, ⟨x31, y31⟩, ⟨x32, y32⟩⟩ := id hs
    obtain ⟨len, op, lf, rt, res⟩ := p
    obtain ⟨c1, c2, c3, c4⟩ := id hI
    replace c2 : in_Q M a len op lf rt res := c2
    replace c3 : ∀ u s, u < n + k + len → s < 2 ^ (w * n) → M (a + 7) (256 * u + s) = sv w n k cf op lf rt u s := c3
    replace c4 : pg_ok (n + k) len op lf rt res := c4
    obtain ⟨m0, m1, m2, m3, m4, mc, hw1, hw4, hn1, hn2, hk4⟩ := id c1
    obtain ⟨p3, p4, pl, pa⟩ := id c2
    obtain ⟨-, pok2, pok3⟩ := id c4
    have hA := wd_asg hw4 hn2
    replace hjt : j + (c + 1) = len := hjt
    refine eg_iload_n dX4_loseTwin_2 rfl rfl ?_
    refine eg_aload_n dX4_loseTwin_3 rfl rfl ?_
    refine eg_getI gf_RX4_90 rfl (by assumption) dX4_loseTwin_4 ?_
    refine eg_topi p3 ?_
    refine eg_icmp_ge 60 dX4_loseTwin_7 (by decide) (fun c7 => absurd c7 (nI_ge (by omega) (by omega))) (fun c7 => ?_)
    refine eg_aload_n dX4_loseTwin_10 rfl rfl ?_
    refine eg_callV0 0 0 gk_X4_firsts gi_X4_firsts (by assumption) rfl gl_RX4_86 rfl (Nat.le_of_ble_eq_true rfl) (Nat.le_of_ble_eq_true rfl) (Nat.zero_le _) (Nat.zero_le _) (by omega) dX4_loseTwin_11 ?_
    refine sp_X4_firsts k0 c1 ?_
    refine eg_iload_n dX4_loseTwin_14 rfl rfl ?_
    refine eg_iadd dX4_loseTwin_15 ?_
    refine eg_topi (nI_add (n + k) j) ?_
    refine eg_istore_n dX4_loseTwin_16 rfl (by decide) rfl ?_
    refine eg_iconst dX4_loseTwin_17 (v := nI 0) (by decide) ?_
    refine eg_istore_n dX4_loseTwin_18 rfl (by decide) rfl ?_
    refine lp_X4_loseTwin1 (v := n + k + j) (by omega) hs c1 (by omega) (fun z1 => ?_) (fun v z1 z2 z3 => ?_) (n + k + j) 0 (by omega) (fun y hy => absurd hy (by omega))
    · have en : cl_tw (2 ^ (w * n)) (n + k) (sv w n k cf op lf rt) j = none := lst_none (fun u _ h2 q => z1 u (by omega) (fun s y => by
        rw [c3 u s (by omega) y, c3 _ s (by omega) y]
        exact (q s y).symm))
      have er : cl_rep (2 ^ (w * n)) (n + k) (sv w n k cf op lf rt) (c + 1) j = cl_rep (2 ^ (w * n)) (n + k) (sv w n k cf op lf rt) c (j + 1) := by
        rw [cl_rep, en]
      refine eg_iinc dX4_loseTwin_54 (by decide) rfl (eg_inc j) rfl ?_
      refine eg_goto 2 dX4_loseTwin_57 (by decide) ?_
      exact ih (j + 1) _ _ (by show j + 1 + c = len; omega) (fun q M2 y1 => hT q M2 (er.trans y1)) (fun y => hN (er.trans y))
    · have en : cl_tw (2 ^ (w * n)) (n + k) (sv w n k cf op lf rt) j = some v := lst_some (by omega) (by omega) (fun s y => by
        have := z2 s y
        rw [c3 v s (by omega) y, c3 _ s (by omega) y] at this
        exact this.symm) (fun u _ h2 q => z3 u h2 (fun s y => by
        rw [c3 u s (by omega) y, c3 _ s (by omega) y]
        exact (q s y).symm))
      have er : cl_rep (2 ^ (w * n)) (n + k) (sv w n k cf op lf rt) (c + 1) j = some (j, v) := by
        rw [cl_rep, en]
      refine eg_aload_n dX4_loseTwin_40 rfl rfl ?_
      refine eg_iload_n dX4_loseTwin_41 rfl rfl ?_
      refine eg_iload_n dX4_loseTwin_42 rfl rfl ?_
      refine eg_callV2 0 0 gk_X4_lose gi_X4_lose k0 rfl gl_RX4_126 rfl (Nat.le_of_ble_eq_true rfl) (Nat.le_of_ble_eq_true rfl) (Nat.zero_le _) (Nat.zero_le _) (by omega) dX4_loseTwin_43 ?_
      refine sp_X4_lose hs hcw hI (by omega) (show j < len by omega) (by omega) (fun M2 h2 h3 => ?_)
      refine eg_iconst dX4_loseTwin_46 (v := nI 1) (by decide) ?_
      exact eg_zret rfl rfl dX4_loseTwin_47 (hT (j, v) M2 er h2 (show j < len by omega) h3)
set_option maxHeartbeats 2000000 in
theorem sp_X4_loseTwin {l : Launch} {E : eg_E} {d kb nb : Nat} {Q : Option Value → eg_G → eg_I → Prop} {G : eg_G} {M : eg_I} {a w n k : Nat} {cf : Nat → Int32} {p : pg_T} (hs : sh_M G a) (hcw : ∀ i, i < k → ∃ z, z < 2 ^ w ∧ cf i = nI z) (hI : rl_I M a w n k cf p) (hd : 4 ≤ d) (hT : (∀ q M', cl_rep (2 ^ (w * n)) (n + k) (sv w n k cf p.2.1 p.2.2.1 p.2.2.2.1) p.1 0 = some q → rl_I M' a w n k cf (pg_rm (n + k) q.1 q.2 p) → q.1 < p.1 → rl_F M M' a → Q (some (.int 1)) G M')) (hN : (cl_rep (2 ^ (w * n)) (n + k) (sv w n k cf p.2.1 p.2.2.1 p.2.2.2.1) p.1 0 = none → Q (some (.int 0)) G M)) : eg_J l E mX4_loseTwin d kb nb Q 0 [some (.ref a), none, none, none] [] G M := by
  refine eg_iconst dX4_loseTwin_0 (v := nI 0) (by decide) ?_
  refine eg_istore_n dX4_loseTwin_1 rfl (by decide) rfl ?_
  exact lp_X4_loseTwin hs hcw hI hd p.1 0 _ _ (by omega) hT hN
set_option maxHeartbeats 2000000 in
theorem lp_X4_loseIdle {l : Launch} {E : eg_E} {d kb nb : Nat} {Q : Option Value → eg_G → eg_I → Prop} {G : eg_G} {M : eg_I} {a w n k : Nat} {cf : Nat → Int32} {p : pg_T} (hs : sh_M G a) (hcw : ∀ i, i < k → ∃ z, z < 2 ^ w ∧ cf i = nI z) (hI : rl_I M a w n k cf p) (hd : 4 ≤ d) : ∀ (c : Nat) (x : Int32) (l3 : Option Value), c ≤ p.1 → (∀ v, v < 18 → (x.toBitVec.getLsbD v = true ↔ (p.2.2.2.2 = v ∨ ∃ i, c ≤ i ∧ i < p.1 ∧ (p.2.2.1 i = v ∨ (p.2.2.2.1 i = v ∧ ¬ (p.2.1 i = 0 ∨ p.2.1 i = 1)))))) → (∀ j M', cl_id (n + k) p.1 p.2.2.1 p.2.2.2.1 p.2.2.2.2 c = some j → rl_I M' a w n k cf (pg_rm (n + k) j 0 p) → j < p.1 → rl_F M M' a → Q (some (.int 1)) G M') → (cl_id (n + k) p.1 p.2.2.1 p.2.2.2.1 p.2.2.2.2 c = none → Q (some (.int 0)) G M) → eg_J l E mX4_loseIdle d kb nb Q 14 [some (.ref a), some (.int x), some (.int (nI c - nI 1)), l3] [] G M := by
  intro c
  induction c with
  | zero =>
    intro x l3 hcl hx hT hN
    obtain ⟨k0, ⟨x5, y5⟩, ⟨x6, y6⟩, ⟨x7, y7⟩, ⟨x9, y9⟩, ⟨x10, y10⟩, ⟨x11, y11⟩, ⟨x13, y13⟩, ⟨x14, y14⟩, ⟨x18, y18⟩, ⟨x19, y19⟩, ⟨x20, y20⟩, ⟨x25, y25⟩, ⟨x26, y26⟩, ⟨x27, y27⟩, ⟨x28, y28⟩, ⟨x30, y30⟩, ⟨x31, y31⟩, ⟨x32, y32⟩⟩ := id hs
    obtain ⟨len, op, lf, rt, res⟩ := p
    obtain ⟨c1, c2, c3, c4⟩ := id hI
    replace c2 : in_Q M a len op lf rt res := c2
    replace c3 : ∀ u s, u < n + k + len → s < 2 ^ (w * n) → M (a + 7) (256 * u + s) = sv w n k cf op lf rt u s := c3
    replace c4 : pg_ok (n + k) len op lf rt res := c4
    obtain ⟨m0, m1, m2, m3, m4, mc, hw1, hw4, hn1, hn2, hk4⟩ := id c1
    obtain ⟨p3, p4, pl, pa⟩ := id c2
    obtain ⟨-, pok2, pok3⟩ := id c4
    have hA := wd_asg hw4 hn2
    refine eg_iload_n dX4_loseIdle_14 rfl rfl ?_
    refine eg_if_lt 88 dX4_loseIdle_15 (by decide) (fun c15 => ?_) (fun c15 => absurd (show nI 0 - nI 1 < 0 by decide) c15)
    refine eg_iconst dX4_loseIdle_88 (v := nI 0) (by decide) ?_
    exact eg_zret rfl rfl dX4_loseIdle_89 (hN rfl)
  | succ c ih =>
    intro x l3 hcl hx hT hN
    obtain ⟨k0, ⟨x5, y5⟩, ⟨x6, y6⟩, ⟨x7, y7⟩, ⟨x9, y9⟩, ⟨x10, y10⟩, ⟨x11, y11⟩, ⟨x13, y13⟩, ⟨x14, y14⟩, ⟨x18, y18⟩, ⟨x19, y19⟩, ⟨x20, y20⟩, ⟨x25, y25⟩, ⟨x26, y26⟩, ⟨x27, y27⟩, ⟨x28, y28⟩, ⟨x30, y30⟩, ⟨x31, y31⟩, ⟨x32, y32⟩⟩ := id hs
    obtain ⟨len, op, lf, rt, res⟩ := p
    obtain ⟨c1, c2, c3, c4⟩ := id hI
    replace c2 : in_Q M a len op lf rt res := c2
    replace c3 : ∀ u s, u < n + k + len → s < 2 ^ (w * n) → M (a + 7) (256 * u + s) = sv w n k cf op lf rt u s := c3
    replace c4 : pg_ok (n + k) len op lf rt res := c4
    obtain ⟨m0, m1, m2, m3, m4, mc, hw1, hw4, hn1, hn2, hk4⟩ := id c1
    obtain ⟨p3, p4, pl, pa⟩ := id c2
    obtain ⟨-, pok2, pok3⟩ := id c4
    have hA := wd_asg hw4 hn2
    replace hcl : c + 1 ≤ len := hcl
    replace hx : (∀ v, v < 18 → (x.toBitVec.getLsbD v = true ↔ (res = v ∨ ∃ i, (c + 1) ≤ i ∧ i < len ∧ (lf i = v ∨ (rt i = v ∧ ¬ (op i = 0 ∨ op i = 1)))))) := hx
    have hpc := pok2 c (by omega)
    rw [show nI (c + 1) - nI 1 = nI c from pk_sub (by omega)]
    refine eg_iload_n dX4_loseIdle_14 rfl rfl ?_
    refine eg_if_lt 88 dX4_loseIdle_15 (by decide) (fun c15 => absurd c15 (nI_pos (by omega))) (fun c15 => ?_)
    refine eg_aload_n dX4_loseIdle_18 rfl rfl ?_
    refine eg_callV0 0 0 gk_X4_firsts gi_X4_firsts (by assumption) rfl gl_RX4_86 rfl (Nat.le_of_ble_eq_true rfl) (Nat.le_of_ble_eq_true rfl) (Nat.zero_le _) (Nat.zero_le _) (by omega) dX4_loseIdle_19 ?_
    refine sp_X4_firsts k0 c1 ?_
    refine eg_iload_n dX4_loseIdle_22 rfl rfl ?_
    refine eg_iadd dX4_loseIdle_23 ?_
    refine eg_topi (nI_add (n + k) c) ?_
    refine eg_istore_n dX4_loseIdle_24 rfl (by decide) rfl ?_
    refine eg_iload_n dX4_loseIdle_25 rfl rfl ?_
    refine eg_iload_n dX4_loseIdle_26 rfl rfl ?_
    refine eg_ishr dX4_loseIdle_27 ?_
    refine eg_iconst dX4_loseIdle_28 (v := nI 1) (by decide) ?_
    refine eg_iand dX4_loseIdle_29 ?_
    have hus : cl_us (n + k) len lf rt res c ↔ x.toBitVec.getLsbD (n + k + c) = true := by
      rw [hx _ (by omega)]
      unfold cl_us
      constructor
      · rintro (z | ⟨i, z1, z2, z3 | z3⟩)
        · exact Or.inl z
        · exact Or.inr ⟨i, by omega, z1, Or.inl z3⟩
        · refine Or.inr ⟨i, by omega, z1, Or.inr ⟨z3, fun q => ?_⟩⟩
          have := (pok2 i z1).2.2.2 q
          omega
      · rintro (z | ⟨i, z1, z2, z3 | z3⟩)
        · exact Or.inl z
        · exact Or.inr ⟨i, z2, by omega, Or.inl z3⟩
        · exact Or.inr ⟨i, z2, by omega, Or.inr z3.1⟩
    refine eg_if_ne 41 dX4_loseIdle_30 (by decide) (fun e0 => ?_) (fun e0 => ?_)
    · have c1' : x.toBitVec.getLsbD (n + k + c) = true := by
        cases hz : x.toBitVec.getLsbD (n + k + c) with
        | true => rfl
        | false => exact absurd ((hb_bit (by omega)).mpr hz) e0
      have er := cl_id_us (hus.mpr c1')
      refine eg_iload_n dX4_loseIdle_41 rfl rfl ?_
      refine eg_iconst dX4_loseIdle_42 (v := nI 1) (by decide) ?_
      refine eg_aload_n dX4_loseIdle_43 rfl rfl ?_
      refine eg_getR gf_RX4_35 rfl (by assumption) (by assumption) dX4_loseIdle_44 ?_
      refine eg_iload_n dX4_loseIdle_47 rfl rfl ?_
      refine eg_ialdN (by assumption) (by omega) (by decide) dX4_loseIdle_48 ?_
      refine eg_topi (pa c (by omega)).2.1 ?_
      refine eg_ishl dX4_loseIdle_49 ?_
      refine eg_ior dX4_loseIdle_50 ?_
      refine eg_istore_n dX4_loseIdle_51 rfl (by decide) rfl ?_
      refine eg_aload_n dX4_loseIdle_52 rfl rfl ?_
      refine eg_getR gf_RX4_32 rfl (by assumption) (by assumption) dX4_loseIdle_53 ?_
      refine eg_iload_n dX4_loseIdle_56 rfl rfl ?_
      refine eg_ialdN (by assumption) (by omega) (by decide) dX4_loseIdle_57 ?_
      refine eg_topi (pa c (by omega)).1 ?_
      refine eg_if_eq 82 dX4_loseIdle_58 (by decide) (fun e1 => ?_) (fun e1 => ?_)
      · have hop : op c = 0 ∨ op c = 1 := Or.inl ((nI_eq (b := 0) (by omega) (by omega)).mp e1)
        refine eg_iinc dX4_loseIdle_82 (by decide) rfl (eg_dec1 c) rfl ?_
        refine eg_goto 14 dX4_loseIdle_85 (by decide) ?_
        refine ih _ _ (show c ≤ len by omega) (fun v hv => ?_) (fun j M2 y1 => hT j M2 (er.trans y1)) (fun y => hN (er.trans y))
        show (x ||| (nI 1 <<< (nI (lf c) &&& 31))).toBitVec.getLsbD v = true ↔ (res = v ∨ ∃ i, c ≤ i ∧ i < len ∧ (lf i = v ∨ (rt i = v ∧ ¬ (op i = 0 ∨ op i = 1))))
        rw [hb_set (by omega) hv, hx v hv]
        constructor
        · rintro ((z | ⟨i, z1, z2, z3⟩) | z)
          · exact Or.inl z
          · exact Or.inr ⟨i, by omega, z2, z3⟩
          · exact Or.inr ⟨c, by omega, by omega, Or.inl z.symm⟩
        · rintro (z | ⟨i, z1, z2, z3⟩)
          · exact Or.inl (Or.inl z)
          · by_cases e : i = c
            · subst e
              exact Or.inr (z3.elim (fun z => z.symm) (fun z => absurd hop z.2))
            · exact Or.inl (Or.inr ⟨i, by omega, z2, z3⟩)
      · refine eg_aload_n dX4_loseIdle_61 rfl rfl ?_
        refine eg_getR gf_RX4_32 rfl (by assumption) (by assumption) dX4_loseIdle_62 ?_
        refine eg_iload_n dX4_loseIdle_65 rfl rfl ?_
        refine eg_ialdN (by assumption) (by omega) (by decide) dX4_loseIdle_66 ?_
        refine eg_topi (pa c (by omega)).1 ?_
        refine eg_iconst dX4_loseIdle_67 (v := nI 1) (by decide) ?_
        refine eg_icmp_eq 82 dX4_loseIdle_68 (by decide) (fun e2 => ?_) (fun e2 => ?_)
        · have hop : op c = 0 ∨ op c = 1 := Or.inr ((nI_eq (b := 1) (by omega) (by omega)).mp e2)
          refine eg_iinc dX4_loseIdle_82 (by decide) rfl (eg_dec1 c) rfl ?_
          refine eg_goto 14 dX4_loseIdle_85 (by decide) ?_
          refine ih _ _ (show c ≤ len by omega) (fun v hv => ?_) (fun j M2 y1 => hT j M2 (er.trans y1)) (fun y => hN (er.trans y))
          show (x ||| (nI 1 <<< (nI (lf c) &&& 31))).toBitVec.getLsbD v = true ↔ (res = v ∨ ∃ i, c ≤ i ∧ i < len ∧ (lf i = v ∨ (rt i = v ∧ ¬ (op i = 0 ∨ op i = 1))))
          rw [hb_set (by omega) hv, hx v hv]
          constructor
          · rintro ((z | ⟨i, z1, z2, z3⟩) | z)
            · exact Or.inl z
            · exact Or.inr ⟨i, by omega, z2, z3⟩
            · exact Or.inr ⟨c, by omega, by omega, Or.inl z.symm⟩
          · rintro (z | ⟨i, z1, z2, z3⟩)
            · exact Or.inl (Or.inl z)
            · by_cases e : i = c
              · subst e
                exact Or.inr (z3.elim (fun z => z.symm) (fun z => absurd hop z.2))
              · exact Or.inl (Or.inr ⟨i, by omega, z2, z3⟩)
        · have hop : ¬ (op c = 0 ∨ op c = 1) := fun q => q.elim (fun q => e1 (by rw [q]; rfl)) (fun q => e2 (by rw [q]))
          refine eg_iload_n dX4_loseIdle_71 rfl rfl ?_
          refine eg_iconst dX4_loseIdle_72 (v := nI 1) (by decide) ?_
          refine eg_aload_n dX4_loseIdle_73 rfl rfl ?_
          refine eg_getR gf_RX4_38 rfl (by assumption) (by assumption) dX4_loseIdle_74 ?_
          refine eg_iload_n dX4_loseIdle_77 rfl rfl ?_
          refine eg_ialdN (by assumption) (by omega) (by decide) dX4_loseIdle_78 ?_
          refine eg_topi (pa c (by omega)).2.2 ?_
          refine eg_ishl dX4_loseIdle_79 ?_
          refine eg_ior dX4_loseIdle_80 ?_
          refine eg_istore_n dX4_loseIdle_81 rfl (by decide) rfl ?_
          refine eg_iinc dX4_loseIdle_82 (by decide) rfl (eg_dec1 c) rfl ?_
          refine eg_goto 14 dX4_loseIdle_85 (by decide) ?_
          refine ih _ _ (show c ≤ len by omega) (fun v hv => ?_) (fun j M2 y1 => hT j M2 (er.trans y1)) (fun y => hN (er.trans y))
          show (x ||| (nI 1 <<< (nI (lf c) &&& 31)) ||| (nI 1 <<< (nI (rt c) &&& 31))).toBitVec.getLsbD v = true ↔ (res = v ∨ ∃ i, c ≤ i ∧ i < len ∧ (lf i = v ∨ (rt i = v ∧ ¬ (op i = 0 ∨ op i = 1))))
          rw [hb_set (by omega) hv, hb_set (by omega) hv, hx v hv]
          constructor
          · rintro (((z | ⟨i, z1, z2, z3⟩) | z) | z)
            · exact Or.inl z
            · exact Or.inr ⟨i, by omega, z2, z3⟩
            · exact Or.inr ⟨c, by omega, by omega, Or.inl z.symm⟩
            · exact Or.inr ⟨c, by omega, by omega, Or.inr ⟨z.symm, hop⟩⟩
          · rintro (z | ⟨i, z1, z2, z3⟩)
            · exact Or.inl (Or.inl (Or.inl z))
            · by_cases e : i = c
              · subst e
                exact z3.elim (fun z => Or.inl (Or.inr z.symm)) (fun z => Or.inr z.1.symm)
              · exact Or.inl (Or.inl (Or.inr ⟨i, by omega, z2, z3⟩))
    · have er := cl_id_no (g := n + k) (fun z => absurd ((hus.mp z).symm.trans ((hb_bit (by omega)).mp e0)) (by decide))
      refine eg_aload_n dX4_loseIdle_33 rfl rfl ?_
      refine eg_iload_n dX4_loseIdle_34 rfl rfl ?_
      refine eg_iconst dX4_loseIdle_35 (v := nI 0) (by decide) ?_
      refine eg_callV2 0 0 gk_X4_lose gi_X4_lose (by assumption) rfl gl_RX4_126 rfl (Nat.le_of_ble_eq_true rfl) (Nat.le_of_ble_eq_true rfl) (Nat.zero_le _) (Nat.zero_le _) (by omega) dX4_loseIdle_36 ?_
      refine sp_X4_lose hs hcw hI (by omega) (show c < len by omega) (by omega) (fun M2 h2 h3 => ?_)
      refine eg_iconst dX4_loseIdle_39 (v := nI 1) (by decide) ?_
      exact eg_zret rfl rfl dX4_loseIdle_40 (hT c M2 er h2 (show c < len by omega) h3)
set_option maxHeartbeats 2000000 in
theorem sp_X4_loseIdle {l : Launch} {E : eg_E} {d kb nb : Nat} {Q : Option Value → eg_G → eg_I → Prop} {G : eg_G} {M : eg_I} {a w n k : Nat} {cf : Nat → Int32} {p : pg_T} (hs : sh_M G a) (hcw : ∀ i, i < k → ∃ z, z < 2 ^ w ∧ cf i = nI z) (hI : rl_I M a w n k cf p) (hd : 4 ≤ d) (hT : (∀ j M', cl_id (n + k) p.1 p.2.2.1 p.2.2.2.1 p.2.2.2.2 p.1 = some j → rl_I M' a w n k cf (pg_rm (n + k) j 0 p) → j < p.1 → rl_F M M' a → Q (some (.int 1)) G M')) (hN : (cl_id (n + k) p.1 p.2.2.1 p.2.2.2.1 p.2.2.2.2 p.1 = none → Q (some (.int 0)) G M)) : eg_J l E mX4_loseIdle d kb nb Q 0 [some (.ref a), none, none, none] [] G M := by
  obtain ⟨k0, ⟨x5, y5⟩, ⟨x6, y6⟩, ⟨x7, y7⟩, ⟨x9, y9⟩, ⟨x10, y10⟩, ⟨x11, y11⟩, ⟨x13, y13⟩, ⟨x14, y14⟩, ⟨x18, y18⟩, ⟨x19, y19⟩, ⟨x20, y20⟩, ⟨x25, y25⟩, ⟨x26, y26⟩, ⟨x27, y27⟩, ⟨x28, y28⟩, ⟨x30, y30⟩, ⟨x31, y31⟩, ⟨x32, y32⟩⟩ := id hs
  obtain ⟨len, op, lf, rt, res⟩ := p
  obtain ⟨c1, c2, c3, c4⟩ := id hI
  replace c2 : in_Q M a len op lf rt res := c2
  replace c3 : ∀ u s, u < n + k + len → s < 2 ^ (w * n) → M (a + 7) (256 * u + s) = sv w n k cf op lf rt u s := c3
  replace c4 : pg_ok (n + k) len op lf rt res := c4
  obtain ⟨m0, m1, m2, m3, m4, mc, hw1, hw4, hn1, hn2, hk4⟩ := id c1
  obtain ⟨p3, p4, pl, pa⟩ := id c2
  obtain ⟨-, pok2, pok3⟩ := id c4
  have hA := wd_asg hw4 hn2
  refine eg_iconst dX4_loseIdle_0 (v := nI 1) (by decide) ?_
  refine eg_aload_n dX4_loseIdle_1 rfl rfl ?_
  refine eg_getI gf_RX4_105 rfl (by assumption) dX4_loseIdle_2 ?_
  refine eg_topi p4 ?_
  refine eg_ishl dX4_loseIdle_5 ?_
  refine eg_istore_n dX4_loseIdle_6 rfl (by decide) rfl ?_
  refine eg_aload_n dX4_loseIdle_7 rfl rfl ?_
  refine eg_getI gf_RX4_90 rfl (by assumption) dX4_loseIdle_8 ?_
  refine eg_topi p3 ?_
  refine eg_iconst dX4_loseIdle_11 (v := nI 1) (by decide) ?_
  refine eg_isub dX4_loseIdle_12 ?_
  refine eg_istore_n dX4_loseIdle_13 rfl (by decide) rfl ?_
  refine lp_X4_loseIdle hs hcw hI hd len _ _ (Nat.le_refl _) (fun v hv => ?_) hT hN
  show (nI 1 <<< (nI res &&& 31)).toBitVec.getLsbD v = true ↔ _
  rw [hb_one res (by omega) v hv, decide_eq_true_iff]
  constructor
  · exact fun z => Or.inl z.symm
  · rintro (z | ⟨i, z1, z2, _⟩)
    · exact z.symm
    · exact absurd z1 (Nat.not_le.mpr z2)
set_option maxHeartbeats 2000000 in
theorem lp_X4_clean {l : Launch} {E : eg_E} {d kb nb : Nat} {Q : Option Value → eg_G → eg_I → Prop} {G : eg_G} {a w n k len0 : Nat} {cf : Nat → Int32} {M0 : eg_I} (hs : sh_M G a) (hcw : ∀ i, i < k → ∃ z, z < 2 ^ w ∧ cf i = nI z) (hd : 5 ≤ d) (hlen : len0 ≤ 12) : ∀ (c : Nat) (p : pg_T) (M : eg_I), p.1 = c → p.1 ≤ len0 → rl_I M a w n k cf p → rl_F M0 M a → (∀ M', rl_I M' a w n k cf (cl_all w n k cf c p) → rl_F M0 M' a → (cl_all w n k cf c p).1 ≤ len0 → Q (some (.int (nI (len0 - (cl_all w n k cf c p).1)))) G M') → eg_J l E mX4_clean d kb nb Q 7 [some (.ref a), some (.int (nI len0)), some (.int (nI 1))] [] G M := by
  intro c
  induction c with
  | zero =>
    intro p M hp hle hI hfr hQ
    obtain ⟨k0, ⟨x5, y5⟩, ⟨x6, y6⟩, ⟨x7, y7⟩, ⟨x9, y9⟩, ⟨x10, y10⟩, ⟨x11, y11⟩, ⟨x13, y13⟩, ⟨x14, y14⟩, ⟨x18, y18⟩, ⟨x19, y19⟩, ⟨x20, y20⟩, ⟨x25, y25⟩, ⟨x26, y26⟩, ⟨x27, y27⟩, ⟨x28, y28⟩, ⟨x30, y30⟩, ⟨x31, y31⟩, ⟨x32, y32⟩⟩ := id hs
    refine eg_iload_n dX4_clean_7 rfl rfl ?_
    refine eg_if_eq 34 dX4_clean_8 (by decide) (fun c8 => absurd c8 (show ¬ nI 1 = 0 by decide)) (fun c8 => ?_)
    refine eg_aload_n dX4_clean_11 rfl rfl ?_
    refine eg_callV0 0 0 gk_X4_loseTwin gi_X4_loseTwin (by assumption) rfl gl_RX4_130 rfl (Nat.le_of_ble_eq_true rfl) (Nat.le_of_ble_eq_true rfl) (Nat.zero_le _) (Nat.zero_le _) (by omega) dX4_clean_12 ?_
    refine sp_X4_loseTwin hs hcw hI (by omega) (fun q M2 h1 h2 h3 h4 => ?_) (fun h1 => ?_)
    · have es : cl_step w n k cf p = some (pg_rm (n + k) q.1 q.2 p) := by unfold cl_step; rw [h1]
      refine eg_if_ne 25 dX4_clean_15 (by decide) (fun _ => ?_) (fun z => absurd z (by decide))
      exact absurd h3 (by rw [hp]; exact Nat.not_lt_zero _)
    · refine eg_if_ne 25 dX4_clean_15 (by decide) (fun z => absurd (show nI 0 = 0 from rfl) z) (fun _ => ?_)
      refine eg_aload_n dX4_clean_18 rfl rfl ?_
      refine eg_callV0 0 0 gk_X4_loseIdle gi_X4_loseIdle k0 rfl gl_RX4_134 rfl (Nat.le_of_ble_eq_true rfl) (Nat.le_of_ble_eq_true rfl) (Nat.zero_le _) (Nat.zero_le _) (by omega) dX4_clean_19 ?_
      refine sp_X4_loseIdle hs hcw hI (by omega) (fun j M2 h2' h2 h3 h4 => ?_) (fun h2 => ?_)
      · have es : cl_step w n k cf p = some (pg_rm (n + k) j 0 p) := by unfold cl_step; rw [h1]; dsimp only; rw [h2']
        refine eg_if_eq 29 dX4_clean_22 (by decide) (fun z => absurd z (by decide)) (fun _ => ?_)
        exact absurd h3 (by rw [hp]; exact Nat.not_lt_zero _)
      · have es : cl_step w n k cf p = none := by unfold cl_step; rw [h1]; dsimp only; rw [h2]
        have ea : cl_all w n k cf 0 p = p := rfl
        rw [ea] at hQ
        refine eg_if_eq 29 dX4_clean_22 (by decide) (fun _ => ?_) (fun z => absurd (show nI 0 = 0 from rfl) z)
        refine eg_iconst dX4_clean_29 (v := nI 0) (by decide) ?_
        refine eg_istore_n dX4_clean_30 rfl (by decide) rfl ?_
        refine eg_goto 7 dX4_clean_31 (by decide) ?_
        refine eg_iload_n dX4_clean_7 rfl rfl ?_
        refine eg_if_eq 34 dX4_clean_8 (by decide) (fun c8 => ?_) (fun c8 => absurd (show nI 0 = 0 from rfl) c8)
        refine eg_iload_n dX4_clean_34 rfl rfl ?_
        refine eg_aload_n dX4_clean_35 rfl rfl ?_
        refine eg_getI gf_RX4_90 rfl (by assumption) dX4_clean_36 ?_
        refine eg_topi hI.2.1.1 ?_
        refine eg_isub dX4_clean_39 ?_
        refine eg_topi (pk_sub (by omega)) ?_
        exact eg_iret rfl dX4_clean_40 (hQ M hI hfr hle)
  | succ c ih =>
    intro p M hp hle hI hfr hQ
    obtain ⟨k0, ⟨x5, y5⟩, ⟨x6, y6⟩, ⟨x7, y7⟩, ⟨x9, y9⟩, ⟨x10, y10⟩, ⟨x11, y11⟩, ⟨x13, y13⟩, ⟨x14, y14⟩, ⟨x18, y18⟩, ⟨x19, y19⟩, ⟨x20, y20⟩, ⟨x25, y25⟩, ⟨x26, y26⟩, ⟨x27, y27⟩, ⟨x28, y28⟩, ⟨x30, y30⟩, ⟨x31, y31⟩, ⟨x32, y32⟩⟩ := id hs
    refine eg_iload_n dX4_clean_7 rfl rfl ?_
    refine eg_if_eq 34 dX4_clean_8 (by decide) (fun c8 => absurd c8 (show ¬ nI 1 = 0 by decide)) (fun c8 => ?_)
    refine eg_aload_n dX4_clean_11 rfl rfl ?_
    refine eg_callV0 0 0 gk_X4_loseTwin gi_X4_loseTwin (by assumption) rfl gl_RX4_130 rfl (Nat.le_of_ble_eq_true rfl) (Nat.le_of_ble_eq_true rfl) (Nat.zero_le _) (Nat.zero_le _) (by omega) dX4_clean_12 ?_
    refine sp_X4_loseTwin hs hcw hI (by omega) (fun q M2 h1 h2 h3 h4 => ?_) (fun h1 => ?_)
    · have es : cl_step w n k cf p = some (pg_rm (n + k) q.1 q.2 p) := by unfold cl_step; rw [h1]
      refine eg_if_ne 25 dX4_clean_15 (by decide) (fun _ => ?_) (fun z => absurd z (by decide))
      refine eg_iconst dX4_clean_25 (v := nI 1) (by decide) ?_
      refine eg_goto 30 dX4_clean_26 (by decide) ?_
      refine eg_istore_n dX4_clean_30 rfl (by decide) rfl ?_
      refine eg_goto 7 dX4_clean_31 (by decide) ?_
      have ea : cl_all w n k cf (c + 1) p = cl_all w n k cf c (pg_rm (n + k) q.1 q.2 p) := by rw [cl_all, es]
      rw [ea] at hQ
      refine ih _ M2 ?_ ?_ h2 (hfr.tr h4) hQ
      · show p.1 - 1 = c
        omega
      · show p.1 - 1 ≤ len0
        omega
    · refine eg_if_ne 25 dX4_clean_15 (by decide) (fun z => absurd (show nI 0 = 0 from rfl) z) (fun _ => ?_)
      refine eg_aload_n dX4_clean_18 rfl rfl ?_
      refine eg_callV0 0 0 gk_X4_loseIdle gi_X4_loseIdle k0 rfl gl_RX4_134 rfl (Nat.le_of_ble_eq_true rfl) (Nat.le_of_ble_eq_true rfl) (Nat.zero_le _) (Nat.zero_le _) (by omega) dX4_clean_19 ?_
      refine sp_X4_loseIdle hs hcw hI (by omega) (fun j M2 h2' h2 h3 h4 => ?_) (fun h2 => ?_)
      · have es : cl_step w n k cf p = some (pg_rm (n + k) j 0 p) := by unfold cl_step; rw [h1]; dsimp only; rw [h2']
        refine eg_if_eq 29 dX4_clean_22 (by decide) (fun z => absurd z (by decide)) (fun _ => ?_)
        refine eg_iconst dX4_clean_25 (v := nI 1) (by decide) ?_
        refine eg_goto 30 dX4_clean_26 (by decide) ?_
        refine eg_istore_n dX4_clean_30 rfl (by decide) rfl ?_
        refine eg_goto 7 dX4_clean_31 (by decide) ?_
        have ea : cl_all w n k cf (c + 1) p = cl_all w n k cf c (pg_rm (n + k) j 0 p) := by rw [cl_all, es]
        rw [ea] at hQ
        refine ih _ M2 ?_ ?_ h2 (hfr.tr h4) hQ
        · show p.1 - 1 = c
          omega
        · show p.1 - 1 ≤ len0
          omega
      · have es : cl_step w n k cf p = none := by unfold cl_step; rw [h1]; dsimp only; rw [h2]
        have ea : cl_all w n k cf (c + 1) p = p := by rw [cl_all, es]
        rw [ea] at hQ
        refine eg_if_eq 29 dX4_clean_22 (by decide) (fun _ => ?_) (fun z => absurd (show nI 0 = 0 from rfl) z)
        refine eg_iconst dX4_clean_29 (v := nI 0) (by decide) ?_
        refine eg_istore_n dX4_clean_30 rfl (by decide) rfl ?_
        refine eg_goto 7 dX4_clean_31 (by decide) ?_
        refine eg_iload_n dX4_clean_7 rfl rfl ?_
        refine eg_if_eq 34 dX4_clean_8 (by decide) (fun c8 => ?_) (fun c8 => absurd (show nI 0 = 0 from rfl) c8)
        refine eg_iload_n dX4_clean_34 rfl rfl ?_
        refine eg_aload_n dX4_clean_35 rfl rfl ?_
        refine eg_getI gf_RX4_90 rfl (by assumption) dX4_clean_36 ?_
        refine eg_topi hI.2.1.1 ?_
        refine eg_isub dX4_clean_39 ?_
        refine eg_topi (pk_sub (by omega)) ?_
        exact eg_iret rfl dX4_clean_40 (hQ M hI hfr hle)
set_option maxHeartbeats 2000000 in
theorem ap_R_clean {l : Launch} {E : eg_E} {d kb nb : Nat} {Q : Option Value → eg_G → eg_I → Prop} {G : eg_G} {M : eg_I} {a : Nat} {S : st_T} (hs : sh_M G a) (hok : st_ok S) (hI : ri_I M a S) (hd : 5 ≤ d) (hQ : ∀ M', ri_I M' a (ap_clean S).2 → ri_E M M' a → Q (some (.int (ap_clean S).1)) G M') : eg_J l E mX4_clean d kb nb Q 0 [some (.ref a), none, none] [] G M := by
  obtain ⟨k0, ⟨x5, y5⟩, ⟨x6, y6⟩, ⟨x7, y7⟩, ⟨x9, y9⟩, ⟨x10, y10⟩, ⟨x11, y11⟩, ⟨x13, y13⟩, ⟨x14, y14⟩, ⟨x18, y18⟩, ⟨x19, y19⟩, ⟨x20, y20⟩, ⟨x25, y25⟩, ⟨x26, y26⟩, ⟨x27, y27⟩, ⟨x28, y28⟩, ⟨x30, y30⟩, ⟨x31, y31⟩, ⟨x32, y32⟩⟩ := id hs
  obtain ⟨⟨w, n, k⟩, cf, co, tg, ⟨len, op, lf, rt, res⟩, ⟨fnd, flen, fop, flf, frt, fres⟩, t0, t1, t2, t3⟩ := S
  replace hI : ri_U M a w n k cf co tg len op lf rt res fnd flen fop flf frt fres t0 t1 t2 t3 := hI
  replace hok : ok_U w n k cf co len op lf rt res fnd flen fop flf frt fres := hok
  obtain ⟨b1, b2, b3, b4, b5, b6, b7, b8, b9, b10, b11⟩ := id hI
  obtain ⟨m0, m1, m2, m3, m4, mc, hw1, hw4, hn1, hn2, hk4⟩ := id b1
  obtain ⟨p3, p4, pl, pa⟩ := id b5
  obtain ⟨-, -, -, -, -, cw, co9, pok, fok⟩ := id hok
  obtain ⟨-, pok2, pok3⟩ := id pok
  have hA := wd_asg hw4 hn2
  refine eg_aload_n dX4_clean_0 rfl rfl ?_
  refine eg_getI gf_RX4_90 rfl (by assumption) dX4_clean_1 ?_
  refine eg_topi p3 ?_
  refine eg_istore_n dX4_clean_4 rfl (by decide) rfl ?_
  refine eg_iconst dX4_clean_5 (v := nI 1) (by decide) ?_
  refine eg_istore_n dX4_clean_6 rfl (by decide) rfl ?_
  refine lp_X4_clean (cf := cf) (M0 := M) (w := w) (n := n) (k := k) hs cw hd pl len (len, op, lf, rt, res) M rfl (Nat.le_refl _) ⟨b1, b5, b2, pok⟩ rl_F.rf (fun M2 h2 h3 _ => ?_)
  replace hQ : ∀ M', ri_I M' a (((w, n, k), cf, co, tg, ((cl_all w n k cf len (len, op, lf, rt, res)).1, (cl_all w n k cf len (len, op, lf, rt, res)).2.1, (cl_all w n k cf len (len, op, lf, rt, res)).2.2.1, (cl_all w n k cf len (len, op, lf, rt, res)).2.2.2.1, (cl_all w n k cf len (len, op, lf, rt, res)).2.2.2.2), (fnd, flen, fop, flf, frt, fres), t0, t1, t2, t3)) → ri_E M M' a → Q (some (.int (nI (len - (cl_all w n k cf len (len, op, lf, rt, res)).1)))) G M' := hQ
  generalize cl_all w n k cf len (len, op, lf, rt, res) = p2 at h2 hQ ⊢
  obtain ⟨len2, op2, lf2, rt2, res2⟩ := p2
  obtain ⟨d1, d2, d3, d4⟩ := h2
  replace hQ : ∀ M', ri_U M' a w n k cf co tg len2 op2 lf2 rt2 res2 fnd flen fop flf frt fres t0 t1 t2 t3 → ri_E M M' a → Q (some (.int (nI (len - len2)))) G M' := hQ
  exact hQ M2 ⟨d1, d3, fun o ho => by rw [h3.1 _ (by omega) (by omega)]; exact b3 o ho, fun s q => by rw [h3.1 _ (by omega) (by omega)]; exact b4 s q, d2, by rw [h3.2 _ (by decide) (by decide)]; exact b6, fun q => (b7 q).eq (by rw [h3.2 _ (by decide) (by decide)]) (by rw [h3.2 _ (by decide) (by decide)]) (fun q q1 q2 => by rw [h3.1 _ (by omega) (by omega)]), by rw [h3.2 _ (by decide) (by decide)]; exact b8, by rw [h3.2 _ (by decide) (by decide)]; exact b9, by rw [h3.2 _ (by decide) (by decide)]; exact b10, by rw [h3.2 _ (by decide) (by decide)]; exact b11⟩ (fun q z => h3.1 q (by omega) (by omega))
