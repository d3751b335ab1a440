/-! each call keeps a state sound -/
def cd_ok (N : Nat) (c : Nat × Nat × Nat) : Prop := c.1 < 13 ∧ c.2.1 < N ∧ c.2.2 < N ∧ (c.1 = 0 ∨ c.1 = 1 → c.2.2 = 0)
theorem ss_bs_m {o a b N : Nat} {c : Nat × Nat × Nat} (ho : o < 13) (ha : a < N) (h : c ∈ ss_bs o a b N) : cd_ok N c := by
  unfold ss_bs at h
  rw [List.mem_map] at h
  obtain ⟨x, hx, rfl⟩ := h
  rw [List.mem_range'_1] at hx
  have hlt : x < ss_be o N := by omega
  unfold ss_be at hlt
  refine ⟨ho, ha, ?_, fun z => ?_⟩
  · show x < N
    split at hlt <;> omega
  · show x = 0
    rw [if_pos z] at hlt
    omega
theorem ss_as_m {o a N : Nat} {c : Nat × Nat × Nat} (ho : o < 13) (h : c ∈ ss_as o a N) : cd_ok N c := by
  unfold ss_as at h
  rw [List.mem_flatMap] at h
  obtain ⟨x, hx, h⟩ := h
  rw [List.mem_range'_1] at hx
  exact ss_bs_m ho (by omega) h
theorem ss_os_m {co : Nat → Nat} {r o N : Nat} {c : Nat × Nat × Nat} (h : c ∈ ss_os co r o N) : cd_ok N c := by
  unfold ss_os at h
  rw [List.mem_flatMap] at h
  obtain ⟨x, hx, h⟩ := h
  rw [List.mem_range'_1] at hx
  split at h
  · exact ss_as_m (by omega) h
  · exact absurd h (by simp)
def px_ok (g p : Nat) (ro ra rb : Nat → Nat) : Prop := ∀ j, j < p → ro j < 13 ∧ ra j < g + j ∧ rb j < g + j ∧ (ro j = 0 ∨ ro j = 1 → rb j = 0)
def sg_ok (g : Nat) (σ : ss_S) : Prop := 0 < σ.2.1 → 1 ≤ σ.2.2.2.1 ∧ σ.2.2.2.1 ≤ 12 ∧ px_ok g σ.2.2.2.1 σ.2.2.2.2.1 σ.2.2.2.2.2.1 σ.2.2.2.2.2.2
theorem px_up {g p : Nat} {ro ra rb : Nat → Nat} {c : Nat × Nat × Nat} (h : px_ok g p ro ra rb) (hc : cd_ok (g + p) c) : px_ok g (p + 1) (ss_up ro p c.1) (ss_up ra p c.2.1) (ss_up rb p c.2.2) := by
  intro j hj
  by_cases e : j = p
  · subst e
    rw [ss_up_e, ss_up_e, ss_up_e]
    exact hc
  · rw [ss_up_n e, ss_up_n e, ss_up_n e]
    exact h j (by omega)
theorem ss_fold_ok {α : Type} {P : ss_S → Prop} {f : ss_S → α → ss_S} : ∀ (l : List α) (σ : ss_S), (∀ c σ, c ∈ l → P σ → P (f σ c)) → P σ → P (l.foldl f σ)
  | [], σ, _, h => h
  | c :: l, σ, hf, h => ss_fold_ok l (f σ c) (fun c2 σ2 m => hf c2 σ2 (List.mem_cons_of_mem _ m)) (hf c σ List.mem_cons_self h)
theorem ss_fill_ok {w A g : Nat} {co : Nat → Nat} {tg : Nat → Int32} {L : Nat} {al : Bool} : ∀ (f p r : Nat) (ro ra rb : Nat → Nat) (V : Nat → Nat → Int32) (σ : ss_S), p + f ≤ 12 → px_ok g p ro ra rb → sg_ok g σ → sg_ok g (ss_fill w A g co tg L al f p r ro ra rb V σ) := by
  intro f
  induction f with
  | zero => intro p r ro ra rb V σ _ _ h; exact h
  | succ f ih =>
    intro p r ro ra rb V σ hp hx h
    rw [ss_fill_s]
    refine ss_fold_ok _ σ (fun c σ m hσ => ?_) h
    have hc := ss_os_m m
    unfold ss_stp
    split
    · exact hσ
    · unfold ss_att
      split
      · exact hσ
      · split
        · split
          · intro _
            unfold ss_hit
            by_cases e : σ.2.1 = 0
            · rw [if_pos e]
              exact ⟨by show 1 ≤ p + 1; omega, by show p + 1 ≤ 12; omega, px_up hx hc⟩
            · rw [if_neg e]
              exact hσ (Nat.pos_of_ne_zero e)
          · exact hσ
        · split
          · exact ih (p + 1) _ _ _ _ _ _ (by omega) (px_up hx hc) hσ
          · exact hσ
theorem ss_rds_ok {w A g : Nat} {co : Nat → Nat} {tg : Nat → Int32} {L : Nat} {al : Bool} {V : Nat → Nat → Int32} : ∀ (t rd : Nat) (σ : ss_S), sg_ok g σ → sg_ok g (ss_rds w A g co tg L al V t rd σ).1 := by
  intro t
  induction t with
  | zero => intro rd σ h; exact h
  | succ t ih =>
    intro rd σ h
    by_cases e : 0 < σ.2.1 ∨ σ.2.2.1 = true
    · rw [ss_rds_stop e]; exact h
    · rw [ss_rds_go e]
      exact ih _ _ (ss_fill_ok 12 0 _ _ _ _ _ _ (by omega) (fun j hj => absurd hj (by omega)) h)
theorem cl_rep_lt {A g : Nat} {V : Nat → Nat → Int32} : ∀ {t j : Nat} {q : Nat × Nat}, cl_rep A g V t j = some q → q.1 < j + t ∧ q.2 < g + q.1
  | 0, _, _, h => by cases h
  | t + 1, j, q, h => by
    rw [cl_rep] at h
    cases e : cl_tw A g V j with
    | none =>
      rw [e] at h
      have := cl_rep_lt (t := t) (j := j + 1) h
      exact ⟨by omega, this.2⟩
    | some u =>
      rw [e] at h
      cases h
      have := lst_spec e
      exact ⟨by show j < j + (t + 1); omega, by show u < g + j; omega⟩
theorem cl_id_lt {g len res : Nat} {lf rt : Nat → Nat} : ∀ {t j : Nat}, cl_id g len lf rt res t = some j → j < t
  | 0, _, h => by cases h
  | t + 1, j, h => by
    by_cases e : cl_us g len lf rt res t
    · rw [cl_id_us e] at h
      have := cl_id_lt h
      omega
    · rw [cl_id_no e] at h
      cases h
      omega
theorem cl_step_ok {w n k : Nat} {c : Nat → Int32} {p q : pg_T} (hg : 1 ≤ n + k) (h : pg_okp (n + k) p) (e : cl_step w n k c p = some q) : pg_okp (n + k) q := by
  unfold cl_step at e
  cases e1 : cl_rep (2 ^ (w * n)) (n + k) (sv w n k c p.2.1 p.2.2.1 p.2.2.2.1) p.1 0 with
  | some u =>
    rw [e1] at e
    cases e
    have := cl_rep_lt e1
    exact pg_rm_ok h hg (by omega) this.2
  | none =>
    rw [e1] at e
    dsimp only at e
    cases e2 : cl_id (n + k) p.1 p.2.2.1 p.2.2.2.1 p.2.2.2.2 p.1 with
    | some j =>
      rw [e2] at e
      cases e
      exact pg_rm_ok h hg (cl_id_lt e2) (by omega)
    | none =>
      rw [e2] at e
      cases e
theorem cl_all_ok {w n k : Nat} {c : Nat → Int32} (hg : 1 ≤ n + k) : ∀ (f : Nat) (p : pg_T), pg_okp (n + k) p → pg_okp (n + k) (cl_all w n k c f p)
  | 0, p, h => h
  | f + 1, p, h => by
    cases e : cl_step w n k c p with
    | none =>
      rw [show cl_all w n k c (f + 1) p = p by rw [cl_all, e]]
      exact h
    | some q =>
      rw [show cl_all w n k c (f + 1) p = cl_all w n k c f q by rw [cl_all, e]]
      exact cl_all_ok hg f q (cl_step_ok hg h e)
section OK
variable {S : st_T}
theorem ok_words {x y : Int32} (h : st_ok S) : st_ok (ap_words S x y).2 := by
  unfold ap_words
  split
  · exact h
  · rename_i e
    have e1 : ¬ x < nI 1 := fun q => e (Or.inl q)
    have e2 : ¬ nI 4 < x := fun q => e (Or.inr (Or.inl q))
    have e3 : ¬ y < nI 1 := fun q => e (Or.inr (Or.inr (Or.inl q)))
    have e4 : ¬ nI 2 < y := fun q => e (Or.inr (Or.inr (Or.inr q)))
    obtain ⟨X, rfl, hX1, hX4⟩ := nI_rng e1 e2 (by omega) (by omega)
    obtain ⟨Y, rfl, hY1, hY2⟩ := nI_rng e3 e4 (by omega) (by omega)
    rw [nI_clamp (by omega), nI_clamp (by omega)]
    obtain ⟨h1, h2, h3, h4, h5, h6, h7, h8, h9⟩ := h
    exact ⟨hX1, hX4, hY1, hY2, by show 0 ≤ 4; omega, fun i hi => absurd hi (by show ¬ i < 0; omega), h7, ⟨by show 0 ≤ 12; omega, fun j hj => absurd hj (by show ¬ j < 0; omega), by show 0 < Y + 0 + 0; omega⟩, fun z => Bool.noConfusion z⟩
theorem ok_constant {x : Int32} (h : st_ok S) : st_ok (ap_constant S x).2 := by
  unfold ap_constant
  split
  · exact h
  · rename_i e
    split
    · exact h
    · rename_i e2
      split
      · exact h
      · rename_i e3
        obtain ⟨h1, h2, h3, h4, h5, h6, h7, h8, h9⟩ := h
        have hm := wd_mask h2
        obtain ⟨ex, hx⟩ := nI_cm (fun q => e (Or.inl q)) (fun q => e (Or.inr q)) (by omega)
        have h2p := Nat.two_pow_pos S.1.1
        refine ⟨h1, h2, h3, h4, by show S.1.2.2 + 1 ≤ 4; omega, fun i hi => ?_, h7, ⟨h8.1, fun j hj => absurd hj (by show ¬ j < (sP S).1; omega), ?_⟩, fun z => Bool.noConfusion z⟩
        · show ∃ z, z < 2 ^ S.1.1 ∧ ss_up S.2.1 S.1.2.2 x i = nI z
          by_cases q : i = S.1.2.2
          · rw [q, ss_up_e]
            exact ⟨x.toNatClampNeg, by omega, ex⟩
          · rw [ss_up_n q]
            have hi2 : i < S.1.2.2 + 1 := hi
            exact h6 i (by omega)
        · have := h8.2.2
          show (sP S).2.2.2.2 < S.1.2.1 + (S.1.2.2 + 1) + (sP S).1
          have h8' : (sP S).2.2.2.2 < S.1.2.1 + S.1.2.2 + (sP S).1 := this
          omega
theorem ok_cost {x y : Int32} (h : st_ok S) : st_ok (ap_cost S x y).2 := by
  unfold ap_cost
  split
  · exact h
  · split
    · exact h
    · rename_i e
      obtain ⟨h1, h2, h3, h4, h5, h6, h7, h8, h9⟩ := h
      obtain ⟨ey, hy⟩ := nI_cm (fun q => e (Or.inl q)) (fun q => e (Or.inr q)) (by omega)
      refine ⟨h1, h2, h3, h4, h5, h6, fun o ho => ?_, h8, h9⟩
      show ss_up S.2.2.1 x.toNatClampNeg y.toNatClampNeg o ≤ 9
      by_cases q : o = x.toNatClampNeg
      · rw [q, ss_up_e]; exact hy
      · rw [ss_up_n q]; exact h7 o ho
theorem ok_target {x y : Int32} (h : st_ok S) : st_ok (ap_target S x y).2 := by
  unfold ap_target
  split
  · exact h
  · split
    · exact h
    · exact h
theorem ok_aim (h : st_ok S) : st_ok (ap_aim S).2 := h
theorem ok_add {x y z : Int32} (h : st_ok S) : st_ok (ap_add S x y z).2 := by
  unfold ap_add
  split
  · exact h
  · rename_i e
    split
    · exact h
    · rename_i e2
      obtain ⟨h1, h2, h3, h4, h5, h6, h7, h8, h9⟩ := h
      have hl := h8.1
      have hG : sG S + (sP S).1 < 100 := by
        show S.1.2.1 + S.1.2.2 + (sP S).1 < 100
        have : (sP S).1 ≤ 12 := hl
        omega
      obtain ⟨ex, hx⟩ := nI_cl (fun q => e (Or.inl (Or.inl q))) (fun q => e (Or.inl (Or.inr q))) (by omega)
      obtain ⟨ey, hy⟩ := nI_cl (fun q => e (Or.inr (Or.inl (Or.inl q)))) (fun q => e (Or.inr (Or.inl (Or.inr q)))) (by omega)
      obtain ⟨ez, hz⟩ := nI_cl (fun q => e (Or.inr (Or.inr (Or.inl q)))) (fun q => e (Or.inr (Or.inr (Or.inr q)))) (by omega)
      have hg1 : 1 ≤ sG S := by show 1 ≤ S.1.2.1 + S.1.2.2; omega
      refine ⟨h1, h2, h3, h4, h5, h6, h7, ⟨by show (sP S).1 + 1 ≤ 12; omega, fun j hj => ?_, by show sG S + (sP S).1 < sG S + ((sP S).1 + 1); omega⟩, h9⟩
      have hj2 : j < (sP S).1 + 1 := hj
      show ss_up (sP S).2.1 (sP S).1 x.toNatClampNeg j < 13 ∧ ss_up (sP S).2.2.1 (sP S).1 y.toNatClampNeg j < sG S + j ∧ ss_up (sP S).2.2.2.1 (sP S).1 (if x.toNatClampNeg = 0 ∨ x.toNatClampNeg = 1 then 0 else z.toNatClampNeg) j < sG S + j ∧ (ss_up (sP S).2.1 (sP S).1 x.toNatClampNeg j = 0 ∨ ss_up (sP S).2.1 (sP S).1 x.toNatClampNeg j = 1 → ss_up (sP S).2.2.2.1 (sP S).1 (if x.toNatClampNeg = 0 ∨ x.toNatClampNeg = 1 then 0 else z.toNatClampNeg) j = 0)
      by_cases q : j = (sP S).1
      · rw [q, ss_up_e, ss_up_e, ss_up_e]
        refine ⟨hx, hy, ?_, fun w => if_pos w⟩
        split <;> omega
      · rw [ss_up_n q, ss_up_n q, ss_up_n q]
        exact h8.2.1 j (by show j < (sP S).1; omega)
theorem ok_drop (h : st_ok S) : st_ok (ap_drop S).2 := by
  unfold ap_drop
  split
  · exact h
  · rename_i e
    obtain ⟨h1, h2, h3, h4, h5, h6, h7, h8, h9⟩ := h
    have hl : (sP S).1 ≤ 12 := h8.1
    have hg1 : 1 ≤ sG S := by show 1 ≤ S.1.2.1 + S.1.2.2; omega
    have hr : (sP S).2.2.2.2 < sG S + (sP S).1 := h8.2.2
    refine ⟨h1, h2, h3, h4, h5, h6, h7, ⟨by show (sP S).1 - 1 ≤ 12; omega, fun j hj => h8.2.1 j (by have hj2 : j < (sP S).1 - 1 := hj; show j < (sP S).1; omega), ?_⟩, h9⟩
    show (if (sP S).2.2.2.2 = sG S + ((sP S).1 - 1) then 0 else (sP S).2.2.2.2) < sG S + ((sP S).1 - 1)
    split <;> omega
theorem ok_result {x : Int32} (h : st_ok S) : st_ok (ap_result S x).2 := by
  unfold ap_result
  split
  · exact h
  · rename_i e
    obtain ⟨h1, h2, h3, h4, h5, h6, h7, h8, h9⟩ := h
    have hl : (sP S).1 ≤ 12 := h8.1
    have hG : sG S + (sP S).1 < 100 := by
      show S.1.2.1 + S.1.2.2 + (sP S).1 < 100
      omega
    obtain ⟨ex, hx⟩ := nI_cl (fun q => e (Or.inl q)) (fun q => e (Or.inr q)) (by omega)
    exact ⟨h1, h2, h3, h4, h5, h6, h7, ⟨h8.1, h8.2.1, hx⟩, h9⟩
theorem ok_clean (h : st_ok S) : st_ok (ap_clean S).2 := by
  obtain ⟨h1, h2, h3, h4, h5, h6, h7, h8, h9⟩ := h
  exact ⟨h1, h2, h3, h4, h5, h6, h7, cl_all_ok (show 1 ≤ S.1.2.1 + S.1.2.2 by omega) _ _ h8, h9⟩
theorem ok_take (h : st_ok S) : st_ok (ap_take S).2 := by
  unfold ap_take
  split
  · rename_i e
    obtain ⟨h1, h2, h3, h4, h5, h6, h7, h8, h9⟩ := h
    exact ⟨h1, h2, h3, h4, h5, h6, h7, h9 e, h9⟩
  · exact h
theorem ok_search {x y z : Int32} (h : st_ok S) : st_ok (ap_search S x y z).2 := by
  unfold ap_search
  split
  · exact h
  · obtain ⟨h1, h2, h3, h4, h5, h6, h7, h8, h9⟩ := h
    have hg1 : 1 ≤ sG S := by show 1 ≤ S.1.2.1 + S.1.2.2; omega
    cases e : lst (fun u => ∀ s, s < sA S → sV S u s = S.2.2.2.1 s) (sG S) 0 with
    | some v =>
      have := lst_spec e
      exact ⟨h1, h2, h3, h4, h5, h6, h7, h8, fun _ => ⟨by show 0 ≤ 12; omega, fun j hj => absurd hj (by show ¬ j < 0; omega), by show v < sG S + 0; omega⟩⟩
    | none =>
      dsimp only
      have ho := ss_rds_ok (w := S.1.1) (A := sA S) (g := sG S) (co := S.2.2.1) (tg := S.2.2.2.1) (L := y.toNatClampNeg) (al := decide (z = 1)) (V := sV S) x.toNatClampNeg 0 ss_0 (fun q => absurd q (by decide))
      generalize ss_rds S.1.1 (sA S) (sG S) S.2.2.1 S.2.2.2.1 y.toNatClampNeg (decide (z = 1)) (sV S) x.toNatClampNeg 0 ss_0 = q at ho ⊢
      refine ⟨h1, h2, h3, h4, h5, h6, h7, h8, ?_⟩
      show (if q.1.2.2.1 = true ∨ q.1.2.1 = 0 then S.2.2.2.2.2.1 else (true, q.1.2.2.2.1, q.1.2.2.2.2.1, q.1.2.2.2.2.2.1, q.1.2.2.2.2.2.2, sG S + q.1.2.2.2.1 - 1)).1 = true → pg_okp (sG S) (if q.1.2.2.1 = true ∨ q.1.2.1 = 0 then S.2.2.2.2.2.1 else (true, q.1.2.2.2.1, q.1.2.2.2.2.1, q.1.2.2.2.2.2.1, q.1.2.2.2.2.2.2, sG S + q.1.2.2.2.1 - 1)).2
      by_cases c : q.1.2.2.1 = true ∨ q.1.2.1 = 0
      · rw [if_pos c]; exact h9
      · rw [if_neg c]
        obtain ⟨g1, g2, g3⟩ := ho (Nat.pos_of_ne_zero (fun w => c (Or.inr w)))
        exact fun _ => ⟨g2, g3, by show sG S + q.1.2.2.2.1 - 1 < sG S + q.1.2.2.2.1; omega⟩
end OK
