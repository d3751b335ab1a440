/-! THE SEARCH, pure: tries, how many FOUND, SPENT, the first that was FOUND (length, OPERATIONS, OPERANDS) -/
abbrev ss_S : Type := Nat × Nat × Bool × Nat × (Nat → Nat) × (Nat → Nat) × (Nat → Nat)
def ss_over (al : Bool) (σ : ss_S) : Prop := σ.2.2.1 = true ∨ (0 < σ.2.1 ∧ al = false)
def ss_up {α : Type} (f : Nat → α) (p : Nat) (x : α) : Nat → α := fun j => if j = p then x else f j
def ss_ord (o : Nat) : Prop := o = 2 ∨ o = 3 ∨ o = 4 ∨ o = 5 ∨ o = 7 ∨ o = 12
def ss_b0 (o a : Nat) : Nat := if o = 2 ∨ o = 3 ∨ o = 4 ∨ o = 5 ∨ o = 7 ∨ o = 12 then a else 0
def ss_be (o N : Nat) : Nat := if o = 0 ∨ o = 1 then 1 else N
def ss_bs (o a b N : Nat) : List (Nat × Nat × Nat) := (List.range' b (ss_be o N - b)).map fun b => (o, a, b)
def ss_as (o a N : Nat) : List (Nat × Nat × Nat) := (List.range' a (N - a)).flatMap fun a => ss_bs o a (ss_b0 o a) N
def ss_os (co : Nat → Nat) (r o N : Nat) : List (Nat × Nat × Nat) := (List.range' o (13 - o)).flatMap fun o => if 0 < co o ∧ co o ≤ r then ss_as o 0 N else []
def ss_hit (p : Nat) (ro ra rb : Nat → Nat) (σ : ss_S) : ss_S := (σ.1, σ.2.1 + 1, σ.2.2.1, if σ.2.1 = 0 then (p + 1, ro, ra, rb) else σ.2.2.2)
def ss_att (w A g : Nat) (tg : Nat → Int32) (L : Nat) (nx : Nat → Nat → (Nat → Nat) → (Nat → Nat) → (Nat → Nat) → (Nat → Nat → Int32) → ss_S → ss_S) (p o a b r : Nat) (ro ra rb : Nat → Nat) (V : Nat → Nat → Int32) (σ : ss_S) : ss_S :=
  if L ≤ σ.1 then (σ.1, σ.2.1, true, σ.2.2.2)
  else if r = 0 then (if ∀ s, s < A → wd_op w o (V a s) (V b s) = tg s then ss_hit p (ss_up ro p o) (ss_up ra p a) (ss_up rb p b) (σ.1 + 1, σ.2) else (σ.1 + 1, σ.2))
  else if ∀ u, u < g + p → ¬ ∀ s, s < A → V u s = wd_op w o (V a s) (V b s) then nx (p + 1) r (ss_up ro p o) (ss_up ra p a) (ss_up rb p b) (ss_up V (g + p) (fun s => wd_op w o (V a s) (V b s))) (σ.1 + 1, σ.2)
  else (σ.1 + 1, σ.2)
def ss_stp (w A g : Nat) (co : Nat → Nat) (tg : Nat → Int32) (L : Nat) (al : Bool) (nx : Nat → Nat → (Nat → Nat) → (Nat → Nat) → (Nat → Nat) → (Nat → Nat → Int32) → ss_S → ss_S) (p r : Nat) (ro ra rb : Nat → Nat) (V : Nat → Nat → Int32) (σ : ss_S) (c : Nat × Nat × Nat) : ss_S :=
  if σ.2.2.1 = true ∨ (0 < σ.2.1 ∧ al = false) then σ else ss_att w A g tg L nx p c.1 c.2.1 c.2.2 (r - co c.1) ro ra rb V σ
def ss_fill (w A g : Nat) (co : Nat → Nat) (tg : Nat → Int32) (L : Nat) (al : Bool) : Nat → Nat → Nat → (Nat → Nat) → (Nat → Nat) → (Nat → Nat) → (Nat → Nat → Int32) → ss_S → ss_S
  | 0, _, _, _, _, _, _, σ => σ
  | f + 1, p, r, ro, ra, rb, V, σ => (ss_os co r 0 (g + p)).foldl (ss_stp w A g co tg L al (ss_fill w A g co tg L al f) p r ro ra rb V) σ
section SS
variable {w A g : Nat} {co : Nat → Nat} {tg : Nat → Int32} {L : Nat} {al : Bool} {nx : Nat → Nat → (Nat → Nat) → (Nat → Nat) → (Nat → Nat) → (Nat → Nat → Int32) → ss_S → ss_S} {p r : Nat} {ro ra rb : Nat → Nat} {V : Nat → Nat → Int32}
theorem ss_stp_over {σ : ss_S} {c : Nat × Nat × Nat} (h : ss_over al σ) : ss_stp w A g co tg L al nx p r ro ra rb V σ c = σ := if_pos h
theorem ss_stp_go {σ : ss_S} {c : Nat × Nat × Nat} (h : ¬ ss_over al σ) : ss_stp w A g co tg L al nx p r ro ra rb V σ c = ss_att w A g tg L nx p c.1 c.2.1 c.2.2 (r - co c.1) ro ra rb V σ := if_neg h
theorem ss_fold_over {σ : ss_S} (h : ss_over al σ) : ∀ l : List (Nat × Nat × Nat), l.foldl (ss_stp w A g co tg L al nx p r ro ra rb V) σ = σ
  | [] => rfl
  | c :: l => by rw [List.foldl_cons, ss_stp_over h]; exact ss_fold_over h l
theorem ss_bs_0 {o a b N : Nat} (h : ss_be o N ≤ b) : ss_bs o a b N = [] := by
  unfold ss_bs
  rw [show ss_be o N - b = 0 by omega]
  rfl
theorem ss_bs_s {o a b N : Nat} (h : b < ss_be o N) : ss_bs o a b N = (o, a, b) :: ss_bs o a (b + 1) N := by
  unfold ss_bs
  rw [show ss_be o N - b = (ss_be o N - (b + 1)) + 1 by omega, List.range'_succ]
  rfl
theorem ss_as_0 {o a N : Nat} (h : N ≤ a) : ss_as o a N = [] := by
  unfold ss_as
  rw [show N - a = 0 by omega]
  rfl
theorem ss_as_s {o a N : Nat} (h : a < N) : ss_as o a N = ss_bs o a (ss_b0 o a) N ++ ss_as o (a + 1) N := by
  unfold ss_as
  rw [show N - a = (N - (a + 1)) + 1 by omega, List.range'_succ, List.flatMap_cons]
theorem ss_os_0 {o N : Nat} (h : 13 ≤ o) : ss_os co r o N = [] := by
  unfold ss_os
  rw [show 13 - o = 0 by omega]
  rfl
theorem ss_os_s {o N : Nat} (h : o < 13) : ss_os co r o N = (if 0 < co o ∧ co o ≤ r then ss_as o 0 N else []) ++ ss_os co r (o + 1) N := by
  unfold ss_os
  rw [show 13 - o = (13 - (o + 1)) + 1 by omega, List.range'_succ, List.flatMap_cons]
end SS
theorem ss_hit_s {p : Nat} {ro ra rb : Nat → Nat} {σ : ss_S} (h : ¬ σ.2.1 = 0) : ss_hit p ro ra rb σ = (σ.1, σ.2.1 + 1, σ.2.2.1, σ.2.2.2) := by
  unfold ss_hit
  rw [if_neg h]
theorem ss_hit_0 {p : Nat} {ro ra rb : Nat → Nat} {σ : ss_S} (h : σ.2.1 = 0) : ss_hit p ro ra rb σ = (σ.1, σ.2.1 + 1, σ.2.2.1, p + 1, ro, ra, rb) := by
  unfold ss_hit
  rw [if_pos h]
section SA
variable {w A g : Nat} {tg : Nat → Int32} {L : Nat} {nx : Nat → Nat → (Nat → Nat) → (Nat → Nat) → (Nat → Nat) → (Nat → Nat → Int32) → ss_S → ss_S} {p o a b r : Nat} {ro ra rb : Nat → Nat} {V : Nat → Nat → Int32} {σ : ss_S}
theorem ss_att_sp (h : L ≤ σ.1) : ss_att w A g tg L nx p o a b r ro ra rb V σ = (σ.1, σ.2.1, true, σ.2.2.2) := if_pos h
theorem ss_att_hit (h : ¬ L ≤ σ.1) (hr : r = 0) (hh : ∀ s, s < A → wd_op w o (V a s) (V b s) = tg s) : ss_att w A g tg L nx p o a b r ro ra rb V σ = ss_hit p (ss_up ro p o) (ss_up ra p a) (ss_up rb p b) (σ.1 + 1, σ.2) := by
  unfold ss_att
  rw [if_neg h, if_pos hr, if_pos hh]
theorem ss_att_no (h : ¬ L ≤ σ.1) (hr : r = 0) (hh : ¬ ∀ s, s < A → wd_op w o (V a s) (V b s) = tg s) : ss_att w A g tg L nx p o a b r ro ra rb V σ = (σ.1 + 1, σ.2) := by
  unfold ss_att
  rw [if_neg h, if_pos hr, if_neg hh]
theorem ss_att_new (h : ¬ L ≤ σ.1) (hr : ¬ r = 0) (hh : ∀ u, u < g + p → ¬ ∀ s, s < A → V u s = wd_op w o (V a s) (V b s)) : ss_att w A g tg L nx p o a b r ro ra rb V σ = nx (p + 1) r (ss_up ro p o) (ss_up ra p a) (ss_up rb p b) (ss_up V (g + p) (fun s => wd_op w o (V a s) (V b s))) (σ.1 + 1, σ.2) := by
  unfold ss_att
  rw [if_neg h, if_neg hr, if_pos hh]
theorem ss_att_old (h : ¬ L ≤ σ.1) (hr : ¬ r = 0) (hh : ¬ ∀ u, u < g + p → ¬ ∀ s, s < A → V u s = wd_op w o (V a s) (V b s)) : ss_att w A g tg L nx p o a b r ro ra rb V σ = (σ.1 + 1, σ.2) := by
  unfold ss_att
  rw [if_neg h, if_neg hr, if_neg hh]
end SA
theorem ss_up_e {α : Type} {f : Nat → α} {p : Nat} {x : α} : ss_up f p x p = x := if_pos rfl
theorem ss_up_n {α : Type} {f : Nat → α} {p j : Nat} {x : α} (h : j ≠ p) : ss_up f p x j = f j := if_neg h
