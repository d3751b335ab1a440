/-! the calls, pure: (W, n, CONSTANTS), constants, COSTS, TARGET, THE PROGRAM, what was FOUND, what is told -/
abbrev st_T : Type := (Nat × Nat × Nat) × (Nat → Int32) × (Nat → Nat) × (Nat → Int32) × pg_T × (Bool × pg_T) × (Int32 × Int32 × Int32 × Int32)
def pg_okp (g : Nat) (p : pg_T) : Prop := pg_ok g p.1 p.2.1 p.2.2.1 p.2.2.2.1 p.2.2.2.2
abbrev sA (S : st_T) : Nat := 2 ^ (S.1.1 * S.1.2.1)
abbrev sG (S : st_T) : Nat := S.1.2.1 + S.1.2.2
abbrev sP (S : st_T) : pg_T := S.2.2.2.2.1
abbrev sV (S : st_T) : Nat → Nat → Int32 := sv S.1.1 S.1.2.1 S.1.2.2 S.2.1 (sP S).2.1 (sP S).2.2.1 (sP S).2.2.2.1
def st_ok (S : st_T) : Prop := 1 ≤ S.1.1 ∧ S.1.1 ≤ 4 ∧ 1 ≤ S.1.2.1 ∧ S.1.2.1 ≤ 2 ∧ S.1.2.2 ≤ 4 ∧ (∀ i, i < S.1.2.2 → ∃ x, x < 2 ^ S.1.1 ∧ S.2.1 i = nI x) ∧ (∀ o, o < 13 → S.2.2.1 o ≤ 9) ∧ pg_okp (sG S) (sP S) ∧ (S.2.2.2.2.2.1.1 = true → pg_okp (sG S) S.2.2.2.2.2.1.2)
def cnt (P : Nat → Prop) [DecidablePred P] : Nat → Nat
  | 0 => 0
  | t + 1 => cnt P t + if P t then 1 else 0
def ap_words (S : st_T) (x y : Int32) : Int32 × st_T :=
  if x < nI 1 ∨ nI 4 < x ∨ y < nI 1 ∨ nI 2 < y then (-2, S)
  else (nI (2 ^ (x.toNatClampNeg * y.toNatClampNeg)), (x.toNatClampNeg, y.toNatClampNeg, 0), S.2.1, S.2.2.1, (fun _ => 0), (0, (sP S).2.1, (sP S).2.2.1, (sP S).2.2.2.1, 0), (false, S.2.2.2.2.2.1.2), S.2.2.2.2.2.2)
def ap_constant (S : st_T) (x : Int32) : Int32 × st_T :=
  if x < 0 ∨ nI (2 ^ S.1.1 - 1) < x then (-2, S) else if 0 < (sP S).1 then (-3, S) else if 4 ≤ S.1.2.2 then (-4, S)
  else (nI (sG S), (S.1.1, S.1.2.1, S.1.2.2 + 1), ss_up S.2.1 S.1.2.2 x, S.2.2.1, S.2.2.2.1, sP S, (false, S.2.2.2.2.2.1.2), S.2.2.2.2.2.2)
def ap_cost (S : st_T) (x y : Int32) : Int32 × st_T :=
  if x < 0 ∨ nI 13 ≤ x then (-1, S) else if y < 0 ∨ nI 9 < y then (-2, S) else (nI (S.2.2.1 x.toNatClampNeg), S.1, S.2.1, ss_up S.2.2.1 x.toNatClampNeg y.toNatClampNeg, S.2.2.2)
def ap_target (S : st_T) (x y : Int32) : Int32 × st_T :=
  if x < 0 ∨ nI (sA S) ≤ x then (-1, S) else if y < 0 ∨ nI (2 ^ S.1.1 - 1) < y then (-2, S) else (S.2.2.2.1 x.toNatClampNeg, S.1, S.2.1, S.2.2.1, ss_up S.2.2.2.1 x.toNatClampNeg y, S.2.2.2.2)
def ap_aim (S : st_T) : Int32 × st_T :=
  (nI (cnt (fun s => ¬ S.2.2.2.1 s = sV S (sP S).2.2.2.2 s) (sA S)), S.1, S.2.1, S.2.2.1, (fun s => if s < sA S then sV S (sP S).2.2.2.2 s else S.2.2.2.1 s), S.2.2.2.2)
def ap_add (S : st_T) (x y z : Int32) : Int32 × st_T :=
  if (x < 0 ∨ nI 13 ≤ x) ∨ (y < 0 ∨ nI (sG S + (sP S).1) ≤ y) ∨ (z < 0 ∨ nI (sG S + (sP S).1) ≤ z) then (-1, S) else if 12 ≤ (sP S).1 then (-4, S)
  else (nI (sG S + (sP S).1), S.1, S.2.1, S.2.2.1, S.2.2.2.1, ((sP S).1 + 1, ss_up (sP S).2.1 (sP S).1 x.toNatClampNeg, ss_up (sP S).2.2.1 (sP S).1 y.toNatClampNeg, ss_up (sP S).2.2.2.1 (sP S).1 (if x.toNatClampNeg = 0 ∨ x.toNatClampNeg = 1 then 0 else z.toNatClampNeg), sG S + (sP S).1), S.2.2.2.2.2)
def ap_drop (S : st_T) : Int32 × st_T :=
  if (sP S).1 = 0 then (-3, S) else (nI ((sP S).1 - 1), S.1, S.2.1, S.2.2.1, S.2.2.2.1, ((sP S).1 - 1, (sP S).2.1, (sP S).2.2.1, (sP S).2.2.2.1, if (sP S).2.2.2.2 = sG S + ((sP S).1 - 1) then 0 else (sP S).2.2.2.2), S.2.2.2.2.2)
def ap_result (S : st_T) (x : Int32) : Int32 × st_T :=
  if x < 0 ∨ nI (sG S + (sP S).1) ≤ x then (-1, S) else (nI (sP S).2.2.2.2, S.1, S.2.1, S.2.2.1, S.2.2.2.1, ((sP S).1, (sP S).2.1, (sP S).2.2.1, (sP S).2.2.2.1, x.toNatClampNeg), S.2.2.2.2.2)
def ap_instr (S : st_T) (x y : Int32) : Int32 :=
  if x < 0 ∨ nI (sP S).1 ≤ x then -1 else if y = 0 then nI ((sP S).2.1 x.toNatClampNeg) else if y = 1 then nI ((sP S).2.2.1 x.toNatClampNeg) else if y = 2 then nI ((sP S).2.2.2.1 x.toNatClampNeg) else -2
def sum_c (co op : Nat → Nat) : Nat → Nat
  | 0 => 0
  | t + 1 => sum_c co op t + co (op t)
def ap_count (S : st_T) (y : Int32) : Int32 :=
  if y = 0 then nI S.1.1 else if y = 1 then nI S.1.2.1 else if y = 2 then nI S.1.2.2 else if y = 3 then nI (sP S).1 else if y = 4 then nI (sP S).2.2.2.2 else if y = 5 then nI (sum_c S.2.2.1 (sP S).2.1 (sP S).1) else -2
def ap_value (S : st_T) (x y : Int32) : Int32 :=
  if (x < 0 ∨ nI (sG S + (sP S).1) ≤ x) ∨ (y < 0 ∨ nI (sA S) ≤ y) then -1 else sV S x.toNatClampNeg y.toNatClampNeg
def ap_differ (S : st_T) (x y : Int32) : Int32 :=
  if (x < 0 ∨ nI (sG S + (sP S).1) ≤ x) ∨ (¬ y = -2 ∧ (y < 0 ∨ nI (sG S + (sP S).1) ≤ y)) then -1
  else match lst (fun s => ¬ sV S x.toNatClampNeg s = if y = -2 then S.2.2.2.1 s else sV S y.toNatClampNeg s) (sA S) 0 with
    | some s => nI s
    | none => -5
noncomputable def ap_clean (S : st_T) : Int32 × st_T :=
  (nI ((sP S).1 - (cl_all S.1.1 S.1.2.1 S.1.2.2 S.2.1 (sP S).1 (sP S)).1), S.1, S.2.1, S.2.2.1, S.2.2.2.1, cl_all S.1.1 S.1.2.1 S.1.2.2 S.2.1 (sP S).1 (sP S), S.2.2.2.2.2)
def ss_0 : ss_S := (0, 0, false, 0, (fun _ => 0), (fun _ => 0), (fun _ => 0))
/-- what THE SEARCH answers out of its end -/
def ss_ans (q : ss_S × Nat) : Int32 := if q.1.2.2.1 = true then -6 else if q.1.2.1 = 0 then -5 else nI q.2
def ap_search (S : st_T) (x y z : Int32) : Int32 × st_T :=
  if (x < 0 ∨ nI 30 < x) ∨ (y < 0 ∨ nI 30000 < y) ∨ (¬ z = 0 ∧ ¬ z = 1) then (-2, S)
  else match lst (fun u => ∀ s, s < sA S → sV S u s = S.2.2.2.1 s) (sG S) 0 with
    | some v => (0, S.1, S.2.1, S.2.2.1, S.2.2.2.1, sP S, (true, 0, (fun _ => 0), (fun _ => 0), (fun _ => 0), v), (0, 0, 1, 0))
    | none =>
      let q := ss_rds S.1.1 (sA S) (sG S) S.2.2.1 S.2.2.2.1 y.toNatClampNeg (decide (z = 1)) (sV S) x.toNatClampNeg 0 ss_0
      (ss_ans q, S.1, S.2.1, S.2.2.1, S.2.2.2.1, sP S, (if q.1.2.2.1 = true ∨ q.1.2.1 = 0 then S.2.2.2.2.2.1 else (true, q.1.2.2.2.1, q.1.2.2.2.2.1, q.1.2.2.2.2.2.1, q.1.2.2.2.2.2.2, sG S + q.1.2.2.2.1 - 1)), (nI q.1.1, nI q.2, nI q.1.2.1, ss_ans q))
def ap_told (S : st_T) (y : Int32) : Int32 :=
  if y = 0 then S.2.2.2.2.2.2.1 else if y = 1 then S.2.2.2.2.2.2.2.1 else if y = 2 then S.2.2.2.2.2.2.2.2.1 else if y = 3 then S.2.2.2.2.2.2.2.2.2 else -2
def ap_take (S : st_T) : Int32 × st_T :=
  if S.2.2.2.2.2.1.1 = true then (nI S.2.2.2.2.2.1.2.1, S.1, S.2.1, S.2.2.1, S.2.2.2.1, S.2.2.2.2.2.1.2, S.2.2.2.2.2) else (-3, S)
/-- the class's memory holds the state S -/
def ci_I (M : eg_I) (b : Nat) (S : st_T) : Prop :=
  in_V M (b + 3) S.1.1 S.1.2.1 S.1.2.2 ∧ (∀ u s, u < sG S + (sP S).1 → s < sA S → M (b + 3 + 2 + u) s = sV S u s) ∧ (∀ o, o < 13 → M (b + 1) o = nI (S.2.2.1 o)) ∧ (∀ s, s < 256 → M (b + 2) s = S.2.2.2.1 s) ∧
  in_R M (b + 23) (sP S).1 (sP S).2.1 (sP S).2.2.1 (sP S).2.2.2.1 (sP S).2.2.2.2 ∧ M b 7 = (if S.2.2.2.2.2.1.1 = true then 1 else 0) ∧ (S.2.2.2.2.2.1.1 = true → in_R M (b + 27) S.2.2.2.2.2.1.2.1 S.2.2.2.2.2.1.2.2.1 S.2.2.2.2.2.1.2.2.2.1 S.2.2.2.2.2.1.2.2.2.2.1 S.2.2.2.2.2.1.2.2.2.2.2) ∧
  M (b + 32) 8 = S.2.2.2.2.2.2.1 ∧ M (b + 32) 9 = S.2.2.2.2.2.2.2.1 ∧ M (b + 32) 10 = S.2.2.2.2.2.2.2.2.1 ∧ M (b + 32) 11 = S.2.2.2.2.2.2.2.2.2
theorem nI_cl {x : Int32} {N : Nat} (h1 : ¬ x < 0) (h2 : ¬ nI N ≤ x) (hN : N < 2 ^ 31) : x = nI x.toNatClampNeg ∧ x.toNatClampNeg < N := by
  obtain ⟨j, hj, e⟩ := nI_of h1
  subst e
  rw [nI_clamp hj]
  exact ⟨rfl, Nat.lt_of_not_le (fun q => h2 (nI_le q hj))⟩
theorem nI_cm {x : Int32} {N : Nat} (h1 : ¬ x < 0) (h2 : ¬ nI N < x) (hN : N < 2 ^ 31) : x = nI x.toNatClampNeg ∧ x.toNatClampNeg ≤ N := by
  obtain ⟨j, hj, e⟩ := nI_of h1
  subst e
  rw [nI_clamp hj]
  exact ⟨rfl, Nat.le_of_not_lt (fun q => h2 (nI_lt q hj))⟩
