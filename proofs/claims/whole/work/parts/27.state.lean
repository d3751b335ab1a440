/-! THE STATE of the document, pure, and what each call does to it -/
def vv (w n k : Nat) (c : Nat → Int32) (op lf rt : Nat → Nat) : Nat → Nat → Nat → Int32
  | 0, _, _ => 0
  | f + 1, u, s => if u < n then wd_in w u s else if u < n + k then c (u - n) else wd_op w (op (u - (n + k))) (vv w n k c op lf rt f (lf (u - (n + k))) s) (vv w n k c op lf rt f (rt (u - (n + k))) s)
def sv (w n k : Nat) (c : Nat → Int32) (op lf rt : Nat → Nat) (u s : Nat) : Int32 := vv w n k c op lf rt (u + 1) u s
def pg_ok (g len : Nat) (op lf rt : Nat → Nat) (res : Nat) : Prop := len ≤ 12 ∧ (∀ j, j < len → op j < 13 ∧ lf j < g + j ∧ rt j < g + j ∧ (op j = 0 ∨ op j = 1 → rt j = 0)) ∧ res < g + len
section SV
variable {w n k : Nat} {c : Nat → Int32} {op lf rt : Nat → Nat}
theorem sv_in {u s : Nat} (h : u < n) : sv w n k c op lf rt u s = wd_in w u s := by
  unfold sv
  rw [vv, if_pos h]
theorem sv_c {i s : Nat} (h : i < k) : sv w n k c op lf rt (n + i) s = c i := by
  unfold sv
  rw [vv, if_neg (by omega), if_pos (by omega), show n + i - n = i by omega]
theorem vv_fuel {len : Nat} (hp : ∀ j, j < len → lf j < n + k + j ∧ rt j < n + k + j) (s : Nat) : ∀ f1 f2 u, u < n + k + len → u < f1 → u < f2 → vv w n k c op lf rt f1 u s = vv w n k c op lf rt f2 u s := by
  intro f1
  induction f1 with
  | zero => intro f2 u _ h; omega
  | succ f1 ih =>
    intro f2 u hu h1 h2
    cases f2 with
    | zero => omega
    | succ f2 =>
      rw [vv, vv]
      by_cases a : u < n
      · rw [if_pos a, if_pos a]
      · rw [if_neg a, if_neg a]
        by_cases b : u < n + k
        · rw [if_pos b, if_pos b]
        · rw [if_neg b, if_neg b]
          have := hp (u - (n + k)) (by omega)
          rw [ih f2 _ (by omega) (by omega) (by omega), ih f2 (rt (u - (n + k))) (by omega) (by omega) (by omega)]
theorem sv_op {len j s : Nat} (hp : ∀ j, j < len → lf j < n + k + j ∧ rt j < n + k + j) (hj : j < len) : sv w n k c op lf rt (n + k + j) s = wd_op w (op j) (sv w n k c op lf rt (lf j) s) (sv w n k c op lf rt (rt j) s) := by
  unfold sv
  have := hp j hj
  rw [vv, if_neg (by omega), if_neg (by omega), show n + k + j - (n + k) = j by omega, vv_fuel hp s _ (lf j + 1) (lf j) (by omega) (by omega) (by omega), vv_fuel hp s _ (rt j + 1) (rt j) (by omega) (by omega) (by omega)]
theorem vv_congr {op' lf' rt' : Nat → Nat} {m : Nat} (hp : ∀ j, j < m → lf j < n + k + j ∧ rt j < n + k + j) (he : ∀ j, j < m → op' j = op j ∧ lf' j = lf j ∧ rt' j = rt j) (s : Nat) : ∀ f u, u < n + k + m → vv w n k c op' lf' rt' f u s = vv w n k c op lf rt f u s := by
  intro f
  induction f with
  | zero => intro u _; rfl
  | succ f ih =>
    intro u hu
    rw [vv, vv]
    by_cases a : u < n
    · rw [if_pos a, if_pos a]
    · rw [if_neg a, if_neg a]
      by_cases b : u < n + k
      · rw [if_pos b, if_pos b]
      · rw [if_neg b, if_neg b]
        obtain ⟨e1, e2, e3⟩ := he (u - (n + k)) (by omega)
        have := hp (u - (n + k)) (by omega)
        rw [e1, e2, e3, ih _ (by omega), ih _ (by omega)]
theorem sv_congr {op' lf' rt' : Nat → Nat} {m u s : Nat} (hp : ∀ j, j < m → lf j < n + k + j ∧ rt j < n + k + j) (he : ∀ j, j < m → op' j = op j ∧ lf' j = lf j ∧ rt' j = rt j) (hu : u < n + k + m) : sv w n k c op' lf' rt' u s = sv w n k c op lf rt u s := vv_congr hp he s _ u hu
end SV
/-- the least place from u on, t places -/
def lst (P : Nat → Prop) [DecidablePred P] : Nat → Nat → Option Nat
  | 0, _ => none
  | t + 1, u => if P u then some u else lst P t (u + 1)
theorem lst_some {P : Nat → Prop} [DecidablePred P] : ∀ {t u x : Nat}, u ≤ x → x < u + t → P x → (∀ y, u ≤ y → y < x → ¬ P y) → lst P t u = some x
  | 0, u, x, h1, h2, _, _ => absurd h2 (by omega)
  | t + 1, u, x, h1, h2, h3, h4 => by
    rw [lst]
    by_cases e : u = x
    · subst e
      rw [if_pos h3]
    · rw [if_neg (h4 u (Nat.le_refl _) (by omega))]
      exact lst_some (by omega) (by omega) h3 (fun y g1 g2 => h4 y (by omega) g2)
theorem lst_none {P : Nat → Prop} [DecidablePred P] : ∀ {t u : Nat}, (∀ y, u ≤ y → y < u + t → ¬ P y) → lst P t u = none
  | 0, _, _ => rfl
  | t + 1, u, h => by
    rw [lst, if_neg (h u (Nat.le_refl _) (by omega))]
    exact lst_none (fun y g1 g2 => h y (by omega) (by omega))
theorem lst_spec {P : Nat → Prop} [DecidablePred P] : ∀ {t u x : Nat}, lst P t u = some x → u ≤ x ∧ x < u + t ∧ P x ∧ ∀ y, u ≤ y → y < x → ¬ P y
  | 0, _, _, h => by cases h
  | t + 1, u, x, h => by
    rw [lst] at h
    by_cases e : P u
    · rw [if_pos e] at h
      cases h
      exact ⟨Nat.le_refl _, by omega, e, fun y g1 g2 => absurd g2 (by omega)⟩
    · rw [if_neg e] at h
      obtain ⟨a, b, c, d⟩ := lst_spec h
      refine ⟨by omega, by omega, c, fun y g1 g2 => ?_⟩
      by_cases z : y = u
      · subst z; exact e
      · exact d y (by omega) g2
theorem lst_no {P : Nat → Prop} [DecidablePred P] {t u : Nat} (h : lst P t u = none) : ∀ y, u ≤ y → y < u + t → ¬ P y := by
  intro y g1 g2 hP
  obtain ⟨z, z1, z2⟩ := pk_least (fun x => u ≤ x ∧ P x) ⟨y, g1, hP⟩
  have : lst P t u = some z := lst_some z1.1 (by
    rcases Nat.lt_or_ge y z with q | q
    · exact absurd ⟨g1, hP⟩ (z2 y q)
    · omega) z1.2 (fun x q1 q2 q3 => z2 x q2 ⟨q1, q3⟩)
  rw [h] at this
  cases this
/-- a VALUE before that is the same for all ASSIGNMENTS -/
def cl_tw (A g : Nat) (V : Nat → Nat → Int32) (j : Nat) : Option Nat := lst (fun u => ∀ s, s < A → V u s = V (g + j) s) (g + j) 0
/-- the least INSTRUCTION with a twin, from j on -/
def cl_rep (A g : Nat) (V : Nat → Nat → Int32) : Nat → Nat → Option (Nat × Nat)
  | 0, _ => none
  | t + 1, j => match cl_tw A g V j with
    | some u => some (j, u)
    | none => cl_rep A g V t (j + 1)
/-- RESULT or an INSTRUCTION behind has it -/
def cl_us (g len : Nat) (lf rt : Nat → Nat) (res j : Nat) : Prop := res = g + j ∨ ∃ i, i < len ∧ j < i ∧ (lf i = g + j ∨ rt i = g + j)
/-- the last INSTRUCTION below t on which nothing hangs -/
noncomputable def cl_id (g len : Nat) (lf rt : Nat → Nat) (res : Nat) : Nat → Option Nat
  | 0 => none
  | t + 1 => @ite _ (cl_us g len lf rt res t) (Classical.propDecidable _) (cl_id g len lf rt res t) (some t)
abbrev pg_T : Type := Nat × (Nat → Nat) × (Nat → Nat) × (Nat → Nat) × Nat
def pg_rm (g j t : Nat) (p : pg_T) : pg_T := (p.1 - 1, cut_at p.2.1 j, cut_rn p.2.2.1 j (g + j) t, cut_rn p.2.2.2.1 j (g + j) t, rn p.2.2.2.2 (g + j) t)
/-- one step of CLEANING -/
noncomputable def cl_step (w n k : Nat) (c : Nat → Int32) (p : pg_T) : Option pg_T := match cl_rep (2 ^ (w * n)) (n + k) (sv w n k c p.2.1 p.2.2.1 p.2.2.2.1) p.1 0 with
  | some q => some (pg_rm (n + k) q.1 q.2 p)
  | none => match cl_id (n + k) p.1 p.2.2.1 p.2.2.2.1 p.2.2.2.2 p.1 with
    | some j => some (pg_rm (n + k) j 0 p)
    | none => none
noncomputable def cl_all (w n k : Nat) (c : Nat → Int32) : Nat → pg_T → pg_T
  | 0, p => p
  | f + 1, p => match cl_step w n k c p with
    | some q => cl_all w n k c f q
    | none => p
/-- rounds: how many are left, how many began -/
def ss_rds (w A g : Nat) (co : Nat → Nat) (tg : Nat → Int32) (L : Nat) (al : Bool) (V : Nat → Nat → Int32) : Nat → Nat → ss_S → ss_S × Nat
  | 0, rd, σ => (σ, rd)
  | t + 1, rd, σ => if 0 < σ.2.1 ∨ σ.2.2.1 = true then (σ, rd) else ss_rds w A g co tg L al V t (rd + 1) (ss_fill w A g co tg L al 12 0 (rd + 1) (fun _ => 0) (fun _ => 0) (fun _ => 0) V σ)
