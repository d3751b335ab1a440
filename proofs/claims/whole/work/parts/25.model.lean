/-! words and operations; shapes of the class's objects; small rows -/
theorem eg_inc (s : Nat) : nI s + Int32.ofInt 1 = nI (s + 1) := nI_1 s
theorem eg_dec (s : Nat) : nI (s + 1) + Int32.ofInt (-1) = nI s := pk_m1 s
/-- places lo .. hi - 1 of a row -/
def eg_fl (M : eg_I) (a lo hi : Nat) (f : Nat → Int32) : eg_I := fun q j => if q = a ∧ lo ≤ j ∧ j < hi then f j else M q j
theorem eg_fl_0 {M : eg_I} {a lo hi : Nat} {f : Nat → Int32} (h : hi ≤ lo) : eg_fl M a lo hi f = M := by
  funext q j
  unfold eg_fl
  rw [if_neg (by omega)]
theorem eg_fl_step {M : eg_I} {a lo hi : Nat} {f f' : Nat → Int32} (h : lo < hi) (hf : ∀ j, lo < j → j < hi → f' j = f j) : eg_fl (eg_set M a lo (f lo)) a (lo + 1) hi f' = eg_fl M a lo hi f := by
  funext q j
  unfold eg_fl eg_set
  by_cases h1 : q = a
  · by_cases h2 : j = lo
    · subst h2
      rw [if_neg (by omega), if_pos ⟨h1, rfl⟩, if_pos ⟨h1, by omega, h⟩]
    · by_cases h3 : lo ≤ j ∧ j < hi
      · rw [if_pos ⟨h1, by omega, h3.2⟩, if_pos ⟨h1, h3⟩]
        exact hf j (by omega) h3.2
      · rw [if_neg (by omega), if_neg (by omega), if_neg (by omega)]
  · rw [if_neg (by omega), if_neg (by omega), if_neg (by omega)]
theorem eg_fl_ne {M : eg_I} {a lo hi q : Nat} {f : Nat → Int32} (h : q ≠ a) : eg_fl M a lo hi f q = M q := by
  funext j
  unfold eg_fl
  rw [if_neg (by omega)]
theorem eg_fl_in {M : eg_I} {a lo hi j : Nat} {f : Nat → Int32} (h1 : lo ≤ j) (h2 : j < hi) : eg_fl M a lo hi f a j = f j := if_pos ⟨rfl, h1, h2⟩
theorem eg_fl_out {M : eg_I} {a lo hi j : Nat} {f : Nat → Int32} (h : j < lo ∨ hi ≤ j) : eg_fl M a lo hi f a j = M a j := if_neg (by omega)
theorem eg_set_eq {M : eg_I} {a j : Nat} {x : Int32} : eg_set M a j x a j = x := if_pos ⟨rfl, rfl⟩
theorem eg_set_j {M : eg_I} {a j i : Nat} {x : Int32} (h : i ≠ j) : eg_set M a j x a i = M a i := if_neg (fun q => h q.2)
/-- b modulo W, as the code reckons it -/
def wd_by (w : Nat) (b : Int32) : Int32 := b - b / nI w * nI w
/-- the highest bit in all bits above -/
def wd_sg (w : Nat) (a : Int32) : Int32 := if a >>> ((nI w - nI 1) &&& 31) = 0 then a else a ||| (nI (2 ^ w - 1) ^^^ (-1))
def wd_op (w o : Nat) (a b : Int32) : Int32 := match o with
  | 0 => (a ^^^ (-1)) &&& nI (2 ^ w - 1)
  | 1 => (-a) &&& nI (2 ^ w - 1)
  | 2 => a &&& b
  | 3 => a ||| b
  | 4 => a ^^^ b
  | 5 => (a + b) &&& nI (2 ^ w - 1)
  | 6 => (a - b) &&& nI (2 ^ w - 1)
  | 7 => (a * b) &&& nI (2 ^ w - 1)
  | 8 => (a <<< (wd_by w b &&& 31)) &&& nI (2 ^ w - 1)
  | 9 => a >>> (wd_by w b &&& 31)
  | 10 => (wd_sg w a >>> (wd_by w b &&& 31)) &&& nI (2 ^ w - 1)
  | 11 => if a < b then 1 else 0
  | 12 => if a = b then 1 else 0
  | _ => 0
/-- an INPUT's word for an ASSIGNMENT, as the code reckons it -/
def wd_in (w i s : Nat) : Int32 := (nI s >>> ((nI w * nI i) &&& 31)) &&& nI (2 ^ w - 1)
def sh_V (G : eg_G) (v : Nat) : Prop := G.2.1 v = some (.inl 2) ∧ G.2.2 v 0 = some (v + 1) ∧ G.2.1 (v + 1) = some (.inr (.array .int, 18)) ∧ ∀ i, i < 18 → G.2.2 (v + 1) i = some (v + 2 + i) ∧ G.2.1 (v + 2 + i) = some (.inr (.int, 256))
def sh_R (G : eg_G) (r : Nat) : Prop := G.2.1 r = some (.inl 1) ∧ G.2.2 r 0 = some (r + 1) ∧ G.2.2 r 1 = some (r + 2) ∧ G.2.2 r 2 = some (r + 3) ∧ G.2.1 (r + 1) = some (.inr (.int, 12)) ∧ G.2.1 (r + 2) = some (.inr (.int, 12)) ∧ G.2.1 (r + 3) = some (.inr (.int, 12))
def sh_H (G : eg_G) (h : Nat) : Prop := G.2.1 h = some (.inl 0) ∧ G.2.2 h 0 = some (h + 1) ∧ G.2.1 (h + 1) = some (.inr (.int, 13)) ∧ G.2.2 h 1 = some (h + 2) ∧ G.2.1 (h + 2) = some (.inr (.int, 256)) ∧ G.2.2 h 2 = some (h + 3) ∧ sh_V G (h + 3) ∧ G.2.2 h 3 = some (h + 23) ∧ sh_R G (h + 23) ∧ G.2.2 h 4 = some (h + 27) ∧ sh_R G (h + 27)
def sh_C (G : eg_G) (b : Nat) : Prop := G.2.1 b = some (.inl 3) ∧ G.2.2 b 0 = some (b + 1) ∧ G.2.1 (b + 1) = some (.inr (.int, 13)) ∧ G.2.2 b 1 = some (b + 2) ∧ G.2.1 (b + 2) = some (.inr (.int, 256)) ∧ G.2.2 b 2 = some (b + 3) ∧ sh_V G (b + 3) ∧ G.2.2 b 3 = some (b + 23) ∧ sh_R G (b + 23) ∧ G.2.2 b 4 = some (b + 27) ∧ sh_R G (b + 27) ∧ G.2.2 b 5 = some (b + 31) ∧ G.2.1 (b + 31) = some (.inr (.boolean, 18)) ∧ G.2.2 b 6 = some (b + 32) ∧ sh_H G (b + 32)
/-- W, n, how many CONSTANTS, as the fields of Values have them -/
def in_V (M : eg_I) (v w n k : Nat) : Prop := M v 1 = nI w ∧ M v 2 = nI (2 ^ w - 1) ∧ M v 3 = nI n ∧ M v 4 = nI k ∧ M v 5 = nI (2 ^ (w * n)) ∧ 1 ≤ w ∧ w ≤ 4 ∧ 1 ≤ n ∧ n ≤ 2 ∧ k ≤ 4
theorem wd_asg {w n : Nat} (h1 : w ≤ 4) (h2 : n ≤ 2) : 2 ^ (w * n) ≤ 256 := by
  have : w * n ≤ 8 := by
    have := Nat.mul_le_mul h1 h2
    omega
  calc 2 ^ (w * n) ≤ 2 ^ 8 := Nat.pow_le_pow_right (by decide) this
    _ = 256 := by decide
theorem wd_mask {w : Nat} (h1 : w ≤ 4) : 2 ^ w ≤ 16 := by
  calc 2 ^ w ≤ 2 ^ 4 := Nat.pow_le_pow_right (by decide) h1
    _ = 16 := by decide
theorem in_V.eq {M M' : eg_I} {v w n k : Nat} (h : in_V M v w n k) (e : M' v = M v) : in_V M' v w n k := by
  unfold in_V
  rw [e]
  exact h
theorem eg_set_jj {M : eg_I} {a j q i : Nat} {x : Int32} (h : i ≠ j) : eg_set M a j x q i = M q i := if_neg (fun z => h z.2)
theorem eg_fl_q {P : eg_I → Prop} {M : eg_I} {a lo hi : Nat} {f f' : Nat → Int32} (h : lo < hi) (hf : ∀ j, lo < j → j < hi → f' j = f j) (hP : P (eg_fl M a lo hi f)) : P (eg_fl (eg_set M a lo (f lo)) a (lo + 1) hi f') := (eg_fl_step h hf).symm ▸ hP
/-- a program in a Row: how many, OPERATIONS, OPERANDS, RESULT -/
def in_R (M : eg_I) (r len : Nat) (op lf rt : Nat → Nat) (res : Nat) : Prop := M r 3 = nI len ∧ M r 4 = nI res ∧ len ≤ 12 ∧ ∀ j, j < len → M (r + 1) j = nI (op j) ∧ M (r + 2) j = nI (lf j) ∧ M (r + 3) j = nI (rt j)
theorem in_R.eq {M M' : eg_I} {r len res : Nat} {op lf rt : Nat → Nat} (h : in_R M r len op lf rt res) (e : ∀ q, r ≤ q → q < r + 4 → M' q = M q) : in_R M' r len op lf rt res := by
  unfold in_R
  rw [e r (by omega) (by omega), e (r + 1) (by omega) (by omega), e (r + 2) (by omega) (by omega), e (r + 3) (by omega) (by omega)]
  exact h
def rn (x g t : Nat) : Nat := if x = g then t else if g < x then x - 1 else x
def cut_at (f : Nat → Nat) (k : Nat) : Nat → Nat := fun j => if j < k then f j else f (j + 1)
def cut_rn (f : Nat → Nat) (k g t : Nat) : Nat → Nat := fun j => if j < k then f j else rn (f (j + 1)) g t
theorem rn_le {x g t : Nat} (hx : x < 2 ^ 30) (ht : t < 2 ^ 30) : rn x g t < 2 ^ 30 := by
  unfold rn
  split
  · exact ht
  · split <;> omega
theorem wd_m : ∀ w, 1 ≤ w → w ≤ 4 → (nI 1 <<< (nI w &&& 31)) - nI 1 = nI (2 ^ w - 1) := by
  intro w h1 h2
  have : w = 1 ∨ w = 2 ∨ w = 3 ∨ w = 4 := by omega
  rcases this with rfl | rfl | rfl | rfl <;> decide
theorem wd_a : ∀ w n, 1 ≤ w → w ≤ 4 → 1 ≤ n → n ≤ 2 → nI 1 <<< ((nI w * nI n) &&& 31) = nI (2 ^ (w * n)) := by
  intro w n h1 h2 h3 h4
  have g1 : w = 1 ∨ w = 2 ∨ w = 3 ∨ w = 4 := by omega
  have g2 : n = 1 ∨ n = 2 := by omega
  rcases g1 with rfl | rfl | rfl | rfl <;> rcases g2 with rfl | rfl <;> decide
theorem eg_fl_r {M : eg_I} {a lo s : Nat} {f : Nat → Int32} (h : lo ≤ s) : eg_fl M a lo (s + 1) f = eg_set (eg_fl M a lo s f) a s (f s) := by
  funext q j
  show (if q = a ∧ lo ≤ j ∧ j < s + 1 then f j else M q j) = (if q = a ∧ j = s then f s else (if q = a ∧ lo ≤ j ∧ j < s then f j else M q j))
  by_cases e1 : q = a
  · by_cases e2 : j = s
    · subst e2
      rw [if_pos ⟨e1, h, by omega⟩, if_pos ⟨e1, rfl⟩]
    · have e4 : ¬ (q = a ∧ j = s) := fun z => e2 z.2
      by_cases e3 : lo ≤ j ∧ j < s
      · rw [if_pos ⟨e1, e3.1, by omega⟩, if_neg e4, if_pos ⟨e1, e3⟩]
      · rw [if_neg (show ¬ (q = a ∧ lo ≤ j ∧ j < s + 1) by omega), if_neg e4, if_neg (show ¬ (q = a ∧ lo ≤ j ∧ j < s) by omega)]
  · rw [if_neg (fun z => e1 z.1), if_neg (fun z => e1 z.1), if_neg (fun z => e1 z.1)]
