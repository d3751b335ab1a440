/-! ShortestCodeModel: shapes, state, small methods -/
def sh_M (G : eg_G) (a : Nat) : Prop := G.2.1 a = some (.inl 4) ∧ (G.2.2 a 5 = some (a + 1) ∧ G.2.1 (a + 1) = some (.inr (.int, 4))) ∧ (G.2.2 a 6 = some (a + 2) ∧ G.2.1 (a + 2) = some (.inr (.int, 13))) ∧ (G.2.2 a 7 = some (a + 3) ∧ G.2.1 (a + 3) = some (.inr (.int, 256))) ∧
  (G.2.2 a 9 = some (a + 4) ∧ G.2.1 (a + 4) = some (.inr (.int, 12))) ∧ (G.2.2 a 10 = some (a + 5) ∧ G.2.1 (a + 5) = some (.inr (.int, 12))) ∧ (G.2.2 a 11 = some (a + 6) ∧ G.2.1 (a + 6) = some (.inr (.int, 12))) ∧ (G.2.2 a 13 = some (a + 7) ∧ G.2.1 (a + 7) = some (.inr (.int, 4608))) ∧ (G.2.2 a 14 = some (a + 8) ∧ G.2.1 (a + 8) = some (.inr (.int, 4608))) ∧
  (G.2.2 a 18 = some (a + 9) ∧ G.2.1 (a + 9) = some (.inr (.int, 12))) ∧ (G.2.2 a 19 = some (a + 10) ∧ G.2.1 (a + 10) = some (.inr (.int, 12))) ∧ (G.2.2 a 20 = some (a + 11) ∧ G.2.1 (a + 11) = some (.inr (.int, 12))) ∧ (G.2.2 a 25 = some (a + 12) ∧ G.2.1 (a + 12) = some (.inr (.int, 13))) ∧ (G.2.2 a 26 = some (a + 13) ∧ G.2.1 (a + 13) = some (.inr (.int, 13))) ∧
  (G.2.2 a 27 = some (a + 14) ∧ G.2.1 (a + 14) = some (.inr (.int, 13))) ∧ (G.2.2 a 28 = some (a + 15) ∧ G.2.1 (a + 15) = some (.inr (.int, 13))) ∧ (G.2.2 a 30 = some (a + 16) ∧ G.2.1 (a + 16) = some (.inr (.int, 12))) ∧ (G.2.2 a 31 = some (a + 17) ∧ G.2.1 (a + 17) = some (.inr (.int, 12))) ∧ (G.2.2 a 32 = some (a + 18) ∧ G.2.1 (a + 18) = some (.inr (.int, 12)))
/-- W, n, CONSTANTS -/
def in_M (M : eg_I) (a w n k : Nat) (cf : Nat → Int32) : Prop := M a 0 = nI w ∧ M a 1 = nI n ∧ M a 2 = nI (2 ^ w - 1) ∧ M a 3 = nI (2 ^ (w * n)) ∧ M a 4 = nI k ∧ (∀ j, j < k → M (a + 1) j = cf j) ∧ 1 ≤ w ∧ w ≤ 4 ∧ 1 ≤ n ∧ n ≤ 2 ∧ k ≤ 4
theorem in_M.eq {M M' : eg_I} {a w n k : Nat} {cf : Nat → Int32} (h : in_M M a w n k cf) (e0 : ∀ j, j < 5 → M' a j = M a j) (e1 : M' (a + 1) = M (a + 1)) : in_M M' a w n k cf := by
  unfold in_M
  rw [e0 0 (by decide), e0 1 (by decide), e0 2 (by decide), e0 3 (by decide), e0 4 (by decide), e1]
  exact h
/-- THE PROGRAM -/
def in_Q (M : eg_I) (a len : Nat) (op lf rt : Nat → Nat) (res : Nat) : Prop := M a 8 = nI len ∧ M a 12 = nI res ∧ len ≤ 12 ∧ ∀ j, j < len → M (a + 4) j = nI (op j) ∧ M (a + 5) j = nI (lf j) ∧ M (a + 6) j = nI (rt j)
theorem in_Q.eq {M M' : eg_I} {a len res : Nat} {op lf rt : Nat → Nat} (h : in_Q M a len op lf rt res) (e0 : M' a 8 = M a 8) (e1 : M' a 12 = M a 12) (e : ∀ q, a + 4 ≤ q → q < a + 7 → M' q = M q) : in_Q M' a len op lf rt res := by
  unfold in_Q
  rw [e0, e1, e (a + 4) (by omega) (by omega), e (a + 5) (by omega) (by omega), e (a + 6) (by omega) (by omega)]
  exact h
def is_wd (w : Nat) (x : Int32) : Prop := ∃ X, X < 2 ^ w ∧ x = nI X
def ck_op (w o X Y : Nat) : Bool := decide (0 ≤ (wd_op w o (nI X) (nI Y)).toInt) && decide ((wd_op w o (nI X) (nI Y)).toInt.toNat < 2 ^ w)
theorem wd_op_ck0 : (List.range 5).all (fun w => (List.range 13).all (fun o => (List.range 16).all (fun X => (List.range 16).all (fun Y => !(decide (1 ≤ w) && decide (X < 2 ^ w) && decide (Y < 2 ^ w)) || ck_op w o X Y)))) = true := by decide +kernel
theorem wd_op_ck (w : Nat) (h5 : w < 5) (o : Nat) (ho : o < 13) (X : Nat) (hX : X < 16) (Y : Nat) (hY : Y < 16) (h : 1 ≤ w ∧ X < 2 ^ w ∧ Y < 2 ^ w) : 0 ≤ (wd_op w o (nI X) (nI Y)).toInt ∧ (wd_op w o (nI X) (nI Y)).toInt.toNat < 2 ^ w := by
  have z := wd_op_ck0
  rw [List.all_eq_true] at z
  have z := z w (List.mem_range.mpr h5)
  rw [List.all_eq_true] at z
  have z := z o (List.mem_range.mpr ho)
  rw [List.all_eq_true] at z
  have z := z X (List.mem_range.mpr hX)
  rw [List.all_eq_true] at z
  have z := z Y (List.mem_range.mpr hY)
  rw [decide_eq_true h.1, decide_eq_true h.2.1, decide_eq_true h.2.2] at z
  simp only [Bool.and_self, Bool.not_true, Bool.false_or] at z
  unfold ck_op at z
  rw [Bool.and_eq_true] at z
  exact ⟨of_decide_eq_true z.1, of_decide_eq_true z.2⟩
theorem wd_op_wd {w o : Nat} {x y : Int32} (h1 : 1 ≤ w) (h4 : w ≤ 4) (ho : o < 13) (hx : is_wd w x) (hy : is_wd w y) : is_wd w (wd_op w o x y) := by
  obtain ⟨X, hX, rfl⟩ := hx
  obtain ⟨Y, hY, rfl⟩ := hy
  have hm := wd_mask h4
  obtain ⟨c1, c2⟩ := wd_op_ck w (by omega) o ho X (by omega) Y (by omega) ⟨h1, hX, hY⟩
  refine ⟨(wd_op w o (nI X) (nI Y)).toInt.toNat, by omega, ?_⟩
  apply Int32.toInt_inj.mp
  rw [nI_toInt (by omega)]
  omega
theorem wd_in_wd {w u s : Nat} (h4 : w ≤ 4) : is_wd w (wd_in w u s) := by
  have hm := wd_mask h4
  obtain ⟨j, hj, e⟩ := pk_andE (nI s >>> ((nI w * nI u) &&& 31)) (m := nI (2 ^ w - 1)) w (pk_tn (by omega))
  exact ⟨j, hj, e⟩
theorem sv_wd {w n k len : Nat} {cf : Nat → Int32} {op lf rt : Nat → Nat} (h1 : 1 ≤ w) (h4 : w ≤ 4) (hc : ∀ i, i < k → ∃ x, x < 2 ^ w ∧ cf i = nI x) (hp : ∀ j, j < len → op j < 13 ∧ lf j < n + k + j ∧ rt j < n + k + j) (s : Nat) : ∀ m u, u < m → u < n + k + len → is_wd w (sv w n k cf op lf rt u s) := by
  intro m
  induction m with
  | zero => intro u h; omega
  | succ m ih =>
    intro u hm hu
    by_cases a : u < n
    · rw [sv_in a]; exact wd_in_wd h4
    · by_cases b : u < n + k
      · obtain ⟨v, rfl⟩ : ∃ v, u = n + v := ⟨u - n, by omega⟩
        rw [sv_c (by omega)]
        obtain ⟨x, hx, e⟩ := hc v (by omega)
        exact ⟨x, hx, e⟩
      · obtain ⟨j, rfl⟩ : ∃ j, u = n + k + j := ⟨u - (n + k), by omega⟩
        have := hp j (by omega)
        rw [sv_op (fun j hj => (hp j hj).2) (show j < len by omega)]
        exact wd_op_wd h1 h4 this.1 (ih _ (by omega) (by omega)) (ih _ (by omega) (by omega))
theorem wd_hi : ∀ w, w < 5 → ∀ X, X < 16 → (1 ≤ w ∧ X < 2 ^ w) → (nI X >>> ((nI w - nI 1) &&& 31) = 0 ∧ (nI X >>> ((nI w - nI 1) &&& 31)) &&& nI 1 = 0) ∨ (¬ nI X >>> ((nI w - nI 1) &&& 31) = 0 ∧ (nI X >>> ((nI w - nI 1) &&& 31)) &&& nI 1 = nI 1) := by decide +kernel
theorem or_0 (x : Int32) : x ||| nI 0 = x := by
  apply Int32.toBitVec_inj.mp
  show x.toBitVec ||| 0#32 = x.toBitVec
  simp
set_option maxHeartbeats 2000000 in
theorem sp_X4_within {l : Launch} {E : eg_E} {d kb nb : Nat} {Q : Option Value → eg_G → eg_I → Prop} {G : eg_G} {M : eg_I} {x lo hi : Int32} (hT : ¬ x < lo → ¬ hi < x → Q (some (.int 1)) G M) (hF : x < lo ∨ hi < x → Q (some (.int 0)) G M) : eg_J l E mX4_within d kb nb Q 0 [some (.int x), some (.int lo), some (.int hi)] [] G M := by
  refine eg_iload_n dX4_within_0 rfl rfl ?_
  refine eg_iload_n dX4_within_1 rfl rfl ?_
  refine eg_icmp_lt 14 dX4_within_2 (by decide) (fun ca => ?_) (fun ca => ?_)
  · refine eg_iconst dX4_within_14 (v := nI 0) (by decide) ?_
    exact eg_zret rfl rfl dX4_within_15 (by first | exact hT ca cb | exact hF (Or.inl ca) | exact hF (Or.inr cb))
  · refine eg_iload_n dX4_within_5 rfl rfl ?_
    refine eg_iload_n dX4_within_6 rfl rfl ?_
    refine eg_icmp_gt 14 dX4_within_7 (by decide) (fun cb => ?_) (fun cb => ?_)
    · refine eg_iconst dX4_within_14 (v := nI 0) (by decide) ?_
      exact eg_zret rfl rfl dX4_within_15 (by first | exact hT ca cb | exact hF (Or.inl ca) | exact hF (Or.inr cb))
    · refine eg_iconst dX4_within_10 (v := nI 1) (by decide) ?_
      refine eg_goto 15 dX4_within_11 (by decide) ?_
      exact eg_zret rfl rfl dX4_within_15 (by first | exact hT ca cb | exact hF (Or.inl ca) | exact hF (Or.inr cb))
set_option maxHeartbeats 2000000 in
theorem sp_X4_firsts {l : Launch} {E : eg_E} {d kb nb : Nat} {Q : Option Value → eg_G → eg_I → Prop} {G : eg_G} {M : eg_I} {a w n k : Nat} {cf : Nat → Int32} (hk0 : G.2.1 a = some (.inl 4)) (h : in_M M a w n k cf) (hQ : Q (some (.int (nI (n + k)))) G M) : eg_J l E mX4_firsts d kb nb Q 0 [some (.ref a)] [] G M := by
  obtain ⟨m0, m1, m2, m3, m4, mc, hw1, hw4, hn1, hn2, hk4⟩ := id h
  have hA := wd_asg hw4 hn2
  refine eg_aload_n dX4_firsts_0 rfl rfl ?_
  refine eg_getI gf_RX4_13 rfl (by assumption) dX4_firsts_1 ?_
  refine eg_topi m1 ?_
  refine eg_aload_n dX4_firsts_4 rfl rfl ?_
  refine eg_getI gf_RX4_83 rfl (by assumption) dX4_firsts_5 ?_
  refine eg_topi m4 ?_
  refine eg_iadd dX4_firsts_8 ?_
  refine eg_topi (nI_add n k) ?_
  exact eg_iret rfl dX4_firsts_9 hQ
set_option maxHeartbeats 2000000 in
theorem sp_X4_all {l : Launch} {E : eg_E} {d kb nb : Nat} {Q : Option Value → eg_G → eg_I → Prop} {G : eg_G} {M : eg_I} {a w n k len : Nat} {cf : Nat → Int32} (hd : 1 ≤ d) (hk0 : G.2.1 a = some (.inl 4)) (h : in_M M a w n k cf) (h8 : M a 8 = nI len) (hQ : Q (some (.int (nI (n + k + len)))) G M) : eg_J l E mX4_all d kb nb Q 0 [some (.ref a)] [] G M := by
  refine eg_aload_n dX4_all_0 rfl rfl ?_
  refine eg_callV0 0 0 gk_X4_firsts gi_X4_firsts (by assumption) rfl gl_RX4_86 rfl (Nat.le_of_ble_eq_true rfl) (Nat.le_of_ble_eq_true rfl) (Nat.zero_le _) (Nat.zero_le _) (by omega) dX4_all_1 ?_
  refine sp_X4_firsts hk0 h ?_
  refine eg_aload_n dX4_all_4 rfl rfl ?_
  refine eg_getI gf_RX4_90 rfl (by assumption) dX4_all_5 ?_
  refine eg_topi h8 ?_
  refine eg_iadd dX4_all_8 ?_
  refine eg_topi (nI_add (n + k) len) ?_
  exact eg_iret rfl dX4_all_9 hQ
set_option maxHeartbeats 2000000 in
theorem sp_X4_reckon {l : Launch} {E : eg_E} {d kb nb : Nat} {Q : Option Value → eg_G → eg_I → Prop} {G : eg_G} {M : eg_I} {a w n k o : Nat} {cf : Nat → Int32} {x y : Int32} (hk0 : G.2.1 a = some (.inl 4)) (h : in_M M a w n k cf) (ho : o < 13) (hx : is_wd w x) (hQ : Q (some (.int (wd_op w o x y))) G M) : eg_J l E mX4_reckon d kb nb Q 0 [some (.ref a), some (.int (nI o)), some (.int x), some (.int y), none, none] [] G M := by
  obtain ⟨m0, m1, m2, m3, m4, mc, hw1, hw4, hn1, hn2, hk4⟩ := id h
  have hA := wd_asg hw4 hn2
  refine eg_iload_n dX4_reckon_0 rfl rfl ?_
  refine eg_aload_n dX4_reckon_1 rfl rfl ?_
  refine eg_getI gf_RX4_7 rfl (by assumption) dX4_reckon_2 ?_
  refine eg_topi m0 ?_
  refine eg_irem dX4_reckon_5 (nI_ne0 (by omega) (by omega)) ?_
  refine eg_istore dX4_reckon_6 (by decide) rfl ?_
  refine eg_iload_n dX4_reckon_8 rfl rfl ?_
  refine eg_aload_n dX4_reckon_9 rfl rfl ?_
  refine eg_getI gf_RX4_7 rfl (by assumption) dX4_reckon_10 ?_
  refine eg_topi m0 ?_
  refine eg_iconst dX4_reckon_13 (v := nI 1) (by decide) ?_
  refine eg_isub dX4_reckon_14 ?_
  refine eg_ishr dX4_reckon_15 ?_
  refine eg_iconst dX4_reckon_16 (v := nI 1) (by decide) ?_
  refine eg_iand dX4_reckon_17 ?_
  refine eg_istore dX4_reckon_18 (by decide) rfl ?_
  refine eg_iload_n dX4_reckon_20 rfl rfl ?_
  obtain ⟨X, hX, rfl⟩ := hx
  have hm := wd_mask hw4
  have hhi := wd_hi w (by omega) X (by omega) ⟨hw1, hX⟩
  match o, ho with
  | 0, _ =>
    refine eg_tableIn 84 dX4_reckon_21 (by decide) (by decide) rfl (by decide) ?_
    refine eg_iload_n dX4_reckon_84 rfl rfl ?_
    refine eg_iconst dX4_reckon_85 (v := -1) (by decide) ?_
    refine eg_ixor dX4_reckon_86 ?_
    refine eg_aload_n dX4_reckon_87 rfl rfl ?_
    refine eg_getI gf_RX4_16 rfl (by assumption) dX4_reckon_88 ?_
    refine eg_topi m2 ?_
    refine eg_iand dX4_reckon_91 ?_
    exact eg_iret rfl dX4_reckon_92 hQ
  | 1, _ =>
    refine eg_tableIn 93 dX4_reckon_21 (by decide) (by decide) rfl (by decide) ?_
    refine eg_iload_n dX4_reckon_93 rfl rfl ?_
    refine eg_ineg dX4_reckon_94 ?_
    refine eg_aload_n dX4_reckon_95 rfl rfl ?_
    refine eg_getI gf_RX4_16 rfl (by assumption) dX4_reckon_96 ?_
    refine eg_topi m2 ?_
    refine eg_iand dX4_reckon_99 ?_
    exact eg_iret rfl dX4_reckon_100 hQ
  | 2, _ =>
    refine eg_tableIn 101 dX4_reckon_21 (by decide) (by decide) rfl (by decide) ?_
    refine eg_iload_n dX4_reckon_101 rfl rfl ?_
    refine eg_iload_n dX4_reckon_102 rfl rfl ?_
    refine eg_iand dX4_reckon_103 ?_
    exact eg_iret rfl dX4_reckon_104 hQ
  | 3, _ =>
    refine eg_tableIn 105 dX4_reckon_21 (by decide) (by decide) rfl (by decide) ?_
    refine eg_iload_n dX4_reckon_105 rfl rfl ?_
    refine eg_iload_n dX4_reckon_106 rfl rfl ?_
    refine eg_ior dX4_reckon_107 ?_
    exact eg_iret rfl dX4_reckon_108 hQ
  | 4, _ =>
    refine eg_tableIn 109 dX4_reckon_21 (by decide) (by decide) rfl (by decide) ?_
    refine eg_iload_n dX4_reckon_109 rfl rfl ?_
    refine eg_iload_n dX4_reckon_110 rfl rfl ?_
    refine eg_ixor dX4_reckon_111 ?_
    exact eg_iret rfl dX4_reckon_112 hQ
  | 5, _ =>
    refine eg_tableIn 113 dX4_reckon_21 (by decide) (by decide) rfl (by decide) ?_
    refine eg_iload_n dX4_reckon_113 rfl rfl ?_
    refine eg_iload_n dX4_reckon_114 rfl rfl ?_
    refine eg_iadd dX4_reckon_115 ?_
    refine eg_aload_n dX4_reckon_116 rfl rfl ?_
    refine eg_getI gf_RX4_16 rfl (by assumption) dX4_reckon_117 ?_
    refine eg_topi m2 ?_
    refine eg_iand dX4_reckon_120 ?_
    exact eg_iret rfl dX4_reckon_121 hQ
  | 6, _ =>
    refine eg_tableIn 122 dX4_reckon_21 (by decide) (by decide) rfl (by decide) ?_
    refine eg_iload_n dX4_reckon_122 rfl rfl ?_
    refine eg_iload_n dX4_reckon_123 rfl rfl ?_
    refine eg_isub dX4_reckon_124 ?_
    refine eg_aload_n dX4_reckon_125 rfl rfl ?_
    refine eg_getI gf_RX4_16 rfl (by assumption) dX4_reckon_126 ?_
    refine eg_topi m2 ?_
    refine eg_iand dX4_reckon_129 ?_
    exact eg_iret rfl dX4_reckon_130 hQ
  | 7, _ =>
    refine eg_tableIn 131 dX4_reckon_21 (by decide) (by decide) rfl (by decide) ?_
    refine eg_iload_n dX4_reckon_131 rfl rfl ?_
    refine eg_iload_n dX4_reckon_132 rfl rfl ?_
    refine eg_imul dX4_reckon_133 ?_
    refine eg_aload_n dX4_reckon_134 rfl rfl ?_
    refine eg_getI gf_RX4_16 rfl (by assumption) dX4_reckon_135 ?_
    refine eg_topi m2 ?_
    refine eg_iand dX4_reckon_138 ?_
    exact eg_iret rfl dX4_reckon_139 hQ
  | 8, _ =>
    refine eg_tableIn 140 dX4_reckon_21 (by decide) (by decide) rfl (by decide) ?_
    refine eg_iload_n dX4_reckon_140 rfl rfl ?_
    refine eg_iload dX4_reckon_141 rfl ?_
    refine eg_ishl dX4_reckon_143 ?_
    refine eg_aload_n dX4_reckon_144 rfl rfl ?_
    refine eg_getI gf_RX4_16 rfl (by assumption) dX4_reckon_145 ?_
    refine eg_topi m2 ?_
    refine eg_iand dX4_reckon_148 ?_
    exact eg_iret rfl dX4_reckon_149 hQ
  | 9, _ =>
    refine eg_tableIn 150 dX4_reckon_21 (by decide) (by decide) rfl (by decide) ?_
    refine eg_iload_n dX4_reckon_150 rfl rfl ?_
    refine eg_iload dX4_reckon_151 rfl ?_
    refine eg_ishr dX4_reckon_153 ?_
    exact eg_iret rfl dX4_reckon_154 hQ
  | 10, _ =>
    refine eg_tableIn 155 dX4_reckon_21 (by decide) (by decide) rfl (by decide) ?_
    refine eg_iload_n dX4_reckon_155 rfl rfl ?_
    refine eg_iload dX4_reckon_156 rfl ?_
    refine eg_iconst dX4_reckon_158 (v := nI 1) (by decide) ?_
    refine eg_icmp_ne 171 dX4_reckon_159 (by decide) (fun c => ?_) (fun c => ?_)
    · refine eg_iconst dX4_reckon_171 (v := nI 0) (by decide) ?_
      refine eg_ior dX4_reckon_172 ?_
      refine eg_iload dX4_reckon_173 rfl ?_
      refine eg_ishr dX4_reckon_175 ?_
      refine eg_aload_n dX4_reckon_176 rfl rfl ?_
      refine eg_getI gf_RX4_16 rfl (by assumption) dX4_reckon_177 ?_
      refine eg_topi m2 ?_
      refine eg_iand dX4_reckon_180 ?_
      exact eg_iret rfl dX4_reckon_181 (by
                have hQ : Q (some (.int ((wd_sg w (nI X) >>> (wd_by w y &&& 31)) &&& nI (2 ^ w - 1)))) G M := hQ
                unfold wd_sg at hQ
                first
                  | (have e := hhi.resolve_left (fun z => absurd (z.2.symm.trans c) (by decide)); rw [if_neg e.1] at hQ; exact hQ)
                  | (have e := hhi.resolve_right (fun z => c z.2); rw [if_pos e.1] at hQ; rw [or_0]; exact hQ))
    · refine eg_aload_n dX4_reckon_162 rfl rfl ?_
      refine eg_getI gf_RX4_16 rfl (by assumption) dX4_reckon_163 ?_
      refine eg_topi m2 ?_
      refine eg_iconst dX4_reckon_166 (v := -1) (by decide) ?_
      refine eg_ixor dX4_reckon_167 ?_
      refine eg_goto 172 dX4_reckon_168 (by decide) ?_
      refine eg_ior dX4_reckon_172 ?_
      refine eg_iload dX4_reckon_173 rfl ?_
      refine eg_ishr dX4_reckon_175 ?_
      refine eg_aload_n dX4_reckon_176 rfl rfl ?_
      refine eg_getI gf_RX4_16 rfl (by assumption) dX4_reckon_177 ?_
      refine eg_topi m2 ?_
      refine eg_iand dX4_reckon_180 ?_
      exact eg_iret rfl dX4_reckon_181 (by
                have hQ : Q (some (.int ((wd_sg w (nI X) >>> (wd_by w y &&& 31)) &&& nI (2 ^ w - 1)))) G M := hQ
                unfold wd_sg at hQ
                first
                  | (have e := hhi.resolve_left (fun z => absurd (z.2.symm.trans c) (by decide)); rw [if_neg e.1] at hQ; exact hQ)
                  | (have e := hhi.resolve_right (fun z => c z.2); rw [if_pos e.1] at hQ; rw [or_0]; exact hQ))
  | 11, _ =>
    refine eg_tableIn 182 dX4_reckon_21 (by decide) (by decide) rfl (by decide) ?_
    refine eg_iload_n dX4_reckon_182 rfl rfl ?_
    refine eg_iload_n dX4_reckon_183 rfl rfl ?_
    refine eg_icmp_ge 191 dX4_reckon_184 (by decide) (fun c => ?_) (fun c => ?_)
    · refine eg_iconst dX4_reckon_191 (v := nI 0) (by decide) ?_
      exact eg_iret rfl dX4_reckon_192 (by have hQ : Q (some (.int (if nI X < y then 1 else 0))) G M := hQ; first | (rw [if_pos (Int32.not_le.mp c)] at hQ; exact hQ) | (rw [if_neg (Int32.not_lt.mpr c)] at hQ; exact hQ))
    · refine eg_iconst dX4_reckon_187 (v := nI 1) (by decide) ?_
      refine eg_goto 192 dX4_reckon_188 (by decide) ?_
      exact eg_iret rfl dX4_reckon_192 (by have hQ : Q (some (.int (if nI X < y then 1 else 0))) G M := hQ; first | (rw [if_pos (Int32.not_le.mp c)] at hQ; exact hQ) | (rw [if_neg (Int32.not_lt.mpr c)] at hQ; exact hQ))
  | 12, _ =>
    refine eg_tableOut 193 dX4_reckon_21 (by decide) (by decide) ?_
    refine eg_iload_n dX4_reckon_193 rfl rfl ?_
    refine eg_iload_n dX4_reckon_194 rfl rfl ?_
    refine eg_icmp_ne 202 dX4_reckon_195 (by decide) (fun c => ?_) (fun c => ?_)
    · refine eg_iconst dX4_reckon_202 (v := nI 0) (by decide) ?_
      exact eg_iret rfl dX4_reckon_203 (by have hQ : Q (some (.int (if nI X = y then 1 else 0))) G M := hQ; first | (rw [if_pos c] at hQ; exact hQ) | (rw [if_neg c] at hQ; exact hQ))
    · refine eg_iconst dX4_reckon_198 (v := nI 1) (by decide) ?_
      refine eg_goto 203 dX4_reckon_199 (by decide) ?_
      exact eg_iret rfl dX4_reckon_203 (by have hQ : Q (some (.int (if nI X = y then 1 else 0))) G M := hQ; first | (rw [if_pos c] at hQ; exact hQ) | (rw [if_neg c] at hQ; exact hQ))
  | o + 13, ho => exact absurd ho (by omega)
set_option maxHeartbeats 2000000 in
theorem lp_X4_lay1 {l : Launch} {E : eg_E} {d kb nb : Nat} {Q : Option Value → eg_G → eg_I → Prop} {G : eg_G} {a to w n k s : Nat} {cf : Nat → Int32} (hs : sh_M G a) (hto : G.2.1 to = some (.inr (.int, 4608))) (hta : a + 7 ≤ to) (hsA : s < 2 ^ (w * n)) : ∀ (t u : Nat) (M : eg_I), in_M M a w n k cf → u + t = n → (∀ M', (∀ v, u ≤ v → v < n → M' to (256 * v + s) = wd_in w v s) → (∀ q j, ¬ (q = to ∧ u ≤ j / 256 ∧ j % 256 = s) → M' q j = M q j) → eg_J l E mX4_layFirsts d kb nb Q 48 [some (.ref a), some (.ref to), some (.int (nI s)), some (.int (nI n))] [] G M') → eg_J l E mX4_layFirsts d kb nb Q 12 [some (.ref a), some (.ref to), some (.int (nI s)), some (.int (nI u))] [] G M := by
  intro t
  induction t with
  | zero =>
    intro u M h hut kk
    obtain ⟨k0, ⟨x5, y5⟩, ⟨x6, y6⟩, ⟨x7, y7⟩, ⟨x9, y9⟩, ⟨x10, y10⟩, ⟨x11, y11⟩, ⟨x13, y13⟩, ⟨x14, y14⟩, ⟨x18, y18⟩, ⟨x19, y19⟩, ⟨x20, y20⟩, ⟨x25, y25⟩, ⟨x26, y26⟩, ⟨x27, y27⟩, ⟨x28, y28⟩, ⟨x30, y30⟩, ⟨x31, y31⟩, ⟨x32, y32⟩⟩ := id hs
    obtain ⟨m0, m1, m2, m3, m4, mc, hw1, hw4, hn1, hn2, hk4⟩ := id h
    have hA := wd_asg hw4 hn2
    refine eg_iload_n dX4_layFirsts_12 rfl rfl ?_
    refine eg_aload_n dX4_layFirsts_13 rfl rfl ?_
    refine eg_getI gf_RX4_13 rfl (by assumption) dX4_layFirsts_14 ?_
    refine eg_topi m1 ?_
    refine eg_icmp_ge 48 dX4_layFirsts_17 (by decide) (fun c17 => ?_) (fun c17 => absurd (nI_le (by omega) (by omega)) c17)
    have e : u = n := by omega
    subst e
    exact kk M (fun v z1 z2 => absurd z2 (by omega)) (fun q j _ => rfl)
  | succ t ih =>
    intro u M h hut kk
    obtain ⟨k0, ⟨x5, y5⟩, ⟨x6, y6⟩, ⟨x7, y7⟩, ⟨x9, y9⟩, ⟨x10, y10⟩, ⟨x11, y11⟩, ⟨x13, y13⟩, ⟨x14, y14⟩, ⟨x18, y18⟩, ⟨x19, y19⟩, ⟨x20, y20⟩, ⟨x25, y25⟩, ⟨x26, y26⟩, ⟨x27, y27⟩, ⟨x28, y28⟩, ⟨x30, y30⟩, ⟨x31, y31⟩, ⟨x32, y32⟩⟩ := id hs
    obtain ⟨m0, m1, m2, m3, m4, mc, hw1, hw4, hn1, hn2, hk4⟩ := id h
    have hA := wd_asg hw4 hn2
    refine eg_iload_n dX4_layFirsts_12 rfl rfl ?_
    refine eg_aload_n dX4_layFirsts_13 rfl rfl ?_
    refine eg_getI gf_RX4_13 rfl (by assumption) dX4_layFirsts_14 ?_
    refine eg_topi m1 ?_
    refine eg_icmp_ge 48 dX4_layFirsts_17 (by decide) (fun c17 => absurd c17 (nI_ge (by omega) (by omega))) (fun c17 => ?_)
    refine eg_aload_n dX4_layFirsts_20 rfl rfl ?_
    refine eg_sipush dX4_layFirsts_21 (v := nI 256) (by decide) ?_
    refine eg_iload_n dX4_layFirsts_24 rfl rfl ?_
    refine eg_imul dX4_layFirsts_25 ?_
    refine eg_topi (pk_mul 256 u) ?_
    refine eg_iload_n dX4_layFirsts_26 rfl rfl ?_
    refine eg_iadd dX4_layFirsts_27 ?_
    refine eg_topi (nI_add (256 * u) s) ?_
    refine eg_iload_n dX4_layFirsts_28 rfl rfl ?_
    refine eg_aload_n dX4_layFirsts_29 rfl rfl ?_
    refine eg_getI gf_RX4_7 rfl (by assumption) dX4_layFirsts_30 ?_
    refine eg_topi m0 ?_
    refine eg_iload_n dX4_layFirsts_33 rfl rfl ?_
    refine eg_imul dX4_layFirsts_34 ?_
    refine eg_ishr dX4_layFirsts_35 ?_
    refine eg_aload_n dX4_layFirsts_36 rfl rfl ?_
    refine eg_getI gf_RX4_16 rfl (by assumption) dX4_layFirsts_37 ?_
    refine eg_topi m2 ?_
    refine eg_iand dX4_layFirsts_40 ?_
    refine eg_iastN (by assumption) (by omega) (by decide) dX4_layFirsts_41 ?_
    refine eg_iinc dX4_layFirsts_42 (by decide) rfl (eg_inc u) rfl ?_
    refine eg_goto 12 dX4_layFirsts_45 (by decide) ?_
    refine ih (u + 1) _ (h.eq (fun j _ => by rw [eg_set_ne (by omega)]) (eg_set_ne (by omega))) (by omega) (fun M2 h2 h3 => ?_)
    refine kk M2 (fun v z1 z2 => ?_) (fun q j z => ?_)
    · by_cases e : v = u
      · subst e
        rw [h3 _ _ (by omega), eg_set_eq]
        rfl
      · exact h2 v (by omega) z2
    · rw [h3 q j (by omega)]
      exact if_neg (by omega)
set_option maxHeartbeats 2000000 in
theorem lp_X4_lay2 {l : Launch} {E : eg_E} {d kb nb : Nat} {Q : Option Value → eg_G → eg_I → Prop} {G : eg_G} {a to w n k s : Nat} {cf : Nat → Int32} (hs : sh_M G a) (hto : G.2.1 to = some (.inr (.int, 4608))) (hta : a + 7 ≤ to) (hsA : s < 2 ^ (w * n)) : ∀ (t u : Nat) (M : eg_I), in_M M a w n k cf → u + t = k → (∀ M', (∀ v, u ≤ v → v < k → M' to (256 * (n + v) + s) = cf v) → (∀ q j, ¬ (q = to ∧ n + u ≤ j / 256 ∧ j % 256 = s) → M' q j = M q j) → eg_J l E mX4_layFirsts d kb nb Q 84 [some (.ref a), some (.ref to), some (.int (nI s)), some (.int (nI k))] [] G M') → eg_J l E mX4_layFirsts d kb nb Q 50 [some (.ref a), some (.ref to), some (.int (nI s)), some (.int (nI u))] [] G M := by
  intro t
  induction t with
  | zero =>
    intro u M h hut kk
    obtain ⟨k0, ⟨x5, y5⟩, ⟨x6, y6⟩, ⟨x7, y7⟩, ⟨x9, y9⟩, ⟨x10, y10⟩, ⟨x11, y11⟩, ⟨x13, y13⟩, ⟨x14, y14⟩, ⟨x18, y18⟩, ⟨x19, y19⟩, ⟨x20, y20⟩, ⟨x25, y25⟩, ⟨x26, y26⟩, ⟨x27, y27⟩, ⟨x28, y28⟩, ⟨x30, y30⟩, ⟨x31, y31⟩, ⟨x32, y32⟩⟩ := id hs
    obtain ⟨m0, m1, m2, m3, m4, mc, hw1, hw4, hn1, hn2, hk4⟩ := id h
    have hA := wd_asg hw4 hn2
    refine eg_iload_n dX4_layFirsts_50 rfl rfl ?_
    refine eg_aload_n dX4_layFirsts_51 rfl rfl ?_
    refine eg_getI gf_RX4_83 rfl (by assumption) dX4_layFirsts_52 ?_
    refine eg_topi m4 ?_
    refine eg_icmp_ge 84 dX4_layFirsts_55 (by decide) (fun c55 => ?_) (fun c55 => absurd (nI_le (by omega) (by omega)) c55)
    have e : u = k := by omega
    subst e
    exact kk M (fun v z1 z2 => absurd z2 (by omega)) (fun q j _ => rfl)
  | succ t ih =>
    intro u M h hut kk
    obtain ⟨k0, ⟨x5, y5⟩, ⟨x6, y6⟩, ⟨x7, y7⟩, ⟨x9, y9⟩, ⟨x10, y10⟩, ⟨x11, y11⟩, ⟨x13, y13⟩, ⟨x14, y14⟩, ⟨x18, y18⟩, ⟨x19, y19⟩, ⟨x20, y20⟩, ⟨x25, y25⟩, ⟨x26, y26⟩, ⟨x27, y27⟩, ⟨x28, y28⟩, ⟨x30, y30⟩, ⟨x31, y31⟩, ⟨x32, y32⟩⟩ := id hs
    obtain ⟨m0, m1, m2, m3, m4, mc, hw1, hw4, hn1, hn2, hk4⟩ := id h
    have hA := wd_asg hw4 hn2
    refine eg_iload_n dX4_layFirsts_50 rfl rfl ?_
    refine eg_aload_n dX4_layFirsts_51 rfl rfl ?_
    refine eg_getI gf_RX4_83 rfl (by assumption) dX4_layFirsts_52 ?_
    refine eg_topi m4 ?_
    refine eg_icmp_ge 84 dX4_layFirsts_55 (by decide) (fun c55 => absurd c55 (nI_ge (by omega) (by omega))) (fun c55 => ?_)
    refine eg_aload_n dX4_layFirsts_58 rfl rfl ?_
    refine eg_sipush dX4_layFirsts_59 (v := nI 256) (by decide) ?_
    refine eg_aload_n dX4_layFirsts_62 rfl rfl ?_
    refine eg_getI gf_RX4_13 rfl (by assumption) dX4_layFirsts_63 ?_
    refine eg_topi m1 ?_
    refine eg_iload_n dX4_layFirsts_66 rfl rfl ?_
    refine eg_iadd dX4_layFirsts_67 ?_
    refine eg_topi (nI_add n u) ?_
    refine eg_imul dX4_layFirsts_68 ?_
    refine eg_topi (pk_mul 256 (n + u)) ?_
    refine eg_iload_n dX4_layFirsts_69 rfl rfl ?_
    refine eg_iadd dX4_layFirsts_70 ?_
    refine eg_topi (nI_add (256 * (n + u)) s) ?_
    refine eg_aload_n dX4_layFirsts_71 rfl rfl ?_
    refine eg_getR gf_RX4_22 rfl (by assumption) (by assumption) dX4_layFirsts_72 ?_
    refine eg_iload_n dX4_layFirsts_75 rfl rfl ?_
    refine eg_ialdN (by assumption) (by omega) (by decide) dX4_layFirsts_76 ?_
    refine eg_topi (mc u (by omega)) ?_
    refine eg_iastN (by assumption) (by omega) (by decide) dX4_layFirsts_77 ?_
    refine eg_iinc dX4_layFirsts_78 (by decide) rfl (eg_inc u) rfl ?_
    refine eg_goto 50 dX4_layFirsts_81 (by decide) ?_
    refine ih (u + 1) _ (h.eq (fun j _ => by rw [eg_set_ne (by omega)]) (eg_set_ne (by omega))) (by omega) (fun M2 h2 h3 => ?_)
    refine kk M2 (fun v z1 z2 => ?_) (fun q j z => ?_)
    · by_cases e : v = u
      · subst e
        rw [h3 _ _ (by omega), eg_set_eq]
      · exact h2 v (by omega) z2
    · rw [h3 q j (by omega)]
      exact if_neg (by omega)
set_option maxHeartbeats 2000000 in
theorem lp_X4_lay {l : Launch} {E : eg_E} {d kb nb : Nat} {Q : Option Value → eg_G → eg_I → Prop} {G : eg_G} {a to w n k : Nat} {cf : Nat → Int32} {op lf rt : Nat → Nat} {M0 : eg_I} (hs : sh_M G a) (hto : G.2.1 to = some (.inr (.int, 4608))) (hta : a + 7 ≤ to) : ∀ (t s : Nat) (M : eg_I) (l3 : Option Value), in_M M a w n k cf → s + t = 2 ^ (w * n) → (∀ u z, u < n + k → z < s → M to (256 * u + z) = sv w n k cf op lf rt u z) → (∀ q, q ≠ to → M q = M0 q) → (∀ M', (∀ u z, u < n + k → z < 2 ^ (w * n) → M' to (256 * u + z) = sv w n k cf op lf rt u z) → (∀ q, q ≠ to → M' q = M0 q) → Q none G M') → eg_J l E mX4_layFirsts d kb nb Q 2 [some (.ref a), some (.ref to), some (.int (nI s)), l3] [] G M := by
  intro t
  induction t with
  | zero =>
    intro s M l3 h hst hi hfr hQ
    obtain ⟨k0, ⟨x5, y5⟩, ⟨x6, y6⟩, ⟨x7, y7⟩, ⟨x9, y9⟩, ⟨x10, y10⟩, ⟨x11, y11⟩, ⟨x13, y13⟩, ⟨x14, y14⟩, ⟨x18, y18⟩, ⟨x19, y19⟩, ⟨x20, y20⟩, ⟨x25, y25⟩, ⟨x26, y26⟩, ⟨x27, y27⟩, ⟨x28, y28⟩, ⟨x30, y30⟩, ⟨x31, y31⟩, ⟨x32, y32⟩⟩ := id hs
    obtain ⟨m0, m1, m2, m3, m4, mc, hw1, hw4, hn1, hn2, hk4⟩ := id h
    have hA := wd_asg hw4 hn2
    refine eg_iload_n dX4_layFirsts_2 rfl rfl ?_
    refine eg_aload_n dX4_layFirsts_3 rfl rfl ?_
    refine eg_getI gf_RX4_19 rfl (by assumption) dX4_layFirsts_4 ?_
    refine eg_topi m3 ?_
    refine eg_icmp_ge 90 dX4_layFirsts_7 (by decide) (fun c7 => ?_) (fun c7 => absurd (nI_le (by omega) (by omega)) c7)
    exact eg_vret rfl dX4_layFirsts_90 (hQ M (fun u z z1 z2 => hi u z z1 (by omega)) hfr)
  | succ t ih =>
    intro s M l3 h hst hi hfr hQ
    obtain ⟨k0, ⟨x5, y5⟩, ⟨x6, y6⟩, ⟨x7, y7⟩, ⟨x9, y9⟩, ⟨x10, y10⟩, ⟨x11, y11⟩, ⟨x13, y13⟩, ⟨x14, y14⟩, ⟨x18, y18⟩, ⟨x19, y19⟩, ⟨x20, y20⟩, ⟨x25, y25⟩, ⟨x26, y26⟩, ⟨x27, y27⟩, ⟨x28, y28⟩, ⟨x30, y30⟩, ⟨x31, y31⟩, ⟨x32, y32⟩⟩ := id hs
    obtain ⟨m0, m1, m2, m3, m4, mc, hw1, hw4, hn1, hn2, hk4⟩ := id h
    have hA := wd_asg hw4 hn2
    refine eg_iload_n dX4_layFirsts_2 rfl rfl ?_
    refine eg_aload_n dX4_layFirsts_3 rfl rfl ?_
    refine eg_getI gf_RX4_19 rfl (by assumption) dX4_layFirsts_4 ?_
    refine eg_topi m3 ?_
    refine eg_icmp_ge 90 dX4_layFirsts_7 (by decide) (fun c7 => absurd c7 (nI_ge (by omega) (by omega))) (fun c7 => ?_)
    refine eg_iconst dX4_layFirsts_10 (v := nI 0) (by decide) ?_
    refine eg_istore_n dX4_layFirsts_11 rfl (by decide) rfl ?_
    refine lp_X4_lay1 hs hto hta (by omega) n 0 M h (by omega) (fun M1 h1 h2 => ?_)
    have e1 : in_M M1 a w n k cf := h.eq (fun j _ => h2 _ _ (by omega)) (by funext j; exact h2 _ _ (by omega))
    refine eg_iconst dX4_layFirsts_48 (v := nI 0) (by decide) ?_
    refine eg_istore_n dX4_layFirsts_49 rfl (by decide) rfl ?_
    refine lp_X4_lay2 hs hto hta (by omega) k 0 M1 e1 (by omega) (fun M2 h3 h4 => ?_)
    have e2 : in_M M2 a w n k cf := e1.eq (fun j _ => h4 _ _ (by omega)) (by funext j; exact h4 _ _ (by omega))
    refine eg_iinc dX4_layFirsts_84 (by decide) rfl (eg_inc s) rfl ?_
    refine eg_goto 2 dX4_layFirsts_87 (by decide) ?_
    refine ih (s + 1) M2 _ e2 (by omega) (fun u z z1 z2 => ?_) (fun q z => ?_) hQ
    · by_cases e : z = s
      · subst e
        by_cases eu : u < n
        · rw [h4 _ _ (by omega), h1 u (by omega) eu, sv_in eu]
        · obtain ⟨v, rfl⟩ : ∃ v, u = n + v := ⟨u - n, by omega⟩
          rw [h3 v (by omega) (by omega), sv_c (by omega)]
      · rw [h4 _ _ (by omega), h2 _ _ (by omega)]
        exact hi u z z1 (by omega)
    · rw [← hfr q z]
      funext j
      rw [h4 _ _ (by omega), h2 _ _ (by omega)]
set_option maxHeartbeats 2000000 in
theorem sp_X4_layFirsts {l : Launch} {E : eg_E} {d kb nb : Nat} {Q : Option Value → eg_G → eg_I → Prop} {G : eg_G} {M : eg_I} {a to w n k : Nat} {cf : Nat → Int32} {op lf rt : Nat → Nat} (hs : sh_M G a) (hto : G.2.1 to = some (.inr (.int, 4608))) (hta : a + 7 ≤ to) (h : in_M M a w n k cf) (hQ : (∀ M', (∀ u z, u < n + k → z < 2 ^ (w * n) → M' to (256 * u + z) = sv w n k cf op lf rt u z) → (∀ q, q ≠ to → M' q = M q) → Q none G M')) : eg_J l E mX4_layFirsts d kb nb Q 0 [some (.ref a), some (.ref to), none, none] [] G M := by
  refine eg_iconst dX4_layFirsts_0 (v := nI 0) (by decide) ?_
  refine eg_istore_n dX4_layFirsts_1 rfl (by decide) rfl ?_
  exact lp_X4_lay (op := op) (lf := lf) (rt := rt) hs hto hta (2 ^ (w * n)) 0 M _ h (by omega) (fun u z _ z2 => absurd z2 (by omega)) (fun _ _ => rfl) hQ
set_option maxHeartbeats 2000000 in
theorem lp_X4_reckonRow {l : Launch} {E : eg_E} {d kb nb : Nat} {Q : Option Value → eg_G → eg_I → Prop} {G : eg_G} {a w n k len x : Nat} {cf : Nat → Int32} {op lf rt : Nat → Nat} {M0 : eg_I} (hd : 1 ≤ d) (hs : sh_M G a) (hx : x < len) (hl : len ≤ 12) (hpk : ∀ j, j < len → op j < 13 ∧ lf j < n + k + j ∧ rt j < n + k + j) (hcw : ∀ j, j < k → ∃ z, z < 2 ^ w ∧ cf j = nI z) : ∀ (t s : Nat) (M : eg_I), s + t = 2 ^ (w * n) → in_M M a w n k cf → (M a 8 = nI len ∧ ∀ j, j < len → M (a + 4) j = nI (op j) ∧ M (a + 5) j = nI (lf j) ∧ M (a + 6) j = nI (rt j)) → (∀ u z, u < n + k + x → z < 2 ^ (w * n) → M (a + 7) (256 * u + z) = sv w n k cf op lf rt u z) → (∀ z, z < s → M (a + 7) (256 * (n + k + x) + z) = sv w n k cf op lf rt (n + k + x) z) → (∀ q, q ≠ a + 7 → M q = M0 q) → (∀ M', (∀ u z, u < n + k + (x + 1) → z < 2 ^ (w * n) → M' (a + 7) (256 * u + z) = sv w n k cf op lf rt u z) → (∀ q, q ≠ a + 7 → M' q = M0 q) → eg_J l E mX4_reckonAll d kb nb Q 97 [some (.ref a), some (.int (nI x)), some (.int (nI (256 * (n + k + x)))), some (.int (nI (2 ^ (w * n))))] [] G M') → eg_J l E mX4_reckonAll d kb nb Q 31 [some (.ref a), some (.int (nI x)), some (.int (nI (256 * (n + k + x)))), some (.int (nI s))] [] G M := by
  intro t
  induction t with
  | zero =>
    intro s M hst h hpr hr hc hfr kk
    obtain ⟨k0, ⟨x5, y5⟩, ⟨x6, y6⟩, ⟨x7, y7⟩, ⟨x9, y9⟩, ⟨x10, y10⟩, ⟨x11, y11⟩, ⟨x13, y13⟩, ⟨x14, y14⟩, ⟨x18, y18⟩, ⟨x19, y19⟩, ⟨x20, y20⟩, ⟨x25, y25⟩, ⟨x26, y26⟩, ⟨x27, y27⟩, ⟨x28, y28⟩, ⟨x30, y30⟩, ⟨x31, y31⟩, ⟨x32, y32⟩⟩ := id hs
    obtain ⟨m0, m1, m2, m3, m4, mc, hw1, hw4, hn1, hn2, hk4⟩ := id h
    have hA := wd_asg hw4 hn2
    have hp := hpk x hx
    have hlq := hpr.2 x hx
    refine eg_iload_n dX4_reckonAll_31 rfl rfl ?_
    refine eg_aload_n dX4_reckonAll_32 rfl rfl ?_
    refine eg_getI gf_RX4_19 rfl (by assumption) dX4_reckonAll_33 ?_
    refine eg_topi m3 ?_
    refine eg_icmp_ge 97 dX4_reckonAll_36 (by decide) (fun c36 => ?_) (fun c36 => absurd (nI_le (by omega) (by omega)) c36)
    have e : s = 2 ^ (w * n) := by omega
    subst e
    refine kk M (fun u z z1 z2 => ?_) hfr
    by_cases e : u = n + k + x
    · subst e; exact hc z z2
    · exact hr u z (by omega) z2
  | succ t ih =>
    intro s M hst h hpr hr hc hfr kk
    obtain ⟨k0, ⟨x5, y5⟩, ⟨x6, y6⟩, ⟨x7, y7⟩, ⟨x9, y9⟩, ⟨x10, y10⟩, ⟨x11, y11⟩, ⟨x13, y13⟩, ⟨x14, y14⟩, ⟨x18, y18⟩, ⟨x19, y19⟩, ⟨x20, y20⟩, ⟨x25, y25⟩, ⟨x26, y26⟩, ⟨x27, y27⟩, ⟨x28, y28⟩, ⟨x30, y30⟩, ⟨x31, y31⟩, ⟨x32, y32⟩⟩ := id hs
    obtain ⟨m0, m1, m2, m3, m4, mc, hw1, hw4, hn1, hn2, hk4⟩ := id h
    have hA := wd_asg hw4 hn2
    have hp := hpk x hx
    have hlq := hpr.2 x hx
    refine eg_iload_n dX4_reckonAll_31 rfl rfl ?_
    refine eg_aload_n dX4_reckonAll_32 rfl rfl ?_
    refine eg_getI gf_RX4_19 rfl (by assumption) dX4_reckonAll_33 ?_
    refine eg_topi m3 ?_
    refine eg_icmp_ge 97 dX4_reckonAll_36 (by decide) (fun c36 => absurd c36 (nI_ge (by omega) (by omega))) (fun c36 => ?_)
    refine eg_aload_n dX4_reckonAll_39 rfl rfl ?_
    refine eg_getR gf_RX4_41 rfl (by assumption) (by assumption) dX4_reckonAll_40 ?_
    refine eg_iload_n dX4_reckonAll_43 rfl rfl ?_
    refine eg_iload_n dX4_reckonAll_44 rfl rfl ?_
    refine eg_iadd dX4_reckonAll_45 ?_
    refine eg_topi (nI_add (256 * (n + k + x)) s) ?_
    refine eg_aload_n dX4_reckonAll_46 rfl rfl ?_
    refine eg_aload_n dX4_reckonAll_47 rfl rfl ?_
    refine eg_getR gf_RX4_32 rfl (by assumption) (by assumption) dX4_reckonAll_48 ?_
    refine eg_iload_n dX4_reckonAll_51 rfl rfl ?_
    refine eg_ialdN (by assumption) (by omega) (by decide) dX4_reckonAll_52 ?_
    refine eg_topi hlq.1 ?_
    refine eg_aload_n dX4_reckonAll_53 rfl rfl ?_
    refine eg_getR gf_RX4_41 rfl (by assumption) (by assumption) dX4_reckonAll_54 ?_
    refine eg_sipush dX4_reckonAll_57 (v := nI 256) (by decide) ?_
    refine eg_aload_n dX4_reckonAll_60 rfl rfl ?_
    refine eg_getR gf_RX4_35 rfl (by assumption) (by assumption) dX4_reckonAll_61 ?_
    refine eg_iload_n dX4_reckonAll_64 rfl rfl ?_
    refine eg_ialdN (by assumption) (by omega) (by decide) dX4_reckonAll_65 ?_
    refine eg_topi hlq.2.1 ?_
    refine eg_imul dX4_reckonAll_66 ?_
    refine eg_topi (pk_mul 256 (lf x)) ?_
    refine eg_iload_n dX4_reckonAll_67 rfl rfl ?_
    refine eg_iadd dX4_reckonAll_68 ?_
    refine eg_topi (nI_add (256 * lf x) s) ?_
    refine eg_ialdN (by assumption) (by omega) (by decide) dX4_reckonAll_69 ?_
    refine eg_topi (hr (lf x) s (by omega) (by omega)) ?_
    refine eg_aload_n dX4_reckonAll_70 rfl rfl ?_
    refine eg_getR gf_RX4_41 rfl (by assumption) (by assumption) dX4_reckonAll_71 ?_
    refine eg_sipush dX4_reckonAll_74 (v := nI 256) (by decide) ?_
    refine eg_aload_n dX4_reckonAll_77 rfl rfl ?_
    refine eg_getR gf_RX4_38 rfl (by assumption) (by assumption) dX4_reckonAll_78 ?_
    refine eg_iload_n dX4_reckonAll_81 rfl rfl ?_
    refine eg_ialdN (by assumption) (by omega) (by decide) dX4_reckonAll_82 ?_
    refine eg_topi hlq.2.2 ?_
    refine eg_imul dX4_reckonAll_83 ?_
    refine eg_topi (pk_mul 256 (rt x)) ?_
    refine eg_iload_n dX4_reckonAll_84 rfl rfl ?_
    refine eg_iadd dX4_reckonAll_85 ?_
    refine eg_topi (nI_add (256 * rt x) s) ?_
    refine eg_ialdN (by assumption) (by omega) (by decide) dX4_reckonAll_86 ?_
    refine eg_topi (hr (rt x) s (by omega) (by omega)) ?_
    refine eg_callV3 0 0 gk_X4_reckon gi_X4_reckon (by assumption) rfl gl_RX4_97 rfl (Nat.le_of_ble_eq_true rfl) (Nat.le_of_ble_eq_true rfl) (Nat.zero_le _) (Nat.zero_le _) (by omega) dX4_reckonAll_87 ?_
    refine sp_X4_reckon k0 h hp.1 (sv_wd hw1 hw4 hcw hpk s _ _ (Nat.lt_succ_self _) (by omega)) ?_
    refine eg_iastN (by assumption) (by omega) (by decide) dX4_reckonAll_90 ?_
    refine eg_iinc dX4_reckonAll_91 (by decide) rfl (eg_inc s) rfl ?_
    refine eg_goto 31 dX4_reckonAll_94 (by decide) ?_
    refine ih (s + 1) _ (by omega) (h.eq (fun j _ => by rw [eg_set_ne (by omega)]) (eg_set_ne (by omega))) ⟨by rw [eg_set_ne (by omega)]; exact hpr.1, fun j hj => by rw [eg_set_ne (by omega), eg_set_ne (by omega), eg_set_ne (by omega)]; exact hpr.2 j hj⟩ (fun u z z1 z2 => ?_) (fun z z1 => ?_) (fun q z => by rw [eg_set_ne z]; exact hfr q z) kk
    · rw [eg_set_j (by omega)]; exact hr u z z1 z2
    · by_cases e : z = s
      · subst e
        rw [eg_set_eq, sv_op (fun j hj => (hpk j hj).2) hx]
      · rw [eg_set_j (by omega)]; exact hc z (by omega)
set_option maxHeartbeats 2000000 in
theorem lp_X4_reckonAll {l : Launch} {E : eg_E} {d kb nb : Nat} {Q : Option Value → eg_G → eg_I → Prop} {G : eg_G} {a w n k len : Nat} {cf : Nat → Int32} {op lf rt : Nat → Nat} {M0 : eg_I} (hd : 2 ≤ d) (hs : sh_M G a) (hl : len ≤ 12) (hpk : ∀ j, j < len → op j < 13 ∧ lf j < n + k + j ∧ rt j < n + k + j) (hcw : ∀ j, j < k → ∃ z, z < 2 ^ w ∧ cf j = nI z) : ∀ (t x : Nat) (M : eg_I) (l2 l3 : Option Value), x + t = len → in_M M a w n k cf → (M a 8 = nI len ∧ ∀ j, j < len → M (a + 4) j = nI (op j) ∧ M (a + 5) j = nI (lf j) ∧ M (a + 6) j = nI (rt j)) → (∀ u z, u < n + k + x → z < 2 ^ (w * n) → M (a + 7) (256 * u + z) = sv w n k cf op lf rt u z) → (∀ q, q ≠ a + 7 → M q = M0 q) → (∀ M', (∀ u z, u < n + k + len → z < 2 ^ (w * n) → M' (a + 7) (256 * u + z) = sv w n k cf op lf rt u z) → (∀ q, q ≠ a + 7 → M' q = M0 q) → Q none G M') → eg_J l E mX4_reckonAll d kb nb Q 10 [some (.ref a), some (.int (nI x)), l2, l3] [] G M := by
  intro t
  induction t with
  | zero =>
    intro x M l2 l3 hxt h hpr hr hfr hQ
    obtain ⟨k0, ⟨x5, y5⟩, ⟨x6, y6⟩, ⟨x7, y7⟩, ⟨x9, y9⟩, ⟨x10, y10⟩, ⟨x11, y11⟩, ⟨x13, y13⟩, ⟨x14, y14⟩, ⟨x18, y18⟩, ⟨x19, y19⟩, ⟨x20, y20⟩, ⟨x25, y25⟩, ⟨x26, y26⟩, ⟨x27, y27⟩, ⟨x28, y28⟩, ⟨x30, y30⟩, ⟨x31, y31⟩, ⟨x32, y32⟩⟩ := id hs
    obtain ⟨m0, m1, m2, m3, m4, mc, hw1, hw4, hn1, hn2, hk4⟩ := id h
    have hA := wd_asg hw4 hn2
    refine eg_iload_n dX4_reckonAll_10 rfl rfl ?_
    refine eg_aload_n dX4_reckonAll_11 rfl rfl ?_
    refine eg_getI gf_RX4_90 rfl (by assumption) dX4_reckonAll_12 ?_
    refine eg_topi hpr.1 ?_
    refine eg_icmp_ge 103 dX4_reckonAll_15 (by decide) (fun c15 => ?_) (fun c15 => absurd (nI_le (by omega) (by omega)) c15)
    exact eg_vret rfl dX4_reckonAll_103 (hQ M (fun u z z1 z2 => hr u z (by omega) z2) hfr)
  | succ t ih =>
    intro x M l2 l3 hxt h hpr hr hfr hQ
    obtain ⟨k0, ⟨x5, y5⟩, ⟨x6, y6⟩, ⟨x7, y7⟩, ⟨x9, y9⟩, ⟨x10, y10⟩, ⟨x11, y11⟩, ⟨x13, y13⟩, ⟨x14, y14⟩, ⟨x18, y18⟩, ⟨x19, y19⟩, ⟨x20, y20⟩, ⟨x25, y25⟩, ⟨x26, y26⟩, ⟨x27, y27⟩, ⟨x28, y28⟩, ⟨x30, y30⟩, ⟨x31, y31⟩, ⟨x32, y32⟩⟩ := id hs
    obtain ⟨m0, m1, m2, m3, m4, mc, hw1, hw4, hn1, hn2, hk4⟩ := id h
    have hA := wd_asg hw4 hn2
    refine eg_iload_n dX4_reckonAll_10 rfl rfl ?_
    refine eg_aload_n dX4_reckonAll_11 rfl rfl ?_
    refine eg_getI gf_RX4_90 rfl (by assumption) dX4_reckonAll_12 ?_
    refine eg_topi hpr.1 ?_
    refine eg_icmp_ge 103 dX4_reckonAll_15 (by decide) (fun c15 => absurd c15 (nI_ge (by omega) (by omega))) (fun c15 => ?_)
    refine eg_sipush dX4_reckonAll_18 (v := nI 256) (by decide) ?_
    refine eg_aload_n dX4_reckonAll_21 rfl rfl ?_
    refine eg_callV0 0 0 gk_X4_firsts gi_X4_firsts (by assumption) rfl gl_RX4_86 rfl (Nat.le_of_ble_eq_true rfl) (Nat.le_of_ble_eq_true rfl) (Nat.zero_le _) (Nat.zero_le _) (by omega) dX4_reckonAll_22 ?_
    refine sp_X4_firsts k0 h ?_
    refine eg_iload_n dX4_reckonAll_25 rfl rfl ?_
    refine eg_iadd dX4_reckonAll_26 ?_
    refine eg_topi (nI_add (n + k) x) ?_
    refine eg_imul dX4_reckonAll_27 ?_
    refine eg_topi (pk_mul 256 (n + k + x)) ?_
    refine eg_istore_n dX4_reckonAll_28 rfl (by decide) rfl ?_
    refine eg_iconst dX4_reckonAll_29 (v := nI 0) (by decide) ?_
    refine eg_istore_n dX4_reckonAll_30 rfl (by decide) rfl ?_
    refine lp_X4_reckonRow (M0 := M) (by omega) hs (show x < len by omega) hl hpk hcw (2 ^ (w * n)) 0 M (by omega) h hpr hr (fun z z1 => absurd z1 (by omega)) (fun _ _ => rfl) (fun M2 h2 h3 => ?_)
    refine eg_iinc dX4_reckonAll_97 (by decide) rfl (eg_inc x) rfl ?_
    refine eg_goto 10 dX4_reckonAll_100 (by decide) ?_
    exact ih (x + 1) M2 _ _ (by omega) (h.eq (fun j _ => by rw [h3 _ (by omega)]) (h3 _ (by omega))) ⟨by rw [h3 _ (by omega)]; exact hpr.1, fun j hj => by rw [h3 _ (by omega), h3 _ (by omega), h3 _ (by omega)]; exact hpr.2 j hj⟩ h2 (fun q z => by rw [h3 q z]; exact hfr q z) hQ
set_option maxHeartbeats 2000000 in
theorem sp_X4_reckonAll {l : Launch} {E : eg_E} {d kb nb : Nat} {Q : Option Value → eg_G → eg_I → Prop} {G : eg_G} {M : eg_I} {a w n k len : Nat} {cf : Nat → Int32} {op lf rt : Nat → Nat} (hd : 2 ≤ d) (hs : sh_M G a) (hl : len ≤ 12) (hpk : ∀ j, j < len → op j < 13 ∧ lf j < n + k + j ∧ rt j < n + k + j) (hcw : ∀ j, j < k → ∃ z, z < 2 ^ w ∧ cf j = nI z) (h : in_M M a w n k cf) (hpr : (M a 8 = nI len ∧ ∀ j, j < len → M (a + 4) j = nI (op j) ∧ M (a + 5) j = nI (lf j) ∧ M (a + 6) j = nI (rt j))) (hQ : (∀ M', (∀ u z, u < n + k + len → z < 2 ^ (w * n) → M' (a + 7) (256 * u + z) = sv w n k cf op lf rt u z) → (∀ q, q ≠ a + 7 → M' q = M q) → Q none G M')) : eg_J l E mX4_reckonAll d kb nb Q 0 [some (.ref a), none, none, none] [] G M := by
  obtain ⟨k0, ⟨x5, y5⟩, ⟨x6, y6⟩, ⟨x7, y7⟩, ⟨x9, y9⟩, ⟨x10, y10⟩, ⟨x11, y11⟩, ⟨x13, y13⟩, ⟨x14, y14⟩, ⟨x18, y18⟩, ⟨x19, y19⟩, ⟨x20, y20⟩, ⟨x25, y25⟩, ⟨x26, y26⟩, ⟨x27, y27⟩, ⟨x28, y28⟩, ⟨x30, y30⟩, ⟨x31, y31⟩, ⟨x32, y32⟩⟩ := id hs
  refine eg_aload_n dX4_reckonAll_0 rfl rfl ?_
  refine eg_aload_n dX4_reckonAll_1 rfl rfl ?_
  refine eg_getR gf_RX4_41 rfl (by assumption) (by assumption) dX4_reckonAll_2 ?_
  refine eg_callV1 0 0 gk_X4_layFirsts gi_X4_layFirsts (by assumption) rfl gl_RX4_93 rfl (Nat.le_of_ble_eq_true rfl) (Nat.le_of_ble_eq_true rfl) (Nat.zero_le _) (Nat.zero_le _) (by omega) dX4_reckonAll_5 ?_
  refine sp_X4_layFirsts (op := op) (lf := lf) (rt := rt) hs y13 (by omega) h (fun M1 h1 h2 => ?_)
  refine eg_iconst dX4_reckonAll_8 (v := nI 0) (by decide) ?_
  refine eg_istore_n dX4_reckonAll_9 rfl (by decide) rfl ?_
  exact lp_X4_reckonAll (M0 := M) hd hs hl hpk hcw len 0 M1 _ _ (by omega) (h.eq (fun j _ => by rw [h2 _ (by omega)]) (h2 _ (by omega))) ⟨by rw [h2 _ (by omega)]; exact hpr.1, fun j hj => by rw [h2 _ (by omega), h2 _ (by omega), h2 _ (by omega)]; exact hpr.2 j hj⟩ h1 h2 hQ
