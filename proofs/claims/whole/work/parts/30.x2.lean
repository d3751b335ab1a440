/-! ShortestCode$Values: what its methods do -/
theorem sp_X2_given {l : Launch} {E : eg_E} {d kb nb : Nat} {Q : Option Value → eg_G → eg_I → Prop} {G : eg_G} {M : eg_I} {v w n k : Nat} (hv : G.2.1 v = some (.inl 2)) (h : in_V M v w n k) (hQ : Q (some (.int (nI (n + k)))) G M) : eg_J l E mX2_given d kb nb Q 0 [some (.ref v)] [] G M := by
  obtain ⟨h1, h2, h3, h4, h5, -⟩ := h
  refine eg_aload_n dX2_given_0 rfl rfl ?_
  refine eg_getI gf_RX2_23 rfl (by assumption) dX2_given_1 ?_
  refine eg_topi h3 ?_
  refine eg_aload_n dX2_given_4 rfl rfl ?_
  refine eg_getI gf_RX2_29 rfl (by assumption) dX2_given_5 ?_
  refine eg_topi h4 ?_
  refine eg_iadd dX2_given_8 ?_
  refine eg_topi (nI_add n k) ?_
  exact eg_iret rfl dX2_given_9 hQ
theorem sp_X2_isWord {l : Launch} {E : eg_E} {d kb nb : Nat} {Q : Option Value → eg_G → eg_I → Prop} {G : eg_G} {M : eg_I} {v w n k : Nat} {x : Int32} (hv : G.2.1 v = some (.inl 2)) (h : in_V M v w n k) (hT : ¬ x < 0 → ¬ nI (2 ^ w - 1) < x → Q (some (.int 1)) G M) (hF : x < 0 ∨ nI (2 ^ w - 1) < x → Q (some (.int 0)) G M) : eg_J l E mX2_isWord d kb nb Q 0 [some (.ref v), some (.int x)] [] G M := by
  obtain ⟨h1, h2, h3, h4, h5, -⟩ := h
  refine eg_iload_n dX2_isWord_0 rfl rfl ?_
  refine eg_if_lt 16 dX2_isWord_1 (by decide) (fun ca => ?_) (fun ca => ?_)
  · refine eg_iconst dX2_isWord_16 (v := nI 0) (by decide) ?_
    exact eg_zret rfl rfl dX2_isWord_17 (by first | exact hT ca cb | exact hF (Or.inl ca) | exact hF (Or.inr cb))
  · refine eg_iload_n dX2_isWord_4 rfl rfl ?_
    refine eg_aload_n dX2_isWord_5 rfl rfl ?_
    refine eg_getI gf_RX2_20 rfl (by assumption) dX2_isWord_6 ?_
    refine eg_topi h2 ?_
    refine eg_icmp_gt 16 dX2_isWord_9 (by decide) (fun cb => ?_) (fun cb => ?_)
    · refine eg_iconst dX2_isWord_16 (v := nI 0) (by decide) ?_
      exact eg_zret rfl rfl dX2_isWord_17 (by first | exact hT ca cb | exact hF (Or.inl ca) | exact hF (Or.inr cb))
    · refine eg_iconst dX2_isWord_12 (v := nI 1) (by decide) ?_
      refine eg_goto 17 dX2_isWord_13 (by decide) ?_
      exact eg_zret rfl rfl dX2_isWord_17 (by first | exact hT ca cb | exact hF (Or.inl ca) | exact hF (Or.inr cb))
theorem sp_X2_isAssignment {l : Launch} {E : eg_E} {d kb nb : Nat} {Q : Option Value → eg_G → eg_I → Prop} {G : eg_G} {M : eg_I} {v w n k : Nat} {x : Int32} (hv : G.2.1 v = some (.inl 2)) (h : in_V M v w n k) (hT : ¬ x < 0 → ¬ nI (2 ^ (w * n)) ≤ x → Q (some (.int 1)) G M) (hF : x < 0 ∨ nI (2 ^ (w * n)) ≤ x → Q (some (.int 0)) G M) : eg_J l E mX2_isAssignment d kb nb Q 0 [some (.ref v), some (.int x)] [] G M := by
  obtain ⟨h1, h2, h3, h4, h5, -⟩ := h
  refine eg_iload_n dX2_isAssignment_0 rfl rfl ?_
  refine eg_if_lt 16 dX2_isAssignment_1 (by decide) (fun ca => ?_) (fun ca => ?_)
  · refine eg_iconst dX2_isAssignment_16 (v := nI 0) (by decide) ?_
    exact eg_zret rfl rfl dX2_isAssignment_17 (by first | exact hT ca cb | exact hF (Or.inl ca) | exact hF (Or.inr cb))
  · refine eg_iload_n dX2_isAssignment_4 rfl rfl ?_
    refine eg_aload_n dX2_isAssignment_5 rfl rfl ?_
    refine eg_getI gf_RX2_26 rfl (by assumption) dX2_isAssignment_6 ?_
    refine eg_topi h5 ?_
    refine eg_icmp_ge 16 dX2_isAssignment_9 (by decide) (fun cb => ?_) (fun cb => ?_)
    · refine eg_iconst dX2_isAssignment_16 (v := nI 0) (by decide) ?_
      exact eg_zret rfl rfl dX2_isAssignment_17 (by first | exact hT ca cb | exact hF (Or.inl ca) | exact hF (Or.inr cb))
    · refine eg_iconst dX2_isAssignment_12 (v := nI 1) (by decide) ?_
      refine eg_goto 17 dX2_isAssignment_13 (by decide) ?_
      exact eg_zret rfl rfl dX2_isAssignment_17 (by first | exact hT ca cb | exact hF (Or.inl ca) | exact hF (Or.inr cb))
theorem sp_X2_distance {l : Launch} {E : eg_E} {d kb nb : Nat} {Q : Option Value → eg_G → eg_I → Prop} {G : eg_G} {M : eg_I} {v w n k : Nat} {x : Int32} (hv : G.2.1 v = some (.inl 2)) (h : in_V M v w n k) (hQ : Q (some (.int (wd_by w x))) G M) : eg_J l E mX2_distance d kb nb Q 0 [some (.ref v), some (.int x)] [] G M := by
  obtain ⟨h1, h2, h3, h4, h5, hw1, hw4, -⟩ := h
  refine eg_aload_n dX2_distance_0 rfl rfl ?_
  refine eg_getI gf_RX2_16 rfl (by assumption) dX2_distance_1 ?_
  refine eg_topi h1 ?_
  refine eg_iconst dX2_distance_4 (v := nI 1) (by decide) ?_
  refine eg_icmp_ge 12 dX2_distance_5 (by decide) (fun c5 => ?_) (fun c5 => absurd (show nI 1 ≤ nI w from nI_le hw1 (by omega)) c5)
  refine eg_iload_n dX2_distance_12 rfl rfl ?_
  refine eg_aload_n dX2_distance_13 rfl rfl ?_
  refine eg_getI gf_RX2_16 rfl (by assumption) dX2_distance_14 ?_
  refine eg_topi h1 ?_
  refine eg_irem dX2_distance_17 (nI_ne0 (by omega) (by omega)) ?_
  exact eg_iret rfl dX2_distance_18 hQ
theorem sp_X2_signed {l : Launch} {E : eg_E} {d kb nb : Nat} {Q : Option Value → eg_G → eg_I → Prop} {G : eg_G} {M : eg_I} {v w n k : Nat} {x : Int32} (hv : G.2.1 v = some (.inl 2)) (h : in_V M v w n k) (hQ : Q (some (.int (wd_sg w x))) G M) : eg_J l E mX2_signed d kb nb Q 0 [some (.ref v), some (.int x)] [] G M := by
  obtain ⟨h1, h2, h3, h4, h5, hw1, hw4, -⟩ := h
  refine eg_iload_n dX2_signed_0 rfl rfl ?_
  refine eg_aload_n dX2_signed_1 rfl rfl ?_
  refine eg_getI gf_RX2_16 rfl (by assumption) dX2_signed_2 ?_
  refine eg_topi h1 ?_
  refine eg_iconst dX2_signed_5 (v := nI 1) (by decide) ?_
  refine eg_isub dX2_signed_6 ?_
  refine eg_ishr dX2_signed_7 ?_
  refine eg_if_ne 15 dX2_signed_8 (by decide) (fun c => ?_) (fun c => ?_)
  · refine eg_iload_n dX2_signed_15 rfl rfl ?_
    refine eg_aload_n dX2_signed_16 rfl rfl ?_
    refine eg_getI gf_RX2_20 rfl (by assumption) dX2_signed_17 ?_
    refine eg_topi h2 ?_
    refine eg_iconst dX2_signed_20 (v := -1) (by decide) ?_
    refine eg_ixor dX2_signed_21 ?_
    refine eg_ior dX2_signed_22 ?_
    exact eg_iret rfl dX2_signed_23 (by unfold wd_sg at hQ; first | (rw [if_neg c] at hQ; exact hQ) | (rw [if_pos c] at hQ; exact hQ))
  · refine eg_iload_n dX2_signed_11 rfl rfl ?_
    refine eg_goto 23 dX2_signed_12 (by decide) ?_
    exact eg_iret rfl dX2_signed_23 (by unfold wd_sg at hQ; first | (rw [if_neg c] at hQ; exact hQ) | (rw [if_pos c] at hQ; exact hQ))
theorem sp_X2_reckon {l : Launch} {E : eg_E} {d kb nb : Nat} {Q : Option Value → eg_G → eg_I → Prop} {G : eg_G} {M : eg_I} {v w n k o : Nat} {a b : Int32} (hd : 1 ≤ d) (hv : G.2.1 v = some (.inl 2)) (h : in_V M v w n k) (ho : o < 13) (hQ : Q (some (.int (wd_op w o a b))) G M) : eg_J l E mX2_reckon d kb nb Q 0 [some (.ref v), some (.int (nI o)), some (.int a), some (.int b)] [] G M := by
  obtain ⟨h1, h2, h3, h4, h5, hw1, hw4, -⟩ := id h
  refine eg_iload_n dX2_reckon_0 rfl rfl ?_
  match o, ho with
  | 0, _ =>
    refine eg_tableIn 68 dX2_reckon_1 (by decide) (by decide) rfl (by decide) ?_
    refine eg_iload_n dX2_reckon_68 rfl rfl ?_
    refine eg_iconst dX2_reckon_69 (v := -1) (by decide) ?_
    refine eg_ixor dX2_reckon_70 ?_
    refine eg_aload_n dX2_reckon_71 rfl rfl ?_
    refine eg_getI gf_RX2_20 rfl (by assumption) dX2_reckon_72 ?_
    refine eg_topi h2 ?_
    refine eg_iand dX2_reckon_75 ?_
    exact eg_iret rfl dX2_reckon_76 hQ
  | 1, _ =>
    refine eg_tableIn 77 dX2_reckon_1 (by decide) (by decide) rfl (by decide) ?_
    refine eg_iload_n dX2_reckon_77 rfl rfl ?_
    refine eg_ineg dX2_reckon_78 ?_
    refine eg_aload_n dX2_reckon_79 rfl rfl ?_
    refine eg_getI gf_RX2_20 rfl (by assumption) dX2_reckon_80 ?_
    refine eg_topi h2 ?_
    refine eg_iand dX2_reckon_83 ?_
    exact eg_iret rfl dX2_reckon_84 hQ
  | 2, _ =>
    refine eg_tableIn 85 dX2_reckon_1 (by decide) (by decide) rfl (by decide) ?_
    refine eg_iload_n dX2_reckon_85 rfl rfl ?_
    refine eg_iload_n dX2_reckon_86 rfl rfl ?_
    refine eg_iand dX2_reckon_87 ?_
    exact eg_iret rfl dX2_reckon_88 hQ
  | 3, _ =>
    refine eg_tableIn 89 dX2_reckon_1 (by decide) (by decide) rfl (by decide) ?_
    refine eg_iload_n dX2_reckon_89 rfl rfl ?_
    refine eg_iload_n dX2_reckon_90 rfl rfl ?_
    refine eg_ior dX2_reckon_91 ?_
    exact eg_iret rfl dX2_reckon_92 hQ
  | 4, _ =>
    refine eg_tableIn 93 dX2_reckon_1 (by decide) (by decide) rfl (by decide) ?_
    refine eg_iload_n dX2_reckon_93 rfl rfl ?_
    refine eg_iload_n dX2_reckon_94 rfl rfl ?_
    refine eg_ixor dX2_reckon_95 ?_
    exact eg_iret rfl dX2_reckon_96 hQ
  | 5, _ =>
    refine eg_tableIn 97 dX2_reckon_1 (by decide) (by decide) rfl (by decide) ?_
    refine eg_iload_n dX2_reckon_97 rfl rfl ?_
    refine eg_iload_n dX2_reckon_98 rfl rfl ?_
    refine eg_iadd dX2_reckon_99 ?_
    refine eg_aload_n dX2_reckon_100 rfl rfl ?_
    refine eg_getI gf_RX2_20 rfl (by assumption) dX2_reckon_101 ?_
    refine eg_topi h2 ?_
    refine eg_iand dX2_reckon_104 ?_
    exact eg_iret rfl dX2_reckon_105 hQ
  | 6, _ =>
    refine eg_tableIn 106 dX2_reckon_1 (by decide) (by decide) rfl (by decide) ?_
    refine eg_iload_n dX2_reckon_106 rfl rfl ?_
    refine eg_iload_n dX2_reckon_107 rfl rfl ?_
    refine eg_isub dX2_reckon_108 ?_
    refine eg_aload_n dX2_reckon_109 rfl rfl ?_
    refine eg_getI gf_RX2_20 rfl (by assumption) dX2_reckon_110 ?_
    refine eg_topi h2 ?_
    refine eg_iand dX2_reckon_113 ?_
    exact eg_iret rfl dX2_reckon_114 hQ
  | 7, _ =>
    refine eg_tableIn 115 dX2_reckon_1 (by decide) (by decide) rfl (by decide) ?_
    refine eg_iload_n dX2_reckon_115 rfl rfl ?_
    refine eg_iload_n dX2_reckon_116 rfl rfl ?_
    refine eg_imul dX2_reckon_117 ?_
    refine eg_aload_n dX2_reckon_118 rfl rfl ?_
    refine eg_getI gf_RX2_20 rfl (by assumption) dX2_reckon_119 ?_
    refine eg_topi h2 ?_
    refine eg_iand dX2_reckon_122 ?_
    exact eg_iret rfl dX2_reckon_123 hQ
  | 8, _ =>
    refine eg_tableIn 124 dX2_reckon_1 (by decide) (by decide) rfl (by decide) ?_
    refine eg_iload_n dX2_reckon_124 rfl rfl ?_
    refine eg_aload_n dX2_reckon_125 rfl rfl ?_
    refine eg_iload_n dX2_reckon_126 rfl rfl ?_
    refine eg_callV1 0 0 gk_X2_distance gi_X2_distance (by assumption) rfl gl_RX2_54 rfl (Nat.le_of_ble_eq_true rfl) (Nat.le_of_ble_eq_true rfl) (Nat.zero_le _) (Nat.zero_le _) (by omega) dX2_reckon_127 ?_
    refine sp_X2_distance hv h ?_
    refine eg_ishl dX2_reckon_130 ?_
    refine eg_aload_n dX2_reckon_131 rfl rfl ?_
    refine eg_getI gf_RX2_20 rfl (by assumption) dX2_reckon_132 ?_
    refine eg_topi h2 ?_
    refine eg_iand dX2_reckon_135 ?_
    exact eg_iret rfl dX2_reckon_136 hQ
  | 9, _ =>
    refine eg_tableIn 137 dX2_reckon_1 (by decide) (by decide) rfl (by decide) ?_
    refine eg_iload_n dX2_reckon_137 rfl rfl ?_
    refine eg_aload_n dX2_reckon_138 rfl rfl ?_
    refine eg_iload_n dX2_reckon_139 rfl rfl ?_
    refine eg_callV1 0 0 gk_X2_distance gi_X2_distance (by assumption) rfl gl_RX2_54 rfl (Nat.le_of_ble_eq_true rfl) (Nat.le_of_ble_eq_true rfl) (Nat.zero_le _) (Nat.zero_le _) (by omega) dX2_reckon_140 ?_
    refine sp_X2_distance hv h ?_
    refine eg_ishr dX2_reckon_143 ?_
    exact eg_iret rfl dX2_reckon_144 hQ
  | 10, _ =>
    refine eg_tableIn 145 dX2_reckon_1 (by decide) (by decide) rfl (by decide) ?_
    refine eg_aload_n dX2_reckon_145 rfl rfl ?_
    refine eg_iload_n dX2_reckon_146 rfl rfl ?_
    refine eg_callV1 0 0 gk_X2_signed gi_X2_signed (by assumption) rfl gl_RX2_58 rfl (Nat.le_of_ble_eq_true rfl) (Nat.le_of_ble_eq_true rfl) (Nat.zero_le _) (Nat.zero_le _) (by omega) dX2_reckon_147 ?_
    refine sp_X2_signed hv h ?_
    refine eg_aload_n dX2_reckon_150 rfl rfl ?_
    refine eg_iload_n dX2_reckon_151 rfl rfl ?_
    refine eg_callV1 0 0 gk_X2_distance gi_X2_distance (by assumption) rfl gl_RX2_54 rfl (Nat.le_of_ble_eq_true rfl) (Nat.le_of_ble_eq_true rfl) (Nat.zero_le _) (Nat.zero_le _) (by omega) dX2_reckon_152 ?_
    refine sp_X2_distance hv h ?_
    refine eg_ishr dX2_reckon_155 ?_
    refine eg_aload_n dX2_reckon_156 rfl rfl ?_
    refine eg_getI gf_RX2_20 rfl (by assumption) dX2_reckon_157 ?_
    refine eg_topi h2 ?_
    refine eg_iand dX2_reckon_160 ?_
    exact eg_iret rfl dX2_reckon_161 hQ
  | 11, _ =>
    refine eg_tableIn 162 dX2_reckon_1 (by decide) (by decide) rfl (by decide) ?_
    refine eg_iload_n dX2_reckon_162 rfl rfl ?_
    refine eg_iload_n dX2_reckon_163 rfl rfl ?_
    refine eg_icmp_ge 171 dX2_reckon_164 (by decide) (fun c => ?_) (fun c => ?_)
    · refine eg_iconst dX2_reckon_171 (v := nI 0) (by decide) ?_
      exact eg_iret rfl dX2_reckon_172 (by first | (have hQ : Q (some (.int (if a < b then 1 else 0))) G M := hQ; rw [if_pos (Int32.not_le.mp c)] at hQ; exact hQ) | (have hQ : Q (some (.int (if a < b then 1 else 0))) G M := hQ; rw [if_neg (Int32.not_lt.mpr c)] at hQ; exact hQ))
    · refine eg_iconst dX2_reckon_167 (v := nI 1) (by decide) ?_
      refine eg_goto 172 dX2_reckon_168 (by decide) ?_
      exact eg_iret rfl dX2_reckon_172 (by first | (have hQ : Q (some (.int (if a < b then 1 else 0))) G M := hQ; rw [if_pos (Int32.not_le.mp c)] at hQ; exact hQ) | (have hQ : Q (some (.int (if a < b then 1 else 0))) G M := hQ; rw [if_neg (Int32.not_lt.mpr c)] at hQ; exact hQ))
  | 12, _ =>
    refine eg_tableIn 173 dX2_reckon_1 (by decide) (by decide) rfl (by decide) ?_
    refine eg_iload_n dX2_reckon_173 rfl rfl ?_
    refine eg_iload_n dX2_reckon_174 rfl rfl ?_
    refine eg_icmp_ne 182 dX2_reckon_175 (by decide) (fun c => ?_) (fun c => ?_)
    · refine eg_iconst dX2_reckon_182 (v := nI 0) (by decide) ?_
      exact eg_iret rfl dX2_reckon_183 (by have hQ : Q (some (.int (if a = b then 1 else 0))) G M := hQ; first | (rw [if_pos c] at hQ; exact hQ) | (rw [if_neg c] at hQ; exact hQ))
    · refine eg_iconst dX2_reckon_178 (v := nI 1) (by decide) ?_
      refine eg_goto 183 dX2_reckon_179 (by decide) ?_
      exact eg_iret rfl dX2_reckon_183 (by have hQ : Q (some (.int (if a = b then 1 else 0))) G M := hQ; first | (rw [if_pos c] at hQ; exact hQ) | (rw [if_neg c] at hQ; exact hQ))
  | o + 13, ho => exact absurd ho (by omega)
