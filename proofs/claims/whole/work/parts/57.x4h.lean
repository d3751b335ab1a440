/-! ShortestCodeModel: its constructor -/
set_option maxHeartbeats 2000000 in
theorem lp_X4_init {l : Launch} {E : eg_E} {d kb nb : Nat} {Q : Option Value → eg_G → eg_I → Prop} {G : eg_G} {a : Nat} (hs : sh_M G a) : ∀ (t s : Nat) (M : eg_I), s + t = 13 → eg_J l E mX4_init d kb nb Q 199 [some (.ref a), some (.int (nI 13))] [] G (eg_fl M (a + 2) s 13 (fun _ => nI 1)) → eg_J l E mX4_init d kb nb Q 180 [some (.ref a), some (.int (nI s))] [] G M := by
  intro t
  induction t with
  | zero =>
    intro s M hst hQ
    obtain ⟨k0, ⟨x5, y5⟩, ⟨x6, y6⟩, ⟨x7, y7⟩, ⟨x9, y9⟩, ⟨x10, y10⟩, ⟨x11, y11⟩, ⟨x13, y13⟩, ⟨x14, y14⟩, ⟨x18, y18⟩, ⟨x19, y19⟩, ⟨x20, y20⟩, ⟨x25, y25⟩, ⟨x26, y26⟩, ⟨x27, y27⟩, ⟨x28, y28⟩, ⟨x30, y30⟩, ⟨x31, y31⟩, ⟨x32, y32⟩⟩ := id hs
    refine eg_iload_n dX4_init_180 rfl rfl ?_
    refine eg_bipush dX4_init_181 (v := nI 13) (by decide) ?_
    refine eg_icmp_ge 199 dX4_init_183 (by decide) (fun c183 => ?_) (fun c183 => absurd (nI_le (a := 13) (by omega) (by omega)) c183)
    have e : s = 13 := by omega
    subst e
    rw [eg_fl_0 (by omega)] at hQ
    exact hQ
  | succ t ih =>
    intro s M hst hQ
    obtain ⟨k0, ⟨x5, y5⟩, ⟨x6, y6⟩, ⟨x7, y7⟩, ⟨x9, y9⟩, ⟨x10, y10⟩, ⟨x11, y11⟩, ⟨x13, y13⟩, ⟨x14, y14⟩, ⟨x18, y18⟩, ⟨x19, y19⟩, ⟨x20, y20⟩, ⟨x25, y25⟩, ⟨x26, y26⟩, ⟨x27, y27⟩, ⟨x28, y28⟩, ⟨x30, y30⟩, ⟨x31, y31⟩, ⟨x32, y32⟩⟩ := id hs
    refine eg_iload_n dX4_init_180 rfl rfl ?_
    refine eg_bipush dX4_init_181 (v := nI 13) (by decide) ?_
    refine eg_icmp_ge 199 dX4_init_183 (by decide) (fun c183 => absurd c183 (nI_ge (b := 13) (by omega) (by omega))) (fun c183 => ?_)
    refine eg_aload_n dX4_init_186 rfl rfl ?_
    refine eg_getR gf_RX4_26 rfl (by assumption) (by assumption) dX4_init_187 ?_
    refine eg_iload_n dX4_init_190 rfl rfl ?_
    refine eg_iconst dX4_init_191 (v := nI 1) (by decide) ?_
    refine eg_iastN (by assumption) (by omega) (by decide) dX4_init_192 ?_
    refine eg_iinc dX4_init_193 (by decide) rfl (eg_inc s) rfl ?_
    refine eg_goto 180 dX4_init_196 (by decide) ?_
    exact ih (s + 1) _ (by omega) (eg_fl_q (P := fun z => eg_J l E mX4_init d kb nb Q 199 [some (.ref a), some (.int (nI 13))] [] G z) (f := fun _ => nI 1) (by omega) (fun j g1 _ => rfl) hQ)
set_option maxHeartbeats 4000000 in
theorem sp_X4_init {l : Launch} {E : eg_E} {d kb nb : Nat} {Q : Option Value → eg_G → eg_I → Prop} {G : eg_G} {M : eg_I} {a : Nat} (hd : 3 ≤ d) (hk : 18 ≤ kb) (hn : 9649 ≤ nb) (hv : G.2.1 a = some (.inl 4)) (hsz : G.1 = a + 1) (hm : ∀ j, M a j = 0) (hQ : ∀ G' M', G'.1 = a + 19 → sh_M G' a → kp_G G G' a → ri_I M' a st_0 → kp_M M M' a → Q none G' M') : eg_J l E mX4_init d kb nb Q 0 [some (.ref a), none] [] G M := by
  refine eg_room (d' := d) (k' := 18) (n' := 9649) (Nat.le_refl _) hk hn ?_
  clear hk hn
  refine eg_aload_n dX4_init_0 rfl rfl ?_
  refine eg_objInit gl_RX4_1 (Nat.le_of_ble_eq_true rfl) (by omega) dX4_init_1 ?_
  refine eg_aload_n dX4_init_4 rfl rfl ?_
  refine eg_iconst dX4_init_5 (v := nI 4) (by decide) ?_
  refine eg_putI gp_RX4_7 (fun q => by cases q) rfl rfl rfl (by assumption) dX4_init_6 ?_
  refine eg_aload_n dX4_init_9 rfl rfl ?_
  refine eg_iconst dX4_init_10 (v := nI 1) (by decide) ?_
  refine eg_putI gp_RX4_13 (fun q => by cases q) rfl rfl rfl (by assumption) dX4_init_11 ?_
  refine eg_aload_n dX4_init_14 rfl rfl ?_
  refine eg_bipush dX4_init_15 (v := nI 15) (by decide) ?_
  refine eg_putI gp_RX4_16 (fun q => by cases q) rfl rfl rfl (by assumption) dX4_init_17 ?_
  refine eg_aload_n dX4_init_20 rfl rfl ?_
  refine eg_bipush dX4_init_21 (v := nI 16) (by decide) ?_
  refine eg_putI gp_RX4_19 (fun q => by cases q) rfl rfl rfl (by assumption) dX4_init_23 ?_
  generalize hP : eg_set (eg_set (eg_set (eg_set M a 0 (nI 4)) a 1 (nI 1)) a 2 (nI 15)) a 3 (nI 16) = P
  have p0 : P a 0 = nI 4 := by rw [← hP, eg_set_j (by decide), eg_set_j (by decide), eg_set_j (by decide), eg_set_eq]
  have p1 : P a 1 = nI 1 := by rw [← hP, eg_set_j (by decide), eg_set_j (by decide), eg_set_eq]
  have p2 : P a 2 = nI 15 := by rw [← hP, eg_set_j (by decide), eg_set_eq]
  have p3 : P a 3 = nI 16 := by rw [← hP, eg_set_eq]
  have pz : ∀ j, 4 ≤ j → P a j = 0 := fun j z => by rw [← hP, eg_set_j (by omega), eg_set_j (by omega), eg_set_j (by omega), eg_set_j (by omega)]; exact hm j
  have po : ∀ q, q < a → P q = M q := fun q z => by rw [← hP, eg_set_ne (by omega), eg_set_ne (by omega), eg_set_ne (by omega), eg_set_ne (by omega)]
  clear hP
  refine eg_aload_n dX4_init_26 rfl rfl ?_
  refine eg_iconst dX4_init_27 (v := nI 4) (by decide) ?_
  refine eg_newaR (ty := .int) (N := 4) rfl (by decide) rfl rfl ga_int (by omega) (by omega) (by decide) (by decide) dX4_init_28 (fun A0 B0 s1 s2 s3 s4 s5 s6 => ?_)
  rw [hsz] at s1 s2 s3 s4 s5 s6 ⊢
  have mz0 : ∀ j, B0 (a + 1) j = 0 := s5
  have mk0 : ∀ q, q < a + 1 → B0 q = P q := fun q hq => s6 q (by omega)
  have hbA0 : A0.2.1 a = some (.inl 4) := by rw [s3 a (by omega)]; exact hv
  refine eg_putRR gp_RX4_22 (fun _ => rfl) rfl hbA0 dX4_init_30 (fun C0 t1 t2 t3 t4 => ?_)
  have hb0 : C0.2.1 a = some (.inl 4) := by rw [t2]; exact hbA0
  have z0 : C0.1 = a + 2 := by rw [t1, s1]
  have k0_ : kq G C0 a (a + 1) := fun q hq => ⟨by rw [t2, s3 q (by omega)], fun zz => by rw [← s4 q (by omega)]; funext j; exact t4 q j (fun w => zz w.1)⟩
  have f0_ : C0.2.2 a 5 = some (a + 1) := t3
  have r0_ : ∀ j, j ≠ 5 → C0.2.2 a j = G.2.2 a j := fun j hj => by rw [t4 _ _ (fun w => hj w.2), s4 _ (by omega)]
  have sh0_ : C0.2.1 (a + 1) = some (.inr (.int, 4)) := by rw [t2]; exact s2
  clear s1 s2 s3 s4 s5 s6 t1 t2 t3 t4 hbA0 hsz hv
  refine eg_aload_n dX4_init_33 rfl rfl ?_
  refine eg_bipush dX4_init_34 (v := nI 13) (by decide) ?_
  refine eg_newaR (ty := .int) (N := 13) rfl (by decide) rfl rfl ga_int (by omega) (by omega) (by decide) (by decide) dX4_init_36 (fun A1 B1 s1 s2 s3 s4 s5 s6 => ?_)
  rw [z0] at s1 s2 s3 s4 s5 s6 ⊢
  have mz1 : ∀ j, B1 (a + 2) j = 0 := s5
  have mk1 : ∀ q, q < a + 2 → B1 q = B0 q := fun q hq => s6 q (by omega)
  have hbA1 : A1.2.1 a = some (.inl 4) := by rw [s3 a (by omega)]; exact hb0
  refine eg_putRR gp_RX4_26 (fun _ => rfl) rfl hbA1 dX4_init_38 (fun C1 t1 t2 t3 t4 => ?_)
  have hb1 : C1.2.1 a = some (.inl 4) := by rw [t2]; exact hbA1
  have z1 : C1.1 = a + 3 := by rw [t1, s1]
  have k1_ : kq C0 C1 a (a + 2) := fun q hq => ⟨by rw [t2, s3 q (by omega)], fun zz => by rw [← s4 q (by omega)]; funext j; exact t4 q j (fun w => zz w.1)⟩
  have f1_ : C1.2.2 a 6 = some (a + 2) := t3
  have r1_ : ∀ j, j ≠ 6 → C1.2.2 a j = C0.2.2 a j := fun j hj => by rw [t4 _ _ (fun w => hj w.2), s4 _ (by omega)]
  have sh1_ : C1.2.1 (a + 2) = some (.inr (.int, 13)) := by rw [t2]; exact s2
  clear s1 s2 s3 s4 s5 s6 t1 t2 t3 t4 hbA1 z0 hb0
  refine eg_aload_n dX4_init_41 rfl rfl ?_
  refine eg_sipush dX4_init_42 (v := nI 256) (by decide) ?_
  refine eg_newaR (ty := .int) (N := 256) rfl (by decide) rfl rfl ga_int (by omega) (by omega) (by decide) (by decide) dX4_init_45 (fun A2 B2 s1 s2 s3 s4 s5 s6 => ?_)
  rw [z1] at s1 s2 s3 s4 s5 s6 ⊢
  have mz2 : ∀ j, B2 (a + 3) j = 0 := s5
  have mk2 : ∀ q, q < a + 3 → B2 q = B1 q := fun q hq => s6 q (by omega)
  have hbA2 : A2.2.1 a = some (.inl 4) := by rw [s3 a (by omega)]; exact hb1
  refine eg_putRR gp_RX4_29 (fun _ => rfl) rfl hbA2 dX4_init_47 (fun C2 t1 t2 t3 t4 => ?_)
  have hb2 : C2.2.1 a = some (.inl 4) := by rw [t2]; exact hbA2
  have z2 : C2.1 = a + 4 := by rw [t1, s1]
  have k2_ : kq C1 C2 a (a + 3) := fun q hq => ⟨by rw [t2, s3 q (by omega)], fun zz => by rw [← s4 q (by omega)]; funext j; exact t4 q j (fun w => zz w.1)⟩
  have f2_ : C2.2.2 a 7 = some (a + 3) := t3
  have r2_ : ∀ j, j ≠ 7 → C2.2.2 a j = C1.2.2 a j := fun j hj => by rw [t4 _ _ (fun w => hj w.2), s4 _ (by omega)]
  have sh2_ : C2.2.1 (a + 3) = some (.inr (.int, 256)) := by rw [t2]; exact s2
  clear s1 s2 s3 s4 s5 s6 t1 t2 t3 t4 hbA2 z1 hb1
  refine eg_aload_n dX4_init_50 rfl rfl ?_
  refine eg_bipush dX4_init_51 (v := nI 12) (by decide) ?_
  refine eg_newaR (ty := .int) (N := 12) rfl (by decide) rfl rfl ga_int (by omega) (by omega) (by decide) (by decide) dX4_init_53 (fun A3 B3 s1 s2 s3 s4 s5 s6 => ?_)
  rw [z2] at s1 s2 s3 s4 s5 s6 ⊢
  have mz3 : ∀ j, B3 (a + 4) j = 0 := s5
  have mk3 : ∀ q, q < a + 4 → B3 q = B2 q := fun q hq => s6 q (by omega)
  have hbA3 : A3.2.1 a = some (.inl 4) := by rw [s3 a (by omega)]; exact hb2
  refine eg_putRR gp_RX4_32 (fun _ => rfl) rfl hbA3 dX4_init_55 (fun C3 t1 t2 t3 t4 => ?_)
  have hb3 : C3.2.1 a = some (.inl 4) := by rw [t2]; exact hbA3
  have z3 : C3.1 = a + 5 := by rw [t1, s1]
  have k3_ : kq C2 C3 a (a + 4) := fun q hq => ⟨by rw [t2, s3 q (by omega)], fun zz => by rw [← s4 q (by omega)]; funext j; exact t4 q j (fun w => zz w.1)⟩
  have f3_ : C3.2.2 a 9 = some (a + 4) := t3
  have r3_ : ∀ j, j ≠ 9 → C3.2.2 a j = C2.2.2 a j := fun j hj => by rw [t4 _ _ (fun w => hj w.2), s4 _ (by omega)]
  have sh3_ : C3.2.1 (a + 4) = some (.inr (.int, 12)) := by rw [t2]; exact s2
  clear s1 s2 s3 s4 s5 s6 t1 t2 t3 t4 hbA3 z2 hb2
  refine eg_aload_n dX4_init_58 rfl rfl ?_
  refine eg_bipush dX4_init_59 (v := nI 12) (by decide) ?_
  refine eg_newaR (ty := .int) (N := 12) rfl (by decide) rfl rfl ga_int (by omega) (by omega) (by decide) (by decide) dX4_init_61 (fun A4 B4 s1 s2 s3 s4 s5 s6 => ?_)
  rw [z3] at s1 s2 s3 s4 s5 s6 ⊢
  have mz4 : ∀ j, B4 (a + 5) j = 0 := s5
  have mk4 : ∀ q, q < a + 5 → B4 q = B3 q := fun q hq => s6 q (by omega)
  have hbA4 : A4.2.1 a = some (.inl 4) := by rw [s3 a (by omega)]; exact hb3
  refine eg_putRR gp_RX4_35 (fun _ => rfl) rfl hbA4 dX4_init_63 (fun C4 t1 t2 t3 t4 => ?_)
  have hb4 : C4.2.1 a = some (.inl 4) := by rw [t2]; exact hbA4
  have z4 : C4.1 = a + 6 := by rw [t1, s1]
  have k4_ : kq C3 C4 a (a + 5) := fun q hq => ⟨by rw [t2, s3 q (by omega)], fun zz => by rw [← s4 q (by omega)]; funext j; exact t4 q j (fun w => zz w.1)⟩
  have f4_ : C4.2.2 a 10 = some (a + 5) := t3
  have r4_ : ∀ j, j ≠ 10 → C4.2.2 a j = C3.2.2 a j := fun j hj => by rw [t4 _ _ (fun w => hj w.2), s4 _ (by omega)]
  have sh4_ : C4.2.1 (a + 5) = some (.inr (.int, 12)) := by rw [t2]; exact s2
  clear s1 s2 s3 s4 s5 s6 t1 t2 t3 t4 hbA4 z3 hb3
  refine eg_aload_n dX4_init_66 rfl rfl ?_
  refine eg_bipush dX4_init_67 (v := nI 12) (by decide) ?_
  refine eg_newaR (ty := .int) (N := 12) rfl (by decide) rfl rfl ga_int (by omega) (by omega) (by decide) (by decide) dX4_init_69 (fun A5 B5 s1 s2 s3 s4 s5 s6 => ?_)
  rw [z4] at s1 s2 s3 s4 s5 s6 ⊢
  have mz5 : ∀ j, B5 (a + 6) j = 0 := s5
  have mk5 : ∀ q, q < a + 6 → B5 q = B4 q := fun q hq => s6 q (by omega)
  have hbA5 : A5.2.1 a = some (.inl 4) := by rw [s3 a (by omega)]; exact hb4
  refine eg_putRR gp_RX4_38 (fun _ => rfl) rfl hbA5 dX4_init_71 (fun C5 t1 t2 t3 t4 => ?_)
  have hb5 : C5.2.1 a = some (.inl 4) := by rw [t2]; exact hbA5
  have z5 : C5.1 = a + 7 := by rw [t1, s1]
  have k5_ : kq C4 C5 a (a + 6) := fun q hq => ⟨by rw [t2, s3 q (by omega)], fun zz => by rw [← s4 q (by omega)]; funext j; exact t4 q j (fun w => zz w.1)⟩
  have f5_ : C5.2.2 a 11 = some (a + 6) := t3
  have r5_ : ∀ j, j ≠ 11 → C5.2.2 a j = C4.2.2 a j := fun j hj => by rw [t4 _ _ (fun w => hj w.2), s4 _ (by omega)]
  have sh5_ : C5.2.1 (a + 6) = some (.inr (.int, 12)) := by rw [t2]; exact s2
  clear s1 s2 s3 s4 s5 s6 t1 t2 t3 t4 hbA5 z4 hb4
  refine eg_aload_n dX4_init_74 rfl rfl ?_
  refine eg_sipush dX4_init_75 (v := nI 4608) (by decide) ?_
  refine eg_newaR (ty := .int) (N := 4608) rfl (by decide) rfl rfl ga_int (by omega) (by omega) (by decide) (by decide) dX4_init_78 (fun A6 B6 s1 s2 s3 s4 s5 s6 => ?_)
  rw [z5] at s1 s2 s3 s4 s5 s6 ⊢
  have mz6 : ∀ j, B6 (a + 7) j = 0 := s5
  have mk6 : ∀ q, q < a + 7 → B6 q = B5 q := fun q hq => s6 q (by omega)
  have hbA6 : A6.2.1 a = some (.inl 4) := by rw [s3 a (by omega)]; exact hb5
  refine eg_putRR gp_RX4_41 (fun _ => rfl) rfl hbA6 dX4_init_80 (fun C6 t1 t2 t3 t4 => ?_)
  have hb6 : C6.2.1 a = some (.inl 4) := by rw [t2]; exact hbA6
  have z6 : C6.1 = a + 8 := by rw [t1, s1]
  have k6_ : kq C5 C6 a (a + 7) := fun q hq => ⟨by rw [t2, s3 q (by omega)], fun zz => by rw [← s4 q (by omega)]; funext j; exact t4 q j (fun w => zz w.1)⟩
  have f6_ : C6.2.2 a 13 = some (a + 7) := t3
  have r6_ : ∀ j, j ≠ 13 → C6.2.2 a j = C5.2.2 a j := fun j hj => by rw [t4 _ _ (fun w => hj w.2), s4 _ (by omega)]
  have sh6_ : C6.2.1 (a + 7) = some (.inr (.int, 4608)) := by rw [t2]; exact s2
  clear s1 s2 s3 s4 s5 s6 t1 t2 t3 t4 hbA6 z5 hb5
  refine eg_aload_n dX4_init_83 rfl rfl ?_
  refine eg_sipush dX4_init_84 (v := nI 4608) (by decide) ?_
  refine eg_newaR (ty := .int) (N := 4608) rfl (by decide) rfl rfl ga_int (by omega) (by omega) (by decide) (by decide) dX4_init_87 (fun A7 B7 s1 s2 s3 s4 s5 s6 => ?_)
  rw [z6] at s1 s2 s3 s4 s5 s6 ⊢
  have mz7 : ∀ j, B7 (a + 8) j = 0 := s5
  have mk7 : ∀ q, q < a + 8 → B7 q = B6 q := fun q hq => s6 q (by omega)
  have hbA7 : A7.2.1 a = some (.inl 4) := by rw [s3 a (by omega)]; exact hb6
  refine eg_putRR gp_RX4_44 (fun _ => rfl) rfl hbA7 dX4_init_89 (fun C7 t1 t2 t3 t4 => ?_)
  have hb7 : C7.2.1 a = some (.inl 4) := by rw [t2]; exact hbA7
  have z7 : C7.1 = a + 9 := by rw [t1, s1]
  have k7_ : kq C6 C7 a (a + 8) := fun q hq => ⟨by rw [t2, s3 q (by omega)], fun zz => by rw [← s4 q (by omega)]; funext j; exact t4 q j (fun w => zz w.1)⟩
  have f7_ : C7.2.2 a 14 = some (a + 8) := t3
  have r7_ : ∀ j, j ≠ 14 → C7.2.2 a j = C6.2.2 a j := fun j hj => by rw [t4 _ _ (fun w => hj w.2), s4 _ (by omega)]
  have sh7_ : C7.2.1 (a + 8) = some (.inr (.int, 4608)) := by rw [t2]; exact s2
  clear s1 s2 s3 s4 s5 s6 t1 t2 t3 t4 hbA7 z6 hb6
  refine eg_aload_n dX4_init_92 rfl rfl ?_
  refine eg_bipush dX4_init_93 (v := nI 12) (by decide) ?_
  refine eg_newaR (ty := .int) (N := 12) rfl (by decide) rfl rfl ga_int (by omega) (by omega) (by decide) (by decide) dX4_init_95 (fun A8 B8 s1 s2 s3 s4 s5 s6 => ?_)
  rw [z7] at s1 s2 s3 s4 s5 s6 ⊢
  have mz8 : ∀ j, B8 (a + 9) j = 0 := s5
  have mk8 : ∀ q, q < a + 9 → B8 q = B7 q := fun q hq => s6 q (by omega)
  have hbA8 : A8.2.1 a = some (.inl 4) := by rw [s3 a (by omega)]; exact hb7
  refine eg_putRR gp_RX4_47 (fun _ => rfl) rfl hbA8 dX4_init_97 (fun C8 t1 t2 t3 t4 => ?_)
  have hb8 : C8.2.1 a = some (.inl 4) := by rw [t2]; exact hbA8
  have z8 : C8.1 = a + 10 := by rw [t1, s1]
  have k8_ : kq C7 C8 a (a + 9) := fun q hq => ⟨by rw [t2, s3 q (by omega)], fun zz => by rw [← s4 q (by omega)]; funext j; exact t4 q j (fun w => zz w.1)⟩
  have f8_ : C8.2.2 a 18 = some (a + 9) := t3
  have r8_ : ∀ j, j ≠ 18 → C8.2.2 a j = C7.2.2 a j := fun j hj => by rw [t4 _ _ (fun w => hj w.2), s4 _ (by omega)]
  have sh8_ : C8.2.1 (a + 9) = some (.inr (.int, 12)) := by rw [t2]; exact s2
  clear s1 s2 s3 s4 s5 s6 t1 t2 t3 t4 hbA8 z7 hb7
  refine eg_aload_n dX4_init_100 rfl rfl ?_
  refine eg_bipush dX4_init_101 (v := nI 12) (by decide) ?_
  refine eg_newaR (ty := .int) (N := 12) rfl (by decide) rfl rfl ga_int (by omega) (by omega) (by decide) (by decide) dX4_init_103 (fun A9 B9 s1 s2 s3 s4 s5 s6 => ?_)
  rw [z8] at s1 s2 s3 s4 s5 s6 ⊢
  have mz9 : ∀ j, B9 (a + 10) j = 0 := s5
  have mk9 : ∀ q, q < a + 10 → B9 q = B8 q := fun q hq => s6 q (by omega)
  have hbA9 : A9.2.1 a = some (.inl 4) := by rw [s3 a (by omega)]; exact hb8
  refine eg_putRR gp_RX4_50 (fun _ => rfl) rfl hbA9 dX4_init_105 (fun C9 t1 t2 t3 t4 => ?_)
  have hb9 : C9.2.1 a = some (.inl 4) := by rw [t2]; exact hbA9
  have z9 : C9.1 = a + 11 := by rw [t1, s1]
  have k9_ : kq C8 C9 a (a + 10) := fun q hq => ⟨by rw [t2, s3 q (by omega)], fun zz => by rw [← s4 q (by omega)]; funext j; exact t4 q j (fun w => zz w.1)⟩
  have f9_ : C9.2.2 a 19 = some (a + 10) := t3
  have r9_ : ∀ j, j ≠ 19 → C9.2.2 a j = C8.2.2 a j := fun j hj => by rw [t4 _ _ (fun w => hj w.2), s4 _ (by omega)]
  have sh9_ : C9.2.1 (a + 10) = some (.inr (.int, 12)) := by rw [t2]; exact s2
  clear s1 s2 s3 s4 s5 s6 t1 t2 t3 t4 hbA9 z8 hb8
  refine eg_aload_n dX4_init_108 rfl rfl ?_
  refine eg_bipush dX4_init_109 (v := nI 12) (by decide) ?_
  refine eg_newaR (ty := .int) (N := 12) rfl (by decide) rfl rfl ga_int (by omega) (by omega) (by decide) (by decide) dX4_init_111 (fun A10 B10 s1 s2 s3 s4 s5 s6 => ?_)
  rw [z9] at s1 s2 s3 s4 s5 s6 ⊢
  have mz10 : ∀ j, B10 (a + 11) j = 0 := s5
  have mk10 : ∀ q, q < a + 11 → B10 q = B9 q := fun q hq => s6 q (by omega)
  have hbA10 : A10.2.1 a = some (.inl 4) := by rw [s3 a (by omega)]; exact hb9
  refine eg_putRR gp_RX4_53 (fun _ => rfl) rfl hbA10 dX4_init_113 (fun C10 t1 t2 t3 t4 => ?_)
  have hb10 : C10.2.1 a = some (.inl 4) := by rw [t2]; exact hbA10
  have z10 : C10.1 = a + 12 := by rw [t1, s1]
  have k10_ : kq C9 C10 a (a + 11) := fun q hq => ⟨by rw [t2, s3 q (by omega)], fun zz => by rw [← s4 q (by omega)]; funext j; exact t4 q j (fun w => zz w.1)⟩
  have f10_ : C10.2.2 a 20 = some (a + 11) := t3
  have r10_ : ∀ j, j ≠ 20 → C10.2.2 a j = C9.2.2 a j := fun j hj => by rw [t4 _ _ (fun w => hj w.2), s4 _ (by omega)]
  have sh10_ : C10.2.1 (a + 11) = some (.inr (.int, 12)) := by rw [t2]; exact s2
  clear s1 s2 s3 s4 s5 s6 t1 t2 t3 t4 hbA10 z9 hb9
  refine eg_aload_n dX4_init_116 rfl rfl ?_
  refine eg_bipush dX4_init_117 (v := -3) (by decide) ?_
  refine eg_putI gp_RX4_56 (fun q => by cases q) rfl rfl rfl hb10 dX4_init_119 ?_
  generalize hP2 : eg_set B10 a 24 (-3) = P2
  have p24 : P2 a 24 = -3 := by rw [← hP2, eg_set_eq]
  have pk2 : ∀ q j, ¬ (q = a ∧ j = 24) → P2 q j = B10 q j := fun q j z => by rw [← hP2, eg_set_q z]
  clear hP2
  refine eg_aload_n dX4_init_122 rfl rfl ?_
  refine eg_bipush dX4_init_123 (v := nI 13) (by decide) ?_
  refine eg_newaR (ty := .int) (N := 13) rfl (by decide) rfl rfl ga_int (by omega) (by omega) (by decide) (by decide) dX4_init_125 (fun A11 B11 s1 s2 s3 s4 s5 s6 => ?_)
  rw [z10] at s1 s2 s3 s4 s5 s6 ⊢
  have mz11 : ∀ j, B11 (a + 12) j = 0 := s5
  have mk11 : ∀ q, q < a + 12 → B11 q = P2 q := fun q hq => s6 q (by omega)
  have hbA11 : A11.2.1 a = some (.inl 4) := by rw [s3 a (by omega)]; exact hb10
  refine eg_putRR gp_RX4_59 (fun _ => rfl) rfl hbA11 dX4_init_127 (fun C11 t1 t2 t3 t4 => ?_)
  have hb11 : C11.2.1 a = some (.inl 4) := by rw [t2]; exact hbA11
  have z11 : C11.1 = a + 13 := by rw [t1, s1]
  have k11_ : kq C10 C11 a (a + 12) := fun q hq => ⟨by rw [t2, s3 q (by omega)], fun zz => by rw [← s4 q (by omega)]; funext j; exact t4 q j (fun w => zz w.1)⟩
  have f11_ : C11.2.2 a 25 = some (a + 12) := t3
  have r11_ : ∀ j, j ≠ 25 → C11.2.2 a j = C10.2.2 a j := fun j hj => by rw [t4 _ _ (fun w => hj w.2), s4 _ (by omega)]
  have sh11_ : C11.2.1 (a + 12) = some (.inr (.int, 13)) := by rw [t2]; exact s2
  clear s1 s2 s3 s4 s5 s6 t1 t2 t3 t4 hbA11 z10 hb10
  refine eg_aload_n dX4_init_130 rfl rfl ?_
  refine eg_bipush dX4_init_131 (v := nI 13) (by decide) ?_
  refine eg_newaR (ty := .int) (N := 13) rfl (by decide) rfl rfl ga_int (by omega) (by omega) (by decide) (by decide) dX4_init_133 (fun A12 B12 s1 s2 s3 s4 s5 s6 => ?_)
  rw [z11] at s1 s2 s3 s4 s5 s6 ⊢
  have mz12 : ∀ j, B12 (a + 13) j = 0 := s5
  have mk12 : ∀ q, q < a + 13 → B12 q = B11 q := fun q hq => s6 q (by omega)
  have hbA12 : A12.2.1 a = some (.inl 4) := by rw [s3 a (by omega)]; exact hb11
  refine eg_putRR gp_RX4_62 (fun _ => rfl) rfl hbA12 dX4_init_135 (fun C12 t1 t2 t3 t4 => ?_)
  have hb12 : C12.2.1 a = some (.inl 4) := by rw [t2]; exact hbA12
  have z12 : C12.1 = a + 14 := by rw [t1, s1]
  have k12_ : kq C11 C12 a (a + 13) := fun q hq => ⟨by rw [t2, s3 q (by omega)], fun zz => by rw [← s4 q (by omega)]; funext j; exact t4 q j (fun w => zz w.1)⟩
  have f12_ : C12.2.2 a 26 = some (a + 13) := t3
  have r12_ : ∀ j, j ≠ 26 → C12.2.2 a j = C11.2.2 a j := fun j hj => by rw [t4 _ _ (fun w => hj w.2), s4 _ (by omega)]
  have sh12_ : C12.2.1 (a + 13) = some (.inr (.int, 13)) := by rw [t2]; exact s2
  clear s1 s2 s3 s4 s5 s6 t1 t2 t3 t4 hbA12 z11 hb11
  refine eg_aload_n dX4_init_138 rfl rfl ?_
  refine eg_bipush dX4_init_139 (v := nI 13) (by decide) ?_
  refine eg_newaR (ty := .int) (N := 13) rfl (by decide) rfl rfl ga_int (by omega) (by omega) (by decide) (by decide) dX4_init_141 (fun A13 B13 s1 s2 s3 s4 s5 s6 => ?_)
  rw [z12] at s1 s2 s3 s4 s5 s6 ⊢
  have mz13 : ∀ j, B13 (a + 14) j = 0 := s5
  have mk13 : ∀ q, q < a + 14 → B13 q = B12 q := fun q hq => s6 q (by omega)
  have hbA13 : A13.2.1 a = some (.inl 4) := by rw [s3 a (by omega)]; exact hb12
  refine eg_putRR gp_RX4_65 (fun _ => rfl) rfl hbA13 dX4_init_143 (fun C13 t1 t2 t3 t4 => ?_)
  have hb13 : C13.2.1 a = some (.inl 4) := by rw [t2]; exact hbA13
  have z13 : C13.1 = a + 15 := by rw [t1, s1]
  have k13_ : kq C12 C13 a (a + 14) := fun q hq => ⟨by rw [t2, s3 q (by omega)], fun zz => by rw [← s4 q (by omega)]; funext j; exact t4 q j (fun w => zz w.1)⟩
  have f13_ : C13.2.2 a 27 = some (a + 14) := t3
  have r13_ : ∀ j, j ≠ 27 → C13.2.2 a j = C12.2.2 a j := fun j hj => by rw [t4 _ _ (fun w => hj w.2), s4 _ (by omega)]
  have sh13_ : C13.2.1 (a + 14) = some (.inr (.int, 13)) := by rw [t2]; exact s2
  clear s1 s2 s3 s4 s5 s6 t1 t2 t3 t4 hbA13 z12 hb12
  refine eg_aload_n dX4_init_146 rfl rfl ?_
  refine eg_bipush dX4_init_147 (v := nI 13) (by decide) ?_
  refine eg_newaR (ty := .int) (N := 13) rfl (by decide) rfl rfl ga_int (by omega) (by omega) (by decide) (by decide) dX4_init_149 (fun A14 B14 s1 s2 s3 s4 s5 s6 => ?_)
  rw [z13] at s1 s2 s3 s4 s5 s6 ⊢
  have mz14 : ∀ j, B14 (a + 15) j = 0 := s5
  have mk14 : ∀ q, q < a + 15 → B14 q = B13 q := fun q hq => s6 q (by omega)
  have hbA14 : A14.2.1 a = some (.inl 4) := by rw [s3 a (by omega)]; exact hb13
  refine eg_putRR gp_RX4_68 (fun _ => rfl) rfl hbA14 dX4_init_151 (fun C14 t1 t2 t3 t4 => ?_)
  have hb14 : C14.2.1 a = some (.inl 4) := by rw [t2]; exact hbA14
  have z14 : C14.1 = a + 16 := by rw [t1, s1]
  have k14_ : kq C13 C14 a (a + 15) := fun q hq => ⟨by rw [t2, s3 q (by omega)], fun zz => by rw [← s4 q (by omega)]; funext j; exact t4 q j (fun w => zz w.1)⟩
  have f14_ : C14.2.2 a 28 = some (a + 15) := t3
  have r14_ : ∀ j, j ≠ 28 → C14.2.2 a j = C13.2.2 a j := fun j hj => by rw [t4 _ _ (fun w => hj w.2), s4 _ (by omega)]
  have sh14_ : C14.2.1 (a + 15) = some (.inr (.int, 13)) := by rw [t2]; exact s2
  clear s1 s2 s3 s4 s5 s6 t1 t2 t3 t4 hbA14 z13 hb13
  refine eg_aload_n dX4_init_154 rfl rfl ?_
  refine eg_bipush dX4_init_155 (v := nI 12) (by decide) ?_
  refine eg_newaR (ty := .int) (N := 12) rfl (by decide) rfl rfl ga_int (by omega) (by omega) (by decide) (by decide) dX4_init_157 (fun A15 B15 s1 s2 s3 s4 s5 s6 => ?_)
  rw [z14] at s1 s2 s3 s4 s5 s6 ⊢
  have mz15 : ∀ j, B15 (a + 16) j = 0 := s5
  have mk15 : ∀ q, q < a + 16 → B15 q = B14 q := fun q hq => s6 q (by omega)
  have hbA15 : A15.2.1 a = some (.inl 4) := by rw [s3 a (by omega)]; exact hb14
  refine eg_putRR gp_RX4_71 (fun _ => rfl) rfl hbA15 dX4_init_159 (fun C15 t1 t2 t3 t4 => ?_)
  have hb15 : C15.2.1 a = some (.inl 4) := by rw [t2]; exact hbA15
  have z15 : C15.1 = a + 17 := by rw [t1, s1]
  have k15_ : kq C14 C15 a (a + 16) := fun q hq => ⟨by rw [t2, s3 q (by omega)], fun zz => by rw [← s4 q (by omega)]; funext j; exact t4 q j (fun w => zz w.1)⟩
  have f15_ : C15.2.2 a 30 = some (a + 16) := t3
  have r15_ : ∀ j, j ≠ 30 → C15.2.2 a j = C14.2.2 a j := fun j hj => by rw [t4 _ _ (fun w => hj w.2), s4 _ (by omega)]
  have sh15_ : C15.2.1 (a + 16) = some (.inr (.int, 12)) := by rw [t2]; exact s2
  clear s1 s2 s3 s4 s5 s6 t1 t2 t3 t4 hbA15 z14 hb14
  refine eg_aload_n dX4_init_162 rfl rfl ?_
  refine eg_bipush dX4_init_163 (v := nI 12) (by decide) ?_
  refine eg_newaR (ty := .int) (N := 12) rfl (by decide) rfl rfl ga_int (by omega) (by omega) (by decide) (by decide) dX4_init_165 (fun A16 B16 s1 s2 s3 s4 s5 s6 => ?_)
  rw [z15] at s1 s2 s3 s4 s5 s6 ⊢
  have mz16 : ∀ j, B16 (a + 17) j = 0 := s5
  have mk16 : ∀ q, q < a + 17 → B16 q = B15 q := fun q hq => s6 q (by omega)
  have hbA16 : A16.2.1 a = some (.inl 4) := by rw [s3 a (by omega)]; exact hb15
  refine eg_putRR gp_RX4_74 (fun _ => rfl) rfl hbA16 dX4_init_167 (fun C16 t1 t2 t3 t4 => ?_)
  have hb16 : C16.2.1 a = some (.inl 4) := by rw [t2]; exact hbA16
  have z16 : C16.1 = a + 18 := by rw [t1, s1]
  have k16_ : kq C15 C16 a (a + 17) := fun q hq => ⟨by rw [t2, s3 q (by omega)], fun zz => by rw [← s4 q (by omega)]; funext j; exact t4 q j (fun w => zz w.1)⟩
  have f16_ : C16.2.2 a 31 = some (a + 17) := t3
  have r16_ : ∀ j, j ≠ 31 → C16.2.2 a j = C15.2.2 a j := fun j hj => by rw [t4 _ _ (fun w => hj w.2), s4 _ (by omega)]
  have sh16_ : C16.2.1 (a + 17) = some (.inr (.int, 12)) := by rw [t2]; exact s2
  clear s1 s2 s3 s4 s5 s6 t1 t2 t3 t4 hbA16 z15 hb15
  refine eg_aload_n dX4_init_170 rfl rfl ?_
  refine eg_bipush dX4_init_171 (v := nI 12) (by decide) ?_
  refine eg_newaR (ty := .int) (N := 12) rfl (by decide) rfl rfl ga_int (by omega) (by omega) (by decide) (by decide) dX4_init_173 (fun A17 B17 s1 s2 s3 s4 s5 s6 => ?_)
  rw [z16] at s1 s2 s3 s4 s5 s6 ⊢
  have mz17 : ∀ j, B17 (a + 18) j = 0 := s5
  have mk17 : ∀ q, q < a + 18 → B17 q = B16 q := fun q hq => s6 q (by omega)
  have hbA17 : A17.2.1 a = some (.inl 4) := by rw [s3 a (by omega)]; exact hb16
  refine eg_putRR gp_RX4_77 (fun _ => rfl) rfl hbA17 dX4_init_175 (fun C17 t1 t2 t3 t4 => ?_)
  have hb17 : C17.2.1 a = some (.inl 4) := by rw [t2]; exact hbA17
  have z17 : C17.1 = a + 19 := by rw [t1, s1]
  have k17_ : kq C16 C17 a (a + 18) := fun q hq => ⟨by rw [t2, s3 q (by omega)], fun zz => by rw [← s4 q (by omega)]; funext j; exact t4 q j (fun w => zz w.1)⟩
  have f17_ : C17.2.2 a 32 = some (a + 18) := t3
  have r17_ : ∀ j, j ≠ 32 → C17.2.2 a j = C16.2.2 a j := fun j hj => by rw [t4 _ _ (fun w => hj w.2), s4 _ (by omega)]
  have sh17_ : C17.2.1 (a + 18) = some (.inr (.int, 12)) := by rw [t2]; exact s2
  clear s1 s2 s3 s4 s5 s6 t1 t2 t3 t4 hbA17 z16 hb16
  have q17_ : kq C17 C17 a (a + 19) := kq.rf
  have q16_ : kq C16 C17 a (a + 18) := k17_.tr q17_ (by omega)
  have q15_ : kq C15 C17 a (a + 17) := k16_.tr q16_ (by omega)
  have q14_ : kq C14 C17 a (a + 16) := k15_.tr q15_ (by omega)
  have q13_ : kq C13 C17 a (a + 15) := k14_.tr q14_ (by omega)
  have q12_ : kq C12 C17 a (a + 14) := k13_.tr q13_ (by omega)
  have q11_ : kq C11 C17 a (a + 13) := k12_.tr q12_ (by omega)
  have q10_ : kq C10 C17 a (a + 12) := k11_.tr q11_ (by omega)
  have q9_ : kq C9 C17 a (a + 11) := k10_.tr q10_ (by omega)
  have q8_ : kq C8 C17 a (a + 10) := k9_.tr q9_ (by omega)
  have q7_ : kq C7 C17 a (a + 9) := k8_.tr q8_ (by omega)
  have q6_ : kq C6 C17 a (a + 8) := k7_.tr q7_ (by omega)
  have q5_ : kq C5 C17 a (a + 7) := k6_.tr q6_ (by omega)
  have q4_ : kq C4 C17 a (a + 6) := k5_.tr q5_ (by omega)
  have q3_ : kq C3 C17 a (a + 5) := k4_.tr q4_ (by omega)
  have q2_ : kq C2 C17 a (a + 4) := k3_.tr q3_ (by omega)
  have q1_ : kq C1 C17 a (a + 3) := k2_.tr q2_ (by omega)
  have q0_ : kq C0 C17 a (a + 2) := k1_.tr q1_ (by omega)
  have e0_ : C17.2.1 (a + 1) = some (.inr (.int, 4)) := by rw [(q0_ _ (by omega)).1]; exact sh0_
  have g0_ : C17.2.2 a 5 = some (a + 1) := by rw [r17_ 5 (by decide), r16_ 5 (by decide), r15_ 5 (by decide), r14_ 5 (by decide), r13_ 5 (by decide), r12_ 5 (by decide), r11_ 5 (by decide), r10_ 5 (by decide), r9_ 5 (by decide), r8_ 5 (by decide), r7_ 5 (by decide), r6_ 5 (by decide), r5_ 5 (by decide), r4_ 5 (by decide), r3_ 5 (by decide), r2_ 5 (by decide), r1_ 5 (by decide)]; exact f0_
  have e1_ : C17.2.1 (a + 2) = some (.inr (.int, 13)) := by rw [(q1_ _ (by omega)).1]; exact sh1_
  have g1_ : C17.2.2 a 6 = some (a + 2) := by rw [r17_ 6 (by decide), r16_ 6 (by decide), r15_ 6 (by decide), r14_ 6 (by decide), r13_ 6 (by decide), r12_ 6 (by decide), r11_ 6 (by decide), r10_ 6 (by decide), r9_ 6 (by decide), r8_ 6 (by decide), r7_ 6 (by decide), r6_ 6 (by decide), r5_ 6 (by decide), r4_ 6 (by decide), r3_ 6 (by decide), r2_ 6 (by decide)]; exact f1_
  have e2_ : C17.2.1 (a + 3) = some (.inr (.int, 256)) := by rw [(q2_ _ (by omega)).1]; exact sh2_
  have g2_ : C17.2.2 a 7 = some (a + 3) := by rw [r17_ 7 (by decide), r16_ 7 (by decide), r15_ 7 (by decide), r14_ 7 (by decide), r13_ 7 (by decide), r12_ 7 (by decide), r11_ 7 (by decide), r10_ 7 (by decide), r9_ 7 (by decide), r8_ 7 (by decide), r7_ 7 (by decide), r6_ 7 (by decide), r5_ 7 (by decide), r4_ 7 (by decide), r3_ 7 (by decide)]; exact f2_
  have e3_ : C17.2.1 (a + 4) = some (.inr (.int, 12)) := by rw [(q3_ _ (by omega)).1]; exact sh3_
  have g3_ : C17.2.2 a 9 = some (a + 4) := by rw [r17_ 9 (by decide), r16_ 9 (by decide), r15_ 9 (by decide), r14_ 9 (by decide), r13_ 9 (by decide), r12_ 9 (by decide), r11_ 9 (by decide), r10_ 9 (by decide), r9_ 9 (by decide), r8_ 9 (by decide), r7_ 9 (by decide), r6_ 9 (by decide), r5_ 9 (by decide), r4_ 9 (by decide)]; exact f3_
  have e4_ : C17.2.1 (a + 5) = some (.inr (.int, 12)) := by rw [(q4_ _ (by omega)).1]; exact sh4_
  have g4_ : C17.2.2 a 10 = some (a + 5) := by rw [r17_ 10 (by decide), r16_ 10 (by decide), r15_ 10 (by decide), r14_ 10 (by decide), r13_ 10 (by decide), r12_ 10 (by decide), r11_ 10 (by decide), r10_ 10 (by decide), r9_ 10 (by decide), r8_ 10 (by decide), r7_ 10 (by decide), r6_ 10 (by decide), r5_ 10 (by decide)]; exact f4_
  have e5_ : C17.2.1 (a + 6) = some (.inr (.int, 12)) := by rw [(q5_ _ (by omega)).1]; exact sh5_
  have g5_ : C17.2.2 a 11 = some (a + 6) := by rw [r17_ 11 (by decide), r16_ 11 (by decide), r15_ 11 (by decide), r14_ 11 (by decide), r13_ 11 (by decide), r12_ 11 (by decide), r11_ 11 (by decide), r10_ 11 (by decide), r9_ 11 (by decide), r8_ 11 (by decide), r7_ 11 (by decide), r6_ 11 (by decide)]; exact f5_
  have e6_ : C17.2.1 (a + 7) = some (.inr (.int, 4608)) := by rw [(q6_ _ (by omega)).1]; exact sh6_
  have g6_ : C17.2.2 a 13 = some (a + 7) := by rw [r17_ 13 (by decide), r16_ 13 (by decide), r15_ 13 (by decide), r14_ 13 (by decide), r13_ 13 (by decide), r12_ 13 (by decide), r11_ 13 (by decide), r10_ 13 (by decide), r9_ 13 (by decide), r8_ 13 (by decide), r7_ 13 (by decide)]; exact f6_
  have e7_ : C17.2.1 (a + 8) = some (.inr (.int, 4608)) := by rw [(q7_ _ (by omega)).1]; exact sh7_
  have g7_ : C17.2.2 a 14 = some (a + 8) := by rw [r17_ 14 (by decide), r16_ 14 (by decide), r15_ 14 (by decide), r14_ 14 (by decide), r13_ 14 (by decide), r12_ 14 (by decide), r11_ 14 (by decide), r10_ 14 (by decide), r9_ 14 (by decide), r8_ 14 (by decide)]; exact f7_
  have e8_ : C17.2.1 (a + 9) = some (.inr (.int, 12)) := by rw [(q8_ _ (by omega)).1]; exact sh8_
  have g8_ : C17.2.2 a 18 = some (a + 9) := by rw [r17_ 18 (by decide), r16_ 18 (by decide), r15_ 18 (by decide), r14_ 18 (by decide), r13_ 18 (by decide), r12_ 18 (by decide), r11_ 18 (by decide), r10_ 18 (by decide), r9_ 18 (by decide)]; exact f8_
  have e9_ : C17.2.1 (a + 10) = some (.inr (.int, 12)) := by rw [(q9_ _ (by omega)).1]; exact sh9_
  have g9_ : C17.2.2 a 19 = some (a + 10) := by rw [r17_ 19 (by decide), r16_ 19 (by decide), r15_ 19 (by decide), r14_ 19 (by decide), r13_ 19 (by decide), r12_ 19 (by decide), r11_ 19 (by decide), r10_ 19 (by decide)]; exact f9_
  have e10_ : C17.2.1 (a + 11) = some (.inr (.int, 12)) := by rw [(q10_ _ (by omega)).1]; exact sh10_
  have g10_ : C17.2.2 a 20 = some (a + 11) := by rw [r17_ 20 (by decide), r16_ 20 (by decide), r15_ 20 (by decide), r14_ 20 (by decide), r13_ 20 (by decide), r12_ 20 (by decide), r11_ 20 (by decide)]; exact f10_
  have e11_ : C17.2.1 (a + 12) = some (.inr (.int, 13)) := by rw [(q11_ _ (by omega)).1]; exact sh11_
  have g11_ : C17.2.2 a 25 = some (a + 12) := by rw [r17_ 25 (by decide), r16_ 25 (by decide), r15_ 25 (by decide), r14_ 25 (by decide), r13_ 25 (by decide), r12_ 25 (by decide)]; exact f11_
  have e12_ : C17.2.1 (a + 13) = some (.inr (.int, 13)) := by rw [(q12_ _ (by omega)).1]; exact sh12_
  have g12_ : C17.2.2 a 26 = some (a + 13) := by rw [r17_ 26 (by decide), r16_ 26 (by decide), r15_ 26 (by decide), r14_ 26 (by decide), r13_ 26 (by decide)]; exact f12_
  have e13_ : C17.2.1 (a + 14) = some (.inr (.int, 13)) := by rw [(q13_ _ (by omega)).1]; exact sh13_
  have g13_ : C17.2.2 a 27 = some (a + 14) := by rw [r17_ 27 (by decide), r16_ 27 (by decide), r15_ 27 (by decide), r14_ 27 (by decide)]; exact f13_
  have e14_ : C17.2.1 (a + 15) = some (.inr (.int, 13)) := by rw [(q14_ _ (by omega)).1]; exact sh14_
  have g14_ : C17.2.2 a 28 = some (a + 15) := by rw [r17_ 28 (by decide), r16_ 28 (by decide), r15_ 28 (by decide)]; exact f14_
  have e15_ : C17.2.1 (a + 16) = some (.inr (.int, 12)) := by rw [(q15_ _ (by omega)).1]; exact sh15_
  have g15_ : C17.2.2 a 30 = some (a + 16) := by rw [r17_ 30 (by decide), r16_ 30 (by decide)]; exact f15_
  have e16_ : C17.2.1 (a + 17) = some (.inr (.int, 12)) := by rw [(q16_ _ (by omega)).1]; exact sh16_
  have g16_ : C17.2.2 a 31 = some (a + 17) := by rw [r17_ 31 (by decide)]; exact f16_
  have e17_ : C17.2.1 (a + 18) = some (.inr (.int, 12)) := by rw [(q17_ _ (by omega)).1]; exact sh17_
  have g17_ : C17.2.2 a 32 = some (a + 18) := by exact f17_
  have kk_ : kq G C17 a (a + 1) := k0_.tr q0_ (by omega)
  clear sh0_ f0_ r0_ k0_ q0_ sh1_ f1_ r1_ k1_ q1_ sh2_ f2_ r2_ k2_ q2_ sh3_ f3_ r3_ k3_ q3_ sh4_ f4_ r4_ k4_ q4_ sh5_ f5_ r5_ k5_ q5_ sh6_ f6_ r6_ k6_ q6_ sh7_ f7_ r7_ k7_ q7_ sh8_ f8_ r8_ k8_ q8_ sh9_ f9_ r9_ k9_ q9_ sh10_ f10_ r10_ k10_ q10_ sh11_ f11_ r11_ k11_ q11_ sh12_ f12_ r12_ k12_ q12_ sh13_ f13_ r13_ k13_ q13_ sh14_ f14_ r14_ k14_ q14_ sh15_ f15_ r15_ k15_ q15_ sh16_ f16_ r16_ k16_ q16_ sh17_ f17_ r17_ k17_ q17_
  have hsC : sh_M C17 a := ⟨hb17, ⟨g0_, e0_⟩, ⟨g1_, e1_⟩, ⟨g2_, e2_⟩, ⟨g3_, e3_⟩, ⟨g4_, e4_⟩, ⟨g5_, e5_⟩, ⟨g6_, e6_⟩, ⟨g7_, e7_⟩, ⟨g8_, e8_⟩, ⟨g9_, e9_⟩, ⟨g10_, e10_⟩, ⟨g11_, e11_⟩, ⟨g12_, e12_⟩, ⟨g13_, e13_⟩, ⟨g14_, e14_⟩, ⟨g15_, e15_⟩, ⟨g16_, e16_⟩, ⟨g17_, e17_⟩⟩
  have w0 : ∀ q j, q < a + 1 → ¬ (q = a ∧ j = 24) → B17 q j = P q j := fun q j z1 z2 => by rw [mk17 _ (by omega), mk16 _ (by omega), mk15 _ (by omega), mk14 _ (by omega), mk13 _ (by omega), mk12 _ (by omega), mk11 _ (by omega), pk2 _ _ z2, mk10 _ (by omega), mk9 _ (by omega), mk8 _ (by omega), mk7 _ (by omega), mk6 _ (by omega), mk5 _ (by omega), mk4 _ (by omega), mk3 _ (by omega), mk2 _ (by omega), mk1 _ (by omega), mk0 _ (by omega)]
  have w24 : B17 a 24 = -3 := by rw [mk17 _ (by omega), mk16 _ (by omega), mk15 _ (by omega), mk14 _ (by omega), mk13 _ (by omega), mk12 _ (by omega), mk11 _ (by omega)]; exact p24
  have wt : ∀ s, B17 (a + 3) s = 0 := fun s => by rw [mk17 _ (by omega), mk16 _ (by omega), mk15 _ (by omega), mk14 _ (by omega), mk13 _ (by omega), mk12 _ (by omega), mk11 _ (by omega), pk2 _ _ (by omega), mk10 _ (by omega), mk9 _ (by omega), mk8 _ (by omega), mk7 _ (by omega), mk6 _ (by omega), mk5 _ (by omega), mk4 _ (by omega), mk3 _ (by omega)]; exact mz2 s
  clear mk0 mz0 mk1 mz1 mk2 mz2 mk3 mz3 mk4 mz4 mk5 mz5 mk6 mz6 mk7 mz7 mk8 mz8 mk9 mz9 mk10 mz10 mk11 mz11 mk12 mz12 mk13 mz13 mk14 mz14 mk15 mz15 mk16 mz16 mk17 mz17 pk2 p24
  refine eg_iconst dX4_init_178 (v := nI 0) (by decide) ?_
  refine eg_istore_n dX4_init_179 rfl (by decide) rfl ?_
  refine lp_X4_init hsC 13 0 B17 (by omega) ?_
  generalize hM7 : eg_fl B17 (a + 2) 0 13 (fun _ => nI 1) = M7
  have o7 : ∀ q, q ≠ a + 2 → M7 q = B17 q := fun q z => by rw [← hM7, eg_fl_ne z]
  have fa : ∀ j, j ≠ 24 → M7 a j = P a j := fun j z => by rw [o7 _ (by omega), w0 _ _ (by omega) (by omega)]
  have c1 : in_M M7 a 4 1 0 (fun _ => 0) := ⟨by rw [fa _ (by decide), p0], by rw [fa _ (by decide), p1], by rw [fa _ (by decide), p2], by rw [fa _ (by decide), p3], by rw [fa _ (by decide), pz 4 (by omega)]; rfl, fun j hj => absurd hj (by omega), by omega, by omega, by omega, by omega, by omega⟩
  have s8 : M7 a 8 = nI 0 := by rw [fa _ (by decide), pz 8 (by omega)]; rfl
  refine eg_aload_n dX4_init_199 rfl rfl ?_
  refine eg_callV0 0 0 gk_X4_reckonAll gi_X4_reckonAll hb17 rfl gl_RX4_80 rfl (Nat.le_of_ble_eq_true rfl) (Nat.le_of_ble_eq_true rfl) (Nat.zero_le _) (Nat.zero_le _) (by omega) dX4_init_200 ?_
  refine sp_X4_reckonAll (op := fun _ => 0) (lf := fun _ => 0) (rt := fun _ => 0) (len := 0) (by omega) hsC (by omega) (fun j hj => absurd hj (by omega)) (fun j hj => absurd hj (by omega)) c1 ⟨s8, fun j hj => absurd hj (by omega)⟩ (fun M8 h3 h4 => ?_)
  have hst : ri_U M8 a 4 1 0 (fun _ => 0) (fun _ => 1) (fun _ => 0) 0 (fun _ => 0) (fun _ => 0) (fun _ => 0) 0 false 0 (fun _ => 0) (fun _ => 0) (fun _ => 0) 0 0 0 0 (-3) := by
    refine ⟨c1.eq (fun j _ => by rw [h4 _ (by omega)]) (h4 _ (by omega)), h3, fun o ho => ?_, fun s z => ?_, ⟨?_, ?_, by decide, fun j hj => absurd hj (by omega)⟩, ?_, fun z => absurd z (by decide), ?_, ?_, ?_, ?_⟩
    · rw [h4 _ (by omega), ← hM7, eg_fl_in (by omega) ho]
    · rw [h4 _ (by omega), o7 _ (by omega)]; exact wt s
    · rw [h4 _ (by omega)]; exact s8
    · rw [h4 _ (by omega), fa _ (by decide), pz 12 (by omega)]; rfl
    · rw [h4 _ (by omega), fa _ (by decide), pz 15 (by omega)]; rfl
    · rw [h4 _ (by omega), fa _ (by decide), pz 21 (by omega)]
    · rw [h4 _ (by omega), fa _ (by decide), pz 22 (by omega)]
    · rw [h4 _ (by omega), fa _ (by decide), pz 23 (by omega)]
    · rw [h4 _ (by omega), o7 _ (by omega)]; exact w24
  exact eg_vret rfl dX4_init_203 (hQ C17 M8 z17 hsC ⟨fun q hq => (kk_ q (by omega)).1, fun q hq => (kk_ q (by omega)).2 (by omega)⟩ hst (fun q hq => by
    rw [h4 q (by omega), o7 q (by omega)]
    funext j
    rw [w0 q j (by omega) (by omega), po q (by omega)]))
