/-! constructors: rules that forget how the memory was made, then the constructors of the class -/
theorem eg_newR {l : Launch} {E : eg_E} {y : eg_Mt} {d k n pc : Nat} {Q : Option Value → eg_G → eg_I → Prop} {lo : List (Option Value)} {st : List Value} {G : eg_G} {M : eg_I} {idx ci N : Nat} {C : String} {T : u_T} (hc : classes[ci]? = some (C, T, N)) (hw : Cond.classLink y.1.cls idx C ∈ eg_gw ∧ Cond.instantiable C N ∈ eg_gw ∧ Cond.initialized C ∈ eg_gw) (hk1 : 1 ≤ k) (hn1 : N ≤ n) (hd : decode y.2.1 pc = .ok (.new idx, 3)) (kk : ∀ G' M', G'.1 = G.1 + 1 → G'.2.1 G.1 = some (.inl ci) → (∀ q, q ≠ G.1 → G'.2.1 q = G.2.1 q) → (∀ q, q ≠ G.1 → G'.2.2 q = G.2.2 q) → (∀ j, M' G.1 j = 0) → (∀ q, q ≠ G.1 → M' q = M q) → eg_J l E y d (k - 1) (n - N) Q (pc + 3) lo (.ref G.1 :: st) G' M') : eg_J l E y d k n Q (pc) lo (st) G M := eg_new_ hc hw hk1 hn1 hd (kk _ _ rfl (if_pos rfl) (fun q z => if_neg z) (fun q z => if_neg z) (fun j => congrFun (if_pos rfl) j) (fun q z => if_neg z))
theorem eg_newaR {l : Launch} {E : eg_E} {y : eg_Mt} {d k n pc : Nat} {Q : Option Value → eg_G → eg_I → Prop} {lo : List (Option Value)} {st : List Value} {G : eg_G} {M : eg_I} {atype : ArrayType} {ty : FieldType} {N : Nat} (hty : newarray.typeOf atype = ty) (hin : ty ∈ eg_atys) (hdv : defaultValue ty = .int 0) (hnr : ty.isReference = false) (hw : Cond.arrayClass ty ∈ eg_gw) (hk1 : 1 ≤ k) (hn1 : N ≤ n) (hN : N ≤ 65536) (hcb : componentBytes ty ≤ 8) (hd : decode y.2.1 pc = .ok (.newarray atype, 2)) (kk : ∀ G' M', G'.1 = G.1 + 1 → G'.2.1 G.1 = some (.inr (ty, N)) → (∀ q, q ≠ G.1 → G'.2.1 q = G.2.1 q) → (∀ q, q ≠ G.1 → G'.2.2 q = G.2.2 q) → (∀ j, M' G.1 j = 0) → (∀ q, q ≠ G.1 → M' q = M q) → eg_J l E y d (k - 1) (n - N) Q (pc + 2) lo (.ref G.1 :: st) G' M') : eg_J l E y d k n Q (pc) lo (.int (nI N) :: st) G M := eg_newa hty hin hdv hnr hw hk1 hn1 hN hcb hd (kk _ _ rfl (if_pos rfl) (fun q z => if_neg z) (fun q z => if_neg z) (fun j => congrFun (if_pos rfl) j) (fun q z => if_neg z))
theorem eg_putRR {l : Launch} {E : eg_E} {y : eg_Mt} {d k n pc : Nat} {Q : Option Value → eg_G → eg_I → Prop} {lo : List (Option Value)} {st : List Value} {G : eg_G} {M : eg_I} {idx ci fi a b : Nat} {fin : Bool} (hfl : eg_FL y.1.cls idx ci fi fin) (hin : fin = true → y.1.name = "<init>") (hty : (eg_fty ci fi).isReference = true) (ha : G.2.1 a = some (.inl ci)) (hd : decode y.2.1 pc = .ok (.putfield idx, 3)) (kk : ∀ G', G'.1 = G.1 → G'.2.1 = G.2.1 → G'.2.2 a fi = some b → (∀ q j, ¬ (q = a ∧ j = fi) → G'.2.2 q j = G.2.2 q j) → eg_J l E y d k n Q (pc + 3) lo (st) G' M) : eg_J l E y d k n Q (pc) lo (.ref b :: .ref a :: st) G M := eg_putR hfl hin hty ha hd (kk _ rfl rfl (if_pos ⟨rfl, rfl⟩) (fun q j z => if_neg z))
theorem eg_mnaR {l : Launch} {E : eg_E} {y : eg_Mt} {d k n pc : Nat} {Q : Option Value → eg_G → eg_I → Prop} {lo : List (Option Value)} {st : List Value} {G : eg_G} {M : eg_I} {N K idx : Nat} (hw : Cond.classLink y.1.cls idx "[[I" ∈ eg_gw) (hN : N ≤ 65536) (hK : K ≤ 65536) (hk1 : 1 + N ≤ k) (hn1 : N + N * K ≤ n) (hd : decode y.2.1 pc = .ok (.multianewarray idx 2, 4)) (kk : ∀ G' M', G'.1 = G.1 + 1 + N → G'.2.1 G.1 = some (.inr (.array .int, N)) → (∀ j, j < N → G'.2.1 (G.1 + 1 + j) = some (.inr (.int, K)) ∧ G'.2.2 G.1 j = some (G.1 + 1 + j)) → (∀ q, q < G.1 → G'.2.1 q = G.2.1 q ∧ G'.2.2 q = G.2.2 q) → (∀ q j, G.1 ≤ q → q ≤ G.1 + N → M' q j = 0) → (∀ q, q < G.1 → M' q = M q) → eg_J l E y d (k - (1 + N)) (n - (N + N * K)) Q (pc + 4) lo (.ref G.1 :: st) G' M') : eg_J l E y d k n Q (pc) lo (.int (nI K) :: .int (nI N) :: st) G M :=
  eg_mna hw hN hK hk1 hn1 hd (kk _ _ rfl (if_pos rfl) (fun j hj => ⟨by show (if G.1 + 1 + j = G.1 then _ else if G.1 < G.1 + 1 + j ∧ G.1 + 1 + j ≤ G.1 + N then _ else _) = _; rw [if_neg (by omega), if_pos (by omega)], by show (if G.1 = G.1 then (if j < N then _ else _) else _) = _; rw [if_pos rfl, if_pos hj]⟩) (fun q hq => ⟨by show (if q = G.1 then _ else if G.1 < q ∧ q ≤ G.1 + N then _ else _) = _; rw [if_neg (by omega), if_neg (by omega)], by funext j; show (if q = G.1 then _ else _) = _; rw [if_neg (by omega)]⟩) (fun q j h1 h2 => if_pos ⟨h1, h2⟩) (fun q hq => by funext j; exact if_neg (by omega)))
def kp_G (G G' : eg_G) (a : Nat) : Prop := (∀ q, q ≤ a → G'.2.1 q = G.2.1 q) ∧ ∀ q, q < a → G'.2.2 q = G.2.2 q
def kp_M (M M' : eg_I) (a : Nat) : Prop := ∀ q, q < a → M' q = M q
set_option maxHeartbeats 2000000 in
theorem sp_X2_init {l : Launch} {E : eg_E} {d kb nb : Nat} {Q : Option Value → eg_G → eg_I → Prop} {G : eg_G} {M : eg_I} {v : Nat} (hd : 1 ≤ d) (hk : 19 ≤ kb) (hn : 4626 ≤ nb) (hv : G.2.1 v = some (.inl 2)) (hsz : G.1 = v + 1) (hQ : ∀ G' M', G'.1 = v + 20 → sh_V G' v → kp_G G G' v → kp_M M M' v → Q none G' M') : eg_J l E mX2_init d kb nb Q 0 [some (.ref v)] [] G M := by
  refine eg_aload_n dX2_init_0 rfl rfl ?_
  refine eg_objInit gl_RX2_3 (Nat.le_of_ble_eq_true rfl) (by omega) dX2_init_1 ?_
  refine eg_aload_n dX2_init_4 rfl rfl ?_
  refine eg_bipush dX2_init_5 (v := nI 18) (by decide) ?_
  refine eg_sipush dX2_init_7 (v := nI 256) (by decide) ?_
  refine eg_mnaR gc_RX2_9 (by decide) (by decide) (by omega) (by omega) dX2_init_10 (fun G1 M1 s1 s2 s3 s4 s5 s6 => ?_)
  rw [hsz] at s1 s2 s3 s4 s5 s6
  have hv1 : G1.2.1 v = some (.inl 2) := by rw [(s4 v (by omega)).1]; exact hv
  refine eg_putRR gp_RX2_11 (fun _ => rfl) rfl hv1 dX2_init_14 (fun G2 r1 r2 r3 r4 => ?_)
  have hv2 : G2.2.1 v = some (.inl 2) := by rw [r2]; exact hv1
  refine eg_aload_n dX2_init_17 rfl rfl ?_
  refine eg_iconst dX2_init_18 (v := nI 1) (by decide) ?_
  refine eg_putI gp_RX2_16 (fun q => by cases q) rfl rfl rfl (by assumption) dX2_init_19 ?_
  refine eg_aload_n dX2_init_22 rfl rfl ?_
  refine eg_iconst dX2_init_23 (v := nI 1) (by decide) ?_
  refine eg_putI gp_RX2_20 (fun q => by cases q) rfl rfl rfl (by assumption) dX2_init_24 ?_
  refine eg_aload_n dX2_init_27 rfl rfl ?_
  refine eg_iconst dX2_init_28 (v := nI 1) (by decide) ?_
  refine eg_putI gp_RX2_23 (fun q => by cases q) rfl rfl rfl (by assumption) dX2_init_29 ?_
  refine eg_aload_n dX2_init_32 rfl rfl ?_
  refine eg_iconst dX2_init_33 (v := nI 2) (by decide) ?_
  refine eg_putI gp_RX2_26 (fun q => by cases q) rfl rfl rfl (by assumption) dX2_init_34 ?_
  exact eg_vret rfl dX2_init_37 (hQ G2 _ (by rw [r1, s1]) ⟨hv2, by rw [r3, hsz], by rw [r2]; exact s2, fun q hq => ⟨by rw [r4 _ _ (by omega)]; exact (s3 q hq).2, by rw [r2]; exact (s3 q hq).1⟩⟩ ⟨fun q hq => by rw [r2, (s4 q (by omega)).1], fun q hq => by funext j; rw [r4 q j (by omega), (s4 q (by omega)).2]⟩ (fun q hq => by rw [eg_set_ne (by omega), eg_set_ne (by omega), eg_set_ne (by omega), eg_set_ne (by omega), s6 q (by omega)]))
set_option maxHeartbeats 2000000 in
theorem sp_X1_init {l : Launch} {E : eg_E} {d kb nb : Nat} {Q : Option Value → eg_G → eg_I → Prop} {G : eg_G} {M : eg_I} {r : Nat} (hd : 1 ≤ d) (hk : 3 ≤ kb) (hn : 36 ≤ nb) (hv : G.2.1 r = some (.inl 1)) (hsz : G.1 = r + 1) (hQ : ∀ G' M', G'.1 = r + 4 → sh_R G' r → kp_G G G' r → (∀ q, q ≤ r → M' q = M q) → Q none G' M') : eg_J l E mX1_init d kb nb Q 0 [some (.ref r)] [] G M := by
  refine eg_aload_n dX1_init_0 rfl rfl ?_
  refine eg_objInit gl_RX1_3 (Nat.le_of_ble_eq_true rfl) (by omega) dX1_init_1 ?_
  refine eg_aload_n dX1_init_4 rfl rfl ?_
  refine eg_bipush dX1_init_5 (v := nI 12) (by decide) ?_
  refine eg_newaR (ty := .int) (N := 12) rfl (by decide) rfl rfl ga_int (by omega) (by omega) (by decide) (by decide) dX1_init_7 (fun A0 B0 s1_0 s2_0 s3_0 s4_0 s5_0 s6_0 => ?_)
  have z_0 : G.1 = r + 1 + 0 := by omega
  rw [z_0] at s1_0 s2_0 s3_0 s4_0 s5_0 s6_0
  have hv_0 : A0.2.1 r = some (.inl 1) := by rw [s3_0 r (by omega)]; exact hv
  rw [z_0]
  refine eg_putRR gp_RX1_9 (fun _ => rfl) rfl hv_0 dX1_init_9 (fun C0 t1_0 t2_0 t3_0 t4_0 => ?_)
  have hw_0 : C0.2.1 r = some (.inl 1) := by rw [t2_0]; exact hv_0
  refine eg_aload_n dX1_init_12 rfl rfl ?_
  refine eg_bipush dX1_init_13 (v := nI 12) (by decide) ?_
  refine eg_newaR (ty := .int) (N := 12) rfl (by decide) rfl rfl ga_int (by omega) (by omega) (by decide) (by decide) dX1_init_15 (fun A1 B1 s1_1 s2_1 s3_1 s4_1 s5_1 s6_1 => ?_)
  have z_1 : C0.1 = r + 1 + 1 := by omega
  rw [z_1] at s1_1 s2_1 s3_1 s4_1 s5_1 s6_1
  have hv_1 : A1.2.1 r = some (.inl 1) := by rw [s3_1 r (by omega)]; exact hw_0
  rw [z_1]
  refine eg_putRR gp_RX1_15 (fun _ => rfl) rfl hv_1 dX1_init_17 (fun C1 t1_1 t2_1 t3_1 t4_1 => ?_)
  have hw_1 : C1.2.1 r = some (.inl 1) := by rw [t2_1]; exact hv_1
  refine eg_aload_n dX1_init_20 rfl rfl ?_
  refine eg_bipush dX1_init_21 (v := nI 12) (by decide) ?_
  refine eg_newaR (ty := .int) (N := 12) rfl (by decide) rfl rfl ga_int (by omega) (by omega) (by decide) (by decide) dX1_init_23 (fun A2 B2 s1_2 s2_2 s3_2 s4_2 s5_2 s6_2 => ?_)
  have z_2 : C1.1 = r + 1 + 2 := by omega
  rw [z_2] at s1_2 s2_2 s3_2 s4_2 s5_2 s6_2
  have hv_2 : A2.2.1 r = some (.inl 1) := by rw [s3_2 r (by omega)]; exact hw_1
  rw [z_2]
  refine eg_putRR gp_RX1_18 (fun _ => rfl) rfl hv_2 dX1_init_25 (fun C2 t1_2 t2_2 t3_2 t4_2 => ?_)
  have hw_2 : C2.2.1 r = some (.inl 1) := by rw [t2_2]; exact hv_2
  refine eg_vret rfl dX1_init_28 (hQ C2 B2 (by rw [t1_2, s1_2]) ⟨hw_2, ?_, ?_, t3_2, ?_, ?_, ?_⟩ ⟨fun q hq => ?_, fun q hq => ?_⟩ (fun q hq => ?_))
  · rw [t4_2 _ _ (by omega), s4_2 _ (by omega), t4_1 _ _ (by omega), s4_1 _ (by omega), t3_0]
  · rw [t4_2 _ _ (by omega), s4_2 _ (by omega), t3_1]
  · rw [t2_2, s3_2 _ (by omega), t2_1, s3_1 _ (by omega), t2_0]; exact s2_0
  · rw [t2_2, s3_2 _ (by omega), t2_1]; exact s2_1
  · rw [t2_2]; exact s2_2
  · rw [t2_2, s3_2 _ (by omega), t2_1, s3_1 _ (by omega), t2_0, s3_0 _ (by omega)]
  · funext j
    rw [t4_2 _ _ (by omega), s4_2 _ (by omega), t4_1 _ _ (by omega), s4_1 _ (by omega), t4_0 _ _ (by omega), s4_0 _ (by omega)]
  · rw [s6_2 _ (by omega), s6_1 _ (by omega), s6_0 _ (by omega)]
theorem sh_V.kp {G G' : eg_G} {v : Nat} (h : sh_V G v) (e : ∀ q, v ≤ q → q < v + 20 → G'.2.1 q = G.2.1 q ∧ G'.2.2 q = G.2.2 q) : sh_V G' v := by
  obtain ⟨h1, h2, h3, h4⟩ := h
  exact ⟨by rw [(e v (by omega) (by omega)).1]; exact h1, by rw [(e v (by omega) (by omega)).2]; exact h2, by rw [(e (v + 1) (by omega) (by omega)).1]; exact h3, fun i hi => ⟨by rw [(e (v + 1) (by omega) (by omega)).2]; exact (h4 i hi).1, by rw [(e (v + 2 + i) (by omega) (by omega)).1]; exact (h4 i hi).2⟩⟩
theorem sh_R.kp {G G' : eg_G} {r : Nat} (h : sh_R G r) (e : ∀ q, r ≤ q → q < r + 4 → G'.2.1 q = G.2.1 q ∧ G'.2.2 q = G.2.2 q) : sh_R G' r := by
  obtain ⟨h1, h2, h3, h4, h5, h6, h7⟩ := h
  exact ⟨by rw [(e r (by omega) (by omega)).1]; exact h1, by rw [(e r (by omega) (by omega)).2]; exact h2, by rw [(e r (by omega) (by omega)).2]; exact h3, by rw [(e r (by omega) (by omega)).2]; exact h4, by rw [(e (r + 1) (by omega) (by omega)).1]; exact h5, by rw [(e (r + 2) (by omega) (by omega)).1]; exact h6, by rw [(e (r + 3) (by omega) (by omega)).1]; exact h7⟩
theorem sh_H.kp {G G' : eg_G} {h : Nat} (c : sh_H G h) (e : ∀ q, h ≤ q → q < h + 31 → G'.2.1 q = G.2.1 q ∧ G'.2.2 q = G.2.2 q) : sh_H G' h := by
  obtain ⟨h0, h1, h2, h3, h4, h5, h6, h7, h8, h9, h10⟩ := c
  exact ⟨by rw [(e h (by omega) (by omega)).1]; exact h0, by rw [(e h (by omega) (by omega)).2]; exact h1, by rw [(e (h + 1) (by omega) (by omega)).1]; exact h2, by rw [(e h (by omega) (by omega)).2]; exact h3, by rw [(e (h + 2) (by omega) (by omega)).1]; exact h4, by rw [(e h (by omega) (by omega)).2]; exact h5, h6.kp (fun q z1 z2 => e q (by omega) (by omega)), by rw [(e h (by omega) (by omega)).2]; exact h7, h8.kp (fun q z1 z2 => e q (by omega) (by omega)), by rw [(e h (by omega) (by omega)).2]; exact h9, h10.kp (fun q z1 z2 => e q (by omega) (by omega))⟩
/-- cells below a stay, but the references of the object b -/
def kq (G G' : eg_G) (b a : Nat) : Prop := ∀ q, q < a → G'.2.1 q = G.2.1 q ∧ (q ≠ b → G'.2.2 q = G.2.2 q)
theorem kq.tr {G G' G2 : eg_G} {b a c : Nat} (h : kq G G' b a) (h2 : kq G' G2 b c) (hac : a ≤ c) : kq G G2 b a := fun q hq => ⟨((h2 q (by omega)).1).trans (h q hq).1, fun z => ((h2 q (by omega)).2 z).trans ((h q hq).2 z)⟩
theorem kq.rf {G : eg_G} {b a : Nat} : kq G G b a := fun _ _ => ⟨rfl, fun _ => rfl⟩

set_option maxHeartbeats 2000000 in
theorem sp_X0_init {l : Launch} {E : eg_E} {d kb nb : Nat} {Q : Option Value → eg_G → eg_I → Prop} {G : eg_G} {M : eg_I} {h : Nat} (hd : 2 ≤ d) (hk : 30 ≤ kb) (hn : 4983 ≤ nb) (hv : G.2.1 h = some (.inl 0)) (hsz : G.1 = h + 1) (hQ : ∀ G' M', G'.1 = h + 31 → sh_H G' h → kp_G G G' h → kp_M M M' h → M' h 11 = -3 → (∀ j, j ≠ 11 → M' h j = M h j) → Q none G' M') : eg_J l E mX0_init d kb nb Q 0 [some (.ref h)] [] G M := by
  refine eg_room (d' := d) (k' := 30) (n' := 4983) (Nat.le_refl _) hk hn ?_
  clear hk hn
  refine eg_aload_n dX0_init_0 rfl rfl ?_
  refine eg_objInit gl_RX0_3 (Nat.le_of_ble_eq_true rfl) (by omega) dX0_init_1 ?_
  refine eg_aload_n dX0_init_4 rfl rfl ?_
  refine eg_bipush dX0_init_5 (v := nI 13) (by decide) ?_
  refine eg_newaR (ty := .int) (N := 13) rfl (by decide) rfl rfl ga_int (by omega) (by omega) (by decide) (by decide) dX0_init_7 (fun A0 B0 s1 s2 s3 s4 s5 s6 => ?_)
  rw [hsz] at s1 s2 s3 s4 s5 s6 ⊢
  have kA0 : kq G A0 h (h + 1) := fun q hq => ⟨s3 q (by omega), fun _ => s4 q (by omega)⟩
  have rA0 : ∀ j, A0.2.2 h j = G.2.2 h j := fun j => by rw [s4 _ (by omega)]
  have shA0 : A0.2.1 (h + 1) = some (.inr (.int, 13)) := s2
  have mz0 : ∀ j, B0 (h + 1) j = 0 := s5
  have mk0 : ∀ q, q < h + 1 → B0 q = M q := fun q hq => s6 q (by omega)
  have zA0 : A0.1 = h + 2 := s1
  clear s1 s2 s3 s4 s5 s6
  have hbA0 : A0.2.1 h = some (.inl 0) := by rw [(kA0 h (by omega)).1]; exact hv
  refine eg_putRR gp_RX0_9 (fun _ => rfl) rfl hbA0 dX0_init_9 (fun C0 t1 t2 t3 t4 => ?_)
  have hb0 : C0.2.1 h = some (.inl 0) := by rw [t2]; exact hbA0
  have z0 : C0.1 = h + 2 := by rw [t1, zA0]
  have k0_ : kq G C0 h (h + 1) := fun q hq => ⟨by rw [t2, (kA0 q hq).1], fun zz => by rw [← (kA0 q hq).2 zz]; funext j; exact t4 q j (fun w => zz w.1)⟩
  have f0_ : C0.2.2 h 0 = some (h + 1) := t3
  have r0_ : ∀ j, j ≠ 0 → C0.2.2 h j = G.2.2 h j := fun j hj => by rw [t4 _ _ (fun w => hj w.2), rA0]
  have sh0_ : C0.2.1 (h + 1) = some (.inr (.int, 13)) := by rw [t2]; exact shA0
  clear t1 t2 t3 t4 zA0 kA0 rA0 hbA0 shA0 hsz hv
  refine eg_aload_n dX0_init_12 rfl rfl ?_
  refine eg_sipush dX0_init_13 (v := nI 256) (by decide) ?_
  refine eg_newaR (ty := .int) (N := 256) rfl (by decide) rfl rfl ga_int (by omega) (by omega) (by decide) (by decide) dX0_init_16 (fun A1 B1 s1 s2 s3 s4 s5 s6 => ?_)
  rw [z0] at s1 s2 s3 s4 s5 s6 ⊢
  have kA1 : kq C0 A1 h (h + 2) := fun q hq => ⟨s3 q (by omega), fun _ => s4 q (by omega)⟩
  have rA1 : ∀ j, A1.2.2 h j = C0.2.2 h j := fun j => by rw [s4 _ (by omega)]
  have shA1 : A1.2.1 (h + 2) = some (.inr (.int, 256)) := s2
  have mz1 : ∀ j, B1 (h + 2) j = 0 := s5
  have mk1 : ∀ q, q < h + 2 → B1 q = B0 q := fun q hq => s6 q (by omega)
  have zA1 : A1.1 = h + 3 := s1
  clear s1 s2 s3 s4 s5 s6
  have hbA1 : A1.2.1 h = some (.inl 0) := by rw [(kA1 h (by omega)).1]; exact hb0
  refine eg_putRR gp_RX0_15 (fun _ => rfl) rfl hbA1 dX0_init_18 (fun C1 t1 t2 t3 t4 => ?_)
  have hb1 : C1.2.1 h = some (.inl 0) := by rw [t2]; exact hbA1
  have z1 : C1.1 = h + 3 := by rw [t1, zA1]
  have k1_ : kq C0 C1 h (h + 2) := fun q hq => ⟨by rw [t2, (kA1 q hq).1], fun zz => by rw [← (kA1 q hq).2 zz]; funext j; exact t4 q j (fun w => zz w.1)⟩
  have f1_ : C1.2.2 h 1 = some (h + 2) := t3
  have r1_ : ∀ j, j ≠ 1 → C1.2.2 h j = C0.2.2 h j := fun j hj => by rw [t4 _ _ (fun w => hj w.2), rA1]
  have sh1_ : C1.2.1 (h + 2) = some (.inr (.int, 256)) := by rw [t2]; exact shA1
  clear t1 t2 t3 t4 zA1 kA1 rA1 hbA1 shA1 z0 hb0
  refine eg_aload_n dX0_init_21 rfl rfl ?_
  refine eg_newR (ci := 2) rfl gc_RX0_18 (by omega) (by omega) dX0_init_22 (fun D2 N2 s1 s2 s3 s4 s5 s6 => ?_)
  rw [z1] at s1 s2 s3 s4 s5 s6 ⊢
  refine eg_dup dX0_init_25 rfl ?_
  refine eg_callI0 19 4626 gk_X2_init gi_X2_init rfl gl_RX0_20 rfl (Nat.le_of_ble_eq_true rfl) (Nat.le_of_ble_eq_true rfl) (by omega) (by omega) (by omega) dX0_init_26 ?_
  refine sp_X2_init (by omega) (by omega) (by omega) s2 s1 (fun A2 B2 zA2 shA2 u1 u2 => ?_)
  have kA2 : kq C1 A2 h (h + 3) := fun q hq => ⟨by rw [u1.1 q (by omega), s3 q (by omega)], fun _ => by rw [u1.2 q (by omega), s4 q (by omega)]⟩
  have rA2 : ∀ j, A2.2.2 h j = C1.2.2 h j := fun j => by rw [u1.2 _ (by omega), s4 _ (by omega)]
  have mk2 : ∀ q, q < h + 3 → B2 q = B1 q := fun q hq => by rw [u2 q (by omega), s6 q (by omega)]
  clear s1 s2 s3 s4 s5 s6 u1 u2
  have hbA2 : A2.2.1 h = some (.inl 0) := by rw [(kA2 h (by omega)).1]; exact hb1
  refine eg_putRR gp_RX0_21 (fun _ => rfl) rfl hbA2 dX0_init_29 (fun C2 t1 t2 t3 t4 => ?_)
  have hb2 : C2.2.1 h = some (.inl 0) := by rw [t2]; exact hbA2
  have z2 : C2.1 = h + 23 := by rw [t1, zA2]
  have k2_ : kq C1 C2 h (h + 3) := fun q hq => ⟨by rw [t2, (kA2 q hq).1], fun zz => by rw [← (kA2 q hq).2 zz]; funext j; exact t4 q j (fun w => zz w.1)⟩
  have f2_ : C2.2.2 h 2 = some (h + 3) := t3
  have r2_ : ∀ j, j ≠ 2 → C2.2.2 h j = C1.2.2 h j := fun j hj => by rw [t4 _ _ (fun w => hj w.2), rA2]
  have sh2_ : sh_V C2 (h + 3) := shA2.kp (fun q z1 z2 => ⟨by rw [t2], by funext j; exact t4 q j (by omega)⟩)
  clear t1 t2 t3 t4 zA2 kA2 rA2 hbA2 shA2 z1 hb1
  refine eg_aload_n dX0_init_32 rfl rfl ?_
  refine eg_newR (ci := 1) rfl gc_RX0_25 (by omega) (by omega) dX0_init_33 (fun D3 N3 s1 s2 s3 s4 s5 s6 => ?_)
  rw [z2] at s1 s2 s3 s4 s5 s6 ⊢
  refine eg_dup dX0_init_36 rfl ?_
  refine eg_callI0 3 36 gk_X1_init gi_X1_init rfl gl_RX0_27 rfl (Nat.le_of_ble_eq_true rfl) (Nat.le_of_ble_eq_true rfl) (by omega) (by omega) (by omega) dX0_init_37 ?_
  refine sp_X1_init (by omega) (by omega) (by omega) s2 s1 (fun A3 B3 zA3 shA3 u1 u2 => ?_)
  have kA3 : kq C2 A3 h (h + 23) := fun q hq => ⟨by rw [u1.1 q (by omega), s3 q (by omega)], fun _ => by rw [u1.2 q (by omega), s4 q (by omega)]⟩
  have rA3 : ∀ j, A3.2.2 h j = C2.2.2 h j := fun j => by rw [u1.2 _ (by omega), s4 _ (by omega)]
  have mk3 : ∀ q, q < h + 23 → B3 q = B2 q := fun q hq => by rw [u2 q (by omega), s6 q (by omega)]
  have mz3 : ∀ j, B3 (h + 23) j = 0 := fun j => by rw [u2 _ (by omega)]; exact s5 j
  clear s1 s2 s3 s4 s5 s6 u1 u2
  have hbA3 : A3.2.1 h = some (.inl 0) := by rw [(kA3 h (by omega)).1]; exact hb2
  refine eg_putRR gp_RX0_28 (fun _ => rfl) rfl hbA3 dX0_init_40 (fun C3 t1 t2 t3 t4 => ?_)
  have hb3 : C3.2.1 h = some (.inl 0) := by rw [t2]; exact hbA3
  have z3 : C3.1 = h + 27 := by rw [t1, zA3]
  have k3_ : kq C2 C3 h (h + 23) := fun q hq => ⟨by rw [t2, (kA3 q hq).1], fun zz => by rw [← (kA3 q hq).2 zz]; funext j; exact t4 q j (fun w => zz w.1)⟩
  have f3_ : C3.2.2 h 3 = some (h + 23) := t3
  have r3_ : ∀ j, j ≠ 3 → C3.2.2 h j = C2.2.2 h j := fun j hj => by rw [t4 _ _ (fun w => hj w.2), rA3]
  have sh3_ : sh_R C3 (h + 23) := shA3.kp (fun q z1 z2 => ⟨by rw [t2], by funext j; exact t4 q j (by omega)⟩)
  clear t1 t2 t3 t4 zA3 kA3 rA3 hbA3 shA3 z2 hb2
  refine eg_aload_n dX0_init_43 rfl rfl ?_
  refine eg_newR (ci := 1) rfl gc_RX0_25 (by omega) (by omega) dX0_init_44 (fun D4 N4 s1 s2 s3 s4 s5 s6 => ?_)
  rw [z3] at s1 s2 s3 s4 s5 s6 ⊢
  refine eg_dup dX0_init_47 rfl ?_
  refine eg_callI0 3 36 gk_X1_init gi_X1_init rfl gl_RX0_27 rfl (Nat.le_of_ble_eq_true rfl) (Nat.le_of_ble_eq_true rfl) (by omega) (by omega) (by omega) dX0_init_48 ?_
  refine sp_X1_init (by omega) (by omega) (by omega) s2 s1 (fun A4 B4 zA4 shA4 u1 u2 => ?_)
  have kA4 : kq C3 A4 h (h + 27) := fun q hq => ⟨by rw [u1.1 q (by omega), s3 q (by omega)], fun _ => by rw [u1.2 q (by omega), s4 q (by omega)]⟩
  have rA4 : ∀ j, A4.2.2 h j = C3.2.2 h j := fun j => by rw [u1.2 _ (by omega), s4 _ (by omega)]
  have mk4 : ∀ q, q < h + 27 → B4 q = B3 q := fun q hq => by rw [u2 q (by omega), s6 q (by omega)]
  have mz4 : ∀ j, B4 (h + 27) j = 0 := fun j => by rw [u2 _ (by omega)]; exact s5 j
  clear s1 s2 s3 s4 s5 s6 u1 u2
  have hbA4 : A4.2.1 h = some (.inl 0) := by rw [(kA4 h (by omega)).1]; exact hb3
  refine eg_putRR gp_RX0_32 (fun _ => rfl) rfl hbA4 dX0_init_51 (fun C4 t1 t2 t3 t4 => ?_)
  have hb4 : C4.2.1 h = some (.inl 0) := by rw [t2]; exact hbA4
  have z4 : C4.1 = h + 31 := by rw [t1, zA4]
  have k4_ : kq C3 C4 h (h + 27) := fun q hq => ⟨by rw [t2, (kA4 q hq).1], fun zz => by rw [← (kA4 q hq).2 zz]; funext j; exact t4 q j (fun w => zz w.1)⟩
  have f4_ : C4.2.2 h 4 = some (h + 27) := t3
  have r4_ : ∀ j, j ≠ 4 → C4.2.2 h j = C3.2.2 h j := fun j hj => by rw [t4 _ _ (fun w => hj w.2), rA4]
  have sh4_ : sh_R C4 (h + 27) := shA4.kp (fun q z1 z2 => ⟨by rw [t2], by funext j; exact t4 q j (by omega)⟩)
  clear t1 t2 t3 t4 zA4 kA4 rA4 hbA4 shA4 z3 hb3
  have q4_ : kq C4 C4 h (h + 31) := kq.rf
  have q3_ : kq C3 C4 h (h + 27) := k4_.tr q4_ (by omega)
  have q2_ : kq C2 C4 h (h + 23) := k3_.tr q3_ (by omega)
  have q1_ : kq C1 C4 h (h + 3) := k2_.tr q2_ (by omega)
  have q0_ : kq C0 C4 h (h + 2) := k1_.tr q1_ (by omega)
  have e0_ : C4.2.1 (h + 1) = some (.inr (.int, 13)) := by rw [(q0_ _ (by omega)).1]; exact sh0_
  have g0_ : C4.2.2 h 0 = some (h + 1) := by rw [r4_ 0 (by decide), r3_ 0 (by decide), r2_ 0 (by decide), r1_ 0 (by decide)]; exact f0_
  have e1_ : C4.2.1 (h + 2) = some (.inr (.int, 256)) := by rw [(q1_ _ (by omega)).1]; exact sh1_
  have g1_ : C4.2.2 h 1 = some (h + 2) := by rw [r4_ 1 (by decide), r3_ 1 (by decide), r2_ 1 (by decide)]; exact f1_
  have e2_ : sh_V C4 (h + 3) := sh2_.kp (fun q z1 z2 => ⟨(q2_ q (by omega)).1, (q2_ q (by omega)).2 (by omega)⟩)
  have g2_ : C4.2.2 h 2 = some (h + 3) := by rw [r4_ 2 (by decide), r3_ 2 (by decide)]; exact f2_
  have e3_ : sh_R C4 (h + 23) := sh3_.kp (fun q z1 z2 => ⟨(q3_ q (by omega)).1, (q3_ q (by omega)).2 (by omega)⟩)
  have g3_ : C4.2.2 h 3 = some (h + 23) := by rw [r4_ 3 (by decide)]; exact f3_
  have e4_ : sh_R C4 (h + 27) := sh4_.kp (fun q z1 z2 => ⟨(q4_ q (by omega)).1, (q4_ q (by omega)).2 (by omega)⟩)
  have g4_ : C4.2.2 h 4 = some (h + 27) := by exact f4_
  have kk_ : kq G C4 h (h + 1) := k0_.tr q0_ (by omega)
  refine eg_aload_n dX0_init_54 rfl rfl ?_
  refine eg_bipush dX0_init_55 (v := -3) (by decide) ?_
  refine eg_putI gp_RX0_35 (fun q => by cases q) rfl rfl rfl (by assumption) dX0_init_57 ?_
  exact eg_vret rfl dX0_init_60 (hQ C4 _ z4 ⟨hb4, g0_, e0_, g1_, e1_, g2_, e2_, g3_, e3_, g4_, e4_⟩ ⟨fun q hq => (kk_ q (by omega)).1, fun q hq => (kk_ q (by omega)).2 (by omega)⟩ (fun q hq => by rw [eg_set_ne (by omega), mk4 q (by omega), mk3 q (by omega), mk2 q (by omega), mk1 q (by omega), mk0 q (by omega)]) eg_set_eq (fun j hj => by rw [eg_set_j hj, mk4 _ (by omega), mk3 _ (by omega), mk2 _ (by omega), mk1 _ (by omega), mk0 _ (by omega)]))
set_option maxHeartbeats 2000000 in
theorem lp_X3_init {l : Launch} {E : eg_E} {d kb nb : Nat} {Q : Option Value → eg_G → eg_I → Prop} {G : eg_G} {b : Nat} (hs : sh_C G b) : ∀ (t s : Nat) (M : eg_I), s + t = 13 → eg_J l E mX3_init d kb nb Q 94 [some (.ref b), some (.int (nI 13))] [] G (eg_fl M (b + 1) s 13 (fun _ => nI 1)) → eg_J l E mX3_init d kb nb Q 75 [some (.ref b), some (.int (nI s))] [] G M := by
  intro t
  induction t with
  | zero =>
    intro s M hst hQ
    obtain ⟨k0, k1, k2, -⟩ := id hs
    refine eg_iload_n dX3_init_75 rfl rfl ?_
    refine eg_bipush dX3_init_76 (v := nI 13) (by decide) ?_
    refine eg_icmp_ge 94 dX3_init_78 (by decide) (fun c78 => ?_) (fun c78 => absurd (nI_le (a := 13) (by omega) (by omega)) c78)
    have e : s = 13 := by omega
    subst e
    rw [eg_fl_0 (by omega)] at hQ
    exact hQ
  | succ t ih =>
    intro s M hst hQ
    obtain ⟨k0, k1, k2, -⟩ := id hs
    refine eg_iload_n dX3_init_75 rfl rfl ?_
    refine eg_bipush dX3_init_76 (v := nI 13) (by decide) ?_
    refine eg_icmp_ge 94 dX3_init_78 (by decide) (fun c78 => absurd c78 (nI_ge (b := 13) (by omega) (by omega))) (fun c78 => ?_)
    refine eg_aload_n dX3_init_81 rfl rfl ?_
    refine eg_getR gf_RX3_9 rfl (by assumption) (by assumption) dX3_init_82 ?_
    refine eg_iload_n dX3_init_85 rfl rfl ?_
    refine eg_iconst dX3_init_86 (v := nI 1) (by decide) ?_
    refine eg_iastN (by assumption) (by omega) (by decide) dX3_init_87 ?_
    refine eg_iinc dX3_init_88 (by decide) rfl (eg_inc s) rfl ?_
    refine eg_goto 75 dX3_init_91 (by decide) ?_
    exact ih (s + 1) _ (by omega) (eg_fl_q (P := fun z => eg_J l E mX3_init d kb nb Q 94 [some (.ref b), some (.int (nI 13))] [] G z) (f := fun _ => nI 1) (by omega) (fun j g1 _ => rfl) hQ)
/-- the state of a new object -/
def st_0 : st_T := ((4, 1, 0), (fun _ => 0), (fun _ => 1), (fun _ => 0), (0, (fun _ => 0), (fun _ => 0), (fun _ => 0), 0), (false, 0, (fun _ => 0), (fun _ => 0), (fun _ => 0), 0), 0, 0, 0, -3)
theorem st_0_ok : st_ok st_0 := by
  refine ⟨by decide, by decide, by decide, by decide, by decide, fun i h => absurd h (by show ¬ i < 0; omega), fun o _ => (by show 1 ≤ 9; omega), ⟨by decide, fun j h => absurd h (by show ¬ j < 0; omega), by decide⟩, fun h => absurd h (by decide)⟩
set_option maxHeartbeats 2000000 in
theorem sp_X3_init {l : Launch} {E : eg_E} {d kb nb : Nat} {Q : Option Value → eg_G → eg_I → Prop} {G : eg_G} {M : eg_I} {b : Nat} (hd : 3 ≤ d) (hk : 62 ≤ kb) (hn : 9996 ≤ nb) (hv : G.2.1 b = some (.inl 3)) (hsz : G.1 = b + 1) (hm7 : M b 7 = 0) (hQ : ∀ G' M', G'.1 = b + 63 → sh_C G' b → kp_G G G' b → ci_I M' b st_0 → kp_M M M' b → Q none G' M') : eg_J l E mX3_init d kb nb Q 0 [some (.ref b), none] [] G M := by
  refine eg_room (d' := d) (k' := 62) (n' := 9996) (Nat.le_refl _) hk hn ?_
  clear hk hn
  refine eg_aload_n dX3_init_0 rfl rfl ?_
  refine eg_objInit gl_RX3_3 (Nat.le_of_ble_eq_true rfl) (by omega) dX3_init_1 ?_
  refine eg_aload_n dX3_init_4 rfl rfl ?_
  refine eg_bipush dX3_init_5 (v := nI 13) (by decide) ?_
  refine eg_newaR (ty := .int) (N := 13) rfl (by decide) rfl rfl ga_int (by omega) (by omega) (by decide) (by decide) dX3_init_7 (fun A0 B0 s1 s2 s3 s4 s5 s6 => ?_)
  rw [hsz] at s1 s2 s3 s4 s5 s6 ⊢
  have kA0 : kq G A0 b (b + 1) := fun q hq => ⟨s3 q (by omega), fun _ => s4 q (by omega)⟩
  have rA0 : ∀ j, A0.2.2 b j = G.2.2 b j := fun j => by rw [s4 _ (by omega)]
  have shA0 : A0.2.1 (b + 1) = some (.inr (.int, 13)) := s2
  have mz0 : ∀ j, B0 (b + 1) j = 0 := s5
  have mk0 : ∀ q, q < b + 1 → B0 q = M q := fun q hq => s6 q (by omega)
  have zA0 : A0.1 = b + 2 := s1
  clear s1 s2 s3 s4 s5 s6
  have hbA0 : A0.2.1 b = some (.inl 3) := by rw [(kA0 b (by omega)).1]; exact hv
  refine eg_putRR gp_RX3_9 (fun _ => rfl) rfl hbA0 dX3_init_9 (fun C0 t1 t2 t3 t4 => ?_)
  have hb0 : C0.2.1 b = some (.inl 3) := by rw [t2]; exact hbA0
  have z0 : C0.1 = b + 2 := by rw [t1, zA0]
  have k0_ : kq G C0 b (b + 1) := fun q hq => ⟨by rw [t2, (kA0 q hq).1], fun zz => by rw [← (kA0 q hq).2 zz]; funext j; exact t4 q j (fun w => zz w.1)⟩
  have f0_ : C0.2.2 b 0 = some (b + 1) := t3
  have r0_ : ∀ j, j ≠ 0 → C0.2.2 b j = G.2.2 b j := fun j hj => by rw [t4 _ _ (fun w => hj w.2), rA0]
  have sh0_ : C0.2.1 (b + 1) = some (.inr (.int, 13)) := by rw [t2]; exact shA0
  clear t1 t2 t3 t4 zA0 kA0 rA0 hbA0 shA0 hsz hv
  refine eg_aload_n dX3_init_12 rfl rfl ?_
  refine eg_sipush dX3_init_13 (v := nI 256) (by decide) ?_
  refine eg_newaR (ty := .int) (N := 256) rfl (by decide) rfl rfl ga_int (by omega) (by omega) (by decide) (by decide) dX3_init_16 (fun A1 B1 s1 s2 s3 s4 s5 s6 => ?_)
  rw [z0] at s1 s2 s3 s4 s5 s6 ⊢
  have kA1 : kq C0 A1 b (b + 2) := fun q hq => ⟨s3 q (by omega), fun _ => s4 q (by omega)⟩
  have rA1 : ∀ j, A1.2.2 b j = C0.2.2 b j := fun j => by rw [s4 _ (by omega)]
  have shA1 : A1.2.1 (b + 2) = some (.inr (.int, 256)) := s2
  have mz1 : ∀ j, B1 (b + 2) j = 0 := s5
  have mk1 : ∀ q, q < b + 2 → B1 q = B0 q := fun q hq => s6 q (by omega)
  have zA1 : A1.1 = b + 3 := s1
  clear s1 s2 s3 s4 s5 s6
  have hbA1 : A1.2.1 b = some (.inl 3) := by rw [(kA1 b (by omega)).1]; exact hb0
  refine eg_putRR gp_RX3_13 (fun _ => rfl) rfl hbA1 dX3_init_18 (fun C1 t1 t2 t3 t4 => ?_)
  have hb1 : C1.2.1 b = some (.inl 3) := by rw [t2]; exact hbA1
  have z1 : C1.1 = b + 3 := by rw [t1, zA1]
  have k1_ : kq C0 C1 b (b + 2) := fun q hq => ⟨by rw [t2, (kA1 q hq).1], fun zz => by rw [← (kA1 q hq).2 zz]; funext j; exact t4 q j (fun w => zz w.1)⟩
  have f1_ : C1.2.2 b 1 = some (b + 2) := t3
  have r1_ : ∀ j, j ≠ 1 → C1.2.2 b j = C0.2.2 b j := fun j hj => by rw [t4 _ _ (fun w => hj w.2), rA1]
  have sh1_ : C1.2.1 (b + 2) = some (.inr (.int, 256)) := by rw [t2]; exact shA1
  clear t1 t2 t3 t4 zA1 kA1 rA1 hbA1 shA1 z0 hb0
  refine eg_aload_n dX3_init_21 rfl rfl ?_
  refine eg_newR (ci := 2) rfl gc_RX3_16 (by omega) (by omega) dX3_init_22 (fun D2 N2 s1 s2 s3 s4 s5 s6 => ?_)
  rw [z1] at s1 s2 s3 s4 s5 s6 ⊢
  refine eg_dup dX3_init_25 rfl ?_
  refine eg_callI0 19 4626 gk_X2_init gi_X2_init rfl gl_RX3_18 rfl (Nat.le_of_ble_eq_true rfl) (Nat.le_of_ble_eq_true rfl) (by omega) (by omega) (by omega) dX3_init_26 ?_
  refine sp_X2_init (by omega) (by omega) (by omega) s2 s1 (fun A2 B2 zA2 shA2 u1 u2 => ?_)
  have kA2 : kq C1 A2 b (b + 3) := fun q hq => ⟨by rw [u1.1 q (by omega), s3 q (by omega)], fun _ => by rw [u1.2 q (by omega), s4 q (by omega)]⟩
  have rA2 : ∀ j, A2.2.2 b j = C1.2.2 b j := fun j => by rw [u1.2 _ (by omega), s4 _ (by omega)]
  have mk2 : ∀ q, q < b + 3 → B2 q = B1 q := fun q hq => by rw [u2 q (by omega), s6 q (by omega)]
  clear s1 s2 s3 s4 s5 s6 u1 u2
  have hbA2 : A2.2.1 b = some (.inl 3) := by rw [(kA2 b (by omega)).1]; exact hb1
  refine eg_putRR gp_RX3_19 (fun _ => rfl) rfl hbA2 dX3_init_29 (fun C2 t1 t2 t3 t4 => ?_)
  have hb2 : C2.2.1 b = some (.inl 3) := by rw [t2]; exact hbA2
  have z2 : C2.1 = b + 23 := by rw [t1, zA2]
  have k2_ : kq C1 C2 b (b + 3) := fun q hq => ⟨by rw [t2, (kA2 q hq).1], fun zz => by rw [← (kA2 q hq).2 zz]; funext j; exact t4 q j (fun w => zz w.1)⟩
  have f2_ : C2.2.2 b 2 = some (b + 3) := t3
  have r2_ : ∀ j, j ≠ 2 → C2.2.2 b j = C1.2.2 b j := fun j hj => by rw [t4 _ _ (fun w => hj w.2), rA2]
  have sh2_ : sh_V C2 (b + 3) := shA2.kp (fun q z1 z2 => ⟨by rw [t2], by funext j; exact t4 q j (by omega)⟩)
  clear t1 t2 t3 t4 zA2 kA2 rA2 hbA2 shA2 z1 hb1
  refine eg_aload_n dX3_init_32 rfl rfl ?_
  refine eg_newR (ci := 1) rfl gc_RX3_23 (by omega) (by omega) dX3_init_33 (fun D3 N3 s1 s2 s3 s4 s5 s6 => ?_)
  rw [z2] at s1 s2 s3 s4 s5 s6 ⊢
  refine eg_dup dX3_init_36 rfl ?_
  refine eg_callI0 3 36 gk_X1_init gi_X1_init rfl gl_RX3_25 rfl (Nat.le_of_ble_eq_true rfl) (Nat.le_of_ble_eq_true rfl) (by omega) (by omega) (by omega) dX3_init_37 ?_
  refine sp_X1_init (by omega) (by omega) (by omega) s2 s1 (fun A3 B3 zA3 shA3 u1 u2 => ?_)
  have kA3 : kq C2 A3 b (b + 23) := fun q hq => ⟨by rw [u1.1 q (by omega), s3 q (by omega)], fun _ => by rw [u1.2 q (by omega), s4 q (by omega)]⟩
  have rA3 : ∀ j, A3.2.2 b j = C2.2.2 b j := fun j => by rw [u1.2 _ (by omega), s4 _ (by omega)]
  have mk3 : ∀ q, q < b + 23 → B3 q = B2 q := fun q hq => by rw [u2 q (by omega), s6 q (by omega)]
  have mz3 : ∀ j, B3 (b + 23) j = 0 := fun j => by rw [u2 _ (by omega)]; exact s5 j
  clear s1 s2 s3 s4 s5 s6 u1 u2
  have hbA3 : A3.2.1 b = some (.inl 3) := by rw [(kA3 b (by omega)).1]; exact hb2
  refine eg_putRR gp_RX3_26 (fun _ => rfl) rfl hbA3 dX3_init_40 (fun C3 t1 t2 t3 t4 => ?_)
  have hb3 : C3.2.1 b = some (.inl 3) := by rw [t2]; exact hbA3
  have z3 : C3.1 = b + 27 := by rw [t1, zA3]
  have k3_ : kq C2 C3 b (b + 23) := fun q hq => ⟨by rw [t2, (kA3 q hq).1], fun zz => by rw [← (kA3 q hq).2 zz]; funext j; exact t4 q j (fun w => zz w.1)⟩
  have f3_ : C3.2.2 b 3 = some (b + 23) := t3
  have r3_ : ∀ j, j ≠ 3 → C3.2.2 b j = C2.2.2 b j := fun j hj => by rw [t4 _ _ (fun w => hj w.2), rA3]
  have sh3_ : sh_R C3 (b + 23) := shA3.kp (fun q z1 z2 => ⟨by rw [t2], by funext j; exact t4 q j (by omega)⟩)
  clear t1 t2 t3 t4 zA3 kA3 rA3 hbA3 shA3 z2 hb2
  refine eg_aload_n dX3_init_43 rfl rfl ?_
  refine eg_newR (ci := 1) rfl gc_RX3_23 (by omega) (by omega) dX3_init_44 (fun D4 N4 s1 s2 s3 s4 s5 s6 => ?_)
  rw [z3] at s1 s2 s3 s4 s5 s6 ⊢
  refine eg_dup dX3_init_47 rfl ?_
  refine eg_callI0 3 36 gk_X1_init gi_X1_init rfl gl_RX3_25 rfl (Nat.le_of_ble_eq_true rfl) (Nat.le_of_ble_eq_true rfl) (by omega) (by omega) (by omega) dX3_init_48 ?_
  refine sp_X1_init (by omega) (by omega) (by omega) s2 s1 (fun A4 B4 zA4 shA4 u1 u2 => ?_)
  have kA4 : kq C3 A4 b (b + 27) := fun q hq => ⟨by rw [u1.1 q (by omega), s3 q (by omega)], fun _ => by rw [u1.2 q (by omega), s4 q (by omega)]⟩
  have rA4 : ∀ j, A4.2.2 b j = C3.2.2 b j := fun j => by rw [u1.2 _ (by omega), s4 _ (by omega)]
  have mk4 : ∀ q, q < b + 27 → B4 q = B3 q := fun q hq => by rw [u2 q (by omega), s6 q (by omega)]
  have mz4 : ∀ j, B4 (b + 27) j = 0 := fun j => by rw [u2 _ (by omega)]; exact s5 j
  clear s1 s2 s3 s4 s5 s6 u1 u2
  have hbA4 : A4.2.1 b = some (.inl 3) := by rw [(kA4 b (by omega)).1]; exact hb3
  refine eg_putRR gp_RX3_30 (fun _ => rfl) rfl hbA4 dX3_init_51 (fun C4 t1 t2 t3 t4 => ?_)
  have hb4 : C4.2.1 b = some (.inl 3) := by rw [t2]; exact hbA4
  have z4 : C4.1 = b + 31 := by rw [t1, zA4]
  have k4_ : kq C3 C4 b (b + 27) := fun q hq => ⟨by rw [t2, (kA4 q hq).1], fun zz => by rw [← (kA4 q hq).2 zz]; funext j; exact t4 q j (fun w => zz w.1)⟩
  have f4_ : C4.2.2 b 4 = some (b + 27) := t3
  have r4_ : ∀ j, j ≠ 4 → C4.2.2 b j = C3.2.2 b j := fun j hj => by rw [t4 _ _ (fun w => hj w.2), rA4]
  have sh4_ : sh_R C4 (b + 27) := shA4.kp (fun q z1 z2 => ⟨by rw [t2], by funext j; exact t4 q j (by omega)⟩)
  clear t1 t2 t3 t4 zA4 kA4 rA4 hbA4 shA4 z3 hb3
  refine eg_aload_n dX3_init_54 rfl rfl ?_
  refine eg_bipush dX3_init_55 (v := nI 18) (by decide) ?_
  refine eg_newaR (ty := .boolean) (N := 18) rfl (by decide) rfl rfl ga_boolean (by omega) (by omega) (by decide) (by decide) dX3_init_57 (fun A5 B5 s1 s2 s3 s4 s5 s6 => ?_)
  rw [z4] at s1 s2 s3 s4 s5 s6 ⊢
  have kA5 : kq C4 A5 b (b + 31) := fun q hq => ⟨s3 q (by omega), fun _ => s4 q (by omega)⟩
  have rA5 : ∀ j, A5.2.2 b j = C4.2.2 b j := fun j => by rw [s4 _ (by omega)]
  have shA5 : A5.2.1 (b + 31) = some (.inr (.boolean, 18)) := s2
  have mz5 : ∀ j, B5 (b + 31) j = 0 := s5
  have mk5 : ∀ q, q < b + 31 → B5 q = B4 q := fun q hq => s6 q (by omega)
  have zA5 : A5.1 = b + 32 := s1
  clear s1 s2 s3 s4 s5 s6
  have hbA5 : A5.2.1 b = some (.inl 3) := by rw [(kA5 b (by omega)).1]; exact hb4
  refine eg_putRR gp_RX3_33 (fun _ => rfl) rfl hbA5 dX3_init_59 (fun C5 t1 t2 t3 t4 => ?_)
  have hb5 : C5.2.1 b = some (.inl 3) := by rw [t2]; exact hbA5
  have z5 : C5.1 = b + 32 := by rw [t1, zA5]
  have k5_ : kq C4 C5 b (b + 31) := fun q hq => ⟨by rw [t2, (kA5 q hq).1], fun zz => by rw [← (kA5 q hq).2 zz]; funext j; exact t4 q j (fun w => zz w.1)⟩
  have f5_ : C5.2.2 b 5 = some (b + 31) := t3
  have r5_ : ∀ j, j ≠ 5 → C5.2.2 b j = C4.2.2 b j := fun j hj => by rw [t4 _ _ (fun w => hj w.2), rA5]
  have sh5_ : C5.2.1 (b + 31) = some (.inr (.boolean, 18)) := by rw [t2]; exact shA5
  clear t1 t2 t3 t4 zA5 kA5 rA5 hbA5 shA5 z4 hb4
  refine eg_aload_n dX3_init_62 rfl rfl ?_
  refine eg_newR (ci := 0) rfl gc_RX3_37 (by omega) (by omega) dX3_init_63 (fun D6 N6 s1 s2 s3 s4 s5 s6 => ?_)
  rw [z5] at s1 s2 s3 s4 s5 s6 ⊢
  refine eg_dup dX3_init_66 rfl ?_
  refine eg_callI0 30 4983 gk_X0_init gi_X0_init rfl gl_RX3_39 rfl (Nat.le_of_ble_eq_true rfl) (Nat.le_of_ble_eq_true rfl) (by omega) (by omega) (by omega) dX3_init_67 ?_
  refine sp_X0_init (by omega) (by omega) (by omega) s2 s1 (fun A6 B6 zA6 shA6 u1 u2 u3 u4 => ?_)
  have kA6 : kq C5 A6 b (b + 32) := fun q hq => ⟨by rw [u1.1 q (by omega), s3 q (by omega)], fun _ => by rw [u1.2 q (by omega), s4 q (by omega)]⟩
  have rA6 : ∀ j, A6.2.2 b j = C5.2.2 b j := fun j => by rw [u1.2 _ (by omega), s4 _ (by omega)]
  have mk6 : ∀ q, q < b + 32 → B6 q = B5 q := fun q hq => by rw [u2 q (by omega), s6 q (by omega)]
  have mz6 : B6 (b + 32) 11 = -3 ∧ ∀ j, j ≠ 11 → B6 (b + 32) j = 0 := ⟨u3, fun j hj => by rw [u4 j hj]; exact s5 j⟩
  clear s1 s2 s3 s4 s5 s6 u1 u2 u3 u4
  have hbA6 : A6.2.1 b = some (.inl 3) := by rw [(kA6 b (by omega)).1]; exact hb5
  refine eg_putRR gp_RX3_40 (fun _ => rfl) rfl hbA6 dX3_init_70 (fun C6 t1 t2 t3 t4 => ?_)
  have hb6 : C6.2.1 b = some (.inl 3) := by rw [t2]; exact hbA6
  have z6 : C6.1 = b + 63 := by rw [t1, zA6]
  have k6_ : kq C5 C6 b (b + 32) := fun q hq => ⟨by rw [t2, (kA6 q hq).1], fun zz => by rw [← (kA6 q hq).2 zz]; funext j; exact t4 q j (fun w => zz w.1)⟩
  have f6_ : C6.2.2 b 6 = some (b + 32) := t3
  have r6_ : ∀ j, j ≠ 6 → C6.2.2 b j = C5.2.2 b j := fun j hj => by rw [t4 _ _ (fun w => hj w.2), rA6]
  have sh6_ : sh_H C6 (b + 32) := shA6.kp (fun q z1 z2 => ⟨by rw [t2], by funext j; exact t4 q j (by omega)⟩)
  clear t1 t2 t3 t4 zA6 kA6 rA6 hbA6 shA6 z5 hb5
  have q6_ : kq C6 C6 b (b + 63) := kq.rf
  have q5_ : kq C5 C6 b (b + 32) := k6_.tr q6_ (by omega)
  have q4_ : kq C4 C6 b (b + 31) := k5_.tr q5_ (by omega)
  have q3_ : kq C3 C6 b (b + 27) := k4_.tr q4_ (by omega)
  have q2_ : kq C2 C6 b (b + 23) := k3_.tr q3_ (by omega)
  have q1_ : kq C1 C6 b (b + 3) := k2_.tr q2_ (by omega)
  have q0_ : kq C0 C6 b (b + 2) := k1_.tr q1_ (by omega)
  have e0_ : C6.2.1 (b + 1) = some (.inr (.int, 13)) := by rw [(q0_ _ (by omega)).1]; exact sh0_
  have g0_ : C6.2.2 b 0 = some (b + 1) := by rw [r6_ 0 (by decide), r5_ 0 (by decide), r4_ 0 (by decide), r3_ 0 (by decide), r2_ 0 (by decide), r1_ 0 (by decide)]; exact f0_
  have e1_ : C6.2.1 (b + 2) = some (.inr (.int, 256)) := by rw [(q1_ _ (by omega)).1]; exact sh1_
  have g1_ : C6.2.2 b 1 = some (b + 2) := by rw [r6_ 1 (by decide), r5_ 1 (by decide), r4_ 1 (by decide), r3_ 1 (by decide), r2_ 1 (by decide)]; exact f1_
  have e2_ : sh_V C6 (b + 3) := sh2_.kp (fun q z1 z2 => ⟨(q2_ q (by omega)).1, (q2_ q (by omega)).2 (by omega)⟩)
  have g2_ : C6.2.2 b 2 = some (b + 3) := by rw [r6_ 2 (by decide), r5_ 2 (by decide), r4_ 2 (by decide), r3_ 2 (by decide)]; exact f2_
  have e3_ : sh_R C6 (b + 23) := sh3_.kp (fun q z1 z2 => ⟨(q3_ q (by omega)).1, (q3_ q (by omega)).2 (by omega)⟩)
  have g3_ : C6.2.2 b 3 = some (b + 23) := by rw [r6_ 3 (by decide), r5_ 3 (by decide), r4_ 3 (by decide)]; exact f3_
  have e4_ : sh_R C6 (b + 27) := sh4_.kp (fun q z1 z2 => ⟨(q4_ q (by omega)).1, (q4_ q (by omega)).2 (by omega)⟩)
  have g4_ : C6.2.2 b 4 = some (b + 27) := by rw [r6_ 4 (by decide), r5_ 4 (by decide)]; exact f4_
  have e5_ : C6.2.1 (b + 31) = some (.inr (.boolean, 18)) := by rw [(q5_ _ (by omega)).1]; exact sh5_
  have g5_ : C6.2.2 b 5 = some (b + 31) := by rw [r6_ 5 (by decide)]; exact f5_
  have e6_ : sh_H C6 (b + 32) := sh6_.kp (fun q z1 z2 => ⟨(q6_ q (by omega)).1, (q6_ q (by omega)).2 (by omega)⟩)
  have g6_ : C6.2.2 b 6 = some (b + 32) := by exact f6_
  have kk_ : kq G C6 b (b + 1) := k0_.tr q0_ (by omega)
  have hsC : sh_C C6 b := ⟨hb6, g0_, e0_, g1_, e1_, g2_, e2_, g3_, e3_, g4_, e4_, g5_, e5_, g6_, e6_⟩
  refine eg_iconst dX3_init_73 (v := nI 0) (by decide) ?_
  refine eg_istore_n dX3_init_74 rfl (by decide) rfl ?_
  refine lp_X3_init hsC 13 0 B6 (by omega) ?_
  generalize hM7 : eg_fl B6 (b + 1) 0 13 (fun _ => nI 1) = M7
  have o7 : ∀ q, q ≠ b + 1 → M7 q = B6 q := fun q z => by rw [← hM7, eg_fl_ne z]
  refine eg_aload_n dX3_init_94 rfl rfl ?_
  refine eg_getR gf_RX3_19 rfl hb6 g2_ dX3_init_95 ?_
  refine eg_iconst dX3_init_98 (v := nI 4) (by decide) ?_
  refine eg_iconst dX3_init_99 (v := nI 1) (by decide) ?_
  refine eg_callV2 0 0 gk_X2_setInputs gi_X2_setInputs e2_.1 rfl gl_RX3_44 rfl (Nat.le_of_ble_eq_true rfl) (Nat.le_of_ble_eq_true rfl) (Nat.zero_le _) (Nat.zero_le _) (by omega) dX3_init_100 ?_
  refine sp_X2_setInputs e2_ (by omega) (by omega) (by omega) (by omega) (fun M8 h8 => ?_)
  have o8 : ∀ q, ¬ (b + 3 ≤ q ∧ q < b + 23) → q ≠ b + 1 → M8 q = B6 q := fun q z1 z2 => by rw [h8.2.2 q (by omega) (by omega), o7 q z2]
  have hst : ci_U M8 b 4 1 0 (fun _ => 0) (fun _ => 1) (fun _ => 0) 0 (fun _ => 0) (fun _ => 0) (fun _ => 0) 0 false 0 (fun _ => 0) (fun _ => 0) (fun _ => 0) 0 0 0 0 (-3) := by
    refine ⟨h8.1, fun u s z1 z2 => ?_, fun o ho => ?_, fun s z => ?_, ⟨?_, ?_, by decide, fun j hj => absurd hj (by omega)⟩, ?_, fun z => absurd z (by decide), ?_, ?_, ?_, ?_⟩
    · rw [h8.2.1 u s (by omega) z2, sv_in (by omega)]
    · rw [h8.2.2 _ (by omega) (by omega), ← hM7, eg_fl_in (by omega) ho]
    · rw [o8 _ (by omega) (by omega), mk6 _ (by omega), mk5 _ (by omega), mk4 _ (by omega), mk3 _ (by omega), mk2 _ (by omega)]; exact mz1 s
    · rw [o8 _ (by omega) (by omega), mk6 _ (by omega), mk5 _ (by omega), mk4 _ (by omega)]; exact mz3 3
    · rw [o8 _ (by omega) (by omega), mk6 _ (by omega), mk5 _ (by omega), mk4 _ (by omega)]; exact mz3 4
    · rw [o8 _ (by omega) (by omega), mk6 _ (by omega), mk5 _ (by omega), mk4 _ (by omega), mk3 _ (by omega), mk2 _ (by omega), mk1 _ (by omega), mk0 _ (by omega)]; exact hm7
    · rw [o8 _ (by omega) (by omega)]; exact mz6.2 8 (by decide)
    · rw [o8 _ (by omega) (by omega)]; exact mz6.2 9 (by decide)
    · rw [o8 _ (by omega) (by omega)]; exact mz6.2 10 (by decide)
    · rw [o8 _ (by omega) (by omega)]; exact mz6.1
  exact eg_vret rfl dX3_init_103 (hQ C6 M8 z6 hsC ⟨fun q hq => (kk_ q (by omega)).1, fun q hq => (kk_ q (by omega)).2 (by omega)⟩ hst (fun q hq => by rw [o8 q (by omega) (by omega), mk6 q (by omega), mk5 q (by omega), mk4 q (by omega), mk3 q (by omega), mk2 q (by omega), mk1 q (by omega), mk0 q (by omega)]))
