/-! THE ENGINE, 3: memory, returns -/
def eg_FL (own : String) (idx ci fi : Nat) (fin : Bool) : Prop := ∃ (C : String) (T : u_T) (N : Nat), classes[ci]? = some (C, T, N) ∧ fi < N ∧ (T fi).2.2.2 = fin ∧ (fin = true → (T fi).1 = own) ∧
  (Cond.fieldLink own idx (T fi).1 (T fi).2.1 (T fi).2.2.1 ∈ eg_gw ∨ (fin = false ∧ ∃ host, Cond.fieldLinkNest own idx (T fi).1 (T fi).2.1 (T fi).2.2.1 host ∈ eg_nw))
def eg_FG (own : String) (idx ci fi : Nat) : Prop := ∃ (C : String) (T : u_T) (N : Nat), classes[ci]? = some (C, T, N) ∧ fi < N ∧
  (Cond.fieldLink own idx (T fi).1 (T fi).2.1 (T fi).2.2.1 ∈ eg_gw ∨ ∃ host, Cond.fieldLinkNest own idx (T fi).1 (T fi).2.1 (T fi).2.2.1 host ∈ eg_nw)
theorem eg_v_int {ty : FieldType} {r : Option Nat} {x : Int32} (h : ty.isReference = false) : eg_v ty r x = .int x := by simp [eg_v, h]
theorem eg_v_ref {ty : FieldType} {r : Option Nat} {x : Int32} (h : ty.isReference = true) : eg_v ty r x = va_rf r := by simp [eg_v, h]
theorem eg_set_ne {M : eg_I} {a j : Nat} {x : Int32} {q : Nat} (h : q ≠ a) : eg_set M a j x q = M q := by funext i; simp [eg_set, h]
theorem eg_setr_ne {G : eg_G} {a j : Nat} {x : Option Nat} {q : Nat} (h : q ≠ a) : (eg_setr G a j x).2.2 q = G.2.2 q := by funext i; simp [eg_setr, h]
theorem eg_getf {l : Launch} {E : eg_E} {y : eg_Mt} {d k n pc : Nat} {Q : Option Value → eg_G → eg_I → Prop} {lo : List (Option Value)} {st : List Value} {G : eg_G} {M : eg_I} {idx ci fi a : Nat} {v : Value} (hfl : eg_FG y.1.cls idx ci fi) (ha : G.2.1 a = some (.inl ci)) (hd : decode y.2.1 pc = .ok (.getfield idx, 3)) (hv : eg_v (eg_fty ci fi) (G.2.2 a fi) (M a fi) = v) (kk : eg_J l E y d k n Q (pc + 3) lo (v :: st) G M) : eg_J l E y d k n Q (pc) lo (.ref a :: st) G M := by
  intro p e R s m args below meth c H locs cells slots mc ms ls hF hR hQ hz hL hl h1 h2 h3 h4 h5 h6
  obtain ⟨C, T, N, hc, hk, hlk⟩ := hfl
  obtain ⟨hx, hb, hr, hml, hown, hlk0, hnm, hgw, hT⟩ := id hF
  obtain ⟨-, r, hr1, cell, q1, q2, q3, q4⟩ := hR.2.1 a ci ha
  have hrr : r = (C, T, N) := Option.some.inj (hr1.symm.trans hc)
  subst hrr
  obtain ⟨hS, hfc, kC, hkC, hkind⟩ := hT.1.1 ci _ hc
  obtain ⟨cf, kf, i1, f, hi, hsl⟩ := hS fi hk
  have hst := (u_facts hfc hkC (u_lays hgw (eg_cl_ok ci _ hc).1 hk) hi).1
  have hslot : cell.slots[f.slot]? = some v := by rw [hsl, ← hv]; exact q4 fi hk
  have hkn : cell.vm ≠ .unknown := by rw [q3]; exact fun h => by cases h
  rcases hlk with hlk | ⟨host, hlk⟩
  · exact W.getf hx hb hown (hgw _ hlk) hi hst q1 hkn hslot rfl rfl hd (kk p e R s m args below meth c H locs cells slots mc ms ls hF hR hQ hz hL hl h1 h2 h3 h4 h5 h6)
  · exact va_Wgetf hx hb hown (va_Nw.use rfl (hT.2.2.1 _ hlk)) hi hst q1 hkn hslot rfl rfl hd (kk p e R s m args below meth c H locs cells slots mc ms ls hF hR hQ hz hL hl h1 h2 h3 h4 h5 h6)
theorem eg_getI {l : Launch} {E : eg_E} {y : eg_Mt} {d k n pc : Nat} {Q : Option Value → eg_G → eg_I → Prop} {lo : List (Option Value)} {st : List Value} {G : eg_G} {M : eg_I} {idx ci fi a : Nat} (hfl : eg_FG y.1.cls idx ci fi) (hty : (eg_fty ci fi).isReference = false) (ha : G.2.1 a = some (.inl ci)) (hd : decode y.2.1 pc = .ok (.getfield idx, 3)) (kk : eg_J l E y d k n Q (pc + 3) lo (.int (M a fi) :: st) G M) : eg_J l E y d k n Q (pc) lo (.ref a :: st) G M := eg_getf hfl ha hd (eg_v_int hty) kk
theorem eg_getR {l : Launch} {E : eg_E} {y : eg_Mt} {d k n pc : Nat} {Q : Option Value → eg_G → eg_I → Prop} {lo : List (Option Value)} {st : List Value} {G : eg_G} {M : eg_I} {idx ci fi a b : Nat} (hfl : eg_FG y.1.cls idx ci fi) (hty : (eg_fty ci fi).isReference = true) (ha : G.2.1 a = some (.inl ci)) (hr : G.2.2 a fi = some b) (hd : decode y.2.1 pc = .ok (.getfield idx, 3)) (kk : eg_J l E y d k n Q (pc + 3) lo (.ref b :: st) G M) : eg_J l E y d k n Q (pc) lo (.ref a :: st) G M := eg_getf hfl ha hd (by rw [eg_v_ref hty, hr]; rfl) kk
theorem eg_putf {l : Launch} {E : eg_E} {y : eg_Mt} {d k n pc : Nat} {Q : Option Value → eg_G → eg_I → Prop} {lo : List (Option Value)} {st : List Value} {G : eg_G} {M : eg_I} {idx ci fi a : Nat} {fin : Bool} {v : Value} {G' : eg_G} {M' : eg_I} (hfl : eg_FL y.1.cls idx ci fi fin) (hin : fin = true → y.1.name = "<init>") (hn : narrow (eg_fty ci fi) v = v) (hfit : fits (eg_fty ci fi) v = true) (ha : G.2.1 a = some (.inl ci)) (hd : decode y.2.1 pc = .ok (.putfield idx, 3))
    (e1 : G'.1 = G.1) (e2 : G'.2.1 = G.2.1) (e3 : ∀ q, q ≠ a → G'.2.2 q = G.2.2 q) (e4 : ∀ q, q ≠ a → M' q = M q) (e5 : ∀ j, eg_v (eg_fty ci j) (G'.2.2 a j) (M' a j) = if j = fi then v else eg_v (eg_fty ci j) (G.2.2 a j) (M a j))
    (kk : eg_J l E y d k n Q (pc + 3) lo (st) G' M') : eg_J l E y d k n Q (pc) lo (v :: .ref a :: st) G M := by
  intro p e R s m args below meth c H locs cells slots mc ms ls hF hR hQ hz hL hl h1 h2 h3 h4 h5 h6
  obtain ⟨C, T, N, hc, hk, hfin, hdecl, hlk⟩ := hfl
  obtain ⟨hx, hb, hr, hml, hown, hlk0, hnm, hgw, hT⟩ := id hF
  obtain ⟨hB, r, hr1, cell, q1, q2, q3, q4⟩ := hR.2.1 a ci ha
  have hrr : r = (C, T, N) := Option.some.inj (hr1.symm.trans hc)
  subst hrr
  obtain ⟨w1, w2, w3⟩ := eg_cl_ok ci _ hc
  have hap := va_apart (own := y.1.cls) hgw w1 (eg_fty ci) w2 w3 hT.1 hc
  obtain ⟨hS, hfc, kC, hkC, hkind⟩ := hT.1.1 ci _ hc
  obtain ⟨cf, kf, i1, f, hi, hsl⟩ := hS fi hk
  have hst := (u_facts hfc hkC (u_lays hgw w1 hk) hi).1
  have hlay := hgw _ (w1 _ (u_in_lay hk))
  have fin' : ∀ H' : Heap, H'[a]? = some (cell.setSlot f.slot v) → H'.size = H.size → (∀ q, q ≠ a → H'[q]? = H[q]?) →
      W p l e R s m args below meth c H' (locs ++ [⟨a, f.slot⟩]) cells slots (MQ below (eg_Qc E Q) args s mc ms (fun q => E.2.2.1 ≤ q)) (F0 m (pc + 3) ls st) := by
    intro H' g1 g2 g3
    rw [hsl] at g1
    refine kk p e R s m args below meth c H' _ cells slots mc ms ls hF ?_ (fun q hq => ?_) (by rw [g2]; exact hz) (t_lc hL hB) hl h1 h2 h3 h4 h5 h6
    · refine hR.one g2 g3 e1 e2 e3 e4 (fun c2 hc2 => ?_) (fun ty n hc2 => ?_)
      · have : c2 = ci := by rw [ha] at hc2; cases hc2; rfl
        subst this
        refine ⟨_, hc, (show t_OB a _ N _ H' (updV _ fi v) from ⟨_, g1, q2, q3, t_set q4 hap hk v⟩).to fun j _ => ?_⟩
        rw [e5 j]
        rfl
      · rw [ha] at hc2; cases hc2
    · rw [g3 q (by omega)]
      exact hQ q hq
  unfold u_lay at hlay
  cases fin with
  | false =>
    rw [if_neg (by rw [hfin]; decide)] at hlay
    have h6' := u_store hfc hkC hkind hlay hi (w2 fi hk) hn hfit
    rcases hlk with hlk | ⟨-, host, hlk⟩
    · exact W.putK hx hb (f := f) ⟨hown, hgw _ hlk, ⟨_, _, _, hi⟩, hst⟩ (by rw [q2]; exact h6') q1 q3 (by rw [hsl]; exact k2_hasslot (q4 fi hk)) rfl rfl hd fin'
    · exact va_WputK hx hb (f := f) hown (va_Nw.use rfl (hT.2.2.1 _ hlk)) hi hst (by rw [q2]; exact h6') q1 q3 (by rw [hsl]; exact k2_hasslot (q4 fi hk)) rfl rfl hd fin'
  | true =>
    rw [if_pos hfin] at hlay
    have hcf : m.cls = cf := by
      obtain ⟨_, _, c', _, _, _, -, -, hf', -, -, -, hown2, -⟩ := Cond.laysFinal_spec hlay
      have e1 : c' = cf := by have := hi.symm.trans hf'; simp at this; exact this.1.symm
      rw [hdecl rfl] at hown2
      rw [← e1]; exact Option.some.inj (hown.symm.trans hown2)
    have h6' := u_fits hfc hkC hkind (Or.inr hlay) hi (w2 fi hk) hn hfit
    rcases hlk with hlk | ⟨h0, -⟩
    · exact W.putFinK hx hb hown (hgw _ hlk) hi hst hcf (by rw [hnm]; exact hin rfl) (by rw [q2]; exact h6') q1 q3 (by rw [hsl]; exact k2_hasslot (q4 fi hk)) rfl rfl hd fin'
    · cases h0
theorem eg_putI {l : Launch} {E : eg_E} {y : eg_Mt} {d k n pc : Nat} {Q : Option Value → eg_G → eg_I → Prop} {lo : List (Option Value)} {st : List Value} {G : eg_G} {M : eg_I} {idx ci fi a : Nat} {fin : Bool} {x : Int32} (hfl : eg_FL y.1.cls idx ci fi fin) (hin : fin = true → y.1.name = "<init>") (hty : (eg_fty ci fi).isReference = false) (hn : narrow (eg_fty ci fi) (.int x) = .int x) (hfit : fits (eg_fty ci fi) (.int x) = true) (ha : G.2.1 a = some (.inl ci)) (hd : decode y.2.1 pc = .ok (.putfield idx, 3))
    (kk : eg_J l E y d k n Q (pc + 3) lo (st) G (eg_set M a fi x)) : eg_J l E y d k n Q (pc) lo (.int x :: .ref a :: st) G M := by
  refine eg_putf hfl hin hn hfit ha hd rfl rfl (fun _ _ => rfl) (fun q h => eg_set_ne h) (fun j => ?_) kk
  by_cases e : j = fi
  · subst e
    simp [eg_set, eg_v_int hty]
  · simp [eg_set, e]
theorem eg_putR {l : Launch} {E : eg_E} {y : eg_Mt} {d k n pc : Nat} {Q : Option Value → eg_G → eg_I → Prop} {lo : List (Option Value)} {st : List Value} {G : eg_G} {M : eg_I} {idx ci fi a b : Nat} {fin : Bool} (hfl : eg_FL y.1.cls idx ci fi fin) (hin : fin = true → y.1.name = "<init>") (hty : (eg_fty ci fi).isReference = true) (ha : G.2.1 a = some (.inl ci)) (hd : decode y.2.1 pc = .ok (.putfield idx, 3))
    (kk : eg_J l E y d k n Q (pc + 3) lo (st) (eg_setr G a fi (some b)) M) : eg_J l E y d k n Q (pc) lo (.ref b :: .ref a :: st) G M := by
  refine eg_putf (G' := eg_setr G a fi (some b)) (M' := M) hfl hin ?_ ?_ ha hd rfl rfl (fun q h => eg_setr_ne h) (fun _ _ => rfl) (fun j => ?_) kk
  · cases hq : eg_fty ci fi <;> rw [hq] at hty <;> first | rfl | cases hty
  · cases hq : eg_fty ci fi <;> rw [hq] at hty <;> first | rfl | cases hty
  · by_cases e : j = fi
    · subst e
      simp [eg_setr, eg_v_ref hty, va_rf]
    · simp [eg_setr, e]
theorem eg_iald {l : Launch} {E : eg_E} {y : eg_Mt} {d k n pc : Nat} {Q : Option Value → eg_G → eg_I → Prop} {lo : List (Option Value)} {st : List Value} {G : eg_G} {M : eg_I} {a N : Nat} {i : Int32} (ha : G.2.1 a = some (.inr (.int, N))) (hin : vp_in i N) (hd : decode y.2.1 pc = .ok (.iaload, 1)) (kk : eg_J l E y d k n Q (pc + 1) lo (.int (M a i.toNatClampNeg) :: st) G M) : eg_J l E y d k n Q (pc) lo (.int i :: .ref a :: st) G M := by
  intro p e R s m args below meth c H locs cells slots mc ms ls hF hR hQ hz hL hl h1 h2 h3 h4 h5 h6
  obtain ⟨hB, hat, hc⟩ := hR.2.2 a _ N ha
  have hlt : i.toNatClampNeg < N := Nat.not_le.mp fun q => hin (Or.inr q)
  exact W.iald (v := .int (M a i.toNatClampNeg)) hF.1 hF.2.1 hc ((hF.2.2.2.2.2.2.2.2.2.1 _ hat).1 N _) (fun q => by cases q) (by rw [arrV_size]; exact hin) (by rw [arrV_read _ _ hlt, eg_v_int rfl]) rfl rfl hd (kk p e R s m args below meth c H locs cells slots mc ms ls hF hR hQ hz hL hl h1 h2 h3 h4 h5 h6)
theorem eg_zald {l : Launch} {E : eg_E} {y : eg_Mt} {d k n pc : Nat} {Q : Option Value → eg_G → eg_I → Prop} {lo : List (Option Value)} {st : List Value} {G : eg_G} {M : eg_I} {a N : Nat} {i : Int32} (ha : G.2.1 a = some (.inr (.boolean, N))) (hin : vp_in i N) (hd : decode y.2.1 pc = .ok (.baload, 1)) (kk : eg_J l E y d k n Q (pc + 1) lo (.int (M a i.toNatClampNeg) :: st) G M) : eg_J l E y d k n Q (pc) lo (.int i :: .ref a :: st) G M := by
  intro p e R s m args below meth c H locs cells slots mc ms ls hF hR hQ hz hL hl h1 h2 h3 h4 h5 h6
  obtain ⟨hB, hat, hc⟩ := hR.2.2 a _ N ha
  have hlt : i.toNatClampNeg < N := Nat.not_le.mp fun q => hin (Or.inr q)
  exact W.zald (v := .int (M a i.toNatClampNeg)) hF.1 hF.2.1 hc ((hF.2.2.2.2.2.2.2.2.2.1 _ hat).1 N _) (fun q => by cases q) (by rw [arrV_size]; exact hin) (by rw [arrV_read _ _ hlt, eg_v_int rfl]) rfl rfl hd (kk p e R s m args below meth c H locs cells slots mc ms ls hF hR hQ hz hL hl h1 h2 h3 h4 h5 h6)
theorem eg_aald {l : Launch} {E : eg_E} {y : eg_Mt} {d k n pc : Nat} {Q : Option Value → eg_G → eg_I → Prop} {lo : List (Option Value)} {st : List Value} {G : eg_G} {M : eg_I} {a b N : Nat} {i : Int32} {ty : FieldType} (hty : ty.isReference = true) (ha : G.2.1 a = some (.inr (ty, N))) (hin : vp_in i N) (hr : G.2.2 a i.toNatClampNeg = some b) (hd : decode y.2.1 pc = .ok (.aaload, 1)) (kk : eg_J l E y d k n Q (pc + 1) lo (.ref b :: st) G M) : eg_J l E y d k n Q (pc) lo (.int i :: .ref a :: st) G M := by
  intro p e R s m args below meth c H locs cells slots mc ms ls hF hR hQ hz hL hl h1 h2 h3 h4 h5 h6
  obtain ⟨hB, hat, hc⟩ := hR.2.2 a _ N ha
  have hlt : i.toNatClampNeg < N := Nat.not_le.mp fun q => hin (Or.inr q)
  exact W.aald (v := .ref b) hF.1 hF.2.1 hc ((hF.2.2.2.2.2.2.2.2.2.1 _ hat).1 N _) hty (fun q => by cases q) (by rw [arrV_size]; exact hin) (by rw [arrV_read _ _ hlt, eg_v_ref hty, hr]; rfl) rfl rfl hd (kk p e R s m args below meth c H locs cells slots mc ms ls hF hR hQ hz hL hl h1 h2 h3 h4 h5 h6)
theorem eg_alen {l : Launch} {E : eg_E} {y : eg_Mt} {d k n pc : Nat} {Q : Option Value → eg_G → eg_I → Prop} {lo : List (Option Value)} {st : List Value} {G : eg_G} {M : eg_I} {a N : Nat} {ty : FieldType} (ha : G.2.1 a = some (.inr (ty, N))) (hd : decode y.2.1 pc = .ok (.arraylength, 1)) (kk : eg_J l E y d k n Q (pc + 1) lo (.int (nI N) :: st) G M) : eg_J l E y d k n Q (pc) lo (.ref a :: st) G M := by
  intro p e R s m args below meth c H locs cells slots mc ms ls hF hR hQ hz hL hl h1 h2 h3 h4 h5 h6
  obtain ⟨hB, hat, hc⟩ := hR.2.2 a _ N ha
  exact W.alen (n := nI N) hF.1 hF.2.1 hc ((hF.2.2.2.2.2.2.2.2.2.1 _ hat).1 N _) (by rw [arrV_size]; rfl) rfl rfl hd (kk p e R s m args below meth c H locs cells slots mc ms ls hF hR hQ hz hL hl h1 h2 h3 h4 h5 h6)
theorem eg_sld {l : Launch} {E : eg_E} {y : eg_Mt} {d k n pc : Nat} {Q : Option Value → eg_G → eg_I → Prop} {lo : List (Option Value)} {st : List Value} {G : eg_G} {M : eg_I} {i : Int32} (hin : vp_in i E.2.2.2.2.1) (hd : decode y.2.1 pc = .ok (.iaload, 1)) (kk : eg_J l E y d k n Q (pc + 1) lo (.int (E.2.2.2.2.2 i.toNatClampNeg) :: st) G M) : eg_J l E y d k n Q (pc) lo (.int i :: .ref E.2.2.2.1 :: st) G M := by
  intro p e R s m args below meth c H locs cells slots mc ms ls hF hR hQ hz hL hl h1 h2 h3 h4 h5 h6
  obtain ⟨-, -, -, -, hX, hlt0, -⟩ := hF.2.2.2.2.2.2.2.2
  obtain ⟨scr, x1, x2, x3, x4, x5⟩ := hX
  have hlt : i.toNatClampNeg < E.2.2.2.2.1 := Nat.not_le.mp fun q => hin (Or.inr q)
  exact W.iald (v := .int (E.2.2.2.2.2 i.toNatClampNeg)) hF.1 hF.2.1 (by rw [hQ _ hlt0]; exact x1) x2 x3 (by rw [x4]; exact hin) (x5 _ hlt) rfl rfl hd (kk p e R s m args below meth c H locs cells slots mc ms ls hF hR hQ hz hL hl h1 h2 h3 h4 h5 h6)
theorem eg_slen {l : Launch} {E : eg_E} {y : eg_Mt} {d k n pc : Nat} {Q : Option Value → eg_G → eg_I → Prop} {lo : List (Option Value)} {st : List Value} {G : eg_G} {M : eg_I} (hd : decode y.2.1 pc = .ok (.arraylength, 1)) (kk : eg_J l E y d k n Q (pc + 1) lo (.int (nI E.2.2.2.2.1) :: st) G M) : eg_J l E y d k n Q (pc) lo (.ref E.2.2.2.1 :: st) G M := by
  intro p e R s m args below meth c H locs cells slots mc ms ls hF hR hQ hz hL hl h1 h2 h3 h4 h5 h6
  obtain ⟨-, -, -, -, hX, hlt0, -⟩ := hF.2.2.2.2.2.2.2.2
  obtain ⟨scr, x1, x2, x3, x4, x5⟩ := hX
  exact W.alen (n := nI E.2.2.2.2.1) hF.1 hF.2.1 (by rw [hQ _ hlt0]; exact x1) x2 (by rw [x4]; rfl) rfl rfl hd (kk p e R s m args below meth c H locs cells slots mc ms ls hF hR hQ hz hL hl h1 h2 h3 h4 h5 h6)
theorem eg_iast {l : Launch} {E : eg_E} {y : eg_Mt} {d k n pc : Nat} {Q : Option Value → eg_G → eg_I → Prop} {lo : List (Option Value)} {st : List Value} {G : eg_G} {M : eg_I} {a N : Nat} {i x : Int32} (ha : G.2.1 a = some (.inr (.int, N))) (hin : vp_in i N)  (hd : decode y.2.1 pc = .ok (.iastore, 1)) (kk : eg_J l E y d k n Q (pc + 1) lo (st) G (eg_set M a i.toNatClampNeg x)) : eg_J l E y d k n Q (pc) lo (.int x :: .int i :: .ref a :: st) G M := by
  intro p e R s m args below meth c H locs cells slots mc ms ls hF hR hQ hz hL hl h1 h2 h3 h4 h5 h6
  obtain ⟨hB, hat, hc⟩ := hR.2.2 a _ N ha
  refine W.iast hF.1 hF.2.1 hc ((hF.2.2.2.2.2.2.2.2.2.1 _ hat).1 N _) (fun q => by cases q) (by rw [arrV_size]; exact hin) rfl rfl hd (fun H' g1 g2 g3 => ?_)
  refine kk p e R s m args below meth c H' _ cells slots mc ms ls hF ?_ (fun q hq => ?_) (by rw [g2]; exact hz) (t_lc hL hB) hl h1 h2 h3 h4 h5 h6
  · refine hR.one g2 g3 rfl rfl (fun _ _ => rfl) (fun q h => eg_set_ne h) (fun c2 hc2 => ?_) (fun ty n hc2 => ?_)
    · rw [ha] at hc2; cases hc2
    · rw [ha] at hc2
      cases hc2
      rw [g1, arrV_store]
      congr 2
      funext q
      by_cases hq : q = i.toNatClampNeg
      · subst hq
        simp [updV, eg_set, eg_v, FieldType.isReference]
      · simp [updV, eg_set, eg_v, FieldType.isReference, hq]
  · rw [g3 q (Nat.ne_of_lt (Nat.lt_of_lt_of_le hq hB))]
    exact hQ q hq
theorem eg_zast {l : Launch} {E : eg_E} {y : eg_Mt} {d k n pc : Nat} {Q : Option Value → eg_G → eg_I → Prop} {lo : List (Option Value)} {st : List Value} {G : eg_G} {M : eg_I} {a N : Nat} {i x : Int32} (ha : G.2.1 a = some (.inr (.boolean, N))) (hin : vp_in i N) (hnx : narrow .boolean (.int x) = .int x) (hd : decode y.2.1 pc = .ok (.bastore, 1)) (kk : eg_J l E y d k n Q (pc + 1) lo (st) G (eg_set M a i.toNatClampNeg x)) : eg_J l E y d k n Q (pc) lo (.int x :: .int i :: .ref a :: st) G M := by
  intro p e R s m args below meth c H locs cells slots mc ms ls hF hR hQ hz hL hl h1 h2 h3 h4 h5 h6
  obtain ⟨hB, hat, hc⟩ := hR.2.2 a _ N ha
  refine W.zast hF.1 hF.2.1 hc ((hF.2.2.2.2.2.2.2.2.2.1 _ hat).1 N _) (fun q => by cases q) (by rw [arrV_size]; exact hin) rfl rfl hd (fun H' g1 g2 g3 => ?_)
  refine kk p e R s m args below meth c H' _ cells slots mc ms ls hF ?_ (fun q hq => ?_) (by rw [g2]; exact hz) (t_lc hL hB) hl h1 h2 h3 h4 h5 h6
  · refine hR.one g2 g3 rfl rfl (fun _ _ => rfl) (fun q h => eg_set_ne h) (fun c2 hc2 => ?_) (fun ty n hc2 => ?_)
    · rw [ha] at hc2; cases hc2
    · rw [ha] at hc2
      cases hc2
      rw [g1, hnx, arrV_store]
      congr 2
      funext q
      by_cases hq : q = i.toNatClampNeg
      · subst hq
        simp [updV, eg_set, eg_v, FieldType.isReference]
      · simp [updV, eg_set, eg_v, FieldType.isReference, hq]
  · rw [g3 q (Nat.ne_of_lt (Nat.lt_of_lt_of_le hq hB))]
    exact hQ q hq
theorem eg_iret {l : Launch} {E : eg_E} {y : eg_Mt} {d k n pc : Nat} {Q : Option Value → eg_G → eg_I → Prop} {lo : List (Option Value)} {G : eg_G} {M : eg_I} {x : Int32} (hr : y.2.2.2 = some .int) (hd : decode y.2.1 pc = .ok (.ireturn, 1)) (hq : Q (some (.int x)) G M) : eg_J l E y d k n Q (pc) lo ([.int x]) G M := by
  intro p e R s m args below meth c H locs cells slots mc ms ls hF hR hQ hz hL hl h1 h2 h3 h4 h5 h6
  have hlocks : meth.locks = false := hF.2.2.2.2.2.1
  refine W.widen (k := mc) (n := ms) (by omega) (by omega) ?_
  exact W.iret hF.1 hF.2.1 (hF.2.2.1.trans hr) (fun t ht hW => ⟨_, G, M, rfl, by rw [ht]; exact hR, hq, fun q hq => by rw [ht]; exact hQ q hq, by rw [ht]; exact hz⟩) hL hd hlocks
theorem eg_zret {l : Launch} {E : eg_E} {y : eg_Mt} {d k n pc : Nat} {Q : Option Value → eg_G → eg_I → Prop} {lo : List (Option Value)} {G : eg_G} {M : eg_I} {x : Int32} (hr : y.2.2.2 = some .boolean) (hnx : narrow .boolean (.int x) = .int x) (hd : decode y.2.1 pc = .ok (.ireturn, 1)) (hq : Q (some (.int x)) G M) : eg_J l E y d k n Q (pc) lo ([.int x]) G M := by
  intro p e R s m args below meth c H locs cells slots mc ms ls hF hR hQ hz hL hl h1 h2 h3 h4 h5 h6
  have hlocks : meth.locks = false := hF.2.2.2.2.2.1
  refine W.widen (k := mc) (n := ms) (by omega) (by omega) ?_
  exact W.zret (ty := .boolean) hF.1 hF.2.1 (hF.2.2.1.trans hr) hnx (fun t ht hW => ⟨_, G, M, rfl, by rw [ht]; exact hR, hq, fun q hq => by rw [ht]; exact hQ q hq, by rw [ht]; exact hz⟩) hL hd hlocks
theorem eg_vret {l : Launch} {E : eg_E} {y : eg_Mt} {d k n pc : Nat} {Q : Option Value → eg_G → eg_I → Prop} {lo : List (Option Value)} {G : eg_G} {M : eg_I}  (hr : y.2.2.2 = none) (hd : decode y.2.1 pc = .ok (.return_, 1)) (hq : Q none G M) : eg_J l E y d k n Q (pc) lo ([]) G M := by
  intro p e R s m args below meth c H locs cells slots mc ms ls hF hR hQ hz hL hl h1 h2 h3 h4 h5 h6
  have hlocks : meth.locks = false := hF.2.2.2.2.2.1
  refine W.widen (k := mc) (n := ms) (by omega) (by omega) ?_
  exact W.vret hF.1 hF.2.1 (hF.2.2.1.trans hr) (fun t ht hW => ⟨_, G, M, rfl, by rw [ht]; exact hR, hq, fun q hq => by rw [ht]; exact hQ q hq, by rw [ht]; exact hz⟩) hL hd hlocks
theorem eg_aret {l : Launch} {E : eg_E} {y : eg_Mt} {d k n pc : Nat} {Q : Option Value → eg_G → eg_I → Prop} {lo : List (Option Value)} {G : eg_G} {M : eg_I} {b : Nat} {rt : FieldType} (hr : y.2.2.2 = some rt) (hrt : (∃ n, rt = .object n) ∨ ∃ t, rt = .array t) (hd : decode y.2.1 pc = .ok (.areturn, 1)) (hq : Q (some (.ref b)) G M) : eg_J l E y d k n Q (pc) lo ([.ref b]) G M := by
  intro p e R s m args below meth c H locs cells slots mc ms ls hF hR hQ hz hL hl h1 h2 h3 h4 h5 h6
  have hlocks : meth.locks = false := hF.2.2.2.2.2.1
  refine W.widen (k := mc) (n := ms) (by omega) (by omega) ?_
  exact W.aret hF.1 hF.2.1 (hF.2.2.1.trans hr) hrt (Or.inr ⟨b, rfl⟩) (fun t ht hW => ⟨_, G, M, rfl, by rw [ht]; exact hR, hq, fun q hq => by rw [ht]; exact hQ q hq, by rw [ht]; exact hz⟩) hL hd hlocks
theorem eg_new_ {l : Launch} {E : eg_E} {y : eg_Mt} {d k n pc : Nat} {Q : Option Value → eg_G → eg_I → Prop} {lo : List (Option Value)} {st : List Value} {G : eg_G} {M : eg_I} {idx ci N : Nat} {C : String} {T : u_T} (hc : classes[ci]? = some (C, T, N)) (hw : Cond.classLink y.1.cls idx C ∈ eg_gw ∧ Cond.instantiable C N ∈ eg_gw ∧ Cond.initialized C ∈ eg_gw) (hk1 : 1 ≤ k) (hn1 : N ≤ n) (hd : decode y.2.1 pc = .ok (.new idx, 3))
    (kk : eg_J l E y d (k - 1) (n - N) Q (pc + 3) lo (.ref G.1 :: st) (eg_new G (.inl ci)) (eg_zero M G.1)) : eg_J l E y d k n Q (pc) lo (st) G M := by
  intro p e R s m args below meth c H locs cells slots mc ms ls hF hR hQ hz hL hl h1 h2 h3 h4 h5 h6
  obtain ⟨hx, hb, hr, hml, hown, hlk0, hnm, hgw, hT⟩ := id hF
  obtain ⟨w1, w2, w3⟩ := eg_cl_ok ci _ hc
  have hKn := hT.1.1 ci _ hc
  have hs : G.1 = H.size := hR.1
  refine W.newcK hx hb hown (hgw _ hw.1) (hgw _ hw.2.1) (hgw _ hw.2.2) rfl hd (by omega) (by omega) hKn.2.1 rfl fun H1 kC hkC e1 z1 o1 => ?_
  rw [hs] at kk
  refine kk p e R s m args below meth c H1 _ _ _ mc ms ls hF ?_ (fun q hq => by rw [o1 q (by omega)]; exact hQ q hq) (by omega) hL hl h1 h2 h3 h4 (by omega) (by omega)
  refine hR.push hz z1 o1 (fun c2 hc2 => ?_) (fun ty n hc2 => by cases hc2)
  cases hc2
  refine ⟨_, hc, (u_born (eg_fty ci) hgw w1 hKn hkC e1 w2).to fun j _ => ?_⟩
  cases hq : eg_fty ci j <;> first | rfl | exact absurd hq (eg_fty_ok ci j).1 | exact absurd hq (eg_fty_ok ci j).2.1 | exact absurd hq (eg_fty_ok ci j).2.2
theorem eg_newa {l : Launch} {E : eg_E} {y : eg_Mt} {d k n pc : Nat} {Q : Option Value → eg_G → eg_I → Prop} {lo : List (Option Value)} {st : List Value} {G : eg_G} {M : eg_I} {atype : ArrayType} {ty : FieldType} {N : Nat} (hty : newarray.typeOf atype = ty) (hin : ty ∈ eg_atys) (hdv : defaultValue ty = .int 0) (hnr : ty.isReference = false) (hw : Cond.arrayClass ty ∈ eg_gw) (hk1 : 1 ≤ k) (hn1 : N ≤ n) (hN : N ≤ 65536) (hcb : componentBytes ty ≤ 8) (hd : decode y.2.1 pc = .ok (.newarray atype, 2))
    (kk : eg_J l E y d (k - 1) (n - N) Q (pc + 2) lo (.ref G.1 :: st) (eg_new G (.inr (ty, N))) (eg_zero M G.1)) : eg_J l E y d k n Q (pc) lo (.int (nI N) :: st) G M := by
  intro p e R s m args below meth c H locs cells slots mc ms ls hF hR hQ hz hL hl h1 h2 h3 h4 h5 h6
  subst hty
  obtain ⟨hx, hb, hr, hml, hown, hlk0, hnm, hgw, hT⟩ := id hF
  have hs : G.1 = H.size := hR.1
  refine va_newaK hx hb (hgw _ hw) rfl hd rfl (nI_pos (by omega)) (nI_clamp (by omega)) (Nat.le_trans (Nat.mul_le_mul hN hcb) (by decide)) (by omega) (by omega) rfl fun H1 cA' e1 z1 o1 hAr hNm => ?_
  have hcA : cA' = E.2.1 (newarray.typeOf atype) := Option.some.inj (hNm.symm.trans (hT.2.1 _ hin).2)
  subst hcA
  rw [hs] at kk
  refine kk p e R s m args below meth c H1 _ _ _ mc ms ls hF ?_ (fun q hq => by rw [o1 q (by omega)]; exact hQ q hq) (by omega) hL hl h1 h2 h3 h4 (by omega) (by omega)
  refine hR.push hz z1 o1 (fun c2 hc2 => by cases hc2) (fun ty n hc2 => ?_)
  cases hc2
  refine ⟨hin, ?_⟩
  rw [e1, hdv]
  congr 2
  funext j
  rw [eg_v_int hnr]
theorem eg_objInit {l : Launch} {E : eg_E} {y : eg_Mt} {d k n pc : Nat} {Q : Option Value → eg_G → eg_I → Prop} {lo : List (Option Value)} {st : List Value} {G : eg_G} {M : eg_I} {idx a : Nat} (hw : Cond.methodLink y.1.cls idx Lib.objectInit ∈ eg_gw ∧ Cond.instanceMethod Lib.objectInit ∈ eg_gw ∧ Cond.code Lib.objectInit ⟨#[0xb1]⟩ 1 none ∈ eg_gw) (hsum : (st.map fun v => v.category).sum ≤ 8) (hd1 : 1 ≤ d) (hd : decode y.2.1 pc = .ok (.invokespecial idx, 3)) (kk : eg_J l E y d k n Q (pc + 3) lo (st) G M) : eg_J l E y d k n Q (pc) lo (.ref a :: st) G M := by
  intro p e R s m args below meth c H locs cells slots mc ms ls hF hR hQ hz hL hl h1 h2 h3 h4 h5 h6
  obtain ⟨hx, hb, hr, hml, hown, hlk0, hnm, hgw, hT⟩ := id hF
  have hrm : 2 * (F0 m pc ls (.ref a :: st)).monitorRoom + (st.map fun v => v.category).sum ≤ 8 := lv_room hsum
  exact W.objInit hx hb hown (hgw _ hw.1) (hgw _ hw.2.1) (hgw _ hw.2.2) rfl (by rw [hml]; exact hl.1.1) rfl hd (by omega) (by omega) (kk p e R s m args below meth c H locs cells slots mc ms ls hF hR hQ hz hL hl h1 h2 h3 h4 h5 h6)
