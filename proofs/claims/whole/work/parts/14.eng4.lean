/-! THE ENGINE, 4: calls -/
def eg_args (As : List Value) (n : Nat) : List (Option Value) := As.map some ++ List.replicate (n - As.length) none
theorem eg_sl_map : ∀ As : List Value, (As.all fun v => v.category == 1) = true → lg_sl As = As.map Slot.val
  | [], _ => rfl
  | v :: r, h => by
    rw [List.all_cons, Bool.and_eq_true] at h
    have h1 : v.category = 1 := by simpa using h.1
    have h2 := eg_sl_map r h.2
    show (if v.category = 2 then [Slot.val v, Slot.second] else [Slot.val v]) ++ lg_sl r = _
    rw [if_neg (by omega), h2]
    rfl
theorem eg_args_in : ∀ (As : List Value) (i k : Nat) (v : Value), (As.all fun v => v.category == 1) = true → As[k]? = some v → (i + k, v) ∈ lv_args i As
  | [], i, k, v, _, hk => by simp at hk
  | w :: r, i, k, v, h, hk => by
    rw [List.all_cons, Bool.and_eq_true] at h
    have h1 : w.category = 1 := by simpa using h.1
    rw [lv_args, if_neg (by omega)]
    cases k with
    | zero =>
      simp at hk
      subst hk
      exact List.mem_cons_self
    | succ k =>
      have := eg_args_in r (i + 1) k v h.2 (by simpa using hk)
      rw [show i + (k + 1) = i + 1 + k by omega]
      exact List.mem_cons_of_mem _ this
theorem eg_entry {As : List Value} {n : Nat} (hc : (As.all fun v => v.category == 1) = true) (hn : As.length ≤ n) : eg_has ((lg_sl As ++ List.replicate (n - (lg_sl As).length) Slot.unset).toArray) n (eg_args As n) := by
  have hsl : (lg_sl As).length = As.length := by rw [eg_sl_map As hc, List.length_map]
  have h0 := lv_entry As (n := n) (by rw [hsl]; exact hn)
  have key : ∀ (k : Nat) (v : Value), (eg_args As n)[k]? = some (some v) → As[k]? = some v := by
    intro k v hk
    unfold eg_args at hk
    by_cases hlt : k < As.length
    · rw [List.getElem?_append_left (by simpa using hlt), List.getElem?_map] at hk
      cases hq : As[k]? with
      | none => rw [hq] at hk; cases hk
      | some w => rw [hq] at hk; simpa using hk
    · rw [List.getElem?_append_right (by simpa using hlt), List.getElem?_replicate] at hk
      split at hk
      · cases hk
      · cases hk
  refine ⟨⟨h0.1, h0.2.1, fun q hq => h0.2.2 q ?_⟩, fun v hv => ?_, by simp [eg_args]; omega⟩
  · obtain ⟨k, g1, g2⟩ := (eg_lo_mem _ 0).mp hq
    have := eg_args_in As 0 k q.2 hc (key k q.2 g1)
    obtain ⟨q1, q2⟩ := q
    simp at g2 this
    subst g2
    exact this
  · obtain ⟨k, hk⟩ := List.getElem?_of_mem hv
    have := List.mem_of_getElem? (key k v hk)
    have h2 := List.all_eq_true.mp hc v this
    simpa using h2
def eg_ws (y : eg_Mt) : List Cond := Cond.code y.1 y.2.1 y.2.2.1 y.2.2.2 :: eg_gw
def eg_YOK (y : eg_Mt) (np : Nat) : Prop := Cond.code y.1 y.2.1 y.2.2.1 y.2.2.2 ∈ eg_gw ∧ Cond.initialized y.1.cls ∈ eg_gw ∧ (y.1.cls ≠ "java/lang/invoke/MethodHandle" ∧ y.1.cls ≠ "java/lang/invoke/VarHandle") ∧ plainName y.1.cls = true ∧ y.2.2.1 ≤ 40 ∧ (parseMethodDescriptor y.1.desc).map (fun d => d.parameters.length) = some np
theorem eg_ws_good {y : eg_Mt} {np : Nat} (h : eg_YOK y np) {args : Array Value} {s : State} (hgw : ∀ w ∈ eg_gw, w.before args s = true) : ∀ w ∈ eg_ws y, ∀ (a' : Array Value) (U : State), s.WarmedH U.vm → w.before a' U = true := by
  refine pay_in hgw (fun w hw => ?_)
  have hin : w ∈ eg_gw := by
    rcases List.mem_cons.mp hw with rfl | hw
    · exact h.1
    · exact hw
  exact ⟨hin, good_of_word (eg_gw_good w hin)⟩
theorem eg_met {l : Launch} {E : eg_E} {y : eg_Mt} {d k n np : Nat} {Q : Option Value → eg_G → eg_I → Prop} {As : List Value} {G : eg_G} {M : eg_I} (hy : eg_YOK y np) (hc : (As.all fun v => v.category == 1) = true) (hn : As.length ≤ y.2.2.1)
    (hJ : eg_J l E y d k n Q 0 (eg_args As y.2.2.1) [] G M) : Met l y.1 (eg_ws y) { frames := d, cells := k, slots := n, locals := d * 64 } (fun a U => a = As.toArray ∧ eg_R E G M U.heap ∧ eg_T E U) (eg_Qc E Q) k n (fun q => E.2.2.1 ≤ q) := by
  refine Met.ofW (cc := y.2.1) (maxL := y.2.2.1) (ret := y.2.2.2) hy.2.2.2.1 rfl ?_
  intro p e s m args below meth c s₁ B hml hv
  obtain ⟨rfl, hR, hT⟩ := hv
  have hgw : ∀ w ∈ eg_gw, w.before As.toArray s = true := fun w hw => atoms_spec (ws := eg_ws y) B.pre w (List.mem_cons_of_mem _ hw)
  have hnm := name_of_methodNamed B.named B.method
  rw [lg_entry_eq]
  exact hJ p e _ s m _ below meth c s.heap [] 0 0 k n _ ⟨B.exec, B.bytes, B.returns, hml, findClass_of_methodNamed B.named, B.notSynchronized, hnm.1, hgw, hT⟩ hR (fun _ _ => rfl) hT.2.2.2.1 (fun _ h => by cases h) (eg_entry hc hn) (Nat.le_refl _) (Nat.le_refl _) (Nat.le_refl _) (Nat.le_refl _) (by omega) (by omega)
theorem eg_blind {E : eg_E} {As : List Value} {G : eg_G} {M : eg_I} : FrameBlind (fun a U => a = As.toArray ∧ eg_R E G M U.heap ∧ eg_T E U) := fun a U g mk h => ⟨h.1, h.2.1, h.2.2.calling⟩
theorem eg_pre {E : eg_E} {As : List Value} {G : eg_G} {M : eg_I} {s : State} {H : Heap} (hR : eg_R E G M H) (hT : eg_T E s) (hz : E.2.2.1 ≤ H.size) (hQ : ∀ q, q < E.2.2.1 → H[q]? = s.heap[q]?) : ∀ U : State, U.heap = H → s.WarmedH U.vm → (fun (a : Array Value) (U : State) => a = As.toArray ∧ eg_R E G M U.heap ∧ eg_T E U) As.toArray U :=
  fun U hU hW => ⟨rfl, by rw [hU]; exact hR, hT.moved hW (by rw [hU]; exact hz) (fun q hq => by rw [hU]; exact hQ q hq)⟩
/-- behind a call -/
theorem eg_back {l : Launch} {E : eg_E} {y : eg_Mt} {d k n k' n' pc : Nat} {Q : Option Value → eg_G → eg_I → Prop} {lo : List (Option Value)} {st stk : List Value} {p : Program} {e : Env} {R : Room} {s : State} {m : MethodId} {args : Array Value} {below : List Frame} {meth : Method} {c : Code} {H : Heap} {locs : List Loc} {cells slots mc ms : Nat} {ls : Array Slot} {aa : Array Value}
    (hF : eg_F E p s m args meth c y) (hQ : ∀ q, q < E.2.2.1 → H[q]? = s.heap[q]?) (hL : ∀ q ∈ locs, E.2.2.1 ≤ q.base) (hl : eg_has ls y.2.2.1 lo) (h1 : d ≤ R.frames) (h2 : d * 64 ≤ R.locals) (h3 : mc ≤ R.cells) (h4 : ms ≤ R.slots) (h5 : cells + k ≤ mc) (h6 : slots + n ≤ ms) (hk : k' ≤ k) (hn : n' ≤ n)
    (hrun : va_Run p l e R s m args below meth c H locs cells slots k' n' (F0 m pc ls stk) st (eg_Qc E (fun r G' M' => eg_J l E y d (k - k') (n - n') Q (pc + 3) lo (r.toList ++ st) G' M') aa) (fun q => E.2.2.1 ≤ q)) :
    W p l e R s m args below meth c H locs cells slots (MQ below (eg_Qc E Q) args s mc ms (fun q => E.2.2.1 ≤ q)) (F0 m pc ls stk) := by
  intro T hT X
  obtain ⟨v, st₀, t, T', L, h0, X', hL', e1, e2, ⟨r, G', M', hv, hR', hQ', hq', hz'⟩, stp⟩ := hrun T hT X
  cases hv
  have := hQ' p e R s m args below meth c T'.heap (locs ++ L) (cells + k') (slots + n') mc ms ls hF (by rw [e1]; exact hR') (fun q hq => by rw [e1, hq' q hq, h0]; exact hQ q hq) (by rw [e1]; exact hz') (t_lL hL hL') hl h1 h2 h3 h4 (by omega) (by omega)
  obtain ⟨t2, a1, b1⟩ := this T' rfl X'
  exact ⟨t2, stp t2 a1, b1⟩
theorem eg_callV {l : Launch} {E : eg_E} {y : eg_Mt} {d k n pc : Nat} {Q : Option Value → eg_G → eg_I → Prop} {lo : List (Option Value)} {st : List Value} {G : eg_G} {M : eg_I} {y' : eg_Mt} {idx np b : Nat} {As stk : List Value} {ci N : Nat} {Tt : u_T} (k' n' : Nat) (hy : eg_YOK y' np) (hin : Cond.instanceMethod y'.1 ∈ eg_gw ∧ Cond.selects y'.1.cls y'.1 y'.1 ∈ eg_gw) (hb0 : G.2.1 b = some (.inl ci)) (hC : classes[ci]? = some (y'.1.cls, Tt, N)) (hlk : Cond.methodLink y.1.cls idx y'.1 ∈ eg_gw ∨ ∃ host, Cond.methodLinkNest y.1.cls idx y'.1 host ∈ eg_nw) (hAs : (As.all fun v => v.category == 1) = true) (hnp : As.length = np) (hmx : (.ref b :: As).length ≤ y'.2.2.1) (hs : stk = As.reverse ++ .ref b :: st) (hsum : (st.map fun v => v.category).sum ≤ 8) (hk' : k' ≤ k) (hn' : n' ≤ n) (hd1 : 1 ≤ d) (hd : decode y.2.1 pc = .ok (.invokevirtual idx, 3))
    (kk : eg_J l E y' (d - 1) k' n' (fun r G' M' => eg_J l E y d (k - k') (n - n') Q (pc + 3) lo (r.toList ++ st) G' M') 0 (eg_args (.ref b :: As) y'.2.2.1) [] G M) : eg_J l E y d k n Q pc lo stk G M := by
  intro p e R s m args below meth c H locs cells slots mc ms ls hF hR hQ hz hL hl h1 h2 h3 h4 h5 h6
  obtain ⟨hx, hb, hr, hml, hown, hlk0, hnm, hgw, hT⟩ := id hF
  have hM := eg_met (As := .ref b :: As) hy (by simpa [Value.category] using hAs) hmx kk
  have hmxl : _ ≤ 40 := hy.2.2.2.2.1
  have hpl : ∀ sig, parseMethodDescriptor y'.1.desc = some sig → np = sig.parameters.length := fun sig hsg => by
    have h2 := hy.2.2.2.2.2
    rw [hsg] at h2
    exact (Option.some.inj h2).symm
  have hws := eg_ws_good hy (args := args) (s := s) hgw
  refine eg_back (st := st) hF hQ hL hl h1 h2 h3 h4 h5 h6 hk' hn' (aa := (.ref b :: As).toArray) ?_
  rcases hlk with hlk | ⟨host, hlk⟩
  · exact va_runV (C := y'.1.cls) (nL := y.2.2.1) (Ts := eg_gw) ⟨hx, hb, hml, hown, hgw⟩ hM ⟨⟨rfl, rfl, by show d - 1 + 1 ≤ _; omega, by show _ + (d - 1) * 64 ≤ _; omega, hws, List.mem_cons_self, hgw _ hy.1, hgw _ hy.2.1, hy.2.2.1, hpl, hgw _ hlk⟩, hgw _ hin.1, hgw _ hin.2⟩ ⟨eg_blind, (by obtain ⟨-, r, hr1, cell, q1, q2, q3, q4⟩ := hR.2.1 b ci hb0; cases hr1.symm.trans hC; exact ⟨cell, q1, by rw [q3]; rfl, by rw [q2]; exact (hT.1.1 ci _ hC).2.1⟩), eg_pre hR hT hz hQ⟩ rfl hnp hl.1.1 hs (lv_room hsum) hd ⟨by omega, by omega⟩
  · exact va_runVN (C := y'.1.cls) (nL := y.2.2.1) (Ts := eg_gw) ⟨hx, hb, hml, hown, hgw⟩ hM ⟨⟨⟨rfl, rfl, by show d - 1 + 1 ≤ _; omega, by show _ + (d - 1) * 64 ≤ _; omega, hws, List.mem_cons_self⟩, hgw _ hy.1, hgw _ hy.2.1, hy.2.2.1, hpl, va_Nw.use rfl (hT.2.2.1 _ hlk)⟩, hgw _ hin.1, hgw _ hin.2⟩ ⟨eg_blind, (by obtain ⟨-, r, hr1, cell, q1, q2, q3, q4⟩ := hR.2.1 b ci hb0; cases hr1.symm.trans hC; exact ⟨cell, q1, by rw [q3]; rfl, by rw [q2]; exact (hT.1.1 ci _ hC).2.1⟩), eg_pre hR hT hz hQ⟩ rfl hnp hl.1.1 hs (lv_room hsum) hd ⟨by omega, by omega⟩
theorem eg_callS {l : Launch} {E : eg_E} {y : eg_Mt} {d k n pc : Nat} {Q : Option Value → eg_G → eg_I → Prop} {lo : List (Option Value)} {st : List Value} {G : eg_G} {M : eg_I} {y' : eg_Mt} {idx np b : Nat} {As stk : List Value}  (k' n' : Nat) (hy : eg_YOK y' np) (hin : Cond.static y'.1 ∈ eg_gw) (hlk : Cond.methodLink y.1.cls idx y'.1 ∈ eg_gw ∨ ∃ host, Cond.methodLinkNest y.1.cls idx y'.1 host ∈ eg_nw) (hAs : (As.all fun v => v.category == 1) = true) (hnp : As.length = np) (hmx : (As).length ≤ y'.2.2.1) (hs : stk = As.reverse ++ st) (hsum : (st.map fun v => v.category).sum ≤ 8) (hk' : k' ≤ k) (hn' : n' ≤ n) (hd1 : 1 ≤ d) (hd : decode y.2.1 pc = .ok (.invokestatic idx, 3))
    (kk : eg_J l E y' (d - 1) k' n' (fun r G' M' => eg_J l E y d (k - k') (n - n') Q (pc + 3) lo (r.toList ++ st) G' M') 0 (eg_args (As) y'.2.2.1) [] G M) : eg_J l E y d k n Q pc lo stk G M := by
  intro p e R s m args below meth c H locs cells slots mc ms ls hF hR hQ hz hL hl h1 h2 h3 h4 h5 h6
  obtain ⟨hx, hb, hr, hml, hown, hlk0, hnm, hgw, hT⟩ := id hF
  have hM := eg_met (As := As) hy (by exact hAs) hmx kk
  have hmxl : _ ≤ 40 := hy.2.2.2.2.1
  have hpl : ∀ sig, parseMethodDescriptor y'.1.desc = some sig → np = sig.parameters.length := fun sig hsg => by
    have h2 := hy.2.2.2.2.2
    rw [hsg] at h2
    exact (Option.some.inj h2).symm
  have hws := eg_ws_good hy (args := args) (s := s) hgw
  refine eg_back (st := st) hF hQ hL hl h1 h2 h3 h4 h5 h6 hk' hn' (aa := (As).toArray) ?_
  rcases hlk with hlk | ⟨host, hlk⟩
  · exact va_runS (nL := y.2.2.1) (Ts := eg_gw) ⟨hx, hb, hml, hown, hgw⟩ hM ⟨⟨rfl, rfl, by show d - 1 + 1 ≤ _; omega, by show _ + (d - 1) * 64 ≤ _; omega, hws, List.mem_cons_self, hgw _ hy.1, hgw _ hy.2.1, hy.2.2.1, hpl, hgw _ hlk⟩, hgw _ hin⟩ ⟨eg_blind, eg_pre hR hT hz hQ⟩ rfl hnp hl.1.1 hs (lv_room hsum) hd ⟨by omega, by omega⟩
  · exact va_runSN (nL := y.2.2.1) (Ts := eg_gw) ⟨hx, hb, hml, hown, hgw⟩ hM ⟨⟨⟨rfl, rfl, by show d - 1 + 1 ≤ _; omega, by show _ + (d - 1) * 64 ≤ _; omega, hws, List.mem_cons_self⟩, hgw _ hy.1, hgw _ hy.2.1, hy.2.2.1, hpl, va_Nw.use rfl (hT.2.2.1 _ hlk)⟩, hgw _ hin, trivial⟩ ⟨eg_blind, eg_pre hR hT hz hQ⟩ rfl hnp hl.1.1 hs (lv_room hsum) hd ⟨by omega, by omega⟩
theorem eg_callI {l : Launch} {E : eg_E} {y : eg_Mt} {d k n pc : Nat} {Q : Option Value → eg_G → eg_I → Prop} {lo : List (Option Value)} {st : List Value} {G : eg_G} {M : eg_I} {y' : eg_Mt} {idx np b : Nat} {As stk : List Value}  (k' n' : Nat) (hy : eg_YOK y' np) (hin : Cond.instanceMethod y'.1 ∈ eg_gw ∧ y'.1.name = "<init>") (hrt : y'.2.2.2 = none) (hlk : Cond.methodLink y.1.cls idx y'.1 ∈ eg_gw ∨ ∃ host, Cond.methodLinkNest y.1.cls idx y'.1 host ∈ eg_nw) (hAs : (As.all fun v => v.category == 1) = true) (hnp : As.length = np) (hmx : (.ref b :: As).length ≤ y'.2.2.1) (hs : stk = As.reverse ++ .ref b :: st) (hsum : (st.map fun v => v.category).sum ≤ 8) (hk' : k' ≤ k) (hn' : n' ≤ n) (hd1 : 1 ≤ d) (hd : decode y.2.1 pc = .ok (.invokespecial idx, 3))
    (kk : eg_J l E y' (d - 1) k' n' (fun r G' M' => eg_J l E y d (k - k') (n - n') Q (pc + 3) lo (r.toList ++ st) G' M') 0 (eg_args (.ref b :: As) y'.2.2.1) [] G M) : eg_J l E y d k n Q pc lo stk G M := by
  obtain ⟨ym, yb, yx, yr⟩ := y'
  dsimp only at hrt
  subst hrt
  intro p e R s m args below meth c H locs cells slots mc ms ls hF hR hQ hz hL hl h1 h2 h3 h4 h5 h6
  obtain ⟨hx, hb, hr, hml, hown, hlk0, hnm, hgw, hT⟩ := id hF
  have hM := eg_met (As := .ref b :: As) hy (by simpa [Value.category] using hAs) hmx kk
  have hmxl : _ ≤ 40 := hy.2.2.2.2.1
  have hpl : ∀ sig, parseMethodDescriptor ym.desc = some sig → np = sig.parameters.length := fun sig hsg => by
    have h2 := hy.2.2.2.2.2
    rw [hsg] at h2
    exact (Option.some.inj h2).symm
  have hws := eg_ws_good hy (args := args) (s := s) hgw
  refine eg_back (st := st) hF hQ hL hl h1 h2 h3 h4 h5 h6 hk' hn' (aa := (.ref b :: As).toArray) ?_
  rcases hlk with hlk | ⟨host, hlk⟩
  · exact va_runI (nL := y.2.2.1) (Ts := eg_gw) ⟨hx, hb, hml, hown, hgw⟩ hM ⟨⟨rfl, rfl, by show d - 1 + 1 ≤ _; omega, by show _ + (d - 1) * 64 ≤ _; omega, hws, List.mem_cons_self, hgw _ hy.1, hgw _ hy.2.1, hy.2.2.1, hpl, hgw _ hlk⟩, hin.2, hgw _ hin.1⟩ ⟨eg_blind, eg_pre hR hT hz hQ⟩ rfl hnp hl.1.1 hs (lv_room hsum) hd ⟨by omega, by omega⟩
  · exact va_runIN (nL := y.2.2.1) (Ts := eg_gw) ⟨hx, hb, hml, hown, hgw⟩ hM ⟨⟨⟨rfl, rfl, by show d - 1 + 1 ≤ _; omega, by show _ + (d - 1) * 64 ≤ _; omega, hws, List.mem_cons_self⟩, hgw _ hy.1, hgw _ hy.2.1, hy.2.2.1, hpl, va_Nw.use rfl (hT.2.2.1 _ hlk)⟩, hin.2, hgw _ hin.1⟩ ⟨eg_blind, eg_pre hR hT hz hQ⟩ rfl hnp hl.1.1 hs (lv_room hsum) hd ⟨by omega, by omega⟩
