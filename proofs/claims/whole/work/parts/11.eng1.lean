/-! THE ENGINE, 1: typed memory, the judgement -/
/-- size, what stands at an address (an object of class number c, an array of a type and a length), references -/
abbrev eg_G : Type := Nat × (Nat → Option (Nat ⊕ (FieldType × Nat))) × (Nat → Nat → Option Nat)
/-- ints: of fields and of array elements -/
abbrev eg_I : Type := Nat → Nat → Int32
/-- class numbers and slots; array classes; first address of ours; the script: address, length, contents -/
abbrev eg_E : Type := va_G × (FieldType → ClassId) × Nat × Nat × Nat × (Nat → Int32)
def eg_v (ty : FieldType) (r : Option Nat) (x : Int32) : Value := if ty.isReference = true then va_rf r else .int x
def eg_set (M : eg_I) (a j : Nat) (x : Int32) : eg_I := fun q i => if q = a ∧ i = j then x else M q i
def eg_setr (G : eg_G) (a j : Nat) (x : Option Nat) : eg_G := (G.1, G.2.1, fun q i => if q = a ∧ i = j then x else G.2.2 q i)
def eg_R (E : eg_E) (G : eg_G) (M : eg_I) (H : Heap) : Prop :=
  G.1 = H.size ∧ (∀ a c, G.2.1 a = some (.inl c) → E.2.2.1 ≤ a ∧ ∃ r : vw_C, classes[c]? = some r ∧ t_OB a (E.1.1 c) r.2.2 (E.1.2 c) H (fun k => eg_v (eg_fty c k) (G.2.2 a k) (M a k))) ∧
  (∀ a ty n, G.2.1 a = some (.inr (ty, n)) → E.2.2.1 ≤ a ∧ ty ∈ eg_atys ∧ H[a]? = some (arrV (E.2.1 ty) n (fun j => eg_v ty (G.2.2 a j) (M a j))))
theorem eg_R.lt {E : eg_E} {G : eg_G} {M : eg_I} {H : Heap} (h : eg_R E G M H) {a : Nat} {x : Nat ⊕ (FieldType × Nat)} (ha : G.2.1 a = some x) : a < H.size := by
  rcases x with c | ⟨ty, n⟩
  · obtain ⟨-, r, -, cell, h1, -⟩ := h.2.1 a c ha
    exact (Array.getElem?_eq_some_iff.mp h1).1
  · exact (Array.getElem?_eq_some_iff.mp (h.2.2 a ty n ha).2.2).1
/-- one cell changes -/
theorem eg_R.one {E : eg_E} {G G' : eg_G} {M M' : eg_I} {H H' : Heap} {a : Nat} (h : eg_R E G M H) (hz : H'.size = H.size) (ho : ∀ q, q ≠ a → H'[q]? = H[q]?)
    (e1 : G'.1 = G.1) (e2 : G'.2.1 = G.2.1) (e3 : ∀ q, q ≠ a → G'.2.2 q = G.2.2 q) (e4 : ∀ q, q ≠ a → M' q = M q)
    (hc : ∀ c, G.2.1 a = some (.inl c) → ∃ r : vw_C, classes[c]? = some r ∧ t_OB a (E.1.1 c) r.2.2 (E.1.2 c) H' (fun k => eg_v (eg_fty c k) (G'.2.2 a k) (M' a k)))
    (ha : ∀ ty n, G.2.1 a = some (.inr (ty, n)) → H'[a]? = some (arrV (E.2.1 ty) n (fun j => eg_v ty (G'.2.2 a j) (M' a j)))) : eg_R E G' M' H' := by
  refine ⟨by rw [e1, hz]; exact h.1, fun q c hq => ?_, fun q ty n hq => ?_⟩
  · rw [e2] at hq
    obtain ⟨b1, r, b2, b3⟩ := h.2.1 q c hq
    by_cases hqa : q = a
    · subst hqa
      exact ⟨b1, hc c hq⟩
    · refine ⟨b1, r, b2, ?_⟩
      rw [e3 q hqa, e4 q hqa]
      exact b3.kept (ho q hqa)
  · rw [e2] at hq
    obtain ⟨b1, b2, b3⟩ := h.2.2 q ty n hq
    by_cases hqa : q = a
    · subst hqa
      exact ⟨b1, b2, ha ty n hq⟩
    · refine ⟨b1, b2, ?_⟩
      rw [e3 q hqa, e4 q hqa, ho q hqa]
      exact b3
/-- a cell comes -/
def eg_new (G : eg_G) (x : Nat ⊕ (FieldType × Nat)) : eg_G := (G.1 + 1, fun q => if q = G.1 then some x else G.2.1 q, fun q => if q = G.1 then (fun _ => none) else G.2.2 q)
def eg_zero (M : eg_I) (a : Nat) : eg_I := fun q => if q = a then (fun _ => 0) else M q
theorem eg_R.push {E : eg_E} {G : eg_G} {M : eg_I} {H H' : Heap} {x : Nat ⊕ (FieldType × Nat)} (h : eg_R E G M H) (hB : E.2.2.1 ≤ H.size) (hz : H'.size = H.size + 1) (ho : ∀ q, q < H.size → H'[q]? = H[q]?)
    (hc : ∀ c, x = .inl c → ∃ r : vw_C, classes[c]? = some r ∧ t_OB H.size (E.1.1 c) r.2.2 (E.1.2 c) H' (fun k => eg_v (eg_fty c k) none 0))
    (ha : ∀ ty n, x = .inr (ty, n) → ty ∈ eg_atys ∧ H'[H.size]? = some (arrV (E.2.1 ty) n (fun _ => eg_v ty none 0))) : eg_R E (eg_new G x) (eg_zero M H.size) H' := by
  have hs : G.1 = H.size := h.1
  refine ⟨by show G.1 + 1 = _; rw [hs, hz], fun q c hq => ?_, fun q ty n hq => ?_⟩
  · by_cases e : q = H.size
    · subst e
      have hx : x = .inl c := by simpa [eg_new, hs] using hq
      obtain ⟨r, b1, b2⟩ := hc c hx
      refine ⟨hB, r, b1, ?_⟩
      simpa [eg_new, eg_zero, hs] using b2
    · have hq' : G.2.1 q = some (.inl c) := by simpa [eg_new, hs, e] using hq
      obtain ⟨b1, r, b2, b3⟩ := h.2.1 q c hq'
      refine ⟨b1, r, b2, ?_⟩
      have := b3.kept (ho q (h.lt hq'))
      simpa [eg_new, eg_zero, hs, e] using this
  · by_cases e : q = H.size
    · subst e
      have hx : x = .inr (ty, n) := by simpa [eg_new, hs] using hq
      obtain ⟨b1, b2⟩ := ha ty n hx
      refine ⟨hB, b1, ?_⟩
      simpa [eg_new, eg_zero, hs] using b2
    · have hq' : G.2.1 q = some (.inr (ty, n)) := by simpa [eg_new, hs, e] using hq
      obtain ⟨b1, b2, b3⟩ := h.2.2 q ty n hq'
      refine ⟨b1, b2, ?_⟩
      rw [ho q (h.lt hq')]
      simpa [eg_new, eg_zero, hs, e] using b3
theorem eg_nest_warm {w : Cond} (hw : eg_nest w = true) {s U : State} (hW : s.WarmedH U.vm) (h : va_Nw w s) : va_Nw w U := by
  unfold eg_nest at hw
  split at hw
  · exact va_Nw.warmF hW h
  · exact va_Nw.warmM hW h
  · cases hw
def eg_T (E : eg_E) (s : State) : Prop :=
  va_K E.1 classes [] s ∧ (∀ ty, ty ∈ eg_atys → ArrOfT s (E.2.1 ty) ty ∧ s.vm.findClass ("[" ++ ty.toString) = some (E.2.1 ty)) ∧ (∀ w ∈ eg_nw, va_Nw w s) ∧ E.2.2.1 ≤ s.heap.size ∧ va_X E.2.2.2.1 E.2.2.2.2.1 E.2.2.2.2.2 s s.heap ∧ E.2.2.2.1 < E.2.2.1 ∧ ∃ k : Class, s.vm.classes[E.2.1 (.array .int)]? = some k ∧ k.kind = .array (E.2.1 .int) (.array .int)
theorem eg_T.moved {E : eg_E} {s U : State} (h : eg_T E s) (hW : s.WarmedH U.vm) (hB : E.2.2.1 ≤ U.heap.size) (hq : ∀ q, q < E.2.2.1 → U.heap[q]? = s.heap[q]?) : eg_T E U := by
  obtain ⟨h1, h2, h3, h4, h5, h6, k, h7, h8⟩ := h
  obtain ⟨k', h9, h10⟩ := hW.alike.2.2 _ _ h7
  refine ⟨va_K.moved hW.alike h1, fun ty hty => ⟨arrOfT_moved hW.alike (h2 ty hty).1, ?_⟩, fun w hw => eg_nest_warm (eg_nw_nest w hw) hW (h3 w hw), hB, (h5.moved hW.alike).kept (hq _ h6), h6, k', h9, by rw [h10]; exact h8⟩
  rw [hW.alike.findClass]
  exact (h2 ty hty).2
theorem eg_T.calling {E : eg_E} {U : State} {g : JFrame} {mk : MethodId} {a : Array Value} (h : eg_T E U) : eg_T E (U.calling g mk a) := by
  obtain ⟨h1, h2, h3, h4, h5, h6, h7⟩ := h
  refine ⟨va_K.moved (u := U) (U := U.calling g mk a) (Vm.Alike.refl U.vm) h1, fun ty hty => ⟨arrOfT_moved (u := U) (E := U.calling g mk a) (Vm.Alike.refl U.vm) (h2 ty hty).1, (h2 ty hty).2⟩, fun w hw => va_Nw.same ?_ (rfl : U.vm = (U.calling g mk a).vm) (h3 w hw), h4, h5.moved (U := U.calling g mk a) (Vm.Alike.refl U.vm), h6, h7⟩
  have hn := eg_nw_nest w hw
  unfold eg_nest at hn
  split at hn
  · rfl
  · rfl
  · cases hn
/-- locals, by their places -/
def eg_lo : Nat → List (Option Value) → List (Nat × Value)
  | _, [] => []
  | i, none :: r => eg_lo (i + 1) r
  | i, some v :: r => (i, v) :: eg_lo (i + 1) r
theorem eg_lo_mem {q : Nat × Value} : ∀ (lo : List (Option Value)) (i : Nat), q ∈ eg_lo i lo ↔ ∃ k, lo[k]? = some (some q.2) ∧ q.1 = i + k
  | [], i => by simp [eg_lo]
  | none :: r, i => by
    rw [eg_lo, eg_lo_mem r (i + 1)]
    constructor
    · rintro ⟨k, h1, h2⟩
      exact ⟨k + 1, by simpa using h1, by omega⟩
    · rintro ⟨k, h1, h2⟩
      cases k with
      | zero => simp at h1
      | succ k => exact ⟨k, by simpa using h1, by omega⟩
  | some v :: r, i => by
    rw [eg_lo, List.mem_cons, eg_lo_mem r (i + 1)]
    constructor
    · rintro (h | ⟨k, h1, h2⟩)
      · subst h
        exact ⟨0, by simp, by simp⟩
      · exact ⟨k + 1, by simpa using h1, by omega⟩
    · rintro ⟨k, h1, h2⟩
      cases k with
      | zero =>
        left
        obtain ⟨q1, q2⟩ := q
        simp at h1 h2
        rw [h1, h2]
      | succ k => exact Or.inr ⟨k, by simpa using h1, by omega⟩
def eg_has (ls : Array Slot) (nL : Nat) (lo : List (Option Value)) : Prop := lv_has ls nL (eg_lo 0 lo) ∧ (∀ v, some v ∈ lo → v.category = 1) ∧ lo.length = nL
theorem eg_has.get {ls : Array Slot} {nL k : Nat} {lo : List (Option Value)} {v : Value} (h : eg_has ls nL lo) (hk : lo[k]? = some (some v)) : ls[k]? = some (.val v) := h.1.2.2 (k, v) ((eg_lo_mem lo 0).mpr ⟨k, hk, by simp⟩)
theorem eg_has.put {ls : Array Slot} {nL i : Nat} {lo : List (Option Value)} {v : Value} (h : eg_has ls nL lo) (hv : v.category = 1) {ls' : Array Slot} (hi : i < nL) (h' : lv_has ls' nL ((i, v) :: (eg_lo 0 lo).filter (fun q => !(q.1 == i) && !(q.1 + 1 == i && q.2.category == 2)))) : eg_has ls' nL (lo.set i (some v)) := by
  refine ⟨⟨h'.1, h'.2.1, fun q hq => h'.2.2 q ?_⟩, fun w hw => ?_, by rw [List.length_set]; exact h.2.2⟩
  · obtain ⟨k, h1, h2⟩ := (eg_lo_mem _ 0).mp hq
    rw [List.getElem?_set] at h1
    by_cases e : i = k
    · subst e
      have hlt : i < lo.length := by rw [h.2.2]; exact hi
      simp [hlt] at h1
      obtain ⟨q1, q2⟩ := q
      simp at h2 h1
      subst h2; subst h1
      exact List.mem_cons_self
    · rw [if_neg e] at h1
      refine List.mem_cons_of_mem _ (List.mem_filter.mpr ⟨(eg_lo_mem lo 0).mpr ⟨k, h1, h2⟩, ?_⟩)
      have hc : q.2.category = 1 := h.2.1 _ (List.mem_of_getElem? h1)
      have : ¬ q.1 = i := by omega
      simp [this, hc]
  · rcases List.mem_or_eq_of_mem_set hw with h1 | h1
    · exact h.2.1 w h1
    · cases h1
      exact hv
/-- what holds in a frame of method y -/
def eg_F (E : eg_E) (p : Program) (s : State) (m : MethodId) (args : Array Value) (meth : Method) (c : Code) (y : eg_Mt) : Prop :=
  p.tables.exec = Jvm.exec ∧ c.code = y.2.1 ∧ meth.sig.returnType = y.2.2.2 ∧ c.maxLocals = y.2.2.1 ∧ s.vm.findClass y.1.cls = some m.cls ∧ meth.locks = false ∧ meth.name = y.1.name ∧ (∀ w ∈ eg_gw, w.before args s = true) ∧ eg_T E s
def eg_Qc (E : eg_E) (Q : Option Value → eg_G → eg_I → Prop) : Array Value → State → Outcome → State → Prop := fun _ s o t =>
  ∃ (r : Option Value) (G : eg_G) (M : eg_I), o = .returned r ∧ eg_R E G M t.heap ∧ Q r G M ∧ (∀ q, q < E.2.2.1 → t.heap[q]? = s.heap[q]?) ∧ E.2.2.1 ≤ t.heap.size
def eg_J (l : Launch) (E : eg_E) (y : eg_Mt) (d k n : Nat) (Q : Option Value → eg_G → eg_I → Prop) (pc : Nat) (lo : List (Option Value)) (st : List Value) (G : eg_G) (M : eg_I) : Prop :=
  ∀ (p : Program) (e : Env) (R : Room) (s : State) (m : MethodId) (args : Array Value) (below : List Frame) (meth : Method) (c : Code) (H : Heap) (locs : List Loc) (cells slots mc ms : Nat) (ls : Array Slot),
    eg_F E p s m args meth c y → eg_R E G M H → (∀ q, q < E.2.2.1 → H[q]? = s.heap[q]?) → E.2.2.1 ≤ H.size → (∀ q ∈ locs, E.2.2.1 ≤ q.base) → eg_has ls y.2.2.1 lo →
    d ≤ R.frames → d * 64 ≤ R.locals → mc ≤ R.cells → ms ≤ R.slots → cells + k ≤ mc → slots + n ≤ ms →
    W p l e R s m args below meth c H locs cells slots (MQ below (eg_Qc E Q) args s mc ms (fun q => E.2.2.1 ≤ q)) (F0 m pc ls st)
