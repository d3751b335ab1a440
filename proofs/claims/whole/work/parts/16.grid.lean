/-! new int[N][K] -/
def mg_out (N h0 i : Nat) : Nat → Value := fun j => if j < i then .ref (h0 + 1 + j) else .null
def mg_fill (s : State) (cA cI : ClassId) (N K : Nat) : Nat → State
  | 0 => s.pushCell (arrV cA N (mg_out N s.heap.size 0))
  | i + 1 => ((mg_fill s cA cI N K i).pushCell (arrV cI K (fun _ => .int 0))).setCell s.heap.size (arrV cA N (mg_out N s.heap.size (i + 1)))
theorem mg_facts (s : State) (cA cI : ClassId) (N K : Nat) : ∀ i, (mg_fill s cA cI N K i).heap.size = s.heap.size + 1 + i ∧ (mg_fill s cA cI N K i).heap[s.heap.size]? = some (arrV cA N (mg_out N s.heap.size i)) ∧ (mg_fill s cA cI N K i).vm = s.vm ∧ (mg_fill s cA cI N K i).slotsUsed = s.slotsUsed + N + i * K
  | 0 => ⟨by simp [mg_fill], by simp [mg_fill], rfl, by simp [mg_fill, arrV]⟩
  | i + 1 => by
    obtain ⟨a, b, c, u⟩ := mg_facts s cA cI N K i
    have hlt : s.heap.size < (mg_fill s cA cI N K i).heap.size := by omega
    have hb : ((mg_fill s cA cI N K i).pushCell (arrV cI K (fun _ => .int 0))).heap[s.heap.size]? = some (arrV cA N (mg_out N s.heap.size i)) := by rw [State.heap_pushCell_of_lt (h := hlt)]; exact b
    refine ⟨?_, State.heap_setCell_self hb, by simp [mg_fill, c], ?_⟩
    · simp [mg_fill, State.setCell, a]; omega
    · simp [mg_fill, u, arrV, Nat.succ_mul]; omega
theorem mg_setTop (s : State) (f : JFrame) (cA cI : ClassId) (N K : Nat) : ∀ i, mg_fill (s.setTop f) cA cI N K i = (mg_fill s cA cI N K i).setTop f
  | 0 => rfl
  | i + 1 => by simp only [mg_fill, mg_setTop s f cA cI N K i, State.heap_setTop, State.pushCell_setTop, State.setCell_setTop]
theorem mg_old (s : State) (cA cI : ClassId) (N K : Nat) {a : Addr} (ha : a < s.heap.size) : ∀ i, (mg_fill s cA cI N K i).heap[a]? = s.heap[a]?
  | 0 => State.heap_pushCell_of_lt _ _ ha
  | i + 1 => by
    have f1 := (mg_facts s cA cI N K i).1
    have hlt : a < (mg_fill s cA cI N K i).heap.size := Nat.lt_of_lt_of_le ha (by rw [f1]; omega)
    show (((mg_fill s cA cI N K i).pushCell _).setCell s.heap.size _).heap[a]? = _
    rw [State.heap_setCell_other (Nat.ne_of_gt ha), State.heap_pushCell_of_lt (h := hlt)]
    exact mg_old s cA cI N K ha i
theorem mg_inner (s : State) (cA cI : ClassId) (N K : Nat) : ∀ i j, j < i → (mg_fill s cA cI N K i).heap[s.heap.size + 1 + j]? = some (arrV cI K (fun _ => .int 0))
  | 0, _, h => absurd h (Nat.not_lt_zero _)
  | i + 1, j, h => by
    have f1 := (mg_facts s cA cI N K i).1
    show (((mg_fill s cA cI N K i).pushCell _).setCell s.heap.size _).heap[s.heap.size + 1 + j]? = _
    rw [State.heap_setCell_other (show s.heap.size ≠ s.heap.size + 1 + j by omega)]
    rcases Nat.lt_or_ge j i with hj | hj
    · have hlt : s.heap.size + 1 + j < (mg_fill s cA cI N K i).heap.size := by rw [f1]; omega
      rw [State.heap_pushCell_of_lt (h := hlt)]
      exact mg_inner s cA cI N K i j hj
    · have e : j = i := by omega
      subst e
      rw [← f1]
      exact State.heap_pushCell_size _ _
theorem mg_next (cA : ClassId) (N h0 i : Nat) : (arrV cA N (mg_out N h0 i)).setSlot i (.ref (h0 + 1 + i)) = arrV cA N (mg_out N h0 (i + 1)) := by
  rw [arrV_store]
  congr 1
  funext j
  unfold updV mg_out
  by_cases e : j = i
  · subst e; simp
  · by_cases h : j < i
    · simp [e, h, Nat.lt_succ_of_lt h]
    · simp [e, h, show ¬ j < i + 1 by omega]
section MG
variable {E : CtlPost} {e : Env} {d : Bool} {acts : List Action} {s : State}
theorem mg_newArray {c comp : ClassId} {k : Class} {type : FieldType} {len : Nat} {init : Value} (hk : s.vm.classes[c]? = some k) (hkind : k.kind = .array comp type)
    (hlimit : ¬ len > e.platform.arrayLengthLimit) (hheap : ¬ len * componentBytes type > e.platform.maxHeapBytes) (hfit : fits type init = true) (hdef : init.isDefault = true) {Q : Addr → Pre}
    (h1 : s.heap.size < e.platform.maxCells) (h2 : s.slotsUsed + len ≤ e.platform.maxSlots) (hq : Q s.heap.size d acts (s.pushCell (arrV c len (fun _ => init)))) : wp (Jvm.newArray c len init) Q E e d acts s := by
  have hfits : ∀ i v, (Array.replicate len init)[i]? = some v → s.fitsSlot c .none i v = true := by
    intro i v hv
    rw [Array.getElem?_replicate] at hv
    split at hv
    · cases hv
      simp [State.fitsSlot, State.slotType?, hk, hkind, hfit]
    · cases hv
  have hda : allocActs (Array.replicate len init) s.heap.size acts = acts := by
    have hall : ((Array.replicate len init).all (·.isDefault)) = true := by
      rw [Array.all_replicate]
      split <;> simp [hdef]
    unfold allocActs
    rw [if_pos hall]
  rw [← arrV_new] at hq
  simp only [Jvm.newArray, Jvm.arrayFits, wp_bind', W.ask, W.ite, hlimit, if_false, wp_pure', W.theClass, hk, hkind, hheap, W.alloc, W.stop, Option.some.injEq, exists_eq_left', Array.size_replicate, hda]
  rw [if_neg (by omega)]
  exact ⟨h1, h2, hfits, hq⟩
theorem mg_make2 {cA cI cc : ClassId} {k kc : Class} {n m : Int32} (hk : s.vm.classes[cA]? = some k) (hkind : k.kind = .array cI (.array .int)) (hkc : s.vm.classes[cI]? = some kc) (hkindc : kc.kind = .array cc .int) (hn : ¬ n < 0) (hm : ¬ m < 0)
    (hl1 : ¬ n.toNatClampNeg > e.platform.arrayLengthLimit) (hh1 : ¬ n.toNatClampNeg * componentBytes (.array .int) > e.platform.maxHeapBytes) (hl2 : ¬ m.toNatClampNeg > e.platform.arrayLengthLimit) (hh2 : ¬ m.toNatClampNeg * componentBytes .int > e.platform.maxHeapBytes)
    (hc : s.heap.size + 1 + n.toNatClampNeg ≤ e.platform.maxCells) (hs : s.slotsUsed + n.toNatClampNeg + n.toNatClampNeg * m.toNatClampNeg ≤ e.platform.maxSlots)
    {Q : Addr → Pre} (hq : ∀ d' acts', Q s.heap.size d' acts' (mg_fill s cA cI n.toNatClampNeg m.toNatClampNeg n.toNatClampNeg)) : wp (multianewarray.make cA [n, m]) Q E e d acts s := by
  have hfind : ([m].find? (· < 0)) = none := by simp [hm]
  rw [multianewarray.make]
  simp only [wp_bind', W.ite, hn, if_false, wp_pure', W.theClass, hk, hkind, Option.some.injEq, exists_eq_left']
  refine mg_newArray hk hkind hl1 hh1 rfl rfl (by omega) (by have := Nat.zero_le (n.toNatClampNeg * m.toNatClampNeg); omega) ?_
  simp only [hfind]
  rw [ite_self, wp_bind', Std.Legacy.Range.forIn_eq_forIn_range']
  have hsz : ([:n.toNatClampNeg] : Std.Legacy.Range).size = n.toNatClampNeg := by simp [Std.Legacy.Range.size]
  rw [hsz]
  show wp (forIn (List.range' 0 n.toNatClampNeg 1) PUnit.unit _) _ E e d acts _
  refine wp_forIn_inv (fun rest s' => ∃ i, i ≤ n.toNatClampNeg ∧ rest = List.range' i (n.toNatClampNeg - i) ∧ s' = mg_fill s cA cI n.toNatClampNeg m.toNatClampNeg i) _ _ ⟨0, Nat.zero_le _, rfl, rfl⟩ ?_ ?_
  · rintro x rest s' d' acts' Q' ⟨i, hi, hl, rfl⟩ hnext
    have hlt : i < n.toNatClampNeg := by
      rcases Nat.lt_or_ge i n.toNatClampNeg with h | h
      · exact h
      · rw [show n.toNatClampNeg - i = 0 from by omega] at hl
        simp at hl
    obtain ⟨rfl, hrest⟩ : x = i ∧ rest = List.range' (i + 1) (n.toNatClampNeg - (i + 1)) := by
      rw [show n.toNatClampNeg - i = (n.toNatClampNeg - (i + 1)) + 1 from by omega, List.range'_succ] at hl
      exact ⟨(List.cons.inj hl).1, (List.cons.inj hl).2⟩
    obtain ⟨f1, f2, f3, f4⟩ := mg_facts s cA cI n.toNatClampNeg m.toNatClampNeg x
    have hmul : x * m.toNatClampNeg + m.toNatClampNeg ≤ n.toNatClampNeg * m.toNatClampNeg := by
      have := Nat.mul_le_mul_right m.toNatClampNeg (show x + 1 ≤ n.toNatClampNeg from hlt)
      rw [Nat.succ_mul] at this
      exact this
    simp only [wp_bind']
    rw [multianewarray.make]
    simp only [wp_bind', W.ite, hm, if_false, wp_pure', W.theClass, f3, hkc, hkindc, Option.some.injEq, exists_eq_left']
    refine mg_newArray (by rw [f3]; exact hkc) hkindc hl2 hh2 rfl rfl (by rw [f1]; omega) (by rw [f4]; omega) ?_
    have hlt0 : s.heap.size < (mg_fill s cA cI n.toNatClampNeg m.toNatClampNeg x).heap.size := by rw [f1]; omega
    simp only [wp_bind', W.writeLoc, wp_pure']
    refine ⟨arrV cA n.toNatClampNeg (mg_out n.toNatClampNeg s.heap.size x), by rw [State.heap_pushCell_of_lt (h := hlt0)]; exact f2, by simp [arrV], by rw [arrV_size]; exact hlt, ?_, hnext _ _ _ ⟨x + 1, hlt, hrest, ?_⟩⟩
    · simp [State.fitsSlot, State.slotType?, f3, hk, hkind, arrV, fits]
    · rw [f1, mg_next]
      rfl
  · rintro s' d' acts' ⟨i, hi, hl, rfl⟩
    have hiN : i = n.toNatClampNeg := by
      rcases Nat.lt_or_ge i n.toNatClampNeg with h | h
      · rw [show n.toNatClampNeg - i = (n.toNatClampNeg - (i + 1)) + 1 from by omega, List.range'_succ] at hl
        cases hl
      · omega
    subst hiN
    simp only [wp_pure']
    exact hq _ _
end MG
section MGS
variable {p : Program} {l : Launch} {e : Env} {R : Room} {s : State} {m : MethodId} {args : Array Value} {below : List Frame} {meth : Method} {c : Code} {T : State} {locs : List Loc} {cells slots : Nat}
theorem mg_stand (X : Stand p l e R s m args below meth c T locs cells slots) (cA cI : ClassId) (N K : Nat) : ∀ i, Stand p l e R s m args below meth c (mg_fill T cA cI N K i) (locs ++ (List.range i).map fun j => ⟨T.heap.size, j⟩) (cells + 1 + i) (slots + N + i * K)
  | 0 => by
    have h := X.pushed (arrV cA N (mg_out N T.heap.size 0))
    rw [arrV_size] at h
    simpa [mg_fill] using h
  | i + 1 => by
    have Xi := mg_stand X cA cI N K i
    obtain ⟨f1, f2, f3, f4⟩ := mg_facts T cA cI N K i
    have hlt0 : T.heap.size < (mg_fill T cA cI N K i).heap.size := by rw [f1]; omega
    have hcell : ((mg_fill T cA cI N K i).pushCell (arrV cI K (fun _ => .int 0))).heap[T.heap.size]? = some (arrV cA N (mg_out N T.heap.size i)) := by rw [State.heap_pushCell_of_lt (h := hlt0)]; exact f2
    have h := (Xi.pushed (arrV cI K (fun _ => .int 0))).stored hcell i (.ref (T.heap.size + 1 + i))
    rw [arrV_size, mg_next] at h
    have e2 : (locs ++ (List.range (i + 1)).map fun j => (⟨T.heap.size, j⟩ : Loc)) = (locs ++ (List.range i).map fun j => (⟨T.heap.size, j⟩ : Loc)) ++ [⟨T.heap.size, i⟩] := by simp [List.range_succ, List.append_assoc]
    have e3 : slots + N + (i + 1) * K = slots + N + i * K + K := by rw [Nat.succ_mul]; omega
    rw [e2, e3]
    exact h
theorem mg_run (X : Stand p l e R s m args below meth c T locs cells slots) (hexec : p.tables.exec = Jvm.exec) {own : String} {index : Nat} {cA cI cc : ClassId} {kA kI : Class} (hown : s.vm.findClass own = some m.cls) (hclink : (Cond.classLink own index "[[I").before args s = true)
    (hnA : s.vm.findClass "[[I" = some cA) (hkA : s.vm.classes[cA]? = some kA) (hkindA : kA.kind = .array cI (.array .int)) (hkI : s.vm.classes[cI]? = some kI) (hkindI : kI.kind = .array cc .int)
    {g : JFrame} (hg : g.method = m) (hdg : decode c.code g.pc = .ok (.multianewarray index 2, 4)) {n k : Int32} {rest : List Value} (hstack : g.stack = .int k :: .int n :: rest)
    (hn : ¬ n < 0) (hk : ¬ k < 0) (hb1 : n.toNatClampNeg ≤ 65536) (hb2 : k.toNatClampNeg ≤ 65536) (hcells : cells + (1 + n.toNatClampNeg) ≤ R.cells) (hslots : slots + (n.toNatClampNeg + n.toNatClampNeg * k.toNatClampNeg) ≤ R.slots) :
    ∃ vm₁ : Vm, s.WarmedH vm₁ ∧ Stand p l e R s m args below meth c (mg_fill (T.setVm vm₁) cA cI n.toNatClampNeg k.toNatClampNeg n.toNatClampNeg) (locs ++ (List.range n.toNatClampNeg).map fun j => ⟨T.heap.size, j⟩) (cells + 1 + n.toNatClampNeg) (slots + n.toNatClampNeg + n.toNatClampNeg * k.toNatClampNeg) ∧
      ∀ target, Steps p.tables e below ((mg_fill (T.setVm vm₁) cA cI n.toNatClampNeg k.toNatClampNeg n.toNatClampNeg).setTop { g with pc := g.pc + 4, stack := .ref T.heap.size :: rest }) target → Steps p.tables e below (T.setTop g) target := by
  subst hg
  have hpl : e.platform.magicAccessors = ({} : Platform).magicAccessors := by rw [X.admits.platform]
  obtain ⟨c0, hfc0, hcl⟩ := Cond.classLink_spec hown hclink e.platform hpl
  cases hnA.symm.trans hfc0
  obtain ⟨hg₁, hwarm₁, hready₁⟩ := State.classEntry (e := e) X.warmed hcl
  generalize T.vm.noted g.method.cls index (.cls cA) = vm₁ at hg₁ hwarm₁ hready₁
  have hal : s.vm.Alike vm₁ := hwarm₁.alike
  obtain ⟨kA₁, hkA₁, heA⟩ := hal.2.2 _ _ hkA
  obtain ⟨kI₁, hkI₁, heI⟩ := hal.2.2 _ _ hkI
  have hkindA₁ : kA₁.kind = .array cI (.array .int) := by rw [heA]; exact hkindA
  have hkindI₁ : kI₁.kind = .array cc .int := by rw [heI]; exact hkindI
  have X₁ := X.noted hwarm₁
  obtain ⟨hr1, hr2⟩ := X.roomAbove hcells hslots
  refine ⟨vm₁, hwarm₁, mg_stand X₁ cA cI _ _ _, fun target hrest => ?_⟩
  have hl1 : ¬ n.toNatClampNeg > e.platform.arrayLengthLimit := by rw [Launch.admits_arrayLengthLimit X.admits]; omega
  have hh1 : ¬ n.toNatClampNeg * componentBytes (.array .int) > e.platform.maxHeapBytes := by rw [Launch.admits_maxHeapBytes X.admits]; show ¬ n.toNatClampNeg * 4 > 536870912; omega
  have hl2 : ¬ k.toNatClampNeg > e.platform.arrayLengthLimit := by rw [Launch.admits_arrayLengthLimit X.admits]; omega
  have hh2 : ¬ k.toNatClampNeg * componentBytes .int > e.platform.maxHeapBytes := by rw [Launch.admits_maxHeapBytes X.admits]; show ¬ k.toNatClampNeg * 4 > 536870912; omega
  jvm_step X.here [hexec, hdg]
  simp only [multianewarray.sem, wp_bind', W.resolveClassAt_links (State.method?_setTop g X.here.top) hg₁]
  rw [W.popN, if_neg (by decide)]
  refine ⟨g, State.topJava?_setTop' (s := T.setVm vm₁) g X.here.top, [.int n, .int k], rest, rfl, hstack, ?_⟩
  simp only [List.mapM_cons, List.mapM_nil, wp_bind', wp_pure']
  refine mg_make2 (k := kA₁) (kc := kI₁) (cc := cc) hkA₁ hkindA₁ hkI₁ hkindI₁ hn hk hl1 hh1 hl2 hh2 (by show T.heap.size + 1 + _ ≤ _; omega) (by show T.slotsUsed + _ + _ ≤ _; omega) (fun d' acts' => ?_)
  have XF := mg_stand X₁ cA cI n.toNatClampNeg k.toNatClampNeg n.toNatClampNeg
  have eS : ((T.setTop g).setVm vm₁).setTop { g with stack := rest } = (T.setVm vm₁).setTop { g with stack := rest } := by
    show ((T.setVm vm₁).setTop g).setTop _ = _
    rw [State.setTop_setTop]
  rw [eS, mg_setTop]
  simp only [wp_bind', W.mark, W.pushRef, State.topJava?_setTop' _ XF.here.top, Option.some.injEq, exists_eq_left', State.setTop_setTop, State.heap_setTop]
  intro acts
  simp [jvm, XF.here.top]
  exact hrest
end MGS
/-- the memory behind new int[N][K] -/
def eg_gridG (G : eg_G) (N K : Nat) : eg_G := (G.1 + 1 + N, fun q => if q = G.1 then some (.inr (.array .int, N)) else if G.1 < q ∧ q ≤ G.1 + N then some (.inr (.int, K)) else G.2.1 q, fun q j => if q = G.1 then (if j < N then some (G.1 + 1 + j) else none) else G.2.2 q j)
def eg_gridM (M : eg_I) (a N : Nat) : eg_I := fun q j => if a ≤ q ∧ q ≤ a + N then 0 else M q j
theorem eg_mna {l : Launch} {E : eg_E} {y : eg_Mt} {d k n pc : Nat} {Q : Option Value → eg_G → eg_I → Prop} {lo : List (Option Value)} {st : List Value} {G : eg_G} {M : eg_I} {N K idx : Nat}
    (hw : Cond.classLink y.1.cls idx "[[I" ∈ eg_gw) (hN : N ≤ 65536) (hK : K ≤ 65536) (hk1 : 1 + N ≤ k) (hn1 : N + N * K ≤ n) (hd : decode y.2.1 pc = .ok (.multianewarray idx 2, 4))
    (kk : eg_J l E y d (k - (1 + N)) (n - (N + N * K)) Q (pc + 4) lo (.ref G.1 :: st) (eg_gridG G N K) (eg_gridM M G.1 N)) : eg_J l E y d k n Q pc lo (.int (nI K) :: .int (nI N) :: st) G M := by
  intro p e R s m args below meth c H locs cells slots mc ms ls hF hR hQ hz hL hl h1 h2 h3 h4 h5 h6
  obtain ⟨hx, hb, hr, hml, hown, hlk0, hnm, hgw, hT⟩ := id hF
  obtain ⟨-, hT2, -, -, -, -, kA, hkA, hkindA⟩ := hT
  obtain ⟨-, kI, hkI, cc, hkindI⟩ := (hT2 .int (by decide)).1 0 (fun _ => .int 0)
  have hnA : s.vm.findClass "[[I" = some (E.2.1 (.array .int)) := (hT2 (.array .int) (by decide)).2
  have zN : (nI N).toNatClampNeg = N := nI_clamp (by omega)
  have zK : (nI K).toNatClampNeg = K := nI_clamp (by omega)
  have hs : G.1 = H.size := hR.1
  intro T hTh X
  obtain ⟨vm₁, hW, X', step⟩ := mg_run X hx hown (hgw _ hw) hnA hkA hkindA hkI hkindI (g := F0 m pc ls (.int (nI K) :: .int (nI N) :: st)) rfl (by rw [hb]; exact hd) rfl (nI_pos (by omega)) (nI_pos (by omega)) (by rw [zN]; exact hN) (by rw [zK]; exact hK) (by rw [zN]; omega) (by rw [zN, zK]; omega)
  rw [zN, zK] at X' step
  have hTv : (T.setVm vm₁).heap = H := hTh
  obtain ⟨f1, f2, -, -⟩ := mg_facts (T.setVm vm₁) (E.2.1 (.array .int)) (E.2.1 .int) N K N
  have fo : ∀ q : Nat, q < H.size → (mg_fill (T.setVm vm₁) (E.2.1 (.array .int)) (E.2.1 .int) N K N).heap[q]? = H[q]? := fun q hq => by
    rw [mg_old _ _ _ _ _ (by rw [hTv]; exact hq), hTv]
  have fi : ∀ j : Nat, j < N → (mg_fill (T.setVm vm₁) (E.2.1 (.array .int)) (E.2.1 .int) N K N).heap[H.size + 1 + j]? = some (arrV (E.2.1 .int) K (fun _ => .int 0)) := fun j hj => by
    have := mg_inner (T.setVm vm₁) (E.2.1 (.array .int)) (E.2.1 .int) N K N j hj
    rw [hTv] at this
    exact this
  rw [hTv] at f1 f2
  generalize mg_fill (T.setVm vm₁) (E.2.1 (.array .int)) (E.2.1 .int) N K N = F at X' step f1 f2 fo fi
  have hRF : eg_R E (eg_gridG G N K) (eg_gridM M G.1 N) F.heap := by
    refine ⟨by show G.1 + 1 + N = _; rw [f1, hs], fun q ci hq => ?_, fun q ty nn hq => ?_⟩
    · have hq' : (if q = G.1 then some (Sum.inr (FieldType.array FieldType.int, N)) else if G.1 < q ∧ q ≤ G.1 + N then some (Sum.inr (FieldType.int, K)) else G.2.1 q) = some (.inl ci) := hq
      by_cases e1 : q = G.1
      · rw [if_pos e1] at hq'; cases hq'
      · rw [if_neg e1] at hq'
        by_cases e2 : G.1 < q ∧ q ≤ G.1 + N
        · rw [if_pos e2] at hq'; cases hq'
        · rw [if_neg e2] at hq'
          obtain ⟨b1, r, b2, b3⟩ := hR.2.1 q ci hq'
          have hlt := hR.lt hq'
          refine ⟨b1, r, b2, ?_⟩
          have := b3.kept (fo q hlt)
          simpa [eg_gridG, eg_gridM, e1, show ¬ (G.1 ≤ q ∧ q ≤ G.1 + N) by omega] using this
    · have hq' : (if q = G.1 then some (Sum.inr (FieldType.array FieldType.int, N)) else if G.1 < q ∧ q ≤ G.1 + N then some (Sum.inr (FieldType.int, K)) else G.2.1 q) = some (.inr (ty, nn)) := hq
      by_cases e1 : q = G.1
      · rw [if_pos e1] at hq'
        cases hq'
        refine ⟨by omega, by decide, ?_⟩
        rw [e1, hs, f2]
        congr 2
        funext j
        simp only [eg_gridG, hs]
        rw [eg_v_ref rfl]
        unfold mg_out
        by_cases hj : j < N
        · simp [hj, va_rf]
        · simp [hj, va_rf]
      · rw [if_neg e1] at hq'
        by_cases e2 : G.1 < q ∧ q ≤ G.1 + N
        · rw [if_pos e2] at hq'
          cases hq'
          refine ⟨by omega, by decide, ?_⟩
          have := fi (q - (H.size + 1)) (by omega)
          rw [show H.size + 1 + (q - (H.size + 1)) = q by omega] at this
          rw [this]
          congr 2
          funext j
          rw [eg_v_int rfl]
          simp [eg_gridM, show G.1 ≤ q ∧ q ≤ G.1 + N by omega]
        · rw [if_neg e2] at hq'
          obtain ⟨b1, b2, b3⟩ := hR.2.2 q ty nn hq'
          have hlt := hR.lt hq'
          refine ⟨b1, b2, ?_⟩
          rw [fo q hlt]
          simpa [eg_gridG, eg_gridM, e1, show ¬ (G.1 ≤ q ∧ q ≤ G.1 + N) by omega] using b3
  obtain ⟨t, a1, b1⟩ := kk p e R s m args below meth c F.heap _ (cells + 1 + N) (slots + N + N * K) mc ms ls hF hRF (fun q hq => by rw [fo q (by omega)]; exact hQ q hq) (by rw [f1]; omega) (t_lL hL (fun q hq => by
    obtain ⟨w, -, hw⟩ := List.mem_map.mp hq
    rw [← hw]
    show E.2.2.1 ≤ T.heap.size
    rw [hTh]
    exact hz)) hl h1 h2 h3 h4 (by omega) (by omega) F rfl X'
  refine ⟨t, step t ?_, b1⟩
  have e : T.heap.size = G.1 := by rw [hTh, hs]
  rw [e]
  exact a1
