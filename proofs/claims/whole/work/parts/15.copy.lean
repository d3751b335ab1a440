/-! System.arraycopy of ints from place 0 to place 0 -/
def eg_cpy (M : eg_I) (src dst cnt : Nat) : eg_I := fun q j => if q = dst ∧ j < cnt then M src j else M q j
theorem eg_copy0 {l : Launch} {E : eg_E} {y : eg_Mt} {d k n pc : Nat} {Q : Option Value → eg_G → eg_I → Prop} {lo : List (Option Value)} {st : List Value} {G : eg_G} {M : eg_I} {src dst N0 N1 cnt idx : Nat}
    (hw : Cond.methodLink y.1.cls idx arraycopyName ∈ eg_gw ∧ Cond.native arraycopyName ∈ eg_gw ∧ Cond.static arraycopyName ∈ eg_gw ∧ Cond.initialized "java/lang/System" ∈ eg_gw)
    (g0 : G.2.1 src = some (.inr (.int, N0))) (g1 : G.2.1 dst = some (.inr (.int, N1))) (c0 : cnt ≤ N0) (c1 : cnt ≤ N1) (hN : cnt < 65536) (hsum : (st.map fun v => v.category).sum ≤ 8) (hd1 : 1 ≤ d) (hd : decode y.2.1 pc = .ok (.invokestatic idx, 3))
    (kk : eg_J l E y d k n Q (pc + 3) lo st G (eg_cpy M src dst cnt)) : eg_J l E y d k n Q pc lo (.int (nI cnt) :: .int 0 :: .ref dst :: .int 0 :: .ref src :: st) G M := by
  intro p e R s m args below meth c H locs cells slots mc ms ls hF hR hQ hz hL hl h1 h2 h3 h4 h5 h6
  obtain ⟨hx, hb, hr, hml, hown, hlk0, hnm, hgw, hT⟩ := id hF
  obtain ⟨hB0, ha0, hc0⟩ := hR.2.2 src _ N0 g0
  obtain ⟨hB1, ha1, hc1⟩ := hR.2.2 dst _ N1 g1
  have e0 : (fun j => eg_v .int (G.2.2 src j) (M src j)) = fun j => Value.int (M src j) := by funext j; exact eg_v_int rfl
  have e1 : (fun j => eg_v .int (G.2.2 dst j) (M dst j)) = fun j => Value.int (M dst j) := by funext j; exact eg_v_int rfl
  rw [e0] at hc0
  rw [e1] at hc1
  have z0 : (0 : Int32).toNatClampNeg = 0 := rfl
  have zc : (nI cnt).toNatClampNeg = cnt := nI_clamp (by omega)
  intro T hT X
  obtain ⟨-, k0, hk0, cm0, hkk0⟩ := (hF.2.2.2.2.2.2.2.2.2.1 _ ha0).1 N0 (fun j => .int (M src j))
  obtain ⟨-, k1, hk1, cm1, hkk1⟩ := (hF.2.2.2.2.2.2.2.2.2.1 _ ha1).1 N1 (fun j => .int (M dst j))
  have hnf : nativeFrameWords "java/lang/System" "arraycopy" 5 ≤ 40 := by decide +kernel
  obtain ⟨vm', X', step⟩ := X.arraycopy hx hown (hgw _ hw.1) (hgw _ hw.2.1) (hgw _ hw.2.2.1) (hgw _ hw.2.2.2) (src := src) (dst := dst) (cs := arrV (E.2.1 .int) N0 (fun j => .int (M src j))) (cd := arrV (E.2.1 .int) N1 (fun j => .int (M dst j))) (srcPos := 0) (destPos := 0) (n := nI cnt) (by rw [hT]; exact hc0) (by rw [hT]; exact hc1)
    (fun _ h => by cases h) (fun _ h => by cases h) (fun h => by cases h) (fun h => by cases h) hk0 hk1 hkk0 hkk1 (by decide) (by decide) (by decide) (nI_pos (by omega))
    (by rw [arrV_size, nI_toInt (by omega)]; show ¬ ((0 : Int) + _ > _); omega) (by rw [arrV_size, nI_toInt (by omega)]; show ¬ ((0 : Int) + _ > _); omega)
    (fun vm₁ _ i hi => by
      rw [zc] at hi
      have e : (arrV (E.2.1 .int) N0 (fun j => .int (M src j))).slots.getD ((0 : Int32).toNatClampNeg + i) .null = .int (M src i) := by
        rw [z0, Nat.zero_add, Array.getD_eq_getD_getElem?, arrV_read _ _ (by omega)]
        rfl
      rw [e]
      exact ⟨rfl, trivial⟩)
    (g := F0 m pc ls (.int (nI cnt) :: .int 0 :: .ref dst :: .int 0 :: .ref src :: st)) rfl (by show ls.size = _; rw [hml]; exact hl.1.1) (rest := st) rfl (by rw [hb]; exact hd) (by omega) (by show 2 * 0 + _ + _ ≤ _; omega)
  have e2 : copied (arrV (E.2.1 .int) N0 (fun j => .int (M src j))) (arrV (E.2.1 .int) N1 (fun j => .int (M dst j))) 0 0 (nI cnt) = arrV (E.2.1 .int) N1 (fun j => .int (va_cpy (M src) (M dst) 0 0 cnt j)) := by
    have := va_copied (fun z => Value.int z) (E.2.1 .int) (E.2.1 .int) (n0 := N0) (n1 := N1) (sp := 0) (dp := 0) (n := cnt) (M src) (M dst) (by omega)
    unfold copied
    rw [z0, zc]
    exact this
  rw [e2] at X' step
  have hl1 : dst < H.size := (Array.getElem?_eq_some_iff.mp hc1).1
  generalize hce : arrV (E.2.1 .int) N1 (fun j => Value.int (va_cpy (M src) (M dst) 0 0 cnt j)) = ce at X' step
  have hheap : ((T.setVm vm').setCell dst ce).heap = H.setIfInBounds dst ce := by rw [← hT]; rfl
  have oq : ∀ q : Nat, q ≠ dst → (H.setIfInBounds dst ce)[q]? = H[q]? := fun q hq => by simp [Array.getElem?_setIfInBounds, Ne.symm hq]
  have od : (H.setIfInBounds dst ce)[dst]? = some ce := by simp [Array.getElem?_setIfInBounds, hl1]
  have oz : (H.setIfInBounds dst ce).size = H.size := by simp
  obtain ⟨t, a1, b1⟩ := kk p e R s m args below meth c (H.setIfInBounds dst ce) _ cells slots mc ms ls hF
    (hR.one (G' := G) (M' := eg_cpy M src dst cnt) oz oq rfl rfl (fun _ _ => rfl) (fun q h => by funext j; simp [eg_cpy, h]) (fun c2 hc2 => by rw [g1] at hc2; cases hc2) (fun ty n2 hc2 => by
      rw [g1] at hc2
      cases hc2
      rw [od, ← hce]
      congr 2
      funext j
      rw [eg_v_int rfl]
      by_cases hj : j < cnt
      · simp [eg_cpy, va_cpy, hj]
      · simp [eg_cpy, va_cpy, hj]))
    (fun q hq => by rw [oq q (by omega)]; exact hQ q hq) (by rw [oz]; exact hz) (t_lL hL (fun q hq => by
      obtain ⟨w, -, hw⟩ := List.mem_map.mp hq
      rw [← hw]
      exact hB1)) hl h1 h2 h3 h4 h5 h6 _ hheap X'
  exact ⟨t, step t a1, b1⟩
