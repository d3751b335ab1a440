/-! the words that a frame carries -/
def eg_gw : List Cond := lw_tbl.filter goodWord
theorem eg_gw_good : ∀ w ∈ eg_gw, goodWord w = true := fun _ h => (List.mem_filter.mp h).2
theorem eg_gw_tbl : ∀ w ∈ eg_gw, w ∈ lw_tbl := fun _ h => (List.mem_filter.mp h).1
theorem eg_in {w : Cond} (h : w ∈ lw_tbl) (g : goodWord w = true) : w ∈ eg_gw := List.mem_filter.mpr ⟨h, g⟩
theorem eg_inT {w : Cond} {i : Nat} (h : tables_1[i]? = some w) (g : goodWord w = true) : w ∈ eg_gw := eg_in (List.mem_append_right _ (List.mem_of_getElem? h)) g
theorem eg_inP {q : MethodName × Nat} {i : Nat} (h : lw_privs[i]? = some q) : Cond.selects q.1.cls q.1 q.1 ∈ eg_gw := eg_in (List.mem_append_left _ (List.mem_map.mpr ⟨q, List.mem_of_getElem? h, rfl⟩)) rfl
def eg_nest (w : Cond) : Bool := match w with
  | .fieldLinkNest _ _ _ _ _ _ => true
  | .methodLinkNest _ _ _ _ => true
  | _ => false
def eg_nw : List Cond := tables_1.filter eg_nest
theorem eg_nw_nest : ∀ w ∈ eg_nw, eg_nest w = true := fun _ h => (List.mem_filter.mp h).2
theorem eg_inN {w : Cond} {i : Nat} (h : tables_1[i]? = some w) (g : eg_nest w = true) : w ∈ eg_nw := List.mem_filter.mpr ⟨List.mem_of_getElem? h, g⟩
theorem eg_fty_ok : ∀ c j, eg_fty c j ≠ .long ∧ eg_fty c j ≠ .float ∧ eg_fty c j ≠ .double := by
  intro c j
  unfold eg_fty
  split <;> first | (unfold tyX0; split <;> decide) | (unfold tyX1; split <;> decide) | (unfold tyX2; split <;> decide) | (unfold tyX3; split <;> decide) | (unfold tyX4; split <;> decide) | exact ⟨by simp, by simp, by simp⟩
set_option maxRecDepth 20000 in
theorem eg_in_c0 : ∀ w ∈ u_ws RX0 TX0 12, w ∈ eg_gw := by
  intro w hw
  obtain ⟨k, hk, rfl⟩ := List.mem_map.mp hw
  have hk := List.mem_range.mp hk
  match k, hk with
  | 0, _ => exact eg_inT (i := 104) rfl rfl
  | 1, _ => exact eg_inT (i := 106) rfl rfl
  | 2, _ => exact eg_inT (i := 108) rfl rfl
  | 3, _ => exact eg_inT (i := 110) rfl rfl
  | 4, _ => exact eg_inT (i := 112) rfl rfl
  | 5, _ => exact eg_inT (i := 114) rfl rfl
  | 6, _ => exact eg_inT (i := 116) rfl rfl
  | 7, _ => exact eg_inT (i := 118) rfl rfl
  | 8, _ => exact eg_inT (i := 120) rfl rfl
  | 9, _ => exact eg_inT (i := 122) rfl rfl
  | 10, _ => exact eg_inT (i := 124) rfl rfl
  | 11, _ => exact eg_inT (i := 126) rfl rfl
  | k + 12, hk => exact absurd hk (by omega)
set_option maxRecDepth 20000 in
theorem eg_in_c1 : ∀ w ∈ u_ws RX1 TX1 5, w ∈ eg_gw := by
  intro w hw
  obtain ⟨k, hk, rfl⟩ := List.mem_map.mp hw
  have hk := List.mem_range.mp hk
  match k, hk with
  | 0, _ => exact eg_inT (i := 66) rfl rfl
  | 1, _ => exact eg_inT (i := 68) rfl rfl
  | 2, _ => exact eg_inT (i := 70) rfl rfl
  | 3, _ => exact eg_inT (i := 72) rfl rfl
  | 4, _ => exact eg_inT (i := 74) rfl rfl
  | k + 5, hk => exact absurd hk (by omega)
set_option maxRecDepth 20000 in
theorem eg_in_c2 : ∀ w ∈ u_ws RX2 TX2 6, w ∈ eg_gw := by
  intro w hw
  obtain ⟨k, hk, rfl⟩ := List.mem_map.mp hw
  have hk := List.mem_range.mp hk
  match k, hk with
  | 0, _ => exact eg_inT (i := 34) rfl rfl
  | 1, _ => exact eg_inT (i := 36) rfl rfl
  | 2, _ => exact eg_inT (i := 38) rfl rfl
  | 3, _ => exact eg_inT (i := 40) rfl rfl
  | 4, _ => exact eg_inT (i := 42) rfl rfl
  | 5, _ => exact eg_inT (i := 44) rfl rfl
  | k + 6, hk => exact absurd hk (by omega)
set_option maxRecDepth 20000 in
theorem eg_in_c3 : ∀ w ∈ u_ws RX3 TX3 8, w ∈ eg_gw := by
  intro w hw
  obtain ⟨k, hk, rfl⟩ := List.mem_map.mp hw
  have hk := List.mem_range.mp hk
  match k, hk with
  | 0, _ => exact eg_inT (i := 142) rfl rfl
  | 1, _ => exact eg_inT (i := 144) rfl rfl
  | 2, _ => exact eg_inT (i := 146) rfl rfl
  | 3, _ => exact eg_inT (i := 148) rfl rfl
  | 4, _ => exact eg_inT (i := 150) rfl rfl
  | 5, _ => exact eg_inT (i := 152) rfl rfl
  | 6, _ => exact eg_inT (i := 154) rfl rfl
  | 7, _ => exact eg_inT (i := 156) rfl rfl
  | k + 8, hk => exact absurd hk (by omega)
set_option maxRecDepth 20000 in
theorem eg_in_c4 : ∀ w ∈ u_ws RX4 TX4 33, w ∈ eg_gw := by
  intro w hw
  obtain ⟨k, hk, rfl⟩ := List.mem_map.mp hw
  have hk := List.mem_range.mp hk
  match k, hk with
  | 0, _ => exact eg_inT (i := 437) rfl rfl
  | 1, _ => exact eg_inT (i := 439) rfl rfl
  | 2, _ => exact eg_inT (i := 441) rfl rfl
  | 3, _ => exact eg_inT (i := 443) rfl rfl
  | 4, _ => exact eg_inT (i := 445) rfl rfl
  | 5, _ => exact eg_inT (i := 447) rfl rfl
  | 6, _ => exact eg_inT (i := 449) rfl rfl
  | 7, _ => exact eg_inT (i := 451) rfl rfl
  | 8, _ => exact eg_inT (i := 453) rfl rfl
  | 9, _ => exact eg_inT (i := 455) rfl rfl
  | 10, _ => exact eg_inT (i := 457) rfl rfl
  | 11, _ => exact eg_inT (i := 459) rfl rfl
  | 12, _ => exact eg_inT (i := 461) rfl rfl
  | 13, _ => exact eg_inT (i := 463) rfl rfl
  | 14, _ => exact eg_inT (i := 465) rfl rfl
  | 15, _ => exact eg_inT (i := 467) rfl rfl
  | 16, _ => exact eg_inT (i := 469) rfl rfl
  | 17, _ => exact eg_inT (i := 471) rfl rfl
  | 18, _ => exact eg_inT (i := 473) rfl rfl
  | 19, _ => exact eg_inT (i := 475) rfl rfl
  | 20, _ => exact eg_inT (i := 477) rfl rfl
  | 21, _ => exact eg_inT (i := 479) rfl rfl
  | 22, _ => exact eg_inT (i := 481) rfl rfl
  | 23, _ => exact eg_inT (i := 483) rfl rfl
  | 24, _ => exact eg_inT (i := 485) rfl rfl
  | 25, _ => exact eg_inT (i := 487) rfl rfl
  | 26, _ => exact eg_inT (i := 489) rfl rfl
  | 27, _ => exact eg_inT (i := 491) rfl rfl
  | 28, _ => exact eg_inT (i := 493) rfl rfl
  | 29, _ => exact eg_inT (i := 495) rfl rfl
  | 30, _ => exact eg_inT (i := 497) rfl rfl
  | 31, _ => exact eg_inT (i := 499) rfl rfl
  | 32, _ => exact eg_inT (i := 501) rfl rfl
  | k + 33, hk => exact absurd hk (by omega)
theorem eg_cl_ok : ∀ (c : Nat) (q : vw_C), classes[c]? = some q → (∀ w ∈ u_ws q.1 q.2.1 q.2.2, w ∈ eg_gw) ∧ (∀ k, k < q.2.2 → parseFieldDescriptor (q.2.1 k).2.2.1 = some (eg_fty c k)) ∧ (∀ a, a < q.2.2 → ∀ b, b < q.2.2 → a ≠ b → (q.2.1 a).2.1 ≠ (q.2.1 b).2.1) := by
  intro c q hq
  match c, hq with
  | 0, hq => cases hq; exact ⟨eg_in_c0, tyX0_ok, nmX0⟩
  | 1, hq => cases hq; exact ⟨eg_in_c1, tyX1_ok, nmX1⟩
  | 2, hq => cases hq; exact ⟨eg_in_c2, tyX2_ok, nmX2⟩
  | 3, hq => cases hq; exact ⟨eg_in_c3, tyX3_ok, nmX3⟩
  | 4, hq => cases hq; exact ⟨eg_in_c4, tyX4_ok, nmX4⟩
  | c + 5, hq => simp [classes] at hq
