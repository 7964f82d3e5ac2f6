/-! the invariant of the office -/
section PN1
abbrev sz (K : Kt) (G : Gt) (a0 i : Nat) : Nat := (K (gp G a0 i)).2
abbrev eo (G : Gt) (a0 i k : Nat) : Nat := el G (gp G a0 i) k
/-- the chests of all -/
def CS (K : Kt) (G : Gt) (a0 : Nat) : List Nat := [gp G a0 5, gp G a0 6, gp G a0 7, gp G a0 8] ++ ((List.range (sz K G a0 2)).map (fun i => gp G (eo G a0 2 i) 1) ++ (List.range (sz K G a0 1)).map (fun i => gp G (eo G a0 1 i) 3))
def DamOK (F : Ft) (d : Nat) : Prop := 0 < (F d 0).toInt ∧ (F d 0).toInt ≤ 3000 ∧ 0 ≤ (F d 2).toInt ∧ (F d 2).toInt ≤ (F d 1).toInt ∧ (F d 1).toInt ≤ (F d 0).toInt ∧ 0 ≤ (F d 3).toInt ∧ (F d 3).toInt ≤ (F d 0).toInt ∧ (F d 5).toInt = (F d 3).toInt * ((F d 1).toInt - (F d 2).toInt) / (F d 0).toInt ∧ (F d 6).toInt = (F d 3).toInt * (F d 2).toInt / (F d 0).toInt ∧ (F d 4).toInt = (F d 3).toInt - (F d 5).toInt - (F d 6).toInt
def ShipV (F : Ft) (G : Gt) (a0 s : Nat) : Prop := (0 ≤ (F s 10).toInt ∧ (F s 10).toInt ≤ (F s 2).toInt ∧ (F s 2).toInt ≤ 3000 ∧ (F s 7).toInt ≤ (F s 2).toInt) ∧ (0 ≤ (F s 3).toInt ∧ (F s 3).toInt ≤ (F a0 9).toInt) ∧
  ((F s 5 = 0 ∨ F s 5 = 1) ∧ (F s 11 = 0 ∨ F s 11 = 1) ∧ (F s 12 = 0 ∨ F s 12 = 1) ∧ (F s 13 = 0 ∨ F s 13 = 1) ∧ (F s 13 = 1 → F s 5 = 1)) ∧ (¬ G s 15 = none → 0 ≤ (F (gp G s 15) 1).toInt ∧ 0 ≤ (F (gp G s 15) 0).toInt) ∧
  (¬ G s 14 = none → F s 11 = 1 ∧ DamOK F (gp G s 14) ∧ (F (gp G s 14) 0).toInt = (F s 10).toInt + (F (gp G s 14) 3).toInt + (if G s 15 = none then 0 else (F (gp G s 15) 1).toInt))
def PolV (F : Ft) (p i : Nat) : Prop := F p 0 = nI i ∧ (50 ≤ (F p 2).toInt ∧ (F p 2).toInt ≤ 95) ∧ (0 ≤ (F p 4).toInt ∧ (F p 4).toInt ≤ 60) ∧ (F p 6 = 0 ∨ F p 6 = 1)
/-- what of the invariant speaks of references alone -/
def IK (X : Xt) (K : Kt) (G : Gt) (a0 : Nat) : Prop := Str X K G a0 ∧ (CS K G a0).Nodup ∧ (∀ i, i < sz K G a0 3 → ∃ j, j < sz K G a0 2 ∧ gp G (eo G a0 3 i) 1 = eo G a0 2 j) ∧
  (∀ i, i < sz K G a0 4 → (∃ j, j < sz K G a0 3 ∧ gp G (eo G a0 4 i) 0 = eo G a0 3 j) ∧ ∃ j, j < sz K G a0 1 ∧ gp G (eo G a0 4 i) 1 = eo G a0 1 j) ∧
  ∀ i j, i < sz K G a0 4 → j < sz K G a0 4 → ¬ G (eo G a0 4 i) 14 = none → G (eo G a0 4 i) 14 = G (eo G a0 4 j) 14 → eo G a0 4 i = eo G a0 4 j
/-- what of it speaks of numbers -/
def IV (B : Int) (K : Kt) (F : Ft) (G : Gt) (a0 : Nat) : Prop := Mon B F (CS K G a0) ∧ (∀ i, i < sz K G a0 1 → 0 ≤ (F (gp G (eo G a0 1 i) 3) 0).toInt) ∧ F (gp G a0 5) 0 = F a0 10 + F a0 12 - F a0 11 ∧ (∀ i, i < sz K G a0 3 → PolV F (eo G a0 3 i) i) ∧ (∀ i, i < sz K G a0 4 → ShipV F G a0 (eo G a0 4 i)) ∧ (0 ≤ (F a0 9).toInt ∧ (F a0 9).toInt ≤ 7200)
/-- what never goes back -/
def Mono (K : Kt) (F : Ft) (G : Gt) (F' : Ft) (G' : Gt) (a0 : Nat) : Prop := (∀ i, i < sz K G a0 4 → (F' (eo G a0 4 i) 10).toInt ≤ (F (eo G a0 4 i) 10).toInt ∧ (F (eo G a0 4 i) 11 = 1 → F' (eo G a0 4 i) 11 = 1) ∧ (F (eo G a0 4 i) 13 = 1 → F' (eo G a0 4 i) 13 = 1) ∧ F' (eo G a0 4 i) 5 = F (eo G a0 4 i) 5 ∧ (¬ G (eo G a0 4 i) 14 = none → ¬ G' (eo G a0 4 i) 14 = none) ∧ (¬ G (eo G a0 4 i) 15 = none → ¬ G' (eo G a0 4 i) 15 = none)) ∧ ∀ i, i < sz K G a0 3 → F (eo G a0 3 i) 6 = 1 → F' (eo G a0 3 i) 6 = 1
section
variable {X : Xt} {K : Kt} {F F' F'' : Ft} {G : Gt} {a0 : Nat} {B : Int}
theorem Mono.rf : Mono K F G F G a0 := ⟨fun _ _ => ⟨Int.le_refl _, id, id, rfl, id, id⟩, fun _ _ => id⟩
theorem Mono.tr (h1 : Mono K F G F' G a0) (h2 : Mono K F' G F'' G a0) : Mono K F G F'' G a0 := ⟨fun i hi => by
    obtain ⟨a1, a2, a3, a4, a5, a6⟩ := h1.1 i hi
    obtain ⟨b1, b2, b3, b4, b5, b6⟩ := h2.1 i hi
    exact ⟨Int.le_trans b1 a1, fun q => b2 (a2 q), fun q => b3 (a3 q), b4.trans a4, fun q => b5 (a5 q), fun q => b6 (a6 q)⟩, fun i hi q => h2.2 i hi (h1.2 i hi q)⟩
theorem IK.ship (h : IK X K G a0) {i : Nat} (hi : i < sz K G a0 4) : TShip K G (eo G a0 4 i) := h.1.1.2.2.2.2.2.1.2.el hi
theorem IK.pol (h : IK X K G a0) {i : Nat} (hi : i < sz K G a0 3) : TPol K G (eo G a0 3 i) := h.1.1.2.2.2.2.1.2.el hi
theorem IK.exp (h : IK X K G a0) {i : Nat} (hi : i < sz K G a0 2) : TExp K G (eo G a0 2 i) := h.1.1.2.2.2.1.2.el hi
theorem IK.buyer (h : IK X K G a0) {i : Nat} (hi : i < sz K G a0 1) : TBuyer K G (eo G a0 1 i) := h.1.1.2.2.1.2.el hi
theorem IK.land (h : IK X K G a0) {i : Nat} (hi : i < sz K G a0 0) : (K (eo G a0 0 i)).1 = 3 := h.1.1.2.1.2.el hi
theorem CS.kind (t : TMain K G a0) {c : Nat} (hc : c ∈ CS K G a0) : (K c).1 = 2 := by
  unfold CS at hc
  rcases List.mem_append.mp hc with h | h
  · simp only [List.mem_cons, List.not_mem_nil, or_false] at h
    rcases h with rfl | rfl | rfl | rfl
    · exact (t.chest (i := 5) (by decide) (by decide)).2
    · exact (t.chest (i := 6) (by decide) (by decide)).2
    · exact (t.chest (i := 7) (by decide) (by decide)).2
    · exact (t.chest (i := 8) (by decide) (by decide)).2
  · rcases List.mem_append.mp h with h | h
    · obtain ⟨i, hi, rfl⟩ := List.mem_map.mp h
      exact (t.2.2.2.1.2.el (List.mem_range.mp hi)).2.2
    · obtain ⟨i, hi, rfl⟩ := List.mem_map.mp h
      exact (t.2.2.1.2.el (List.mem_range.mp hi)).2.2.2
theorem CS.office : gp G a0 5 ∈ CS K G a0 := by simp [CS]
theorem CS.rival (x : Int32) : f_X8_chestOfRival K F G a0 x ∈ CS K G a0 := by
  unfold f_X8_chestOfRival f_X8_chestOfRival_J16
  split
  · simp [CS]
  · simp [CS]
theorem CS.world : gp G a0 8 ∈ CS K G a0 := by simp [CS]
theorem CS.exp {i : Nat} (hi : i < sz K G a0 2) : gp G (eo G a0 2 i) 1 ∈ CS K G a0 := by
  unfold CS
  exact List.mem_append_right _ (List.mem_append_left _ (List.mem_map.mpr ⟨i, List.mem_range.mpr hi, rfl⟩))
theorem CS.buyer {i : Nat} (hi : i < sz K G a0 1) : gp G (eo G a0 1 i) 3 ∈ CS K G a0 := by
  unfold CS
  exact List.mem_append_right _ (List.mem_append_right _ (List.mem_map.mpr ⟨i, List.mem_range.mpr hi, rfl⟩))
/-- the chest of the exporter whose policy it is -/
theorem IK.echest (h : IK X K G a0) {i : Nat} (hi : i < sz K G a0 3) : gp G (gp G (eo G a0 3 i) 1) 1 ∈ CS K G a0 := by
  obtain ⟨j, hj, e⟩ := h.2.2.1 i hi
  rw [e]
  exact CS.exp hj
theorem IK.schest (h : IK X K G a0) {i : Nat} (hi : i < sz K G a0 4) : gp G (gp G (gp G (eo G a0 4 i) 0) 1) 1 ∈ CS K G a0 := by
  obtain ⟨⟨j, hj, e⟩, -⟩ := h.2.2.2.1 i hi
  rw [e]
  exact h.echest hj
theorem IK.bchest (h : IK X K G a0) {i : Nat} (hi : i < sz K G a0 4) : ∃ j, j < sz K G a0 1 ∧ gp G (eo G a0 4 i) 1 = eo G a0 1 j := (h.2.2.2.1 i hi).2
/-- writes that the invariant doesn't see -/
theorem IV.frame (hk : IK X K G a0) (h : IV B K F G a0) (h1 : ∀ a, (K a).1 = 1 ∨ (K a).1 = 2 ∨ (K a).1 = 6 ∨ (K a).1 = 7 ∨ (K a).1 = 8 → F' a = F a) (h9 : ∀ a, (K a).1 = 9 → F' a 1 = F a 1 ∧ F' a 0 = F a 0) : IV B K F' G a0 ∧ Mono K F G F' G a0 := by
  obtain ⟨m1, m2, m3, m4, m5, m6⟩ := h
  have e0 := h1 a0 (Or.inl hk.1.1.1)
  have ec : ∀ c ∈ CS K G a0, F' c = F c := fun c hc => h1 c (Or.inr (Or.inl (CS.kind hk.1.1 hc)))
  have es : ∀ i, i < sz K G a0 4 → F' (eo G a0 4 i) = F (eo G a0 4 i) := fun i hi => h1 _ (Or.inr (Or.inr (Or.inr (Or.inl (hk.ship hi).1))))
  have ep : ∀ i, i < sz K G a0 3 → F' (eo G a0 3 i) = F (eo G a0 3 i) := fun i hi => h1 _ (Or.inr (Or.inr (Or.inl (hk.pol hi).1)))
  refine ⟨⟨m1.congr (fun c hc => by rw [ec c hc]), fun i hi => by rw [ec _ (CS.buyer hi)]; exact m2 i hi, by rw [ec _ CS.office, e0]; exact m3, fun i hi => by unfold PolV; rw [ep i hi]; exact m4 i hi, fun i hi => ?_, by rw [e0]; exact m6⟩, fun i hi => ?_, fun i hi q => by rw [ep i hi]; exact q⟩
  · have q := m5 i hi
    have t := hk.ship hi
    unfold ShipV at q ⊢
    rw [es i hi, e0]
    obtain ⟨q1, q2, q3, q4, q5⟩ := q
    refine ⟨q1, q2, q3, fun w => by rw [(h9 _ (t.2.2.2.2 w)).1, (h9 _ (t.2.2.2.2 w)).2]; exact q4 w, fun w => ?_⟩
    have ed := h1 _ (Or.inr (Or.inr (Or.inr (Or.inr (t.2.2.2.1 w)))))
    obtain ⟨z1, z2, z3⟩ := q5 w
    refine ⟨z1, by unfold DamOK; rw [ed]; exact z2, ?_⟩
    rw [ed, z3]
    by_cases w2 : G (eo G a0 4 i) 15 = none
    · rw [if_pos w2, if_pos w2]
    · rw [if_neg w2, if_neg w2, (h9 _ (t.2.2.2.2 w2)).1]
  · rw [es i hi]
    exact ⟨Int.le_refl _, id, id, rfl, id, id⟩
theorem IV.mono {B' : Int} (h : IV B K F G a0) (hb : B ≤ B') : IV B' K F G a0 := ⟨h.1.mono hb, h.2⟩
end
end PN1
