/-! settle: what is paid of a shipment -/
section PN2
variable {X : Xt} {K : Kt} {F F' F'' : Ft} {G : Gt} {a0 : Nat} {B : Int}
abbrev ECh (K : Kt) (G : Gt) (a0 : Nat) : List Nat := (List.range (sz K G a0 2)).map (fun i => gp G (eo G a0 2 i) 1)
abbrev BCh (K : Kt) (G : Gt) (a0 : Nat) : List Nat := (List.range (sz K G a0 1)).map (fun i => gp G (eo G a0 1 i) 3)
theorem IK.ap (h : IK X K G a0) : (∀ a ∈ [gp G a0 5, gp G a0 6, gp G a0 7, gp G a0 8], ∀ b ∈ ECh K G a0 ++ BCh K G a0, a ≠ b) ∧ (∀ a ∈ ECh K G a0, ∀ b ∈ BCh K G a0, a ≠ b) ∧ [gp G a0 5, gp G a0 6, gp G a0 7, gp G a0 8].Pairwise (· ≠ ·) := by
  have h1 : (CS K G a0).Pairwise (· ≠ ·) := h.2.1
  unfold CS at h1
  obtain ⟨p1, p2, p3⟩ := List.pairwise_append.mp h1
  obtain ⟨-, -, p4⟩ := List.pairwise_append.mp p2
  exact ⟨p3, p4, p1⟩
theorem ech_mem {i : Nat} (hi : i < sz K G a0 2) : gp G (eo G a0 2 i) 1 ∈ ECh K G a0 := List.mem_map.mpr ⟨i, List.mem_range.mpr hi, rfl⟩
theorem bch_mem {i : Nat} (hi : i < sz K G a0 1) : gp G (eo G a0 1 i) 3 ∈ BCh K G a0 := List.mem_map.mpr ⟨i, List.mem_range.mpr hi, rfl⟩
/-- who pays: the world or a buyer -/
def Payer (K : Kt) (G : Gt) (a0 a2 : Nat) : Prop := a2 = gp G a0 8 ∨ ∃ j, j < sz K G a0 1 ∧ a2 = gp G (eo G a0 1 j) 3
theorem riv_or (x : Int32) : f_X8_chestOfRival K F G a0 x = gp G a0 6 ∨ f_X8_chestOfRival K F G a0 x = gp G a0 7 := by
  unfold f_X8_chestOfRival f_X8_chestOfRival_J16
  split
  · exact Or.inr rfl
  · exact Or.inl rfl
theorem IK.o_r (h : IK X K G a0) (x : Int32) : gp G a0 5 ≠ f_X8_chestOfRival K F G a0 x := by
  have p := h.ap.2.2
  rw [List.pairwise_cons] at p
  rcases riv_or (K := K) (F := F) (G := G) (a0 := a0) x with e | e
  · rw [e]; exact p.1 _ (by simp)
  · rw [e]; exact p.1 _ (by simp)
theorem IK.o_e (h : IK X K G a0) {i : Nat} (hi : i < sz K G a0 2) : gp G a0 5 ≠ gp G (eo G a0 2 i) 1 := h.ap.1 _ (by simp) _ (List.mem_append_left _ (ech_mem hi))
theorem IK.o_b (h : IK X K G a0) {i : Nat} (hi : i < sz K G a0 1) : gp G a0 5 ≠ gp G (eo G a0 1 i) 3 := h.ap.1 _ (by simp) _ (List.mem_append_right _ (bch_mem hi))
theorem IK.r_b (h : IK X K G a0) {i : Nat} (hi : i < sz K G a0 1) (x : Int32) : f_X8_chestOfRival K F G a0 x ≠ gp G (eo G a0 1 i) 3 := by
  rcases riv_or (K := K) (F := F) (G := G) (a0 := a0) x with e | e
  · rw [e]; exact h.ap.1 _ (by simp) _ (List.mem_append_right _ (bch_mem hi))
  · rw [e]; exact h.ap.1 _ (by simp) _ (List.mem_append_right _ (bch_mem hi))
theorem IK.e_b (h : IK X K G a0) {i j : Nat} (hi : i < sz K G a0 2) (hj : j < sz K G a0 1) : gp G (eo G a0 2 i) 1 ≠ gp G (eo G a0 1 j) 3 := h.ap.2.1 _ (ech_mem hi) _ (bch_mem hj)
theorem Payer.mem {a2 : Nat} (p : Payer K G a0 a2) : a2 ∈ CS K G a0 := by
  rcases p with rfl | ⟨j, hj, rfl⟩
  · exact CS.world
  · exact CS.buyer hj
theorem Payer.o (h : IK X K G a0) {a2 : Nat} (p : Payer K G a0 a2) : a2 ≠ gp G a0 5 := by
  rcases p with rfl | ⟨j, hj, rfl⟩
  · have q := h.ap.2.2
    rw [List.pairwise_cons] at q
    exact Ne.symm (q.1 _ (by simp))
  · exact Ne.symm (h.o_b hj)
theorem Payer.r (h : IK X K G a0) {a2 : Nat} (p : Payer K G a0 a2) (x : Int32) : a2 ≠ f_X8_chestOfRival K F G a0 x := by
  rcases p with rfl | ⟨j, hj, rfl⟩
  · have q := h.ap.2.2
    rw [List.pairwise_cons, List.pairwise_cons, List.pairwise_cons] at q
    rcases riv_or (K := K) (F := F) (G := G) (a0 := a0) x with e | e
    · rw [e]; exact Ne.symm (q.2.1 _ (by simp))
    · rw [e]; exact Ne.symm (q.2.2.1 _ (by simp))
  · exact Ne.symm (h.r_b hj x)
theorem Payer.e (h : IK X K G a0) {a2 : Nat} (p : Payer K G a0 a2) {i : Nat} (hi : i < sz K G a0 2) : a2 ≠ gp G (eo G a0 2 i) 1 := by
  rcases p with rfl | ⟨j, hj, rfl⟩
  · exact h.ap.1 _ (by simp) _ (List.mem_append_left _ (ech_mem hi))
  · exact Ne.symm (h.e_b hi hj)
/-- a shipment's exporter is one of the list -/
theorem IK.sexp (h : IK X K G a0) {i : Nat} (hi : i < sz K G a0 4) : ∃ j, j < sz K G a0 2 ∧ gp G (gp G (eo G a0 4 i) 0) 1 = eo G a0 2 j := by
  obtain ⟨⟨j, hj, e⟩, -⟩ := h.2.2.2.1 i hi
  rw [e]
  exact h.2.2.1 j hj
theorem i_le0 {x : Int32} (h : 0 < x.toInt) : ¬ x ≤ 0 := by
  rw [Int32.le_iff_toInt_le, Int32.toInt_zero]
  omega
theorem due_spec {d : Nat} {p : Int32} (h0 : 0 < (F d 0).toInt) (h1 : (F d 0).toInt ≤ 3000) (h2 : 0 ≤ (F d 3).toInt) (h3 : (F d 3).toInt ≤ 3000) (p0 : 0 ≤ p.toInt) (p1 : p.toInt ≤ 3000) : (f_X2_dueOf K F G d p).toInt = (F d 3).toInt * p.toInt / (F d 0).toInt := by
  unfold f_X2_dueOf f_X2_dueOf_J26
  rw [if_neg (i_le0 h0)]
  have m0 : 0 ≤ (F d 3).toInt * p.toInt := Int.mul_nonneg h2 p0
  have m1 : (F d 3).toInt * p.toInt ≤ 3000 * 3000 := Int.mul_le_mul h3 p1 p0 (by decide)
  have e1 : ((F d 3).toInt64 * p.toInt64).toInt = (F d 3).toInt * p.toInt := by
    rw [fb_mulL (by rw [Int32.toInt_toInt64, Int32.toInt_toInt64]; omega) (by rw [Int32.toInt_toInt64, Int32.toInt_toInt64]; omega), Int32.toInt_toInt64, Int32.toInt_toInt64]
  have e2 : ((F d 3).toInt64 * p.toInt64 / (F d 0).toInt64).toInt = (F d 3).toInt * p.toInt / (F d 0).toInt := by
    rw [i_divL (by rw [e1]; exact m0) (by rw [Int32.toInt_toInt64]; exact h0), e1, Int32.toInt_toInt64]
  have q0 : 0 ≤ (F d 3).toInt * p.toInt / (F d 0).toInt := Int.ediv_nonneg m0 (Int.le_of_lt h0)
  have q1 : (F d 3).toInt * p.toInt / (F d 0).toInt ≤ (F d 3).toInt * p.toInt := Int.ediv_le_self _ m0
  rw [Int64.toInt_toInt32, e2, fb_bmod (by omega) (by omega)]
theorem part_1 {d : Nat} : f_X2_partOf K F G d 1 = F d 1 - F d 2 := by unfold f_X2_partOf; rw [if_neg (by decide), if_pos rfl]
theorem part_2 {d : Nat} : f_X2_partOf K F G d 2 = F d 2 := by unfold f_X2_partOf; rw [if_neg (by decide), if_neg (by decide)]
theorem frac_le {r p L : Int} (hr : 0 ≤ r) (hrL : r ≤ L) (hp : 0 ≤ p) (hL : 0 < L) : 0 ≤ r * p / L ∧ r * p / L ≤ p := by
  refine ⟨Int.ediv_nonneg (Int.mul_nonneg hr hp) (Int.le_of_lt hL), Int.ediv_le_of_le_mul hL ?_⟩
  rw [Int.mul_comm p L]
  exact Int.mul_le_mul_of_nonneg_right hrL hp
theorem rec_ne {d c : Nat} {x : Int32} (h : c ≠ d) : f_X2_recover K F G d x c = F c := by
  unfold f_X2_recover f_X2_recover_C48
  simp only [up2_a _ _ h]
theorem rec_k {d k : Nat} {x : Int32} (h3 : k ≠ 3) (h4 : k ≠ 4) (h5 : k ≠ 5) (h6 : k ≠ 6) : f_X2_recover K F G d x d k = F d k := by
  unfold f_X2_recover f_X2_recover_C48
  rw [up2_k _ _ h4, up2_k _ _ h6, up2_k _ _ h5, up2_k _ _ h3]
theorem rec_C {d : Nat} {x : Int32} {F1 : Ft} (hF : f_X2_recover K F G d x = f_X2_recover_C48 K F G d x F1) (h4 : F1 d 4 = F d 4) : f_X2_recover K F G d x d 4 = F d 4 + ((x - (f_X2_recover K F G d x d 5 - F d 5)) - (f_X2_recover K F G d x d 6 - F d 6)) := by
  rw [hF]
  unfold f_X2_recover_C48
  rw [up2_eq, up2_k _ _ (by decide : (5 : Nat) ≠ 4), up2_k _ _ (by decide : (6 : Nat) ≠ 4), h4]
/-- what recover writes -/
theorem rec_spec {d : Nat} {x : Int32} (h : DamOK F d) (hx : 0 ≤ x.toInt) (hr : (F d 3).toInt + x.toInt ≤ (F d 0).toInt) : DamOK (f_X2_recover K F G d x) d ∧ (f_X2_recover K F G d x d 3).toInt = (F d 3).toInt + x.toInt ∧
    (-3000 ≤ (f_X2_recover K F G d x d 5 - F d 5).toInt ∧ (f_X2_recover K F G d x d 5 - F d 5).toInt ≤ 3000) ∧ (-3000 ≤ (f_X2_recover K F G d x d 6 - F d 6).toInt ∧ (f_X2_recover K F G d x d 6 - F d 6).toInt ≤ 3000) := by
  obtain ⟨d1, d2, d3, d4, d5, d6, d7, d8, d9, d10⟩ := h
  have e0 : f_X2_recover K F G d x d 0 = F d 0 := rec_k (by decide) (by decide) (by decide) (by decide)
  have e1 : f_X2_recover K F G d x d 1 = F d 1 := rec_k (by decide) (by decide) (by decide) (by decide)
  have e2 : f_X2_recover K F G d x d 2 = F d 2 := rec_k (by decide) (by decide) (by decide) (by decide)
  have e3 : f_X2_recover K F G d x d 3 = F d 3 + x := by
    unfold f_X2_recover f_X2_recover_C48
    rw [up2_k _ _ (by decide), up2_k _ _ (by decide), up2_k _ _ (by decide), up2_eq]
  have hp1 : (F d 1 - F d 2).toInt = (F d 1).toInt - (F d 2).toInt := fb_subI (by omega) (by omega)
  have hr3 : (F d 3 + x).toInt = (F d 3).toInt + x.toInt := fb_addI (by omega) (by omega)
  have e5 : (f_X2_recover K F G d x d 5).toInt = ((F d 3).toInt + x.toInt) * ((F d 1).toInt - (F d 2).toInt) / (F d 0).toInt := by
    unfold f_X2_recover f_X2_recover_C48
    rw [up2_k _ _ (by decide), up2_k _ _ (by decide), up2_eq, part_1, due_spec]
    · rw [up2_eq, up2_k _ _ (by decide), up2_k _ _ (by decide), up2_k _ _ (by decide), hr3, hp1]
    · rw [up2_k _ _ (by decide)]; exact d1
    · rw [up2_k _ _ (by decide)]; exact d2
    · rw [up2_eq, hr3]; omega
    · rw [up2_eq, hr3]; omega
    · rw [up2_k _ _ (by decide), up2_k _ _ (by decide), hp1]; omega
    · rw [up2_k _ _ (by decide), up2_k _ _ (by decide), hp1]; omega
  have e6 : (f_X2_recover K F G d x d 6).toInt = ((F d 3).toInt + x.toInt) * (F d 2).toInt / (F d 0).toInt := by
    unfold f_X2_recover f_X2_recover_C48
    rw [up2_k _ _ (by decide), up2_eq, part_2, due_spec]
    · rw [up2_k _ _ (by decide), up2_eq, up2_k _ _ (by decide), up2_k _ _ (by decide), up2_k _ _ (by decide), up2_k _ _ (by decide), hr3]
    · rw [up2_k _ _ (by decide), up2_k _ _ (by decide)]; exact d1
    · rw [up2_k _ _ (by decide), up2_k _ _ (by decide)]; exact d2
    · rw [up2_k _ _ (by decide), up2_eq, hr3]; omega
    · rw [up2_k _ _ (by decide), up2_eq, hr3]; omega
    · rw [up2_k _ _ (by decide), up2_k _ _ (by decide)]; omega
    · rw [up2_k _ _ (by decide), up2_k _ _ (by decide)]; omega
  have b5 := frac_le (r := (F d 3).toInt + x.toInt) (p := (F d 1).toInt - (F d 2).toInt) (L := (F d 0).toInt) (by omega) hr (by omega) d1
  have b6 := frac_le (r := (F d 3).toInt + x.toInt) (p := (F d 2).toInt) (L := (F d 0).toInt) (by omega) hr d3 d1
  have c5 := frac_le (r := (F d 3).toInt) (p := (F d 1).toInt - (F d 2).toInt) (L := (F d 0).toInt) d6 d7 (by omega) d1
  have c6 := frac_le (r := (F d 3).toInt) (p := (F d 2).toInt) (L := (F d 0).toInt) d6 d7 d3 d1
  rw [← e5] at b5
  rw [← e6] at b6
  rw [← d8] at c5
  rw [← d9] at c6
  have s5 : (f_X2_recover K F G d x d 5 - F d 5).toInt = (f_X2_recover K F G d x d 5).toInt - (F d 5).toInt := fb_subI (by omega) (by omega)
  have s6 : (f_X2_recover K F G d x d 6 - F d 6).toInt = (f_X2_recover K F G d x d 6).toInt - (F d 6).toInt := fb_subI (by omega) (by omega)
  have e4 := rec_C (K := K) (F := F) (G := G) (d := d) (x := x) rfl (by rw [up2_k _ _ (by decide), up2_k _ _ (by decide), up2_k _ _ (by decide)])
  have s1 : (x - (f_X2_recover K F G d x d 5 - F d 5)).toInt = x.toInt - ((f_X2_recover K F G d x d 5).toInt - (F d 5).toInt) := by rw [fb_subI (by omega) (by omega), s5]
  have s2 : ((x - (f_X2_recover K F G d x d 5 - F d 5)) - (f_X2_recover K F G d x d 6 - F d 6)).toInt = x.toInt - ((f_X2_recover K F G d x d 5).toInt - (F d 5).toInt) - ((f_X2_recover K F G d x d 6).toInt - (F d 6).toInt) := by rw [fb_subI (by omega) (by omega), s1, s6]
  have s4 : (f_X2_recover K F G d x d 4).toInt = (F d 4).toInt + (x.toInt - ((f_X2_recover K F G d x d 5).toInt - (F d 5).toInt) - ((f_X2_recover K F G d x d 6).toInt - (F d 6).toInt)) := by
    rw [e4, fb_addI (by rw [s2]; omega) (by rw [s2]; omega), s2]
  have r3 : (f_X2_recover K F G d x d 3).toInt = (F d 3).toInt + x.toInt := by rw [e3, hr3]
  refine ⟨?_, r3, by rw [s5]; omega, by rw [s6]; omega⟩
  unfold DamOK
  rw [e0, e1, e2, r3]
  refine ⟨d1, d2, d3, d4, d5, by omega, by omega, e5, e6, ?_⟩
  rw [s4]
  omega
end PN2
