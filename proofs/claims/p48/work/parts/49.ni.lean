/-! isSound, and the figures that are asked -/
section PNI
variable {X : Xt} {K K' : Kt} {F F' F'' F2 : Ft} {G G' G'' : Gt} {a0 n j : Nat} {B B' : Int}
def zf (w : Int32) : Int32 := if w = 0 then 1 else 0
def sm (f : Nat → Int) : Nat → Nat → Int
  | 0, _ => 0
  | k + 1, j => f j + sm f k (j + 1)
theorem sm_map (f : Nat → Int) : ∀ k j, sm f k j = ((List.range' j k).map f).sum := by
  intro k
  induction k with
  | zero => intro j; rfl
  | succ k ih => intro j; rw [sm, ih, List.range'_succ]; rfl
theorem chests_L73 : ∀ (k j : Nat) (w : Int32), (∀ i, j ≤ i → i < j + k → 0 ≤ (F (gp G (eo G a0 1 i) 3) 0).toInt) → f_X8_areChestsSound_L73 K F G a0 k j w = zf (w + Int32.ofInt (sm (fun i => (F (gp G (eo G a0 1 i) 3) 0).toInt) k j)) := by
  intro k
  induction k with
  | zero =>
    intro j w _
    rw [f_X8_areChestsSound_L73, sm]
    show _ = zf (w + 0)
    rw [Int32.add_zero]
    rfl
  | succ k ih =>
    intro j w h
    rw [f_X8_areChestsSound_L73, sm, if_pos (by rw [Int32.le_iff_toInt_le, Int32.toInt_zero]; exact h j (Nat.le_refl _) (by omega)), ih (j + 1) _ (fun i h1 h2 => h i (by omega) (by omega)), Int32.ofInt_add, Int32.ofInt_toInt, Int32.add_assoc]
theorem chests_L34 : ∀ (k j : Nat) (w : Int32), (∀ i, i < sz K G a0 1 → 0 ≤ (F (gp G (eo G a0 1 i) 3) 0).toInt) → f_X8_areChestsSound_L34 K F G a0 k j w = zf (w + Int32.ofInt (sm (fun i => (F (gp G (eo G a0 2 i) 1) 0).toInt) k j) + Int32.ofInt (sm (fun i => (F (gp G (eo G a0 1 i) 3) 0).toInt) (sz K G a0 1) 0)) := by
  intro k
  induction k with
  | zero =>
    intro j w h
    rw [f_X8_areChestsSound_L34, sm, chests_L73 _ _ _ (fun i _ h2 => h i (show i < (K (gp G a0 1)).2 by omega))]
    show _ = zf (w + 0 + _)
    rw [Int32.add_zero]
  | succ k ih =>
    intro j w h
    rw [f_X8_areChestsSound_L34, sm, ih (j + 1) _ h, Int32.ofInt_add, Int32.ofInt_toInt, Int32.add_assoc w]
theorem tot_cs : tot F (CS K G a0) = (F (gp G a0 5) 0).toInt + (F (gp G a0 6) 0).toInt + (F (gp G a0 7) 0).toInt + (F (gp G a0 8) 0).toInt + sm (fun i => (F (gp G (eo G a0 2 i) 1) 0).toInt) (sz K G a0 2) 0 + sm (fun i => (F (gp G (eo G a0 1 i) 3) 0).toInt) (sz K G a0 1) 0 := by
  rw [cs_def, tot_app, tot_app, sm_map, sm_map]
  have e1 : tot F (ECh K G a0) = ((List.range' 0 (sz K G a0 2)).map (fun i => (F (gp G (eo G a0 2 i) 1) 0).toInt)).sum := by
    unfold tot ECh
    rw [List.map_map, List.range_eq_range']
    rfl
  have e2 : tot F (BCh K G a0) = ((List.range' 0 (sz K G a0 1)).map (fun i => (F (gp G (eo G a0 1 i) 3) 0).toInt)).sum := by
    unfold tot BCh
    rw [List.map_map, List.range_eq_range']
    rfl
  rw [e1, e2]
  have e3 : tot F [gp G a0 5, gp G a0 6, gp G a0 7, gp G a0 8] = (F (gp G a0 5) 0).toInt + ((F (gp G a0 6) 0).toInt + ((F (gp G a0 7) 0).toInt + ((F (gp G a0 8) 0).toInt + 0))) := rfl
  rw [e3]
  omega
theorem chests_sound (h : IV B K F G a0) : f_X8_areChestsSound K F G a0 = 1 := by
  unfold f_X8_areChestsSound f_X8_areChestsSound_N31
  rw [chests_L34 _ _ _ h.2.1]
  have t := h.1.1
  rw [tot_cs] at t
  have e := congrArg Int32.ofInt t
  rw [Int32.ofInt_add, Int32.ofInt_add, Int32.ofInt_add, Int32.ofInt_add, Int32.ofInt_add, Int32.ofInt_toInt, Int32.ofInt_toInt, Int32.ofInt_toInt, Int32.ofInt_toInt] at e
  show zf (F (gp G a0 5) 0 + F (gp G a0 6) 0 + F (gp G a0 7) 0 + F (gp G a0 8) 0 + Int32.ofInt (sm (fun i => (F (gp G (eo G a0 2 i) 1) 0).toInt) (sz K G a0 2) 0) + Int32.ofInt (sm (fun i => (F (gp G (eo G a0 1 i) 3) 0).toInt) (sz K G a0 1) 0)) = 1
  rw [e]
  rfl
theorem i_parts (a b c : Int32) : (a - b) + (b - c) + c = a := by
  simp only [Int32.sub_eq_add_neg]
  have e : a + -b + (b + -c) + c = a + (-b + b) + (-c + c) := by ac_rfl
  rw [e, Int32.add_left_neg, Int32.add_left_neg, Int32.add_zero, Int32.add_zero]
theorem dam_had {d : Nat} (h : DamOK F d) : 0 ≤ (F d 4).toInt ∧ 0 ≤ (F d 5).toInt ∧ 0 ≤ (F d 6).toInt ∧ F d 4 + F d 5 + F d 6 = F d 3 := by
  obtain ⟨d1, d2, d3, d4, d5, d6, d7, d8, d9, d10⟩ := h
  have b5 := frac_le (r := (F d 3).toInt) (p := (F d 1).toInt - (F d 2).toInt) (L := (F d 0).toInt) d6 d7 (by omega) d1
  have b6 := frac_le (r := (F d 3).toInt) (p := (F d 2).toInt) (L := (F d 0).toInt) d6 d7 d3 d1
  have bs : (F d 3).toInt * ((F d 1).toInt - (F d 2).toInt) / (F d 0).toInt + (F d 3).toInt * (F d 2).toInt / (F d 0).toInt ≤ (F d 3).toInt := by
    have h1 := Int.mul_ediv_add_emod ((F d 3).toInt * ((F d 1).toInt - (F d 2).toInt)) (F d 0).toInt
    have h2 := Int.mul_ediv_add_emod ((F d 3).toInt * (F d 2).toInt) (F d 0).toInt
    have m1 := Int.emod_nonneg ((F d 3).toInt * ((F d 1).toInt - (F d 2).toInt)) (b := (F d 0).toInt) (by omega)
    have m2 := Int.emod_nonneg ((F d 3).toInt * (F d 2).toInt) (b := (F d 0).toInt) (by omega)
    have e : (F d 3).toInt * ((F d 1).toInt - (F d 2).toInt) + (F d 3).toInt * (F d 2).toInt = (F d 3).toInt * (F d 1).toInt := by
      rw [← Int.mul_add]
      congr 1
      omega
    have l1 : (F d 3).toInt * (F d 1).toInt ≤ (F d 3).toInt * (F d 0).toInt := Int.mul_le_mul_of_nonneg_left d5 d6
    have l2 : (F d 0).toInt * ((F d 3).toInt * ((F d 1).toInt - (F d 2).toInt) / (F d 0).toInt + (F d 3).toInt * (F d 2).toInt / (F d 0).toInt) ≤ (F d 0).toInt * (F d 3).toInt := by
      rw [Int.mul_add, Int.mul_comm (F d 0).toInt (F d 3).toInt]
      omega
    exact Int.le_of_mul_le_mul_left l2 d1
  have r4 := fb_rng (F d 4)
  refine ⟨by omega, by omega, by omega, ?_⟩
  refine Int32.toInt_inj.mp ?_
  have e1 : (F d 4 + F d 5).toInt = (F d 4).toInt + (F d 5).toInt := fb_addI (by omega) (by omega)
  rw [fb_addI (by rw [e1]; omega) (by rw [e1]; omega), e1]
  omega
theorem split_sound {d : Nat} (h : DamOK F d) : f_X2_isSplitSound K F G d = 1 := by
  have e1 : f_X2_partOf K F G d 0 + f_X2_partOf K F G d 1 + f_X2_partOf K F G d 2 = F d 0 := i_parts _ _ _
  have e2 : f_X2_hadBy K F G d 0 + f_X2_hadBy K F G d 1 + f_X2_hadBy K F G d 2 = F d 3 := (dam_had h).2.2.2
  unfold f_X2_isSplitSound
  rw [if_pos e1]
  unfold f_X2_isSplitSound_J29
  rw [if_neg (by decide), if_pos e2]
  rfl
theorem damage_sound {s : Nat} (v : ShipV F G a0 s) : f_X7_isDamageSound K F G s = 1 := by
  obtain ⟨⟨q1, q2, q3, q4⟩, -, -, q5, q6⟩ := v
  unfold f_X7_isDamageSound
  by_cases w : G s 14 = none
  · rw [if_pos w]
  · rw [if_neg w]
    obtain ⟨z1, z2, z3⟩ := q6 w
    obtain ⟨d1, d2, d3, d4, d5, d6, d7, -⟩ := id z2
    have e0 : (F s 10 + F (gp G s 14) 3).toInt = (F s 10).toInt + (F (gp G s 14) 3).toInt := fb_addI (by omega) (by omega)
    by_cases w2 : G s 15 = none
    · rw [if_pos w2] at z3 ⊢
      unfold f_X7_isDamageSound_J27
      rw [split_sound z2, if_neg (by decide), if_pos (Int32.toInt_inj.mp (by rw [Int32.add_zero, e0]; omega))]
      rfl
    · rw [if_neg w2] at z3 ⊢
      have z4 := (q5 w2).1
      unfold f_X7_isDamageSound_J27
      rw [split_sound z2, if_neg (by decide), if_pos (Int32.toInt_inj.mp (by rw [fb_addI (by rw [e0]; omega) (by rw [e0]; omega), e0]; omega))]
      rfl
theorem alone_sound {s : Nat} (v : ShipV F G a0 s) : f_X7_isSoundAlone K F G s = 1 := by
  have e := damage_sound (K := K) v
  obtain ⟨⟨q1, q2, q3, q4⟩, -, ⟨q5, -, -, q6, q7⟩, -, -⟩ := v
  have e2 : f_X7_isSoundAlone_J45 K F G s = 1 := by unfold f_X7_isSoundAlone_J45; rw [e, if_neg (by decide)]; rfl
  unfold f_X7_isSoundAlone
  rw [if_neg (by rw [Int32.lt_iff_toInt_lt, Int32.toInt_zero]; omega), if_neg (by rw [Int32.lt_iff_toInt_lt]; omega), if_pos (by rw [Int32.le_iff_toInt_le]; exact q4)]
  by_cases c : F s 5 = 0
  · rw [if_pos c]
    by_cases c2 : F s 13 = 0
    · rw [if_pos c2]; exact e2
    · have := q7 (q6.resolve_left c2)
      rw [c] at this
      exact absurd this (by decide)
  · rw [if_neg c]; exact e2
theorem sound_L (h : IV B K F G a0) : ∀ (k j : Nat), j + k ≤ sz K G a0 4 → f_X8_isSound_L25 K F G a0 k j = 1 := by
  intro k
  induction k with
  | zero => intro j _; rw [f_X8_isSound_L25]
  | succ k ih =>
    intro j hj
    rw [f_X8_isSound_L25, show f_X7_isSoundAlone K F G (el G (gp G a0 4) j) = 1 from alone_sound (h.2.2.2.2.1 j (by omega)), if_neg (by decide)]
    exact ih (j + 1) (by omega)
/-- isSound says yes -/
theorem sound_1 (h : IV B K F G a0) : f_X8_isSound K F G a0 = 1 := by
  unfold f_X8_isSound
  rw [chests_sound h, if_neg (by decide), if_pos (by unfold f_X8_balance; exact h.2.2.1.symm)]
  exact sound_L h _ 0 (by show 0 + (K (gp G a0 4)).2 ≤ (K (gp G a0 4)).2; omega)
/-- the cause is 0, 1 or 2 -/
theorem cause_012 {s : Nat} {x : Int32} : f_X7_causeOn K F G s x = 0 ∨ f_X7_causeOn K F G s x = 1 ∨ f_X7_causeOn K F G s x = 2 := by
  have J : ∀ u1 u2, f_X7_causeOnceDue_J56 K F G u1 u2 = 1 ∨ f_X7_causeOnceDue_J56 K F G u1 u2 = 2 := fun u1 u2 => by
    unfold f_X7_causeOnceDue_J56
    split
    · exact Or.inl rfl
    · split
      · exact Or.inr rfl
      · exact Or.inl rfl
  have J2 : ∀ u1, f_X7_causeOnceDue_J29 K F G s u1 = 1 ∨ f_X7_causeOnceDue_J29 K F G s u1 = 2 := fun u1 => by
    unfold f_X7_causeOnceDue_J29
    split
    · exact J _ _
    · split
      · exact J _ _
      · exact J _ _
  have J3 : f_X7_causeOnceDue K F G s = 1 ∨ f_X7_causeOnceDue K F G s = 2 := by
    unfold f_X7_causeOnceDue
    split
    · exact J2 _
    · split
      · exact J2 _
      · exact J2 _
  unfold f_X7_causeOn
  split
  · exact Or.inl rfl
  · split
    · exact Or.inl rfl
    · exact Or.inr J3
def bt (b : Bool) (x : Int32) : Int32 := if b = true then x else 0
def mk6 (b1 b2 b3 b4 b5 b6 : Bool) : Int32 := bt b1 1 + bt b2 2 + bt b3 4 + bt b4 8 + bt b5 16 + bt b6 32
theorem bt_of {p : Prop} [Decidable p] {x : Int32} : (if p then 0 else x) = bt (!decide p) x := by
  unfold bt
  by_cases h : p
  · rw [if_pos h, if_neg (by simp [h])]
  · rw [if_neg h, if_pos (by simp [h])]
/-- the marks, bit by bit -/
theorem marks_mk {s : Nat} : f_X7_marks K F G s = mk6 (!decide (F s 11 = 0)) (!decide (F s 12 = 0)) (!decide (G s 14 = none)) (!decide (G s 15 = none)) (!decide (F s 13 = 0)) (!decide (F s 5 = 0)) := by
  unfold mk6
  rw [← bt_of, ← bt_of, ← bt_of, ← bt_of, ← bt_of, ← bt_of]
  have h73 : ∀ u1 u2 u3 u4 u5, f_X7_marks_J73 K F G s u1 u2 u3 u4 u5 = u1 + u2 + u3 + u4 + u5 + (if F s 5 = 0 then 0 else 32) := fun u1 u2 u3 u4 u5 => by
    unfold f_X7_marks_J73
    split
    · rfl
    · rfl
  have h57 : ∀ u1 u2 u3 u4, f_X7_marks_J57 K F G s u1 u2 u3 u4 = u1 + u2 + u3 + u4 + (if F s 13 = 0 then 0 else 16) + (if F s 5 = 0 then 0 else 32) := fun u1 u2 u3 u4 => by
    unfold f_X7_marks_J57
    rw [h73, h73]
    by_cases c : F s 13 = 0
    · rw [if_pos c, if_pos c]
    · rw [if_neg c, if_neg c]
  have h41 : ∀ u1 u2 u3, f_X7_marks_J41 K F G s u1 u2 u3 = u1 + u2 + u3 + (if G s 15 = none then 0 else 8) + (if F s 13 = 0 then 0 else 16) + (if F s 5 = 0 then 0 else 32) := fun u1 u2 u3 => by
    unfold f_X7_marks_J41
    rw [h57, h57]
    by_cases c : G s 15 = none
    · rw [if_pos c, if_pos c]
    · rw [if_neg c, if_neg c]
  have h26 : ∀ u1 u2, f_X7_marks_J26 K F G s u1 u2 = u1 + u2 + (if G s 14 = none then 0 else 4) + (if G s 15 = none then 0 else 8) + (if F s 13 = 0 then 0 else 16) + (if F s 5 = 0 then 0 else 32) := fun u1 u2 => by
    unfold f_X7_marks_J26
    rw [h41, h41]
    by_cases c : G s 14 = none
    · rw [if_pos c, if_pos c]
    · rw [if_neg c, if_neg c]
  have h12 : ∀ u1, f_X7_marks_J12 K F G s u1 = u1 + (if F s 12 = 0 then 0 else 2) + (if G s 14 = none then 0 else 4) + (if G s 15 = none then 0 else 8) + (if F s 13 = 0 then 0 else 16) + (if F s 5 = 0 then 0 else 32) := fun u1 => by
    unfold f_X7_marks_J12
    rw [h26, h26]
    by_cases c : F s 12 = 0
    · rw [if_pos c, if_pos c]
    · rw [if_neg c, if_neg c]
  unfold f_X7_marks
  rw [h12, h12]
  by_cases c : F s 11 = 0
  · rw [if_pos c, if_pos c]
  · rw [if_neg c, if_neg c]
theorem mk6_mono : ∀ a1 a2 a3 a4 a5 a6 b1 b2 b3 b4 b5 b6 : Bool, (a1 = true → b1 = true) → (a3 = true → b3 = true) → (a4 = true → b4 = true) → (a5 = true → b5 = true) → (a6 = true → b6 = true) → (mk6 a1 a2 a3 a4 a5 a6 &&& (mk6 b1 b2 b3 b4 b5 b6 ^^^ -1)) &&& 61 = 0 := by decide +kernel
theorem mk6_4 : ∀ b1 b2 b3 b4 b5 b6 : Bool, (mk6 b1 b2 b3 b4 b5 b6 &&& 4 = 0 → b3 = false) ∧ (b1 = true → ¬ mk6 b1 b2 b3 b4 b5 b6 &&& 1 = 0) ∧ ((b5 = true → b6 = true) → 0 < mk6 b1 b2 b3 b4 b5 b6 &&& 16 → ¬ mk6 b1 b2 b3 b4 b5 b6 &&& 32 = 0) := by decide +kernel
theorem nb {p : Prop} [Decidable p] : (!decide p) = true ↔ ¬ p := by simp
theorem marks_le {s : Nat} (h11 : F s 11 = 0 ∨ F s 11 = 1) (h13 : F s 13 = 0 ∨ F s 13 = 1) (m11 : F s 11 = 1 → F' s 11 = 1) (m13 : F s 13 = 1 → F' s 13 = 1) (m5 : F' s 5 = F s 5) (m14 : ¬ G s 14 = none → ¬ G' s 14 = none) (m15 : ¬ G s 15 = none → ¬ G' s 15 = none) : (f_X7_marks K F G s &&& (f_X7_marks K' F' G' s ^^^ -1)) &&& 61 = 0 := by
  rw [marks_mk, marks_mk]
  refine mk6_mono _ _ _ _ _ _ _ _ _ _ _ _ ?_ ?_ ?_ ?_ ?_
  · rw [nb, nb]; exact fun c => by rw [m11 (h11.resolve_left c)]; decide
  · rw [nb, nb]; exact m14
  · rw [nb, nb]; exact m15
  · rw [nb, nb]; exact fun c => by rw [m13 (h13.resolve_left c)]; decide
  · rw [nb, nb, m5]; exact id
theorem marks_isSo {s : Nat} (v : ShipV F G a0 s) : (f_X7_marks K F G s &&& 4 = 0 → G s 14 = none) ∧ (¬ G s 14 = none → ¬ f_X7_marks K F G s &&& 1 = 0) ∧ (0 < f_X7_marks K F G s &&& 16 → ¬ f_X7_marks K F G s &&& 32 = 0) := by
  obtain ⟨-, -, ⟨q5, -, -, q6, q7⟩, -, q8⟩ := v
  rw [marks_mk]
  obtain ⟨m1, m2, m3⟩ := mk6_4 (!decide (F s 11 = 0)) (!decide (F s 12 = 0)) (!decide (G s 14 = none)) (!decide (G s 15 = none)) (!decide (F s 13 = 0)) (!decide (F s 5 = 0))
  refine ⟨fun c => ?_, fun c => m2 ?_, m3 ?_⟩
  · have := m1 c
    simpa using this
  · rw [nb, (q8 c).1]; decide
  · rw [nb, nb]
    exact fun c => by rw [q7 (q6.resolve_left c)]; decide
section
variable {k : Nat}
theorem sh0 : f_X8_ofShipment K F G a0 k 0 = F (gp G (eo G a0 4 k) 0) 0 := rfl
theorem sh2 : f_X8_ofShipment K F G a0 k 2 = F (eo G a0 4 k) 2 := rfl
theorem sh3 : f_X8_ofShipment K F G a0 k 3 = F (eo G a0 4 k) 3 := rfl
theorem sh5 : f_X8_ofShipment K F G a0 k 5 = F (eo G a0 4 k) 10 := rfl
theorem sh6 : f_X8_ofShipment K F G a0 k 6 = F (eo G a0 4 k) 7 := rfl
theorem sh10 : f_X8_ofShipment K F G a0 k 10 = f_X7_causeOn K F G (eo G a0 4 k) (F a0 9) := rfl
theorem sh11 : f_X8_ofShipment K F G a0 k 11 = f_X7_marks K F G (eo G a0 4 k) := rfl
theorem sh12 (h : ¬ G (eo G a0 4 k) 14 = none) : f_X8_ofShipment K F G a0 k 12 = F (gp G (eo G a0 4 k) 14) 0 := by
  show (if G (eo G a0 4 k) 14 = none then f_X8_figureOfShipment_J174 K F G 0 else f_X8_figureOfShipment_J174 K F G (F (gp G (eo G a0 4 k) 14) 0)) = _
  rw [if_neg h]; rfl
theorem sh13 (h : ¬ G (eo G a0 4 k) 14 = none) : f_X8_ofShipment K F G a0 k 13 = F (gp G (eo G a0 4 k) 14) 1 := by
  show (if G (eo G a0 4 k) 14 = none then f_X8_figureOfShipment_J187 K F G 0 else f_X8_figureOfShipment_J187 K F G (F (gp G (eo G a0 4 k) 14) 1)) = _
  rw [if_neg h]; rfl
theorem sh14 (h : ¬ G (eo G a0 4 k) 14 = none) : f_X8_ofShipment K F G a0 k 14 = F (gp G (eo G a0 4 k) 14) 3 := by
  show (if G (eo G a0 4 k) 14 = none then f_X8_figureOfShipment_J200 K F G 0 else f_X8_figureOfShipment_J200 K F G (F (gp G (eo G a0 4 k) 14) 3)) = _
  rw [if_neg h]; rfl
theorem bk0 : f_X8_books K F G a0 0 = F a0 9 := rfl
theorem bk6 : f_X8_books K F G a0 6 = nI (sz K G a0 4) := rfl
theorem bk7 : f_X8_books K F G a0 7 = F (gp G a0 5) 0 := rfl
theorem bk8 : f_X8_books K F G a0 8 = F (gp G a0 6) 0 := rfl
theorem bk9 : f_X8_books K F G a0 9 = F (gp G a0 7) 0 := rfl
theorem bk10 : f_X8_books K F G a0 10 = F (gp G a0 8) 0 := rfl
theorem bk14 : f_X8_books K F G a0 14 = F a0 10 + F a0 12 - F a0 11 := rfl
theorem ex0 : f_X8_ofExporter K F G a0 k 0 = F (gp G (eo G a0 2 k) 1) 0 := rfl
theorem bu3 : f_X8_ofBuyer K F G a0 k 3 = F (gp G (eo G a0 1 k) 3) 0 := rfl
theorem po4 : f_X8_ofPolicy K F G a0 k 4 = if F (eo G a0 3 k) 6 = 0 then 0 else 1 := rfl
theorem po5 : f_X8_ofPolicy K F G a0 k 5 = f_X8_countOfShipmentsUnder K F G a0 (eo G a0 3 k) := rfl
theorem pa_f (h : ¬ G (eo G a0 4 k) 14 = none) {w : Nat} : f_X8_part K F G a0 k w 0 = f_X2_partOf K F G (gp G (eo G a0 4 k) 14) (nI w) := by
  show (if G (eo G a0 4 k) 14 = none then 0 else if (0 : Int32) = 0 then f_X8_figureOfPart_J28 K F G (f_X2_partOf K F G (gp G (eo G a0 4 k) 14) (nI w)) else _) = _
  rw [if_neg h, if_pos rfl]; rfl
theorem pa_t (h : ¬ G (eo G a0 4 k) 14 = none) {w : Nat} : f_X8_part K F G a0 k w 1 = f_X2_hadBy K F G (gp G (eo G a0 4 k) 14) (nI w) := by
  show (if G (eo G a0 4 k) 14 = none then 0 else if (1 : Int32) = 0 then f_X8_figureOfPart_J28 K F G (f_X2_partOf K F G (gp G (eo G a0 4 k) 14) (nI w)) else f_X8_figureOfPart_J28 K F G (f_X2_hadBy K F G (gp G (eo G a0 4 k) 14) (nI w))) = _
  rw [if_neg h, if_neg (by decide)]; rfl
end
end PNI
