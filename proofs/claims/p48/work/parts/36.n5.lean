/-! pay, salvage, report, dispute, judge, inspect, earn, and what writes elsewhere -/
section PN5
variable {X : Xt} {K : Kt} {F F' F'' : Ft} {G : Gt} {a0 : Nat} {B B' : Int}
theorem pay_L (hk : IK X K G a0) {x1 : Nat} (hb : x1 < sz K G a0 1) {y : Int32} : ∀ (k j : Nat) (F : Ft) (B : Int) (w : Int32), 0 ≤ B → B + 15000 * k < 2147483648 → IV B K F G a0 → 0 ≤ w.toInt → w.toInt ≤ y.toInt → y.toInt - w.toInt ≤ (F (gp G (eo G a0 1 x1) 3) 0).toInt → Sto (B + 15000 * k) K F G (f_X8_pay_L42 K G a0 x1 y k j F w).1 a0 := by
  intro k
  induction k with
  | zero =>
    intro j F B w _ _ h _ _ _
    rw [f_X8_pay_L42]
    unfold f_X8_pay_E116
    exact (Sto.rf h).mono (by omega)
  | succ k ih =>
    intro j F B w hB0 hB h hw0 hwy hc
    rw [f_X8_pay_L42]
    unfold f_X8_pay_E116 f_X8_pay_N89 f_X8_pay_C103
    split
    · exact (Sto.rf h).mono (by omega)
    · split
      · exact (Sto.rf h).mono (by omega)
      · rename_i c2
        obtain ⟨i, hi, ei⟩ := ftp_good (FG := fun x => ∃ i, i < sz K G a0 4 ∧ x = eo G a0 4 i) (fun i hi _ _ => ⟨i, hi, rfl⟩) (oget (d := 0) c2)
        rw [ei]
        have hy := fb_rng y
        have hsub : (y - w).toInt = y.toInt - w.toInt := fb_subI (by omega) (by omega)
        have v := h.2.2.2.2.1 i hi
        have v1 := v.1.1
        obtain ⟨z, hz⟩ : ∃ z, z = (if F (eo G a0 4 i) 10 < y - w then F (eo G a0 4 i) 10 else y - w) := ⟨_, rfl⟩
        have z1 : 0 ≤ z.toInt ∧ z.toInt ≤ (F (eo G a0 4 i) 10).toInt ∧ z.toInt ≤ y.toInt - w.toInt := by
          rcases i_min (x := y - w) (y := F (eo G a0 4 i) 10) with ⟨w1, w2⟩ | ⟨w1, w2⟩ <;> rw [hz, w1] <;> omega
        rw [← hz]
        obtain ⟨r1, r2, r3, r4⟩ := settle_spec (x := z) hk h hi (Or.inr ⟨x1, hb, rfl⟩) z1.1 z1.2.1 (fun _ => by omega) hB0 (by omega)
        have hwz : (w + z).toInt = w.toInt + z.toInt := fb_addI (by omega) (by omega)
        have st : Sto (B + 15000) K F G (f_X8_settle K F G a0 (eo G a0 4 i) (gp G (eo G a0 1 x1) 3) z) a0 := ⟨r1, r2, r3⟩
        exact (st.tr (ih (j + 1) _ (B + 15000) (w + z) (by omega) (by omega) r1 (by omega) (by omega) (by rw [r4, hwz]; omega))).mono (by omega)
theorem pay_stp (hk : IK X K G a0) (h : IV B K F G a0) {x1 : Nat} (hb : x1 < sz K G a0 1) {x2 : Int32} (hx : 0 ≤ x2.toInt) (hB0 : 0 ≤ B) (hB : B + 15000 * (sz K G a0 4 : Int) < 2147483648) : Sto (B + 15000 * (sz K G a0 4 : Int)) K F G (f_X8_pay K F G a0 x1 x2).1 a0 := by
  unfold f_X8_pay
  split
  · exact (Sto.rf h).mono (by omega)
  · unfold f_X8_pay_N34
    have hc := h.2.1 x1 hb
    obtain ⟨z, hz⟩ : ∃ z, z = (if F (gp G (eo G a0 1 x1) 3) 0 < x2 then F (gp G (eo G a0 1 x1) 3) 0 else x2) := ⟨_, rfl⟩
    have z1 : 0 ≤ z.toInt ∧ z.toInt ≤ (F (gp G (eo G a0 1 x1) 3) 0).toInt := by
      rcases i_min (x := x2) (y := F (gp G (eo G a0 1 x1) 3) 0) with ⟨w1, w2⟩ | ⟨w1, w2⟩ <;> rw [hz, w1] <;> omega
    rw [← hz]
    exact pay_L hk hb _ 0 F B 0 hB0 hB h (by decide) (by rw [Int32.toInt_zero]; omega) (by rw [Int32.toInt_zero]; omega)
theorem salvage_stp (hk : IK X K G a0) (h : IV B K F G a0) {x1 : Nat} {x2 : Int32} (hx : 0 ≤ x2.toInt) (hB0 : 0 ≤ B) (hB : B + 15000 < 2147483648) : Sto (B + 15000) K F G (f_X8_salvage K F G a0 x1 x2).1 a0 := by
  have st0 : Sto (B + 15000) K F G F a0 := (Sto.rf h).mono (by omega)
  have s0 : Sto (B + 15000) K F G (f_X8_salvage_J35 K F G a0 x1 x2 0).1 a0 := by unfold f_X8_salvage_J35; rw [if_pos rfl]; exact st0
  unfold f_X8_salvage
  split
  · exact st0
  · rename_i c1
    have hi : x1 < sz K G a0 4 := Nat.not_le.mp c1
    unfold f_X8_salvage_J34
    split
    · exact s0
    · split
      · unfold f_X8_salvage_J35
        rw [if_neg (by decide)]
        unfold f_X8_salvage_N46
        have v := (h.2.2.2.2.1 x1 hi).1.1
        refine settle_stp hk h hi (Or.inl rfl) ?_ ?_ (fun w => by
          obtain ⟨b, hb, eb⟩ := w
          exact absurd eb (hk.ap.1 _ (by simp) _ (List.mem_append_right _ (bch_mem hb)))) hB0 hB
        · rcases i_min (x := x2) (y := F (eo G a0 4 x1) 10) with ⟨w1, w2⟩ | ⟨w1, w2⟩ <;> rw [w1] <;> omega
        · rcases i_min (x := x2) (y := F (eo G a0 4 x1) 10) with ⟨w1, w2⟩ | ⟨w1, w2⟩ <;> rw [w1] <;> omega
      · exact s0
/-- one shipment's own fields are written -/
theorem ship_write (hk : IK X K G a0) (h : IV B K F G a0) {i : Nat} (hi : i < sz K G a0 4) (e : ∀ c, c ≠ eo G a0 4 i → F' c = F c) (v : ShipV F' G a0 (eo G a0 4 i)) (w1 : (F' (eo G a0 4 i) 10).toInt ≤ (F (eo G a0 4 i) 10).toInt) (w2 : F (eo G a0 4 i) 11 = 1 → F' (eo G a0 4 i) 11 = 1) (w3 : F (eo G a0 4 i) 13 = 1 → F' (eo G a0 4 i) 13 = 1) (w4 : F' (eo G a0 4 i) 5 = F (eo G a0 4 i) 5) : Sto B K F G F' a0 := by
  have ks := (hk.ship hi).1
  have n7 : ∀ c, (K c).1 ≠ 7 → F' c = F c := fun c hc => e c (ne_kind ks hc)
  have c2 : ∀ c, (K c).1 = 2 → F' c = F c := fun c hc => n7 c (by rw [hc]; decide)
  have e0 : F' a0 = F a0 := n7 a0 (by rw [hk.1.1.1]; decide)
  have r := IV.at (B' := B) (F' := F') hk h hi (h.1.congr (fun c hc => by rw [c2 c (CS.kind hk.1.1 hc)])) (fun j hj => by rw [c2 _ (CS.kind hk.1.1 (CS.buyer hj))]; exact h.2.1 j hj) (by rw [c2 _ (CS.kind hk.1.1 CS.office), e0]; exact h.2.2.1) (by rw [e0]) (PolV.keep h (fun j hj => n7 _ (by rw [(hk.pol hj).1]; decide))) (fun c _ hc => e c hc) (fun c hc _ => n7 c (by rw [hc]; decide)) (fun c hc => by rw [n7 c (by rw [hc]; decide)]; exact ⟨rfl, rfl⟩) v w1 w2 w3 w4
  exact ⟨r.1, r.2, by rw [e0]⟩
/-- the numbers of a shipment, when those that are asked stay as they were -/
theorem ShipV.of (hk : IK X K G a0) (h : IV B K F G a0) {i : Nat} (hi : i < sz K G a0 4) (e : ∀ c, c ≠ eo G a0 4 i → F' c = F c) (e2 : ∀ k, k ≠ 7 → k ≠ 11 → k ≠ 12 → F' (eo G a0 4 i) k = F (eo G a0 4 i) k) (v7 : (F' (eo G a0 4 i) 7).toInt ≤ (F (eo G a0 4 i) 2).toInt) (v11 : F' (eo G a0 4 i) 11 = 0 ∨ F' (eo G a0 4 i) 11 = 1) (v12 : F' (eo G a0 4 i) 12 = 0 ∨ F' (eo G a0 4 i) 12 = 1) (w11 : F (eo G a0 4 i) 11 = 1 → F' (eo G a0 4 i) 11 = 1) : ShipV F' G a0 (eo G a0 4 i) := by
  have t := hk.ship hi
  have n7 : ∀ c, (K c).1 ≠ 7 → F' c = F c := fun c hc => e c (ne_kind t.1 hc)
  have e0 : F' a0 = F a0 := n7 a0 (by rw [hk.1.1.1]; decide)
  obtain ⟨⟨q1, q2, q3, q4⟩, q5, ⟨q6, q7, q8, q9, q10⟩, q11, q12⟩ := h.2.2.2.2.1 i hi
  unfold ShipV
  rw [e0, e2 10 (by decide) (by decide) (by decide), e2 2 (by decide) (by decide) (by decide), e2 3 (by decide) (by decide) (by decide), e2 5 (by decide) (by decide) (by decide), e2 13 (by decide) (by decide) (by decide)]
  refine ⟨⟨q1, q2, q3, v7⟩, q5, ⟨q6, v11, v12, q9, q10⟩, fun w => by rw [n7 _ (by rw [t.2.2.2.2 w]; decide)]; exact q11 w, fun w => ?_⟩
  obtain ⟨z1, z2, z3⟩ := q12 w
  have ed := n7 _ (show (K (gp G (eo G a0 4 i) 14)).1 ≠ 7 by rw [t.2.2.2.1 w]; decide)
  refine ⟨w11 z1, by unfold DamOK; rw [ed]; exact z2, ?_⟩
  rw [ed, z3]
  by_cases w2 : G (eo G a0 4 i) 15 = none
  · rw [if_pos w2, if_pos w2]
  · rw [if_neg w2, if_neg w2, n7 _ (by rw [t.2.2.2.2 w2]; decide)]
theorem ship_w (hk : IK X K G a0) (h : IV B K F G a0) {i : Nat} (hi : i < sz K G a0 4) (e : ∀ c, c ≠ eo G a0 4 i → F' c = F c) (e2 : ∀ k, k ≠ 7 → k ≠ 11 → k ≠ 12 → F' (eo G a0 4 i) k = F (eo G a0 4 i) k) (v7 : (F' (eo G a0 4 i) 7).toInt ≤ (F (eo G a0 4 i) 2).toInt) (v11 : F' (eo G a0 4 i) 11 = 0 ∨ F' (eo G a0 4 i) 11 = 1) (v12 : F' (eo G a0 4 i) 12 = 0 ∨ F' (eo G a0 4 i) 12 = 1) (w11 : F (eo G a0 4 i) 11 = 1 → F' (eo G a0 4 i) 11 = 1) : Sto B K F G F' a0 :=
  ship_write hk h hi e (ShipV.of hk h hi e e2 v7 v11 v12 w11) (by rw [e2 10 (by decide) (by decide) (by decide)]; exact Int.le_refl _) w11 (by rw [e2 13 (by decide) (by decide) (by decide)]; exact id) (e2 5 (by decide) (by decide) (by decide))
theorem report_stp (hk : IK X K G a0) (h : IV B K F G a0) {x1 : Nat} : Sto B K F G (f_X8_report K F G a0 x1).1 a0 := by
  have st0 : Sto B K F G F a0 := Sto.rf h
  have s0 : Sto B K F G (f_X8_report_J36 K F G a0 x1 0).1 a0 := by unfold f_X8_report_J36; rw [if_pos rfl]; exact st0
  unfold f_X8_report
  split
  · exact st0
  · rename_i c1
    have hi : x1 < sz K G a0 4 := Nat.not_le.mp c1
    obtain ⟨⟨-, -, -, q4⟩, -, ⟨-, -, q8, -, -⟩, -, -⟩ := h.2.2.2.2.1 x1 hi
    unfold f_X8_report_J35
    split
    · exact s0
    · split
      · exact s0
      · split
        · unfold f_X8_report_J36
          rw [if_neg (by decide)]
          show Sto B K F G (up2 F (eo G a0 4 x1) 11 1) a0
          exact ship_w hk h hi (fun c hc => up2_a _ _ hc) (fun k _ h2 _ => up2_k _ _ h2) (by rw [up2_k _ _ (by decide)]; exact q4) (Or.inr (up2_eq _ _ _ _)) (by rw [up2_k _ _ (by decide)]; exact q8) (fun _ => up2_eq _ _ _ _)
        · exact s0
theorem dispute_stp (hk : IK X K G a0) (h : IV B K F G a0) {x1 : Nat} : Sto B K F G (f_X8_dispute K F G a0 x1).1 a0 := by
  have st0 : Sto B K F G F a0 := Sto.rf h
  have s0 : Sto B K F G (f_X8_dispute_J25 K F G a0 x1 0).1 a0 := by unfold f_X8_dispute_J25; rw [if_pos rfl]; exact st0
  unfold f_X8_dispute
  split
  · exact st0
  · rename_i c1
    have hi : x1 < sz K G a0 4 := Nat.not_le.mp c1
    obtain ⟨⟨-, -, -, q4⟩, -, ⟨-, q7, -, -, -⟩, -, -⟩ := h.2.2.2.2.1 x1 hi
    unfold f_X8_dispute_J24
    split
    · exact s0
    · split
      · unfold f_X8_dispute_J25
        rw [if_neg (by decide)]
        show Sto B K F G (up2 F (eo G a0 4 x1) 12 1) a0
        exact ship_w hk h hi (fun c hc => up2_a _ _ hc) (fun k _ _ h2 => up2_k _ _ h2) (by rw [up2_k _ _ (by decide)]; exact q4) (by rw [up2_k _ _ (by decide)]; exact q7) (Or.inr (up2_eq _ _ _ _)) (fun w => by rw [up2_k _ _ (by decide)]; exact w)
      · exact s0
theorem judge_stp (hk : IK X K G a0) (h : IV B K F G a0) {x1 : Nat} {x2 : Int32} : Sto B K F G (f_X8_judge K F G a0 x1 x2).1 a0 := by
  have st0 : Sto B K F G F a0 := Sto.rf h
  unfold f_X8_judge
  split
  · exact st0
  · rename_i c1
    have hi : x1 < sz K G a0 4 := Nat.not_le.mp c1
    obtain ⟨⟨q1, q2, -, q4⟩, -, ⟨-, q7, -, -, -⟩, -, -⟩ := h.2.2.2.2.1 x1 hi
    unfold f_X8_judge_J27
    split
    · exact st0
    · split
      · show Sto B K F G (up2 (up2 F (eo G a0 4 x1) 12 0) (eo G a0 4 x1) 7 0) a0
        exact ship_w hk h hi (fun c hc => by rw [up2_a _ _ hc, up2_a _ _ hc]) (fun k h7 _ h12 => by rw [up2_k _ _ h7, up2_k _ _ h12]) (by rw [up2_eq, Int32.toInt_zero]; omega) (by rw [up2_k _ _ (by decide), up2_k _ _ (by decide)]; exact q7) (by rw [up2_k _ _ (by decide)]; exact Or.inl (up2_eq _ _ _ _)) (fun w => by rw [up2_k _ _ (by decide), up2_k _ _ (by decide)]; exact w)
      · show Sto B K F G (up2 F (eo G a0 4 x1) 12 0) a0
        exact ship_w hk h hi (fun c hc => up2_a _ _ hc) (fun k _ _ h12 => up2_k _ _ h12) (by rw [up2_k _ _ (by decide)]; exact q4) (by rw [up2_k _ _ (by decide)]; exact q7) (Or.inl (up2_eq _ _ _ _)) (fun w => by rw [up2_k _ _ (by decide)]; exact w)
/-- a cell of another kind is written -/
theorem other_stp (hk : IK X K G a0) (h : IV B K F G a0) {q : Nat} (kq : (K q).1 = 3 ∨ (K q).1 = 4 ∨ (K q).1 = 5 ∨ (K q).1 = 20) (e : ∀ c, c ≠ q → F' c = F c) : Sto B K F G F' a0 := by
  have r := IV.frame (F' := F') hk h (fun a ha => e a (fun z => by rw [z] at ha; omega)) (fun a ha => by rw [e a (fun z => by rw [z] at ha; omega)]; exact ⟨rfl, rfl⟩)
  exact ⟨r.1, r.2, by rw [e a0 (fun z => by have := hk.1.1.1; rw [z] at this; omega)]⟩
theorem stop_stp (hk : IK X K G a0) (h : IV B K F G a0) {x1 : Nat} (hi : x1 < sz K G a0 0) {x2 : Int32} : Sto B K F G (f_X8_stop K F G a0 x1 x2).1 a0 := other_stp hk h (Or.inl (hk.land hi)) (fun c hc => up2_a _ _ hc)
theorem war_stp (hk : IK X K G a0) (h : IV B K F G a0) {x1 : Nat} (hi : x1 < sz K G a0 0) {x2 : Int32} : Sto B K F G (f_X8_war K F G a0 x1 x2).1 a0 := other_stp hk h (Or.inl (hk.land hi)) (fun c hc => up2_a _ _ hc)
theorem notice_stp (hk : IK X K G a0) (h : IV B K F G a0) {x1 : Nat} (hi : x1 < sz K G a0 0) {x2 : Int32} : Sto B K F G (f_X8_notice K F G a0 x1 x2).1 a0 := other_stp hk h (Or.inl (hk.land hi)) (fun c hc => by show up2 _ _ _ _ c = _; rw [up2_a _ _ hc, up2_a _ _ hc])
theorem broke_stp (hk : IK X K G a0) (h : IV B K F G a0) {x1 : Nat} (hi : x1 < sz K G a0 1) : Sto B K F G (f_X8_broke K F G a0 x1).1 a0 := other_stp hk h (Or.inr (Or.inl (hk.buyer hi).1)) (fun c hc => up2_a _ _ hc)
theorem link_stp (hk : IK X K G a0) (h : IV B K F G a0) {x1 x2 : Nat} (hi : x1 < sz K G a0 2) {x3 : Int32} : Sto B K F G (f_X8_link K F G a0 x1 x2 x3).1 a0 := by
  unfold f_X8_link f_X8_link_C55 f_X8_link_C37
  split
  · exact other_stp hk h (Or.inr (Or.inr (Or.inl (hk.exp hi).1))) (fun c hc => up2_a _ _ hc)
  · exact other_stp hk h (Or.inr (Or.inr (Or.inl (hk.exp hi).1))) (fun c hc => up2_a _ _ hc)
theorem grant_stp (hk : IK X K G a0) (h : IV B K F G a0) {p : Nat} (hp : TPol K G p) {x y : Int32} : Sto B K F G (f_X6_grant K F G p x y) a0 := by
  unfold f_X6_grant f_X6_grant_J20
  split
  · exact Sto.rf h
  · split
    · exact Sto.rf h
    · exact other_stp hk h (Or.inr (Or.inr (Or.inr (by rw [hp.2.2.2])))) (fun c hc => up2_a _ _ hc)
theorem limit_stp (hk : IK X K G a0) (h : IV B K F G a0) {x1 x2 : Nat} (hi : x1 < sz K G a0 3) {x3 : Int32} : Sto B K F G (f_X8_limit K F G a0 x1 x2 x3).1 a0 := by
  unfold f_X8_limit f_X8_limit_J37 f_X8_limit_C70
  split
  · rw [if_neg (by decide)]
    exact grant_stp hk h (hk.pol hi)
  · rw [if_pos rfl]
    exact Sto.rf h
theorem cut_stp (hk : IK X K G a0) (h : IV B K F G a0) {x1 x2 : Nat} (hi : x1 < sz K G a0 3) {x3 : Int32} : Sto B K F G (f_X8_cut K F G a0 x1 x2 x3).1 a0 := by
  unfold f_X8_cut f_X8_cut_J23 f_X8_cut_N36 f_X8_cut_C54
  exact grant_stp hk h (hk.pol hi)
/-- a buyer earns -/
theorem earn_stp (hk : IK X K G a0) (h : IV B K F G a0) {x1 : Nat} (hi : x1 < sz K G a0 1) {x2 : Int32} (hx : 0 ≤ x2.toInt ∧ x2.toInt ≤ 99999) (hB0 : 0 ≤ B) (hB : B + 99999 < 2147483648) : Sto (B + 99999) K F G (f_X8_earn K F G a0 x1 x2).1 a0 := by
  show Sto (B + 99999) K F G (f_X1_giveTo K F G (gp G a0 8) (gp G (eo G a0 1 x1) 3) x2) a0
  have kw := CS.kind hk.1.1 (CS.world (K := K) (G := G) (a0 := a0))
  have kb := CS.kind hk.1.1 (CS.buyer (K := K) (G := G) (a0 := a0) hi)
  have hwb : gp G a0 8 ≠ gp G (eo G a0 1 x1) 3 := hk.ap.1 _ (by simp) _ (List.mem_append_right _ (bch_mem hi))
  have how : gp G a0 5 ≠ gp G a0 8 := Ne.symm (Payer.o hk (Or.inl rfl))
  have gk : ∀ c, (K c).1 ≠ 2 → f_X1_giveTo K F G (gp G a0 8) (gp G (eo G a0 1 x1) 3) x2 c = F c := fun c hc => give_kk kw kb hc
  have g0 : f_X1_giveTo K F G (gp G a0 8) (gp G (eo G a0 1 x1) 3) x2 a0 = F a0 := gk a0 (by rw [hk.1.1.1]; decide)
  have gt := give_to (K := K) (G := G) h.1 CS.world (CS.buyer hi) (x := x2) (M := 99999) (by omega) (by omega) hwb
  have m := h.1.give (K := K) (G := G) hk.2.1 CS.world (CS.buyer hi) (x := x2) (M := 99999) (by omega) (by decide) (by omega)
  have es : ∀ i, i < sz K G a0 4 → f_X1_giveTo K F G (gp G a0 8) (gp G (eo G a0 1 x1) 3) x2 (eo G a0 4 i) = F (eo G a0 4 i) := fun i hi => gk _ (by rw [(hk.ship hi).1]; decide)
  refine ⟨⟨m, fun j hj => ?_, by rw [g0, give_ne how (hk.o_b hi)]; exact h.2.2.1, fun j hj => by unfold PolV; rw [gk _ (by rw [(hk.pol hj).1]; decide)]; exact h.2.2.2.1 j hj, fun j hj => ?_, by rw [g0]; exact h.2.2.2.2.2⟩, ⟨fun j hj => by rw [es j hj]; exact ⟨Int.le_refl _, id, id, rfl, id, id⟩, fun j hj q => by rw [gk _ (by rw [(hk.pol hj).1]; decide)]; exact q⟩, by rw [g0]⟩
  · have hj0 := h.2.1 j hj
    by_cases e : gp G (eo G a0 1 j) 3 = gp G (eo G a0 1 x1) 3
    · rw [e, gt.2, ← e]; omega
    · rw [give_ne (fun z => (hk.ap.1 (gp G a0 8) (by simp) _ (List.mem_append_right _ (bch_mem hj))) z.symm) e]; exact hj0
  · have q := h.2.2.2.2.1 j hj
    have t := hk.ship hj
    unfold ShipV at q ⊢
    rw [es j hj, g0]
    obtain ⟨q1, q2, q3, q4, q5⟩ := q
    refine ⟨q1, q2, q3, fun w => by rw [gk _ (by rw [t.2.2.2.2 w]; decide)]; exact q4 w, fun w => ?_⟩
    obtain ⟨z1, z2, z3⟩ := q5 w
    have ed := gk _ (show (K (gp G (eo G a0 4 j) 14)).1 ≠ 2 by rw [t.2.2.2.1 w]; decide)
    refine ⟨z1, by unfold DamOK; rw [ed]; exact z2, ?_⟩
    rw [ed, z3]
    by_cases w2 : G (eo G a0 4 j) 15 = none
    · rw [if_pos w2, if_pos w2]
    · rw [if_neg w2, if_neg w2, gk _ (by rw [t.2.2.2.2 w2]; decide)]
theorem i_ring2 (a c g s : Int32) : a - c + g - s = a - (c - (g - s)) := by
  simp only [Int32.sub_eq_add_neg, Int32.neg_add, Int32.neg_neg]
  ac_rfl
theorem i_ring3 (a c g s : Int32) : a - c - g + s = a - (c + (g - s)) := by
  simp only [Int32.sub_eq_add_neg, Int32.neg_add, Int32.neg_neg]
  ac_rfl
end PN5
