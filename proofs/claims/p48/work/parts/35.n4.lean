/-! the methods that write numbers alone keep the invariant -/
section PN4
variable {X : Xt} {K : Kt} {F F' F'' : Ft} {G : Gt} {a0 : Nat} {B B' : Int}
theorem i_min {x y : Int32} : ((if y < x then y else x).toInt = y.toInt ∧ y.toInt ≤ x.toInt) ∨ ((if y < x then y else x).toInt = x.toInt ∧ x.toInt ≤ y.toInt) := by
  by_cases h : y < x
  · rw [if_pos h]
    rw [Int32.lt_iff_toInt_lt] at h
    exact Or.inl ⟨rfl, by omega⟩
  · rw [if_neg h]
    rw [Int32.lt_iff_toInt_lt] at h
    exact Or.inr ⟨rfl, by omega⟩
/-- a step: the invariant, what never goes back, the day -/
def Sto (B : Int) (K : Kt) (F : Ft) (G : Gt) (F' : Ft) (a0 : Nat) : Prop := IV B K F' G a0 ∧ Mono K F G F' G a0 ∧ F' a0 9 = F a0 9
theorem Sto.tr (h1 : Sto B K F G F' a0) (h2 : Sto B' K F' G F'' a0) : Sto B' K F G F'' a0 := ⟨h2.1, h1.2.1.tr h2.2.1, h2.2.2.trans h1.2.2⟩
theorem Sto.mono (h : Sto B K F G F' a0) (hb : B ≤ B') : Sto B' K F G F' a0 := ⟨h.1.mono hb, h.2⟩
theorem Sto.rf (h : IV B K F G a0) : Sto B K F G F a0 := ⟨h, Mono.rf, rfl⟩
theorem settle_stp (hk : IK X K G a0) (h : IV B K F G a0) {i : Nat} (hi : i < sz K G a0 4) {a2 : Nat} {x : Int32} (hp : Payer K G a0 a2) (hx0 : 0 ≤ x.toInt) (hxl : x.toInt ≤ (F (eo G a0 4 i) 10).toInt) (hxp : (∃ j, j < sz K G a0 1 ∧ a2 = gp G (eo G a0 1 j) 3) → x.toInt ≤ (F a2 0).toInt) (hB0 : 0 ≤ B) (hB : B + 15000 < 2147483648) : Sto (B + 15000) K F G (f_X8_settle K F G a0 (eo G a0 4 i) a2 x) a0 := by
  obtain ⟨r1, r2, r3, -⟩ := settle_spec hk h hi hp hx0 hxl hxp hB0 hB
  exact ⟨r1, r2, r3⟩
/-- what is due is paid -/
theorem due_L (hk : IK X K G a0) : ∀ (k j : Nat) (F : Ft) (B : Int), j + k ≤ sz K G a0 4 → 0 ≤ B → B + 15000 * k < 2147483648 → IV B K F G a0 → Sto (B + 15000 * k) K F G (f_X8_payWhatIsDue_L2 K G a0 k j F) a0 := by
  intro k
  induction k with
  | zero =>
    intro j F B _ _ _ h
    rw [f_X8_payWhatIsDue_L2]
    exact (Sto.rf h).mono (by omega)
  | succ k ih =>
    intro j F B hj hB0 hB h
    have hjs : j < sz K G a0 4 := by omega
    have hstay : Sto (B + 15000 * ((k + 1 : Nat) : Int)) K F G (f_X8_payWhatIsDue_L2 K G a0 k (j + 1) F) a0 := (ih (j + 1) F B (by omega) hB0 (by omega) h).mono (by omega)
    rw [f_X8_payWhatIsDue_L2]
    unfold f_X8_payWhatIsDue_J78 f_X8_payWhatIsDue_C78
    split
    · split
      · exact hstay
      · split
        · exact hstay
        · obtain ⟨b, hb, eb⟩ := hk.bchest hjs
          have v := h.2.2.2.2.1 j hjs
          have hc := h.2.1 b hb
          rw [eb]
          have st := settle_stp (x := if (F (gp G (eo G a0 1 b) 3) 0) < (F (eo G a0 4 j) 10) then (F (gp G (eo G a0 1 b) 3) 0) else (F (eo G a0 4 j) 10)) hk h hjs (Or.inr ⟨b, hb, rfl⟩) (by rcases i_min (x := F (eo G a0 4 j) 10) (y := F (gp G (eo G a0 1 b) 3) 0) with ⟨w1, w2⟩ | ⟨w1, w2⟩ <;> rw [w1] <;> have := v.1.1 <;> omega) (by rcases i_min (x := F (eo G a0 4 j) 10) (y := F (gp G (eo G a0 1 b) 3) 0) with ⟨w1, w2⟩ | ⟨w1, w2⟩ <;> rw [w1] <;> omega) (fun _ => by rcases i_min (x := F (eo G a0 4 j) 10) (y := F (gp G (eo G a0 1 b) 3) 0) with ⟨w1, w2⟩ | ⟨w1, w2⟩ <;> rw [w1] <;> omega) hB0 (by omega)
          exact (st.tr (ih (j + 1) _ (B + 15000) (by omega) (by omega) (by omega) st.1)).mono (by omega)
    · exact hstay
theorem due_stp (hk : IK X K G a0) (h : IV B K F G a0) (hB0 : 0 ≤ B) (hB : B + 15000 * (sz K G a0 4 : Int) < 2147483648) : Sto (B + 15000 * (sz K G a0 4 : Int)) K F G (f_X8_payWhatIsDue K F G a0) a0 := by
  unfold f_X8_payWhatIsDue
  exact due_L hk _ 0 F B (by omega) hB0 hB h
theorem next_spec {d : Nat} {x : Int32} (h0 : 0 ≤ (F d 0).toInt) (hx : 0 ≤ x.toInt) : 0 ≤ (f_X3_nextOf K F G d x).2.toInt ∧ (f_X3_nextOf K F G d x).2.toInt ≤ x.toInt ∧ (∀ c, c ≠ d → (f_X3_nextOf K F G d x).1 c = F c) ∧ ∀ k, k ≠ 3 → (f_X3_nextOf K F G d x).1 d k = F d k := by
  have hn : ∀ c, c ≠ d → (up2 F d 3 (F d 3 + 1)) c = F c := fun c hc => up2_a _ _ hc
  have hk : ∀ k, k ≠ 3 → (up2 F d 3 (F d 3 + 1)) d k = F d k := fun k hk => up2_k _ _ hk
  unfold f_X3_nextOf f_X3_nextOf_J28
  split
  · exact ⟨hx, Int.le_refl _, hn, hk⟩
  · rename_i c1
    split
    · rw [hk 2 (by decide)] at c1 ⊢
      rw [hk 0 (by decide)]
      have hy : 0 < (F d 2).toInt := by
        rw [Int32.le_iff_toInt_le, Int32.toInt_zero] at c1
        omega
      have hq := i_div h0 hy
      have hq0 : 0 ≤ (F d 0).toInt / (F d 2).toInt := Int.ediv_nonneg h0 (Int.le_of_lt hy)
      rcases i_min (x := x) (y := F d 0 / F d 2) with ⟨w1, w2⟩ | ⟨w1, w2⟩
      · exact ⟨by show 0 ≤ (if F d 0 / F d 2 < x then F d 0 / F d 2 else x).toInt; rw [w1]; omega, by show (if F d 0 / F d 2 < x then F d 0 / F d 2 else x).toInt ≤ _; rw [w1]; omega, hn, hk⟩
      · exact ⟨by show 0 ≤ (if F d 0 / F d 2 < x then F d 0 / F d 2 else x).toInt; rw [w1]; omega, by show (if F d 0 / F d 2 < x then F d 0 / F d 2 else x).toInt ≤ _; rw [w1]; omega, hn, hk⟩
    · exact ⟨hx, Int.le_refl _, hn, hk⟩
/-- what is put off comes -/
theorem off_L (hk : IK X K G a0) : ∀ (k j : Nat) (F : Ft) (B : Int), j + k ≤ sz K G a0 4 → 0 ≤ B → B + 15000 * k < 2147483648 → IV B K F G a0 → Sto (B + 15000 * k) K F G (f_X8_payWhatIsPutOff_L2 K G a0 k j F) a0 := by
  intro k
  induction k with
  | zero =>
    intro j F B _ _ _ h
    rw [f_X8_payWhatIsPutOff_L2]
    exact (Sto.rf h).mono (by omega)
  | succ k ih =>
    intro j F B hj hB0 hB h
    have hjs : j < sz K G a0 4 := by omega
    have hstay : Sto (B + 15000 * ((k + 1 : Nat) : Int)) K F G (f_X8_payWhatIsPutOff_L2 K G a0 k (j + 1) F) a0 := (ih (j + 1) F B (by omega) hB0 (by omega) h).mono (by omega)
    rw [f_X8_payWhatIsPutOff_L2]
    unfold f_X8_payWhatIsPutOff_J52 f_X8_payWhatIsPutOff_J91 f_X8_payWhatIsPutOff_J91_1 f_X8_payWhatIsPutOff_C88 f_X8_payWhatIsPutOff_C91
    split
    · exact hstay
    · rename_i c15
      split
      · split
        · exact hstay
        · split
          · have t := hk.ship hjs
            have k9 := t.2.2.2.2 c15
            have v := h.2.2.2.2.1 j hjs
            obtain ⟨p1, p2, p3, p4⟩ := next_spec (K := K) (F := F) (G := G) (d := gp G (eo G a0 4 j) 15) (x := F (eo G a0 4 j) 10) (v.2.2.2.1 c15).2 v.1.1
            have fr := IV.frame (F' := (f_X3_nextOf K F G (gp G (eo G a0 4 j) 15) (F (eo G a0 4 j) 10)).1) hk h (fun a ha => p3 a (ne_kind k9 (by omega))) (fun a ha => by
              by_cases e : a = gp G (eo G a0 4 j) 15
              · rw [e]; exact ⟨p4 1 (by decide), p4 0 (by decide)⟩
              · rw [p3 a e]; exact ⟨rfl, rfl⟩)
            have f0 : (f_X3_nextOf K F G (gp G (eo G a0 4 j) 15) (F (eo G a0 4 j) 10)).1 a0 = F a0 := p3 a0 (ne_kind k9 (by rw [hk.1.1.1]; decide))
            have fs : (f_X3_nextOf K F G (gp G (eo G a0 4 j) 15) (F (eo G a0 4 j) 10)).1 (eo G a0 4 j) = F (eo G a0 4 j) := p3 _ (ne_kind k9 (by rw [t.1]; decide))
            have s0 : Sto B K F G (f_X3_nextOf K F G (gp G (eo G a0 4 j) 15) (F (eo G a0 4 j) 10)).1 a0 := ⟨fr.1, fr.2, by rw [f0]⟩
            have st := settle_stp (x := (f_X3_nextOf K F G (gp G (eo G a0 4 j) 15) (F (eo G a0 4 j) 10)).2) (a2 := gp G a0 8) hk fr.1 hjs (Or.inl rfl) p1 (by rw [fs]; exact p2) (fun w => by
              obtain ⟨b, hb, eb⟩ := w
              exact absurd eb (hk.ap.1 _ (by simp) _ (List.mem_append_right _ (bch_mem hb)))) hB0 (by omega)
            exact ((s0.tr st).tr (ih (j + 1) _ (B + 15000) (by omega) (by omega) (by omega) st.1)).mono (by omega)
          · exact hstay
      · exact hstay
theorem off_stp (hk : IK X K G a0) (h : IV B K F G a0) (hB0 : 0 ≤ B) (hB : B + 15000 * (sz K G a0 4 : Int) < 2147483648) : Sto (B + 15000 * (sz K G a0 4 : Int)) K F G (f_X8_payWhatIsPutOff K F G a0) a0 := by
  unfold f_X8_payWhatIsPutOff
  exact off_L hk _ 0 F B (by omega) hB0 hB h
/-- a day goes by -/
theorem IV.day (hk : IK X K G a0) (h : IV B K F G a0) (hd : (F a0 9).toInt < 7200) : IV B K (up2 F a0 9 (F a0 9 + 1)) G a0 ∧ Mono K F G (up2 F a0 9 (F a0 9 + 1)) G a0 ∧ ((up2 F a0 9 (F a0 9 + 1)) a0 9).toInt = (F a0 9).toInt + 1 := by
  obtain ⟨m1, m2, m3, m4, m5, m6⟩ := h
  have k1 := hk.1.1.1
  have n1 : ∀ c, (K c).1 ≠ 1 → up2 F a0 9 (F a0 9 + 1) c = F c := fun c hc => up2_a _ _ (ne_kind k1 hc)
  have nk : ∀ k, k ≠ 9 → up2 F a0 9 (F a0 9 + 1) a0 k = F a0 k := fun k hk => up2_k _ _ hk
  have e9 : ((up2 F a0 9 (F a0 9 + 1)) a0 9).toInt = (F a0 9).toInt + 1 := by
    rw [up2_eq, fb_addI (by rw [show (1 : Int32).toInt = 1 from rfl]; omega) (by rw [show (1 : Int32).toInt = 1 from rfl]; omega)]
    rfl
  have ec : ∀ c ∈ CS K G a0, up2 F a0 9 (F a0 9 + 1) c = F c := fun c hc => n1 c (by rw [CS.kind hk.1.1 hc]; decide)
  refine ⟨⟨m1.congr (fun c hc => by rw [ec c hc]), fun i hi => by rw [ec _ (CS.buyer hi)]; exact m2 i hi, by rw [ec _ CS.office, nk 10 (by decide), nk 11 (by decide), nk 12 (by decide)]; exact m3, fun i hi => by unfold PolV; rw [n1 _ (by rw [(hk.pol hi).1]; decide)]; exact m4 i hi, fun i hi => ?_, by rw [e9]; omega⟩, ⟨fun i hi => ?_, fun i hi q => by rw [n1 _ (by rw [(hk.pol hi).1]; decide)]; exact q⟩, e9⟩
  · have q := m5 i hi
    have t := hk.ship hi
    unfold ShipV at q ⊢
    rw [n1 _ (by rw [t.1]; decide), e9]
    obtain ⟨q1, q2, q3, q4, q5⟩ := q
    refine ⟨q1, ⟨q2.1, by omega⟩, q3, fun w => by rw [n1 _ (by rw [t.2.2.2.2 w]; decide)]; exact q4 w, fun w => ?_⟩
    obtain ⟨z1, z2, z3⟩ := q5 w
    have ed := n1 _ (show (K (gp G (eo G a0 4 i) 14)).1 ≠ 1 by rw [t.2.2.2.1 w]; decide)
    refine ⟨z1, by unfold DamOK; rw [ed]; exact z2, ?_⟩
    rw [ed, z3]
    by_cases w2 : G (eo G a0 4 i) 15 = none
    · rw [if_pos w2, if_pos w2]
    · rw [if_neg w2, if_neg w2, n1 _ (by rw [t.2.2.2.2 w2]; decide)]
  · rw [n1 _ (by rw [(hk.ship hi).1]; decide)]
    exact ⟨Int.le_refl _, id, id, rfl, id, id⟩
/-- days go by -/
theorem pass_L (hk : IK X K G a0) : ∀ (k j : Nat) (F : Ft) (B : Int), 0 ≤ B → B + 30000 * (sz K G a0 4 : Int) * k < 2147483648 → (F a0 9).toInt + k ≤ 7200 → IV B K F G a0 → IV (B + 30000 * (sz K G a0 4 : Int) * k) K (f_X8_pass_L33 K G a0 k j F).1 G a0 ∧ Mono K F G (f_X8_pass_L33 K G a0 k j F).1 G a0 ∧ ((f_X8_pass_L33 K G a0 k j F).1 a0 9).toInt = (F a0 9).toInt + k ∧ (f_X8_pass_L33 K G a0 k j F).2 = (f_X8_pass_L33 K G a0 k j F).1 a0 9 := by
  intro k
  induction k with
  | zero =>
    intro j F B _ _ _ h
    rw [f_X8_pass_L33]
    exact ⟨h.mono (by omega), Mono.rf, by simp, rfl⟩
  | succ k ih =>
    intro j F B hB0 hB hd h
    have hs0 : (0 : Int) ≤ (sz K G a0 4 : Int) := Int.natCast_nonneg _
    have hk0 : (0 : Int) ≤ 30000 * (sz K G a0 4 : Int) * (k : Int) := Int.mul_nonneg (Int.mul_nonneg (by decide) hs0) (Int.natCast_nonneg _)
    have hx : 30000 * (sz K G a0 4 : Int) * ((k + 1 : Nat) : Int) = 30000 * (sz K G a0 4 : Int) * (k : Int) + 30000 * (sz K G a0 4 : Int) := by
      rw [Int.natCast_succ, Int.mul_add, Int.mul_one]
    obtain ⟨d1, d2, d3⟩ := IV.day hk h (by omega)
    have s1 := due_stp hk d1 hB0 (by omega)
    rw [f_X8_pass_L33]
    unfold f_X8_pass_C67 f_X8_pass_J67
    split
    · have s2 := off_stp hk s1.1 (by omega) (by omega)
      have e9 : (f_X8_payWhatIsPutOff K (f_X8_payWhatIsDue K (up2 F a0 9 (F a0 9 + 1)) G a0) G a0 a0 9).toInt = (F a0 9).toInt + 1 := by rw [s2.2.2, s1.2.2, d3]
      obtain ⟨r1, r2, r3, r4⟩ := ih (j + 1) _ (B + 30000 * (sz K G a0 4 : Int)) (by omega) (by omega) (by rw [e9]; omega) (s2.1.mono (by omega))
      exact ⟨r1.mono (by omega), ((d2.tr s1.2.1).tr s2.2.1).tr r2, by rw [r3, e9]; omega, r4⟩
    · have e9 : (f_X8_payWhatIsDue K (up2 F a0 9 (F a0 9 + 1)) G a0 a0 9).toInt = (F a0 9).toInt + 1 := by rw [s1.2.2, d3]
      obtain ⟨r1, r2, r3, r4⟩ := ih (j + 1) _ (B + 30000 * (sz K G a0 4 : Int)) (by omega) (by omega) (by rw [e9]; omega) (s1.1.mono (by omega))
      exact ⟨r1.mono (by omega), (d2.tr s1.2.1).tr r2, by rw [r3, e9]; omega, r4⟩
end PN4
