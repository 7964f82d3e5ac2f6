/-! ship: the premium, and the shipment that came -/
section PN7
variable {X : Xt} {K : Kt} {F F' F'' : Ft} {G : Gt} {a0 : Nat} {B B' : Int}
theorem money_write (hk : IK X K G a0) (h : IV B K F G a0) (hA : ∀ c, (K c).1 ≠ 1 → (K c).1 ≠ 2 → F' c = F c) (e0 : F' a0 9 = F a0 9) (m1 : Mon B' F' (CS K G a0)) (m2 : ∀ j, j < sz K G a0 1 → 0 ≤ (F' (gp G (eo G a0 1 j) 3) 0).toInt) (m3 : F' (gp G a0 5) 0 = F' a0 10 + F' a0 12 - F' a0 11) : Sto B' K F G F' a0 := by
  have es : ∀ i, i < sz K G a0 4 → F' (eo G a0 4 i) = F (eo G a0 4 i) := fun i hi => hA _ (by rw [(hk.ship hi).1]; decide) (by rw [(hk.ship hi).1]; decide)
  have ep : ∀ i, i < sz K G a0 3 → F' (eo G a0 3 i) = F (eo G a0 3 i) := fun i hi => hA _ (by rw [(hk.pol hi).1]; decide) (by rw [(hk.pol hi).1]; decide)
  refine ⟨⟨m1, m2, m3, fun j hj => by unfold PolV; rw [ep j hj]; exact h.2.2.2.1 j hj, fun j hj => ?_, by rw [e0]; exact h.2.2.2.2.2⟩, ⟨fun j hj => by rw [es j hj]; exact ⟨Int.le_refl _, id, id, rfl, id, id⟩, fun j hj q => by rw [ep j hj]; exact q⟩, e0⟩
  have q := h.2.2.2.2.1 j hj
  have t := hk.ship hj
  unfold ShipV at q ⊢
  rw [es j hj, e0]
  obtain ⟨q1, q2, q3, q4, q5⟩ := q
  refine ⟨q1, q2, q3, fun w => by rw [hA _ (by rw [t.2.2.2.2 w]; decide) (by rw [t.2.2.2.2 w]; decide)]; exact q4 w, fun w => ?_⟩
  obtain ⟨z1, z2, z3⟩ := q5 w
  have ed := hA (gp G (eo G a0 4 j) 14) (by rw [t.2.2.2.1 w]; decide) (by rw [t.2.2.2.1 w]; decide)
  refine ⟨z1, by unfold DamOK; rw [ed]; exact z2, ?_⟩
  rw [ed, z3]
  by_cases w2 : G (eo G a0 4 j) 15 = none
  · rw [if_pos w2, if_pos w2]
  · rw [if_neg w2, if_neg w2, hA _ (by rw [t.2.2.2.2 w2]; decide) (by rw [t.2.2.2.2 w2]; decide)]
theorem i_div_c {z k : Int32} {N M : Int} (h1 : -N ≤ z.toInt) (h2 : z.toInt ≤ N) (hk : 0 < k.toInt) (h : N ≤ M * k.toInt) (hM : M < 2147483648) : -M ≤ (z / k).toInt ∧ (z / k).toInt ≤ M := by
  by_cases hz : 0 ≤ z.toInt
  · rw [i_div hz hk]
    have h2 : 0 ≤ z.toInt / k.toInt := Int.ediv_nonneg hz (Int.le_of_lt hk)
    have h3 : z.toInt / k.toInt ≤ M := Int.ediv_le_of_le_mul hk (by omega)
    omega
  · have e : z.toInt.tdiv k.toInt = -((-z.toInt) / k.toInt) := by
      rw [← Int.tdiv_eq_ediv_of_nonneg (by omega), Int.neg_tdiv, Int.neg_neg]
    have h2 : 0 ≤ (-z.toInt) / k.toInt := Int.ediv_nonneg (by omega) (Int.le_of_lt hk)
    have h3 : (-z.toInt) / k.toInt ≤ M := Int.ediv_le_of_le_mul hk (by omega)
    rw [Int32.toInt_div, e, fb_bmod (by omega) (by omega)]
    omega
theorem i_ring4 (a r c p q : Int32) : a + r - c + p - q = (a + (p - q)) + r - c := by
  simp only [Int32.sub_eq_add_neg]
  ac_rfl
theorem premium_stp (hk : IK X K G a0) (h : IV B K F G a0) {i : Nat} (hi : i < sz K G a0 4) (hp : -214749 ≤ (F (eo G a0 4 i) 9).toInt ∧ (F (eo G a0 4 i) 9).toInt ≤ 214749) (hB0 : 0 ≤ B) (hB : B + 400000 < 2147483648) : Sto (B + 400000) K F G (f_X8_takePremium K F G a0 (eo G a0 4 i)) a0 := by
  have t := hk.ship hi
  obtain ⟨⟨jp, hjp, ejp⟩, -⟩ := hk.2.2.2.1 i hi
  have pv := (h.2.2.2.1 jp hjp).2.2.1
  rw [← ejp] at pv
  have hec : gp G (gp G (gp G (eo G a0 4 i) 0) 1) 1 ∈ CS K G a0 := hk.schest hi
  obtain ⟨j, hj, ej⟩ := hk.sexp hi
  have hoe : gp G a0 5 ≠ gp G (gp G (gp G (eo G a0 4 i) 0) 1) 1 := by rw [ej]; exact hk.o_e hj
  have heb : ∀ k, k < sz K G a0 1 → gp G (gp G (gp G (eo G a0 4 i) 0) 1) 1 ≠ gp G (eo G a0 1 k) 3 := fun k hk2 => by rw [ej]; exact hk.e_b hj hk2
  have ke := CS.kind hk.1.1 hec
  have ko := CS.kind hk.1.1 (CS.office (K := K) (G := G) (a0 := a0))
  have k1 := hk.1.1.1
  have u1 : (F (eo G a0 4 i) 9).toInt * (F (gp G (eo G a0 4 i) 0) 4).toInt ≤ 214749 * (F (gp G (eo G a0 4 i) 0) 4).toInt := Int.mul_le_mul_of_nonneg_right hp.2 pv.1
  have u2 : -214749 * (F (gp G (eo G a0 4 i) 0) 4).toInt ≤ (F (eo G a0 4 i) 9).toInt * (F (gp G (eo G a0 4 i) 0) 4).toInt := Int.mul_le_mul_of_nonneg_right hp.1 pv.1
  have um : (F (eo G a0 4 i) 9 * F (gp G (eo G a0 4 i) 0) 4).toInt = (F (eo G a0 4 i) 9).toInt * (F (gp G (eo G a0 4 i) 0) 4).toInt := fb_mulI (by omega) (by omega)
  have k100 : (100 : Int32).toInt = 100 := rfl
  have ub := i_div_c (z := F (eo G a0 4 i) 9 * F (gp G (eo G a0 4 i) 0) 4) (k := 100) (N := 12884940) (M := 128850) (by rw [um]; omega) (by rw [um]; omega) (by rw [k100]; decide) (by rw [k100]; decide) (by decide)
  unfold f_X8_takePremium f_X8_takePremium_C36 f_X8_takePremium_C52
  generalize F (eo G a0 4 i) 9 * F (gp G (eo G a0 4 i) 0) 4 / 100 = ps at ub ⊢
  obtain ⟨F1, hF1⟩ : ∃ f, f = f_X1_giveTo K F G (gp G (gp G (gp G (eo G a0 4 i) 0) 1) 1) (gp G a0 5) (F (eo G a0 4 i) 9) := ⟨_, rfl⟩
  rw [← hF1]
  obtain ⟨ri, hri⟩ : ∃ f, f = f_X8_chestOfRival K F1 G a0 (F1 (gp G (eo G a0 4 i) 0) 3) := ⟨_, rfl⟩
  rw [← hri]
  have hr : ri ∈ CS K G a0 := by rw [hri]; exact CS.rival _
  have kr := CS.kind hk.1.1 hr
  have hor : gp G a0 5 ≠ ri := by rw [hri]; exact hk.o_r _
  have hrb : ∀ k, k < sz K G a0 1 → ri ≠ gp G (eo G a0 1 k) 3 := fun k hk2 => by rw [hri]; exact hk.r_b hk2 _
  obtain ⟨F3, hF3⟩ : ∃ f, f = f_X1_giveTo K F1 G (gp G a0 5) ri ps := ⟨_, rfl⟩
  rw [← hF3]
  have g3 : ∀ c, (K c).1 ≠ 2 → F3 c = F c := fun c hc => by rw [hF3, give_kk ko kr hc, hF1, give_kk ke ko hc]
  have e3 : F3 a0 = F a0 := g3 a0 (by rw [k1]; decide)
  have es : F3 (eo G a0 4 i) = F (eo G a0 4 i) := g3 _ (by rw [t.1]; decide)
  have mF1 : Mon (B + 214749) F1 (CS K G a0) := by rw [hF1]; exact h.1.give hk.2.1 hec CS.office hp (by decide) (by omega)
  have mF3 : Mon (B + 214749 + 128850) F3 (CS K G a0) := by rw [hF3]; exact mF1.give hk.2.1 CS.office hr ub (by decide) (by omega)
  rw [es, e3]
  have na : ∀ c, (K c).1 ≠ 1 → c ≠ a0 := fun c hc => ne_kind k1 hc
  have cc : ∀ (v : Int32) c, (K c).1 = 2 → up2 F3 a0 10 v c = F3 c := fun v c hc => up2_a _ _ (na c (by rw [hc]; decide))
  refine money_write hk h (fun c h1 h2 => by rw [up2_a _ _ (na c h1), g3 c h2]) (by rw [up2_k _ _ (by decide), e3]) ((mF3.congr (fun c hc => by rw [cc _ c (CS.kind hk.1.1 hc)])).mono (by omega)) (fun j2 hj2 => ?_) ?_
  · rw [cc _ _ (CS.kind hk.1.1 (CS.buyer hj2)), hF3, give_ne (Ne.symm (hk.o_b hj2)) (Ne.symm (hrb j2 hj2)), hF1, give_ne (Ne.symm (heb j2 hj2)) (Ne.symm (hk.o_b hj2))]
    exact h.2.1 j2 hj2
  · rw [cc _ _ ko, up2_eq, up2_k _ _ (by decide), up2_k _ _ (by decide), e3, hF3, give_a hor, hF1, give_b (Ne.symm hoe), h.2.2.1]
    exact i_ring4 _ _ _ _ _
theorem ins_le {po bu : Nat} {am te : Int32} (h : 0 ≤ am.toInt) : (f_X8_insuredOf K F G a0 po bu am te).toInt ≤ am.toInt := by
  unfold f_X8_insuredOf
  split
  · rcases i_min (x := am) (y := if f_X8_spaceIn K F G a0 (gp G bu 1) < f_X8_roomFor K F G a0 po bu then f_X8_spaceIn K F G a0 (gp G bu 1) else f_X8_roomFor K F G a0 po bu) with ⟨w1, w2⟩ | ⟨w1, w2⟩
    · rw [w1]; exact w2
    · rw [w1]; exact Int.le_refl _
  · rw [Int32.toInt_zero]; exact h
/-- what keepTerms writes -/
theorem keep_spec {s : Nat} {r ins rs : Int32} : (∀ c, c ≠ s → f_X7_keepTerms K F G s r ins rs c = F c) ∧ (∀ k, k ≠ 6 → k ≠ 7 → k ≠ 8 → k ≠ 9 → f_X7_keepTerms K F G s r ins rs s k = F s k) ∧ f_X7_keepTerms K F G s r ins rs s 7 = ins ∧ (-214749 ≤ (f_X7_keepTerms K F G s r ins rs s 9).toInt ∧ (f_X7_keepTerms K F G s r ins rs s 9).toInt ≤ 214749) := by
  have hz := fb_rng (ins * r)
  have k1 : (10000 : Int32).toInt = 10000 := rfl
  have hb := i_div_c (z := ins * r) (k := 10000) (N := 2147483648) (M := 214749) (by omega) (by omega) (by rw [k1]; decide) (by rw [k1]; decide) (by decide)
  have J : ∀ u : Int32, (-214749 ≤ u.toInt ∧ u.toInt ≤ 214749) → (∀ c, c ≠ s → f_X7_keepTerms_J40 K F G s r ins rs u c = F c) ∧ (∀ k, k ≠ 6 → k ≠ 7 → k ≠ 8 → k ≠ 9 → f_X7_keepTerms_J40 K F G s r ins rs u s k = F s k) ∧ f_X7_keepTerms_J40 K F G s r ins rs u s 7 = ins ∧ (-214749 ≤ (f_X7_keepTerms_J40 K F G s r ins rs u s 9).toInt ∧ (f_X7_keepTerms_J40 K F G s r ins rs u s 9).toInt ≤ 214749) := fun u hu => by
    unfold f_X7_keepTerms_J40
    refine ⟨fun c hc => by rw [up2_a _ _ hc, up2_a _ _ hc, up2_a _ _ hc, up2_a _ _ hc], fun k h6 h7 h8 h9 => by rw [up2_k _ _ h9, up2_k _ _ h8, up2_k _ _ h7, up2_k _ _ h6], by rw [up2_k _ _ (by decide), up2_k _ _ (by decide), up2_eq], by rw [up2_eq]; exact hu⟩
  unfold f_X7_keepTerms f_X7_keepTerms_J38
  split
  · split
    · exact J _ hb
    · exact J 1 (by decide)
  · exact J _ hb
end PN7
