/-! inspect; how the lists are read after one more came -/
section PN6
variable {X : Xt} {K : Kt} {F F' F'' : Ft} {G : Gt} {a0 : Nat} {B B' : Int}
theorem void_write (hk : IK X K G a0) (h : IV B K F G a0) {i : Nat} (hi : i < sz K G a0 4) (hA : ∀ c, (K c).1 ≠ 1 → (K c).1 ≠ 2 → F' c = up2 (up2 F (eo G a0 4 i) 13 1) (gp G (eo G a0 4 i) 0) 6 1 c) (h5 : F (eo G a0 4 i) 5 = 1) (e0 : F' a0 9 = F a0 9) (m1 : Mon B' F' (CS K G a0)) (m2 : ∀ j, j < sz K G a0 1 → 0 ≤ (F' (gp G (eo G a0 1 j) 3) 0).toInt) (m3 : F' (gp G a0 5) 0 = F' a0 10 + F' a0 12 - F' a0 11) : Sto B' K F G F' a0 := by
  have t := hk.ship hi
  have kp := t.2.1.2.1
  have ks := t.1
  have o : ∀ c, (K c).1 ≠ 1 → (K c).1 ≠ 2 → (K c).1 ≠ 6 → c ≠ eo G a0 4 i → F' c = F c := fun c h1 h2 h6 hc => by
    rw [hA c h1 h2, up2_a _ _ (ne_kind kp h6), up2_a _ _ hc]
  have es : ∀ k, k ≠ 13 → F' (eo G a0 4 i) k = F (eo G a0 4 i) k := fun k h13 => by
    rw [hA _ (by rw [ks]; decide) (by rw [ks]; decide), up2_a _ _ (ne_kind kp (by rw [ks]; decide)), up2_k _ _ h13]
  have e13 : F' (eo G a0 4 i) 13 = 1 := by
    rw [hA _ (by rw [ks]; decide) (by rw [ks]; decide), up2_a _ _ (ne_kind kp (by rw [ks]; decide)), up2_eq]
  have r := IV.at (B' := B') (F' := F') hk h hi m1 m2 m3 e0 (fun j hj => by
      have q := h.2.2.2.1 j hj
      have kj := (hk.pol hj).1
      by_cases e : eo G a0 3 j = gp G (eo G a0 4 i) 0
      · have ek : ∀ k, k ≠ 6 → F' (eo G a0 3 j) k = F (eo G a0 3 j) k := fun k h6 => by
          rw [hA _ (by rw [kj]; decide) (by rw [kj]; decide), e, up2_k _ _ h6, up2_a _ _ (ne_kind ks (by rw [kp]; decide))]
        have e6 : F' (eo G a0 3 j) 6 = 1 := by
          rw [hA _ (by rw [kj]; decide) (by rw [kj]; decide), e, up2_eq]
        unfold PolV at q ⊢
        rw [ek 0 (by decide), ek 2 (by decide), ek 4 (by decide)]
        exact ⟨⟨q.1, q.2.1, q.2.2.1, Or.inr e6⟩, fun _ => e6⟩
      · have ej : F' (eo G a0 3 j) = F (eo G a0 3 j) := by
          rw [hA _ (by rw [kj]; decide) (by rw [kj]; decide), up2_a _ _ e, up2_a _ _ (ne_kind ks (by rw [kj]; decide))]
        unfold PolV at q ⊢
        rw [ej]
        exact ⟨q, id⟩)
    (fun c hc hcs => o c (by rw [hc]; decide) (by rw [hc]; decide) (by rw [hc]; decide) hcs)
    (fun c hc _ => o c (by rw [hc]; decide) (by rw [hc]; decide) (by rw [hc]; decide) (ne_kind ks (by rw [hc]; decide)))
    (fun c hc => by rw [o c (by rw [hc]; decide) (by rw [hc]; decide) (by rw [hc]; decide) (ne_kind ks (by rw [hc]; decide))]; exact ⟨rfl, rfl⟩)
    (by
      obtain ⟨q1, q5, ⟨q6, q7, q8, q9, q10⟩, q11, q12⟩ := h.2.2.2.2.1 i hi
      unfold ShipV
      rw [e0, e13, es 10 (by decide), es 2 (by decide), es 7 (by decide), es 3 (by decide), es 5 (by decide), es 11 (by decide), es 12 (by decide)]
      refine ⟨q1, q5, ⟨q6, q7, q8, Or.inr rfl, fun _ => h5⟩, fun w => ?_, fun w => ?_⟩
      · have k9 := t.2.2.2.2 w
        rw [o _ (by rw [k9]; decide) (by rw [k9]; decide) (by rw [k9]; decide) (ne_kind ks (by rw [k9]; decide))]
        exact q11 w
      · have k8 := t.2.2.2.1 w
        have ed := o (gp G (eo G a0 4 i) 14) (by rw [k8]; decide) (by rw [k8]; decide) (by rw [k8]; decide) (ne_kind ks (by rw [k8]; decide))
        obtain ⟨z1, z2, z3⟩ := q12 w
        refine ⟨z1, by unfold DamOK; rw [ed]; exact z2, ?_⟩
        rw [ed, z3]
        by_cases w2 : G (eo G a0 4 i) 15 = none
        · rw [if_pos w2, if_pos w2]
        · have k9 := t.2.2.2.2 w2
          rw [if_neg w2, if_neg w2, o _ (by rw [k9]; decide) (by rw [k9]; decide) (by rw [k9]; decide) (ne_kind ks (by rw [k9]; decide))])
    (by rw [es 10 (by decide)]; exact Int.le_refl _) (by rw [es 11 (by decide)]; exact id) (fun _ => e13) (es 5 (by decide))
  exact ⟨r.1, r.2, e0⟩
theorem inspect_stp (hk : IK X K G a0) (h : IV B K F G a0) {x1 : Nat} (hB0 : 0 ≤ B) (hB : B + 6000 < 2147483648) : Sto (B + 6000) K F G (f_X8_inspect K F G a0 x1).1 a0 := by
  have st0 : Sto (B + 6000) K F G F a0 := (Sto.rf h).mono (by omega)
  have s0 : Sto (B + 6000) K F G (f_X8_inspect_J18 K F G a0 x1 0).1 a0 := by unfold f_X8_inspect_J18; rw [if_pos rfl]; exact st0
  unfold f_X8_inspect
  split
  · exact st0
  · rename_i c1
    have hi : x1 < sz K G a0 4 := Nat.not_le.mp c1
    split
    · unfold f_X8_inspect_J18
      rw [if_neg (by decide)]
      split
      · exact st0
      · rename_i c5
        have h5 : F (eo G a0 4 x1) 5 = 1 := (h.2.2.2.2.1 x1 hi).2.2.1.1.resolve_left c5
        have t := hk.ship hi
        have kp := t.2.1.2.1
        have ks := t.1
        obtain ⟨F1, hF1⟩ : ∃ f, f = up2 (up2 F (eo G a0 4 x1) 13 1) (gp G (eo G a0 4 x1) 0) 6 1 := ⟨_, rfl⟩
        have f1o : ∀ c, (K c).1 ≠ 6 → (K c).1 ≠ 7 → F1 c = F c := fun c h6 h7 => by rw [hF1, up2_a _ _ (ne_kind kp h6), up2_a _ _ (ne_kind ks h7)]
        have k1 := hk.1.1.1
        have e0 : F1 a0 = F a0 := f1o a0 (by rw [k1]; decide) (by rw [k1]; decide)
        have c1 : ∀ c, (K c).1 = 2 → F1 c = F c := fun c hc => f1o c (by rw [hc]; decide) (by rw [hc]; decide)
        have ko := CS.kind hk.1.1 (CS.office (K := K) (G := G) (a0 := a0))
        have mF1 : Mon B F1 (CS K G a0) := h.1.congr (fun c hc => by rw [c1 c (CS.kind hk.1.1 hc)])
        show Sto (B + 6000) K F G (f_X8_payBack K (up2 (up2 F (eo G a0 4 x1) 13 1) (gp G (eo G a0 4 x1) 0) 6 1) G a0 (eo G a0 4 x1)) a0
        rw [← hF1]
        unfold f_X8_payBack
        by_cases w : G (eo G a0 4 x1) 14 = none
        · rw [if_pos w]
          exact void_write hk h hi (fun c _ _ => by rw [hF1]) h5 (by rw [e0]) (mF1.mono (by omega)) (fun j hj => by rw [c1 _ (CS.kind hk.1.1 (CS.buyer hj))]; exact h.2.1 j hj) (by rw [c1 _ ko, e0]; exact h.2.2.1)
        · rw [if_neg w]
          unfold f_X8_payBack_C33 f_X8_payBack_C52
          have k8 := t.2.2.2.1 w
          obtain ⟨z1, z2, z3⟩ := (h.2.2.2.2.1 x1 hi).2.2.2.2 w
          obtain ⟨d1, d2, d3, d4, d5, d6⟩ := z2
          have hec : gp G (gp G (gp G (eo G a0 4 x1) 0) 1) 1 ∈ CS K G a0 := hk.schest hi
          obtain ⟨j, hj, ej⟩ := hk.sexp hi
          have hoe : gp G a0 5 ≠ gp G (gp G (gp G (eo G a0 4 x1) 0) 1) 1 := by rw [ej]; exact hk.o_e hj
          have heb : ∀ k, k < sz K G a0 1 → gp G (gp G (gp G (eo G a0 4 x1) 0) 1) 1 ≠ gp G (eo G a0 1 k) 3 := fun k hk2 => by rw [ej]; exact hk.e_b hj hk2
          have ke := CS.kind hk.1.1 hec
          have fd : F1 (gp G (eo G a0 4 x1) 14) = F (gp G (eo G a0 4 x1) 14) := f1o _ (by rw [k8]; decide) (by rw [k8]; decide)
          obtain ⟨F2, hF2⟩ : ∃ f, f = f_X1_giveTo K F1 G (gp G (gp G (gp G (eo G a0 4 x1) 0) 1) 1) (gp G a0 5) (F1 (gp G (eo G a0 4 x1) 14) 1) := ⟨_, rfl⟩
          have fd2 : F2 (gp G (eo G a0 4 x1) 14) = F (gp G (eo G a0 4 x1) 14) := by rw [hF2, give_kk ke ko (by rw [k8]; decide), fd]
          rw [← hF2]
          obtain ⟨ri, hri⟩ : ∃ f, f = f_X8_chestOfRival K F2 G a0 (F2 (gp G (eo G a0 4 x1) 0) 3) := ⟨_, rfl⟩
          have hr : ri ∈ CS K G a0 := by rw [hri]; exact CS.rival _
          have kr := CS.kind hk.1.1 hr
          have hor : gp G a0 5 ≠ ri := by rw [hri]; exact hk.o_r _
          have hrb : ∀ k, k < sz K G a0 1 → ri ≠ gp G (eo G a0 1 k) 3 := fun k hk2 => by rw [hri]; exact hk.r_b hk2 _
          rw [← hri]
          obtain ⟨F3, hF3⟩ : ∃ f, f = f_X1_giveTo K F2 G (gp G a0 5) ri (F2 (gp G (eo G a0 4 x1) 14) 2) := ⟨_, rfl⟩
          rw [← hF3]
          have g3 : ∀ c, (K c).1 ≠ 2 → F3 c = F1 c := fun c hc => by rw [hF3, give_kk ko kr hc, hF2, give_kk ke ko hc]
          have fd3 : F3 (gp G (eo G a0 4 x1) 14) = F (gp G (eo G a0 4 x1) 14) := by rw [g3 _ (by rw [k8]; decide), fd]
          have e3 : F3 a0 = F a0 := by rw [g3 a0 (by rw [k1]; decide), e0]
          have mF2 : Mon (B + 3000) F2 (CS K G a0) := by rw [hF2]; exact mF1.give hk.2.1 hec CS.office (M := 3000) (by rw [fd]; omega) (by decide) (by omega)
          have mF3 : Mon (B + 3000 + 3000) F3 (CS K G a0) := by rw [hF3]; exact mF2.give hk.2.1 CS.office hr (M := 3000) (by rw [fd2]; omega) (by decide) (by omega)
          rw [fd3, e3]
          have na : ∀ c, (K c).1 ≠ 1 → c ≠ a0 := fun c hc => ne_kind k1 hc
          have cc : ∀ (v : Int32) c, (K c).1 = 2 → up2 F3 a0 11 v c = F3 c := fun v c hc => up2_a _ _ (na c (by rw [hc]; decide))
          refine void_write hk h hi (fun c hc1 hc2 => by rw [up2_a _ _ (na c hc1), g3 c hc2, hF1]) h5 (by rw [up2_k _ _ (by decide), e3]) ((mF3.congr (fun c hc => by rw [cc _ c (CS.kind hk.1.1 hc)])).mono (by omega)) (fun j2 hj2 => ?_) ?_
          · rw [cc _ _ (CS.kind hk.1.1 (CS.buyer hj2)), hF3, give_ne (Ne.symm (hk.o_b hj2)) (Ne.symm (hrb j2 hj2)), hF2, give_ne (Ne.symm (heb j2 hj2)) (Ne.symm (hk.o_b hj2)), c1 _ (CS.kind hk.1.1 (CS.buyer hj2))]
            exact h.2.1 j2 hj2
          · rw [cc _ _ ko, up2_k _ _ (by decide), up2_k _ _ (by decide), up2_eq, e3, hF3, give_a hor, hF2, give_b (Ne.symm hoe), c1 _ ko, fd, give_kk ke ko (by rw [k8]; decide), fd, h.2.2.1]
            exact i_ring2 _ _ _ _
    · exact s0
/-- the lists after new cells and one more in list j -/
theorem grow_eo {K1 K' : Kt} {F1 : Ft} {G1 G' : Gt} {j e n n' : Nat} (t0 : Str X K G a0) (E : Ext K G K1 G1) (hj : j < 5) (hA : AddRel K1 F1 G1 (gp G1 a0 j) e n n' K' F' G') :
    (∀ i, i < 5 → sz K' G' a0 i = if i = j then sz K G a0 i + 1 else sz K G a0 i) ∧ (∀ i k, i < 5 → k < sz K G a0 i → eo G' a0 i k = eo G a0 i k) ∧ eo G' a0 j (sz K G a0 j) = e ∧ (∀ x, (K x).1 ≠ 0 → (K x).1 ≠ 10 → (K x).1 ≠ 21 → K' x = K x ∧ G' x = G x ∧ F' x = F1 x) ∧ (∀ x, (K1 x).1 ≠ 0 → (K1 x).1 ≠ 10 → (K1 x).1 ≠ 21 → K' x = K1 x ∧ G' x = G1 x ∧ F' x = F1 x) ∧ ∀ k, gp G' a0 k = gp G a0 k := by
  have S1 := t0.ext E
  have k1 : (K a0).1 ≠ 0 := by rw [t0.1.1]; decide
  have eg1 : ∀ k, gp G1 a0 k = gp G a0 k := fun k => E.pp k1 k
  have eg : ∀ k, gp G' a0 k = gp G a0 k := fun k => (gp_of (S1.main hj hA) k).trans (eg1 k)
  have kl : ∀ i, i < 5 → (K (gp G a0 i)).1 ≠ 0 := fun i hi => by rw [t0.k10 hi]; decide
  have es1 : ∀ i, i < 5 → sz K1 G1 a0 i = sz K G a0 i := fun i hi => by
    show (K1 (gp G1 a0 i)).2 = _
    rw [eg1, (E _ (kl i hi)).1]
  have ee1 : ∀ i k, i < 5 → eo G1 a0 i k = eo G a0 i k := fun i k hi => by
    show gp G1 (gp G1 (gp G1 a0 i) 1) k = _
    rw [eg1, E.pp (kl i hi) 1, E.pp (by rw [t0.k21 hi]; decide) k]
  have o1 : ∀ x, (K1 x).1 ≠ 0 → (K1 x).1 ≠ 10 → (K1 x).1 ≠ 21 → K' x = K1 x ∧ G' x = G1 x ∧ F' x = F1 x := fun x h0 h10 h21 => ⟨((S1.ex2 hj hA) x h0 h10 h21).1, ((S1.ex2 hj hA) x h0 h10 h21).2, hA.ff (S1.k10 hj) h0 h10⟩
  refine ⟨fun i hi => ?_, fun i k hi hk => ?_, ?_, fun x h0 h10 h21 => ?_, o1, eg⟩
  · have := S1.size hj hA hi
    show (K' (gp G' a0 i)).2 = _
    rw [eg, ← eg1, this]
    have e := es1 i hi
    split
    · rw [← e]
    · exact e
  · have := S1.els hj hA hi (k := k) (by show k < sz K1 G1 a0 i; rw [es1 i hi]; exact hk)
    show el G' (gp G' a0 i) k = _
    rw [eg, ← eg1, this]
    exact ee1 i k hi
  · have := S1.last hj hA
    show el G' (gp G' a0 j) _ = _
    rw [eg, ← eg1]
    rw [show sz K G a0 j = (K1 (gp G1 a0 j)).2 from (es1 j hj).symm]
    exact this
  · have ex := E x h0
    obtain ⟨a1, a2, a3⟩ := o1 x (by rw [ex.1]; exact h0) (by rw [ex.1]; exact h10) (by rw [ex.1]; exact h21)
    exact ⟨a1.trans ex.1, a2.trans ex.2, a3⟩
end PN6
