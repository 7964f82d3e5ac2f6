/-! the shipment that came -/
section PN8
variable {X : Xt} {K K' : Kt} {F F' F2 : Ft} {G G' : Gt} {a0 n : Nat} {B : Int}
/-- old cells are as they were, the lists but j too -/
def Old (K : Kt) (F : Ft) (G : Gt) (K' : Kt) (F2 : Ft) (G' : Gt) (a0 j : Nat) : Prop := (∀ i, i < 5 → sz K' G' a0 i = if i = j then sz K G a0 i + 1 else sz K G a0 i) ∧ (∀ i k, i < 5 → k < sz K G a0 i → eo G' a0 i k = eo G a0 i k) ∧ (∀ x, (K x).1 ≠ 0 → (K x).1 ≠ 10 → (K x).1 ≠ 21 → K' x = K x ∧ G' x = G x ∧ F2 x = F x) ∧ ∀ k, gp G' a0 k = gp G a0 k
section
variable {j : Nat}
theorem Old.at (o : Old K F G K' F2 G' a0 j) {x k : Nat} (h : (K x).1 = k) (h0 : k ≠ 0 := by decide) (h1 : k ≠ 10 := by decide) (h2 : k ≠ 21 := by decide) : K' x = K x ∧ G' x = G x ∧ F2 x = F x := o.2.2.1 x (by rw [h]; exact h0) (by rw [h]; exact h1) (by rw [h]; exact h2)
theorem Old.szn (o : Old K F G K' F2 G' a0 j) {i : Nat} (hi : i < 5) (hij : i ≠ j) : sz K' G' a0 i = sz K G a0 i := by rw [o.1 i hi, if_neg hij]
theorem Old.cs (o : Old K F G K' F2 G' a0 j) (hk : IK X K G a0) (h1 : j ≠ 1) (h2 : j ≠ 2) : CS K' G' a0 = CS K G a0 := by
  have m2 : (List.range (sz K G a0 2)).map (fun i => gp G' (eo G' a0 2 i) 1) = (List.range (sz K G a0 2)).map (fun i => gp G (eo G a0 2 i) 1) := List.map_congr_left (fun i hi => by
    have hi := List.mem_range.mp hi
    rw [o.2.1 2 i (by decide) hi, gp_of (o.at (hk.exp hi).1).2.1])
  have m1 : (List.range (sz K G a0 1)).map (fun i => gp G' (eo G' a0 1 i) 3) = (List.range (sz K G a0 1)).map (fun i => gp G (eo G a0 1 i) 3) := List.map_congr_left (fun i hi => by
    have hi := List.mem_range.mp hi
    rw [o.2.1 1 i (by decide) hi, gp_of (o.at (hk.buyer hi).1).2.1])
  unfold CS
  rw [o.szn (i := 2) (by decide) (Ne.symm h2), o.szn (i := 1) (by decide) (Ne.symm h1), m2, m1, o.2.2.2 5, o.2.2.2 6, o.2.2.2 7, o.2.2.2 8]
theorem Old.shipV (o : Old K F G K' F2 G' a0 j) (hk : IK X K G a0) (h : IV B K F G a0) {i : Nat} (hi : i < sz K G a0 4) : ShipV F2 G' a0 (eo G a0 4 i) := by
  have q := h.2.2.2.2.1 i hi
  have t := hk.ship hi
  obtain ⟨-, eG, eF⟩ := o.at t.1
  have e0 := (o.at hk.1.1.1).2.2
  unfold ShipV at q ⊢
  rw [eG, eF, e0, gp_of eG, gp_of eG]
  obtain ⟨q1, q2, q3, q4, q5⟩ := q
  refine ⟨q1, q2, q3, fun w => by rw [(o.at (t.2.2.2.2 w)).2.2]; exact q4 w, fun w => ?_⟩
  obtain ⟨z1, z2, z3⟩ := q5 w
  have ed := (o.at (t.2.2.2.1 w)).2.2
  refine ⟨z1, by unfold DamOK; rw [ed]; exact z2, ?_⟩
  rw [ed, z3]
  by_cases w2 : G (eo G a0 4 i) 15 = none
  · rw [if_pos w2, if_pos w2]
  · rw [if_neg w2, if_neg w2, (o.at (t.2.2.2.2 w2)).2.2]
theorem Old.mono (o : Old K F G K' F2 G' a0 j) (hk : IK X K G a0) (m : Mono K' F2 G' F' G' a0) : Mono K F G F' G' a0 := by
  refine ⟨fun i hi => ?_, fun i hi => ?_⟩
  · have hi2 : i < sz K' G' a0 4 := by rw [o.1 4 (by decide)]; split <;> omega
    have q := m.1 i hi2
    have e := o.at (hk.ship hi).1
    rw [o.2.1 4 i (by decide) hi, e.2.1, e.2.2] at q
    rw [e.2.1]
    exact q
  · have hi2 : i < sz K' G' a0 3 := by rw [o.1 3 (by decide)]; split <;> omega
    have q := m.2 i hi2
    have e := o.at (hk.pol hi).1
    rw [o.2.1 3 i (by decide) hi, e.2.2] at q
    exact q
/-- references and numbers after one more shipment -/
theorem Old.ship4 (o : Old K F G K' F2 G' a0 j) (hj : j = 4) (hk : IK X K G a0) (h : IV B K F G a0) (hS : Str X K' G' a0) (hl : eo G' a0 4 (sz K G a0 4) = n) (hp : ∃ i, i < sz K G a0 3 ∧ gp G' n 0 = eo G a0 3 i) (hb : ∃ i, i < sz K G a0 1 ∧ gp G' n 1 = eo G a0 1 i) (hn : G' n 14 = none) (v : ShipV F2 G' a0 n) : IK X K' G' a0 ∧ IV B K' F2 G' a0 := by
  subst hj
  have s1 := o.szn (i := 1) (by decide) (by decide)
  have s2 := o.szn (i := 2) (by decide) (by decide)
  have s3 := o.szn (i := 3) (by decide) (by decide)
  have s4 : sz K' G' a0 4 = sz K G a0 4 + 1 := by rw [o.1 4 (by decide), if_pos rfl]
  have ecs := o.cs hk (by decide) (by decide)
  have split4 : ∀ i, i < sz K' G' a0 4 → i < sz K G a0 4 ∨ i = sz K G a0 4 := fun i hi => by omega
  have e0 := (o.at hk.1.1.1).2.2
  refine ⟨⟨hS, by rw [ecs]; exact hk.2.1, fun i hi => ?_, fun i hi => ?_, fun i j hi hj w e => ?_⟩, ?_, fun i hi => ?_, ?_, fun i hi => ?_, fun i hi => ?_, by rw [e0]; exact h.2.2.2.2.2⟩
  · rw [s3] at hi
    obtain ⟨q, hq, eq⟩ := hk.2.2.1 i hi
    refine ⟨q, by rw [s2]; exact hq, ?_⟩
    rw [o.2.1 3 i (by decide) hi, o.2.1 2 q (by decide) hq, gp_of (o.at (hk.pol hi).1).2.1]
    exact eq
  · rcases split4 i hi with hi | hi
    · obtain ⟨⟨p, hp, ep⟩, ⟨b, hb, eb⟩⟩ := hk.2.2.2.1 i hi
      have e := (o.at (hk.ship hi).1).2.1
      rw [o.2.1 4 i (by decide) hi]
      exact ⟨⟨p, by rw [s3]; exact hp, by rw [o.2.1 3 p (by decide) hp, gp_of e]; exact ep⟩, ⟨b, by rw [s1]; exact hb, by rw [o.2.1 1 b (by decide) hb, gp_of e]; exact eb⟩⟩
    · obtain ⟨p, hp, ep⟩ := hp
      obtain ⟨b, hb, eb⟩ := hb
      rw [hi, hl]
      exact ⟨⟨p, by rw [s3]; exact hp, by rw [o.2.1 3 p (by decide) hp]; exact ep⟩, ⟨b, by rw [s1]; exact hb, by rw [o.2.1 1 b (by decide) hb]; exact eb⟩⟩
  · rcases split4 i hi with hi | hi
    · have ei := (o.at (hk.ship hi).1).2.1
      rw [o.2.1 4 i (by decide) hi] at w e ⊢
      rcases split4 j hj with hj | hj
      · have ej := (o.at (hk.ship hj).1).2.1
        rw [o.2.1 4 j (by decide) hj] at e ⊢
        rw [ei] at w e
        rw [ej] at e
        exact hk.2.2.2.2 i j hi hj w e
      · rw [hj, hl, hn] at e
        exact absurd e w
    · rw [hi, hl] at w
      exact absurd hn w
  · rw [ecs]
    exact h.1.congr (fun c hc => by rw [(o.at (CS.kind hk.1.1 hc)).2.2])
  · rw [s1] at hi
    rw [o.2.1 1 i (by decide) hi, gp_of (o.at (hk.buyer hi).1).2.1, (o.at (CS.kind hk.1.1 (CS.buyer hi))).2.2]
    exact h.2.1 i hi
  · rw [o.2.2.2 5, (o.at (CS.kind hk.1.1 CS.office)).2.2, e0]
    exact h.2.2.1
  · rw [s3] at hi
    rw [o.2.1 3 i (by decide) hi]
    unfold PolV
    rw [(o.at (hk.pol hi).1).2.2]
    exact h.2.2.2.1 i hi
  · rcases split4 i hi with hi | hi
    · rw [o.2.1 4 i (by decide) hi]
      exact o.shipV hk h hi
    · rw [hi, hl]
      exact v
end
/-- ship -/
theorem ship_inv (hk : IK X K G a0) (h : IV B K F G a0) {x1 x2 n' : Nat} (hi : x1 < sz K G a0 3) (hj : x2 < sz K G a0 1) {x3 x4 x5 r rs w : Int32} (h3 : 0 ≤ x3.toInt ∧ x3.toInt ≤ 3000) (t5 : x5 = 0 ∨ x5 = 1) (hs : sz K G a0 4 ≤ 47) (hB0 : 0 ≤ B) (hB : B + 400000 < 2147483648) (hfr : (K n).1 = 0) {F1 : Ft}
    (e1 : F1 = f_X7_keepTerms (KS K n) (FS0 F n x3 (F a0 9) (F a0 9 + x4) x5) (GS G n (el G (gp G a0 3) x1) (el G (gp G a0 1) x2)) n r (f_X8_insuredOf (KS K n) (FS0 F n x3 (F a0 9) (F a0 9 + x4) x5) (GS G n (el G (gp G a0 3) x1) (el G (gp G a0 1) x2)) a0 (el G (gp G a0 3) x1) (el G (gp G a0 1) x2) x3 x4) rs)
    (hA : AddRel (KS K n) F1 (GS G n (el G (gp G a0 3) x1) (el G (gp G a0 1) x2)) (gp (GS G n (el G (gp G a0 3) x1) (el G (gp G a0 1) x2)) a0 4) n (n + 1) n' K' F2 G') (e2 : F' = f_X8_takePremium K' (up2 F2 (gp G' (el G (gp G a0 3) x1) 1) 4 w) G' a0 n) :
    IK X K' G' a0 ∧ IV (B + 400000) K' F' G' a0 ∧ Mono K F G F' G' a0 ∧ F' a0 9 = F a0 9 ∧ sz K' G' a0 4 = sz K G a0 4 + 1 ∧ (∀ i, i < 4 → sz K' G' a0 i = sz K G a0 i) ∧ ∀ i k, i < 5 → k < sz K G a0 i → eo G' a0 i k = eo G a0 i k := by
  have tp : TPol K G (el G (gp G a0 3) x1) := hk.pol hi
  have tb : TBuyer K G (el G (gp G a0 1) x2) := hk.buyer hj
  generalize hpo : el G (gp G a0 3) x1 = po at *
  generalize hbu : el G (gp G a0 1) x2 = bu at *
  have E : Ext K G (KS K n) (GS G n po bu) := ext_S hfr
  have ts := new_ship hfr tp tb
  have S1 := hk.1.ext E
  have X2 := S1.ex2 (j := 4) (by decide) hA
  have ts2 := ts.ex2 X2
  obtain ⟨gs, ge, gl, go, go1, gg⟩ := grow_eo hk.1 E (by decide) hA
  have kn : (KS K n n).1 = 7 := ts.1
  obtain ⟨n1, n2, n3⟩ := go1 n (by rw [kn]; decide) (by rw [kn]; decide) (by rw [kn]; decide)
  obtain ⟨ks1, ks2, ks3, ks4⟩ := keep_spec (K := KS K n) (F := FS0 F n x3 (F a0 9) (F a0 9 + x4) x5) (G := GS G n po bu) (s := n) (r := r) (ins := f_X8_insuredOf (KS K n) (FS0 F n x3 (F a0 9) (F a0 9 + x4) x5) (GS G n po bu) a0 po bu x3 x4) (rs := rs)
  rw [← e1] at ks1 ks2 ks3 ks4
  have f0 : ∀ c, c ≠ n → FS0 F n x3 (F a0 9) (F a0 9 + x4) x5 c = F c := fun c hc => by simp [FS0, up2, va_up, hc]
  have o : Old K F G K' F2 G' a0 4 := ⟨gs, ge, fun x h0 h1 h2 => by
    obtain ⟨a1, a2, a3⟩ := go x h0 h1 h2
    have hx := kne hfr h0
    exact ⟨a1, a2, by rw [a3, ks1 x hx, f0 x hx]⟩, gg⟩
  have hs1 : (KS K n (gp (GS G n po bu) a0 4)).2 < 48 := by
    rw [E.pp (by rw [hk.1.1.1]; decide) 4, (E _ (by rw [hk.1.k10 (i := 4) (by decide)]; decide)).1]
    have : (K (gp G a0 4)).2 ≤ 47 := hs
    omega
  have hS : Str X K' G' a0 := S1.add (j := 4) (by decide) hA hs1 ts2
  have g0 : GS G n po bu n 0 = some po := by unfold GS; rw [up2_k _ _ (by decide)]; exact up2_eq _ _ _ _
  have g1 : GS G n po bu n 1 = some bu := up2_eq _ _ _ _
  have gk : ∀ k, k ≠ 0 → k ≠ 1 → GS G n po bu n k = none := fun k h0 h1 => by simp [GS, up2, va_up, h0, h1]
  have e9 := (o.at hk.1.1.1).2.2
  have fn : ∀ k, k ≠ 6 → k ≠ 7 → k ≠ 8 → k ≠ 9 → F2 n k = FS0 F n x3 (F a0 9) (F a0 9 + x4) x5 n k := fun k h6 h7 h8 h9 => by rw [n3, ks2 k h6 h7 h8 h9]
  have day := h.2.2.2.2.2
  obtain ⟨k1, v1⟩ := o.ship4 rfl hk h hS gl ⟨x1, hi, by rw [gp_of n2, gp_eq g0]; exact hpo.symm⟩ ⟨x2, hj, by rw [gp_of n2, gp_eq g1]; exact hbu.symm⟩ (by rw [n2]; exact gk 14 (by decide) (by decide)) (by
    unfold ShipV
    rw [fn 10 (by decide) (by decide) (by decide) (by decide), fn 2 (by decide) (by decide) (by decide) (by decide), fn 3 (by decide) (by decide) (by decide) (by decide), fn 5 (by decide) (by decide) (by decide) (by decide), fn 11 (by decide) (by decide) (by decide) (by decide), fn 12 (by decide) (by decide) (by decide) (by decide), fn 13 (by decide) (by decide) (by decide) (by decide), n3, ks3, n2, e9]
    rw [show FS0 F n x3 (F a0 9) (F a0 9 + x4) x5 n 10 = x3 by simp [FS0, up2, va_up], show FS0 F n x3 (F a0 9) (F a0 9 + x4) x5 n 2 = x3 by simp [FS0, up2, va_up], show FS0 F n x3 (F a0 9) (F a0 9 + x4) x5 n 3 = F a0 9 by simp [FS0, up2, va_up], show FS0 F n x3 (F a0 9) (F a0 9 + x4) x5 n 5 = x5 by simp [FS0, up2, va_up], show FS0 F n x3 (F a0 9) (F a0 9 + x4) x5 n 11 = 0 by simp [FS0, up2, va_up], show FS0 F n x3 (F a0 9) (F a0 9 + x4) x5 n 12 = 0 by simp [FS0, up2, va_up], show FS0 F n x3 (F a0 9) (F a0 9 + x4) x5 n 13 = 0 by simp [FS0, up2, va_up]]
    exact ⟨⟨h3.1, Int.le_refl _, h3.2, ins_le h3.1⟩, ⟨day.1, Int.le_refl _⟩, ⟨t5, Or.inl rfl, Or.inl rfl, Or.inl rfl, fun q => absurd q (by decide)⟩, fun q => absurd (gk 15 (by decide) (by decide)) q, fun q => absurd (gk 14 (by decide) (by decide)) q⟩)
  have tp2 : TPol K' G' po := (tp.ext E).ex2 X2
  have st1 : Sto B K' F2 G' (up2 F2 (gp G' po 1) 4 w) a0 := other_stp k1 v1 (Or.inr (Or.inr (Or.inl tp2.2.1.2.1))) (fun c hc => up2_a _ _ hc)
  have hn4 : sz K G a0 4 < sz K' G' a0 4 := by rw [gs 4 (by decide), if_pos rfl]; omega
  have st2 := premium_stp (i := sz K G a0 4) k1 st1.1 hn4 (by
    rw [gl, up2_a _ _ (ne_kind tp2.2.1.2.1 (by rw [ts2.1]; decide)), n3]
    exact ks4) hB0 hB
  rw [gl, ← e2] at st2
  have st := st1.tr st2
  exact ⟨k1, st.1, o.mono hk st.2.1, by rw [st.2.2, e9], by rw [gs 4 (by decide), if_pos rfl], fun i h4 => by rw [gs i (by omega), if_neg (by omega)], ge⟩
end PN8
