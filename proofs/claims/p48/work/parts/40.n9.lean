/-! one more policy, land, exporter, buyer -/
section PN9
variable {X : Xt} {K K' : Kt} {F F' F2 : Ft} {G G' : Gt} {a0 n j : Nat} {B : Int}
theorem Old.pols (o : Old K F G K' F2 G' a0 j) (hk : IK X K G a0) {i : Nat} (hi : i < sz K G a0 3) : (∃ q, q < sz K' G' a0 2 ∧ gp G' (eo G' a0 3 i) 1 = eo G' a0 2 q) := by
  obtain ⟨q, hq, eq⟩ := hk.2.2.1 i hi
  refine ⟨q, by rw [o.1 2 (by decide)]; split <;> omega, ?_⟩
  rw [o.2.1 3 i (by decide) hi, o.2.1 2 q (by decide) hq, gp_of (o.at (hk.pol hi).1).2.1]
  exact eq
theorem Old.ships (o : Old K F G K' F2 G' a0 j) (hk : IK X K G a0) {i : Nat} (hi : i < sz K G a0 4) : (∃ q, q < sz K' G' a0 3 ∧ gp G' (eo G' a0 4 i) 0 = eo G' a0 3 q) ∧ ∃ q, q < sz K' G' a0 1 ∧ gp G' (eo G' a0 4 i) 1 = eo G' a0 1 q := by
  obtain ⟨⟨p, hp, ep⟩, ⟨b, hb, eb⟩⟩ := hk.2.2.2.1 i hi
  have e := (o.at (hk.ship hi).1).2.1
  rw [o.2.1 4 i (by decide) hi]
  exact ⟨⟨p, by rw [o.1 3 (by decide)]; split <;> omega, by rw [o.2.1 3 p (by decide) hp, gp_of e]; exact ep⟩, ⟨b, by rw [o.1 1 (by decide)]; split <;> omega, by rw [o.2.1 1 b (by decide) hb, gp_of e]; exact eb⟩⟩
theorem Old.dams (o : Old K F G K' F2 G' a0 j) (hk : IK X K G a0) {i q : Nat} (hi : i < sz K G a0 4) (hq : q < sz K G a0 4) (w : ¬ G' (eo G' a0 4 i) 14 = none) (e : G' (eo G' a0 4 i) 14 = G' (eo G' a0 4 q) 14) : eo G' a0 4 i = eo G' a0 4 q := by
  have ei := (o.at (hk.ship hi).1).2.1
  have eq := (o.at (hk.ship hq).1).2.1
  rw [o.2.1 4 i (by decide) hi] at w e ⊢
  rw [o.2.1 4 q (by decide) hq] at e ⊢
  rw [ei] at w e
  rw [eq] at e
  exact hk.2.2.2.2 i q hi hq w e
theorem Old.polv (o : Old K F G K' F2 G' a0 j) (hk : IK X K G a0) (h : IV B K F G a0) {i : Nat} (hi : i < sz K G a0 3) : PolV F2 (eo G' a0 3 i) i := by
  rw [o.2.1 3 i (by decide) hi]
  unfold PolV
  rw [(o.at (hk.pol hi).1).2.2]
  exact h.2.2.2.1 i hi
theorem Old.off (o : Old K F G K' F2 G' a0 j) (hk : IK X K G a0) (h : IV B K F G a0) : F2 (gp G' a0 5) 0 = F2 a0 10 + F2 a0 12 - F2 a0 11 := by
  rw [o.2.2.2 5, (o.at (CS.kind hk.1.1 CS.office)).2.2, (o.at hk.1.1.1).2.2]
  exact h.2.2.1
theorem Old.bch (o : Old K F G K' F2 G' a0 j) (hk : IK X K G a0) (h : IV B K F G a0) {i : Nat} (hi : i < sz K G a0 1) : 0 ≤ (F2 (gp G' (eo G' a0 1 i) 3) 0).toInt := by
  rw [o.2.1 1 i (by decide) hi, gp_of (o.at (hk.buyer hi).1).2.1, (o.at (CS.kind hk.1.1 (CS.buyer hi))).2.2]
  exact h.2.1 i hi
/-- one more land -/
theorem Old.land0 (o : Old K F G K' F2 G' a0 0) (hk : IK X K G a0) (h : IV B K F G a0) (hS : Str X K' G' a0) : IK X K' G' a0 ∧ IV B K' F2 G' a0 := by
  have s1 := o.szn (i := 1) (by decide) (by decide)
  have s3 := o.szn (i := 3) (by decide) (by decide)
  have s4 := o.szn (i := 4) (by decide) (by decide)
  have ecs := o.cs hk (by decide) (by decide)
  have e0 := (o.at hk.1.1.1).2.2
  exact ⟨⟨hS, by rw [ecs]; exact hk.2.1, fun i hi => o.pols hk (by rw [← s3]; exact hi), fun i hi => o.ships hk (by rw [← s4]; exact hi), fun i q hi hq w e => o.dams hk (by rw [← s4]; exact hi) (by rw [← s4]; exact hq) w e⟩, by rw [ecs]; exact h.1.congr (fun c hc => by rw [(o.at (CS.kind hk.1.1 hc)).2.2]), fun i hi => o.bch hk h (by rw [← s1]; exact hi), o.off hk h, fun i hi => o.polv hk h (by rw [← s3]; exact hi), fun i hi => by rw [o.2.1 4 i (by decide) (by rw [← s4]; exact hi)]; exact o.shipV hk h (by rw [← s4]; exact hi), by rw [e0]; exact h.2.2.2.2.2⟩
/-- one more policy -/
theorem Old.pol3 (o : Old K F G K' F2 G' a0 3) (hk : IK X K G a0) (h : IV B K F G a0) (hS : Str X K' G' a0) (hl : eo G' a0 3 (sz K G a0 3) = n) (he : ∃ i, i < sz K G a0 2 ∧ gp G' n 1 = eo G a0 2 i) (v : PolV F2 n (sz K G a0 3)) : IK X K' G' a0 ∧ IV B K' F2 G' a0 := by
  have s1 := o.szn (i := 1) (by decide) (by decide)
  have s2 := o.szn (i := 2) (by decide) (by decide)
  have s3 : sz K' G' a0 3 = sz K G a0 3 + 1 := by rw [o.1 3 (by decide), if_pos rfl]
  have s4 := o.szn (i := 4) (by decide) (by decide)
  have ecs := o.cs hk (by decide) (by decide)
  have e0 := (o.at hk.1.1.1).2.2
  have split3 : ∀ i, i < sz K' G' a0 3 → i < sz K G a0 3 ∨ i = sz K G a0 3 := fun i hi => by omega
  refine ⟨⟨hS, by rw [ecs]; exact hk.2.1, fun i hi => ?_, fun i hi => o.ships hk (by rw [← s4]; exact hi), fun i q hi hq w e => o.dams hk (by rw [← s4]; exact hi) (by rw [← s4]; exact hq) w e⟩, by rw [ecs]; exact h.1.congr (fun c hc => by rw [(o.at (CS.kind hk.1.1 hc)).2.2]), fun i hi => o.bch hk h (by rw [← s1]; exact hi), o.off hk h, fun i hi => ?_, fun i hi => by rw [o.2.1 4 i (by decide) (by rw [← s4]; exact hi)]; exact o.shipV hk h (by rw [← s4]; exact hi), by rw [e0]; exact h.2.2.2.2.2⟩
  · rcases split3 i hi with hi | hi
    · exact o.pols hk hi
    · obtain ⟨q, hq, eq⟩ := he
      exact ⟨q, by rw [s2]; exact hq, by rw [hi, hl, o.2.1 2 q (by decide) hq]; exact eq⟩
  · rcases split3 i hi with hi | hi
    · exact o.polv hk h hi
    · rw [hi, hl]; exact v
/-- new cells and one more in a list: the old cells are as they were -/
theorem old_of {K1 : Kt} {F1 : Ft} {G1 : Gt} {e n1 n' : Nat} (t0 : Str X K G a0) (E : Ext K G K1 G1) (hj : j < 5) (hA : AddRel K1 F1 G1 (gp G1 a0 j) e n1 n' K' F2 G') (hF : ∀ x, (K x).1 ≠ 0 → F1 x = F x) : Old K F G K' F2 G' a0 j ∧ eo G' a0 j (sz K G a0 j) = e ∧ ∀ x, (K1 x).1 ≠ 0 → (K1 x).1 ≠ 10 → (K1 x).1 ≠ 21 → K' x = K1 x ∧ G' x = G1 x ∧ F2 x = F1 x := by
  obtain ⟨gs, ge, gl, go, go1, gg⟩ := grow_eo t0 E hj hA
  exact ⟨⟨gs, ge, fun x h0 h1 h2 => by
    obtain ⟨a1, a2, a3⟩ := go x h0 h1 h2
    exact ⟨a1, a2, by rw [a3, hF x h0]⟩, gg⟩, gl, go1⟩
/-- policy -/
theorem policy_inv (hk : IK X K G a0) (h : IV B K F G a0) {x1 n' : Nat} (hi : x1 < sz K G a0 2) (hs : sz K G a0 3 < 8) {F1 : Ft} {x2 x4 : Int32} (h2 : 50 ≤ x2.toInt ∧ x2.toInt ≤ 95) (h4 : 0 ≤ x4.toInt ∧ x4.toInt ≤ 60) (hfr : (K n).1 = 0) (hfr2 : (K (n + 1)).1 = 0) (p1 : ∀ a, a ≠ n → a ≠ n + 1 → F1 a = F a) (f0 : F1 n 0 = nI (K (gp G a0 3)).2) (f2 : F1 n 2 = x2) (f4 : F1 n 4 = x4) (f6 : F1 n 6 = 0)
    (hA : AddRel (KP K n) F1 (GP G n (el G (gp G a0 2) x1)) (gp (GP G n (el G (gp G a0 2) x1)) a0 3) n (n + 1 + 1) n' K' F2 G') : IK X K' G' a0 ∧ IV B K' F2 G' a0 ∧ Old K F G K' F2 G' a0 3 := by
  have te : TExp K G (el G (gp G a0 2) x1) := hk.exp hi
  have E : Ext K G (KP K n) (GP G n (el G (gp G a0 2) x1)) := ext_P hfr hfr2
  have tp := new_pol (G := G) hfr hfr2 te
  obtain ⟨o, gl, go1⟩ := old_of (F := F) hk.1 E (by decide) hA (fun x h0 => p1 x (kne hfr h0) (kne hfr2 h0))
  have S1 := hk.1.ext E
  have tp2 : PJ 3 K' G' n := tp.ex2 (S1.ex2 (j := 3) (by decide) hA)
  have hs1 : (KP K n (gp (GP G n (el G (gp G a0 2) x1)) a0 3)).2 < 48 := by
    rw [E.pp (by rw [hk.1.1.1]; decide) 3, (E _ (by rw [hk.1.k10 (i := 3) (by decide)]; decide)).1]
    have : (K (gp G a0 3)).2 < 8 := hs
    omega
  have hS : Str X K' G' a0 := S1.add (j := 3) (by decide) hA hs1 tp2
  obtain ⟨n1, n2, n3⟩ := go1 n (by rw [tp.1]; decide) (by rw [tp.1]; decide) (by rw [tp.1]; decide)
  have g1 : GP G n (el G (gp G a0 2) x1) n 1 = some (el G (gp G a0 2) x1) := up2_eq _ _ _ _
  obtain ⟨k1, v1⟩ := o.pol3 hk h hS gl ⟨x1, hi, by rw [gp_of n2, gp_eq g1]⟩ (by
    unfold PolV
    rw [n3, f0, f2, f4, f6]
    exact ⟨rfl, h2, h4, Or.inl rfl⟩)
  exact ⟨k1, v1, o⟩
/-- land -/
theorem land_inv (hk : IK X K G a0) (h : IV B K F G a0) {n' : Nat} (hs : sz K G a0 0 < 5) {F1 : Ft} (hfr : (K n).1 = 0) (p1 : ∀ a, a ≠ n → F1 a = F a) (hA : AddRel (va_up K n (3, 0)) F1 (va_up G n (fun _ => none)) (gp (va_up G n (fun _ => none)) a0 0) n (n + 1) n' K' F2 G') : IK X K' G' a0 ∧ IV B K' F2 G' a0 ∧ Old K F G K' F2 G' a0 0 := by
  have E : Ext K G (va_up K n (3, 0)) (va_up G n (fun _ => none)) := ext_new hfr
  have tk : (va_up K n (3, 0) n).1 = 3 := congrArg Prod.fst kat
  obtain ⟨o, gl, go1⟩ := old_of (F := F) hk.1 E (by decide) hA (fun x h0 => p1 x (kne hfr h0))
  have S1 := hk.1.ext E
  have tp2 : PJ 0 K' G' n := (S1.ex2 (j := 0) (by decide) hA).k tk
  have hs1 : (va_up K n (3, 0) (gp (va_up G n (fun _ => none)) a0 0)).2 < 48 := by
    rw [E.pp (by rw [hk.1.1.1]; decide) 0, (E _ (by rw [hk.1.k10 (i := 0) (by decide)]; decide)).1]
    have : (K (gp G a0 0)).2 < 5 := hs
    omega
  have hS : Str X K' G' a0 := S1.add (j := 0) (by decide) hA hs1 tp2
  obtain ⟨k1, v1⟩ := o.land0 hk h hS
  exact ⟨k1, v1, o⟩
end PN9
