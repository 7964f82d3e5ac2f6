/-! one more exporter, one more buyer: a chest comes -/
section PNA
variable {X : Xt} {K K' : Kt} {F F' F2 : Ft} {G G' : Gt} {a0 n j : Nat} {B : Int}
theorem tot_app {F : Ft} {L M : List Nat} : tot F (L ++ M) = tot F L + tot F M := by simp [tot, List.sum_append]
theorem nd_ins {A E D : List Nat} {x : Nat} (h : (A ++ (E ++ D)).Nodup) (hx : x ∉ A ++ (E ++ D)) : (A ++ ((E ++ [x]) ++ D)).Nodup := by
  have h : (A ++ (E ++ D)).Pairwise (· ≠ ·) := h
  obtain ⟨a1, a2, a3⟩ := List.pairwise_append.mp h
  obtain ⟨e1, e2, e3⟩ := List.pairwise_append.mp a2
  have xa : ∀ a ∈ A, a ≠ x := fun a ha z => hx (by rw [← z]; exact List.mem_append_left _ ha)
  have xe : ∀ a ∈ E, a ≠ x := fun a ha z => hx (by rw [← z]; exact List.mem_append_right _ (List.mem_append_left _ ha))
  have xd : ∀ a ∈ D, x ≠ a := fun a ha z => hx (by rw [z]; exact List.mem_append_right _ (List.mem_append_right _ ha))
  refine List.pairwise_append.mpr ⟨a1, List.pairwise_append.mpr ⟨List.pairwise_append.mpr ⟨e1, List.pairwise_singleton _ _, fun a ha b hb => ?_⟩, e2, fun a ha b hb => ?_⟩, fun a ha b hb => ?_⟩
  · rw [List.mem_singleton.mp hb]; exact xe a ha
  · rcases List.mem_append.mp ha with ha | ha
    · exact e3 a ha b hb
    · rw [List.mem_singleton.mp ha]; exact xd b hb
  · rcases List.mem_append.mp hb with hb | hb
    · rcases List.mem_append.mp hb with hb | hb
      · exact a3 a ha b (List.mem_append_left _ hb)
      · rw [List.mem_singleton.mp hb]; exact xa a ha
    · exact a3 a ha b (List.mem_append_right _ hb)
theorem nd_end {A E D : List Nat} {x : Nat} (h : (A ++ (E ++ D)).Nodup) (hx : x ∉ A ++ (E ++ D)) : (A ++ (E ++ (D ++ [x]))).Nodup := by
  have e : A ++ (E ++ (D ++ [x])) = (A ++ (E ++ D)) ++ [x] := by simp
  rw [e]
  refine List.pairwise_append.mpr ⟨h, List.pairwise_singleton _ _, fun a ha b hb z => ?_⟩
  rw [List.mem_singleton.mp hb] at z
  exact hx (by rw [← z]; exact ha)
/-- the chests when j gets one more: those of the others -/
theorem Old.ech (o : Old K F G K' F2 G' a0 j) (hk : IK X K G a0) : (List.range (sz K G a0 2)).map (fun i => gp G' (eo G' a0 2 i) 1) = ECh K G a0 := List.map_congr_left (fun i hi => by
    have hi := List.mem_range.mp hi
    rw [o.2.1 2 i (by decide) hi, gp_of (o.at (hk.exp hi).1).2.1])
theorem Old.bchs (o : Old K F G K' F2 G' a0 j) (hk : IK X K G a0) : (List.range (sz K G a0 1)).map (fun i => gp G' (eo G' a0 1 i) 3) = BCh K G a0 := List.map_congr_left (fun i hi => by
    have hi := List.mem_range.mp hi
    rw [o.2.1 1 i (by decide) hi, gp_of (o.at (hk.buyer hi).1).2.1])
theorem cs_def : CS K G a0 = [gp G a0 5, gp G a0 6, gp G a0 7, gp G a0 8] ++ (ECh K G a0 ++ BCh K G a0) := rfl
theorem Old.cs2 (o : Old K F G K' F2 G' a0 2) (hk : IK X K G a0) : CS K' G' a0 = [gp G a0 5, gp G a0 6, gp G a0 7, gp G a0 8] ++ ((ECh K G a0 ++ [gp G' (eo G' a0 2 (sz K G a0 2)) 1]) ++ BCh K G a0) := by
  unfold CS
  rw [o.szn (i := 1) (by decide) (by decide), o.1 2 (by decide), if_pos rfl, List.range_succ, List.map_append, o.ech hk, o.bchs hk, o.2.2.2 5, o.2.2.2 6, o.2.2.2 7, o.2.2.2 8]
  rfl
theorem Old.cs1 (o : Old K F G K' F2 G' a0 1) (hk : IK X K G a0) : CS K' G' a0 = [gp G a0 5, gp G a0 6, gp G a0 7, gp G a0 8] ++ (ECh K G a0 ++ (BCh K G a0 ++ [gp G' (eo G' a0 1 (sz K G a0 1)) 3])) := by
  unfold CS
  rw [o.szn (i := 2) (by decide) (by decide), o.1 1 (by decide), if_pos rfl, List.range_succ, List.map_append, o.ech hk, o.bchs hk, o.2.2.2 5, o.2.2.2 6, o.2.2.2 7, o.2.2.2 8]
  rfl
/-- money when an empty chest comes -/
theorem mon_new {L L' : List Nat} {x : Nat} {F F2 : Ft} (h : Mon B F L) (hB0 : 0 ≤ B) (e : ∀ c ∈ L, F2 c 0 = F c 0) (hx : F2 x 0 = 0) (ht : tot F2 L' = tot F2 L + (F2 x 0).toInt) (hm : ∀ c ∈ L', c ∈ L ∨ c = x) : Mon B F2 L' := by
  refine ⟨by rw [ht, tot_congr e, h.1, hx]; rfl, fun c hc => ?_⟩
  rcases hm c hc with hc | hc
  · rw [e c hc]; exact h.2 c hc
  · rw [hc, hx, Int32.toInt_zero]; omega
/-- one more exporter -/
theorem Old.exp2 (o : Old K F G K' F2 G' a0 2) (hk : IK X K G a0) (h : IV B K F G a0) (hB0 : 0 ≤ B) (hS : Str X K' G' a0) {x : Nat} (hx : gp G' (eo G' a0 2 (sz K G a0 2)) 1 = x) (hfr : (K x).1 = 0) (hx0 : F2 x 0 = 0) : IK X K' G' a0 ∧ IV B K' F2 G' a0 := by
  have s1 := o.szn (i := 1) (by decide) (by decide)
  have s3 := o.szn (i := 3) (by decide) (by decide)
  have s4 := o.szn (i := 4) (by decide) (by decide)
  have ecs := o.cs2 hk
  rw [hx] at ecs
  have e0 := (o.at hk.1.1.1).2.2
  have hnx : x ∉ CS K G a0 := fun z => by have := CS.kind hk.1.1 z; rw [hfr] at this; cases this
  refine ⟨⟨hS, by rw [ecs]; exact nd_ins hk.2.1 hnx, fun i hi => o.pols hk (by rw [← s3]; exact hi), fun i hi => o.ships hk (by rw [← s4]; exact hi), fun i q hi hq w e => o.dams hk (by rw [← s4]; exact hi) (by rw [← s4]; exact hq) w e⟩, ?_, fun i hi => o.bch hk h (by rw [← s1]; exact hi), o.off hk h, fun i hi => o.polv hk h (by rw [← s3]; exact hi), fun i hi => by rw [o.2.1 4 i (by decide) (by rw [← s4]; exact hi)]; exact o.shipV hk h (by rw [← s4]; exact hi), by rw [e0]; exact h.2.2.2.2.2⟩
  rw [ecs]
  refine mon_new (x := x) h.1 hB0 (fun c hc => by rw [(o.at (CS.kind hk.1.1 hc)).2.2]) hx0 ?_ (fun c hc => ?_)
  · rw [cs_def, tot_app, tot_app, tot_app, tot_app, tot_app, show tot F2 [x] = (F2 x 0).toInt by simp [tot]]
    omega
  · rw [cs_def]
    simp only [List.mem_append, List.mem_singleton] at hc ⊢
    rcases hc with hc | (hc | hc) | hc
    · exact Or.inl (Or.inl hc)
    · exact Or.inl (Or.inr (Or.inl hc))
    · exact Or.inr hc
    · exact Or.inl (Or.inr (Or.inr hc))
/-- one more buyer -/
theorem Old.buy1 (o : Old K F G K' F2 G' a0 1) (hk : IK X K G a0) (h : IV B K F G a0) (hB0 : 0 ≤ B) (hS : Str X K' G' a0) {x : Nat} (hx : gp G' (eo G' a0 1 (sz K G a0 1)) 3 = x) (hfr : (K x).1 = 0) (hx0 : F2 x 0 = 0) : IK X K' G' a0 ∧ IV B K' F2 G' a0 := by
  have s1 : sz K' G' a0 1 = sz K G a0 1 + 1 := by rw [o.1 1 (by decide), if_pos rfl]
  have s3 := o.szn (i := 3) (by decide) (by decide)
  have s4 := o.szn (i := 4) (by decide) (by decide)
  have ecs := o.cs1 hk
  rw [hx] at ecs
  have e0 := (o.at hk.1.1.1).2.2
  have hnx : x ∉ CS K G a0 := fun z => by have := CS.kind hk.1.1 z; rw [hfr] at this; cases this
  refine ⟨⟨hS, by rw [ecs]; exact nd_end hk.2.1 hnx, fun i hi => o.pols hk (by rw [← s3]; exact hi), fun i hi => o.ships hk (by rw [← s4]; exact hi), fun i q hi hq w e => o.dams hk (by rw [← s4]; exact hi) (by rw [← s4]; exact hq) w e⟩, ?_, fun i hi => ?_, o.off hk h, fun i hi => o.polv hk h (by rw [← s3]; exact hi), fun i hi => by rw [o.2.1 4 i (by decide) (by rw [← s4]; exact hi)]; exact o.shipV hk h (by rw [← s4]; exact hi), by rw [e0]; exact h.2.2.2.2.2⟩
  · rw [ecs]
    refine mon_new (x := x) h.1 hB0 (fun c hc => by rw [(o.at (CS.kind hk.1.1 hc)).2.2]) hx0 ?_ (fun c hc => ?_)
    · rw [cs_def, tot_app, tot_app, tot_app, tot_app, tot_app, show tot F2 [x] = (F2 x 0).toInt by simp [tot]]
      omega
    · rw [cs_def]
      simp only [List.mem_append, List.mem_singleton] at hc ⊢
      rcases hc with hc | hc | hc | hc
      · exact Or.inl (Or.inl hc)
      · exact Or.inl (Or.inr (Or.inl hc))
      · exact Or.inl (Or.inr (Or.inr hc))
      · exact Or.inr hc
  · by_cases hi2 : i < sz K G a0 1
    · exact o.bch hk h hi2
    · have : i = sz K G a0 1 := by omega
      rw [this, hx, hx0, Int32.toInt_zero]
      omega
/-- exporter -/
theorem exporter_inv (hk : IK X K G a0) (h : IV B K F G a0) (hB0 : 0 ≤ B) {n' : Nat} (hs : sz K G a0 2 < 6) {F1 : Ft} (hfr : (K n).1 = 0) (hfr2 : (K (n + 1)).1 = 0) (p1 : ∀ a, a ≠ n → a ≠ n + 1 → F1 a = F a) (p2 : F1 (n + 1) 0 = 0) (hA : AddRel (KE K n) F1 (GE G n) (gp (GE G n) a0 2) n (n + 1 + 1) n' K' F2 G') : IK X K' G' a0 ∧ IV B K' F2 G' a0 ∧ Old K F G K' F2 G' a0 2 := by
  have E : Ext K G (KE K n) (GE G n) := ext_E hfr hfr2
  have tp := new_exp (K := K) (G := G) (n := n)
  obtain ⟨o, gl, go1⟩ := old_of (F := F) hk.1 E (by decide) hA (fun x h0 => p1 x (kne hfr h0) (kne hfr2 h0))
  have S1 := hk.1.ext E
  have tp2 : PJ 2 K' G' n := tp.ex2 (S1.ex2 (j := 2) (by decide) hA)
  have hs1 : (KE K n (gp (GE G n) a0 2)).2 < 48 := by
    rw [E.pp (by rw [hk.1.1.1]; decide) 2, (E _ (by rw [hk.1.k10 (i := 2) (by decide)]; decide)).1]
    have : (K (gp G a0 2)).2 < 6 := hs
    omega
  have hS : Str X K' G' a0 := S1.add (j := 2) (by decide) hA hs1 tp2
  obtain ⟨n1, n2, n3⟩ := go1 n (by rw [tp.1]; decide) (by rw [tp.1]; decide) (by rw [tp.1]; decide)
  have kn1 : (KE K n (n + 1)).1 = 2 := by simp [KE, va_up]
  obtain ⟨m1, m2, m3⟩ := go1 (n + 1) (by rw [kn1]; decide) (by rw [kn1]; decide) (by rw [kn1]; decide)
  have g1 : GE G n n 1 = some (n + 1) := up2_eq _ _ _ _
  obtain ⟨k1, v1⟩ := o.exp2 hk h hB0 hS (x := n + 1) (by rw [gl, gp_of n2, gp_eq g1]) hfr2 (by rw [m3]; exact p2)
  exact ⟨k1, v1, o⟩
/-- buyer -/
theorem buyer_inv (hk : IK X K G a0) (h : IV B K F G a0) (hB0 : 0 ≤ B) {a1 n' : Nat} (t1 : (K a1).1 = 3) (hs : sz K G a0 1 < 12) {F1 : Ft} (hfr : (K n).1 = 0) (hfr2 : (K (n + 1)).1 = 0) (p1 : ∀ a, a ≠ n → a ≠ n + 1 → F1 a = F a) (p2 : F1 (n + 1) 0 = 0) (hA : AddRel (KB K n) F1 (GB G n a1) (gp (GB G n a1) a0 1) n (n + 1 + 1) n' K' F2 G') : IK X K' G' a0 ∧ IV B K' F2 G' a0 ∧ Old K F G K' F2 G' a0 1 := by
  have E : Ext K G (KB K n) (GB G n a1) := ext_B hfr hfr2
  have tp := new_buyer (K := K) (G := G) hfr t1 hfr2
  obtain ⟨o, gl, go1⟩ := old_of (F := F) hk.1 E (by decide) hA (fun x h0 => p1 x (kne hfr h0) (kne hfr2 h0))
  have S1 := hk.1.ext E
  have tp2 : PJ 1 K' G' n := tp.ex2 (S1.ex2 (j := 1) (by decide) hA)
  have hs1 : (KB K n (gp (GB G n a1) a0 1)).2 < 48 := by
    rw [E.pp (by rw [hk.1.1.1]; decide) 1, (E _ (by rw [hk.1.k10 (i := 1) (by decide)]; decide)).1]
    have : (K (gp G a0 1)).2 < 12 := hs
    omega
  have hS : Str X K' G' a0 := S1.add (j := 1) (by decide) hA hs1 tp2
  obtain ⟨n1, n2, n3⟩ := go1 n (by rw [tp.1]; decide) (by rw [tp.1]; decide) (by rw [tp.1]; decide)
  have kn1 : (KB K n (n + 1)).1 = 2 := by simp [KB, va_up]
  obtain ⟨m1, m2, m3⟩ := go1 (n + 1) (by rw [kn1]; decide) (by rw [kn1]; decide) (by rw [kn1]; decide)
  have g3 : GB G n a1 n 3 = some (n + 1) := by unfold GB; rw [up2_k _ _ (by decide)]; exact up2_eq _ _ _ _
  obtain ⟨k1, v1⟩ := o.buy1 hk h hB0 hS (x := n + 1) (by rw [gl, gp_of n2, gp_eq g3]) hfr2 (by rw [m3]; exact p2)
  exact ⟨k1, v1, o⟩
end PNA
