/-! a shipment gets its damage or its delay: one reference is written -/
section PNC
variable {X : Xt} {K : Kt} {G : Gt} {a0 s d f : Nat}
theorem u_ne {a : Nat} {v : Option Nat} (hs : (K s).1 = 7) (h : (K a).1 ≠ 7) : up2 G s f v a = G a := up2_a _ _ (ne_kind hs h)
theorem TExp.u {a : Nat} {v : Option Nat} (hs : (K s).1 = 7) (h : TExp K G a) : TExp K (up2 G s f v) a := by
  obtain ⟨h1, ⟨h2, h3⟩⟩ := h
  have e : up2 G s f v a = G a := u_ne hs (by rw [h1]; decide)
  exact ⟨h1, ⟨by rw [gp_of e, e]; exact h2, by rw [gp_of e]; exact h3⟩⟩
theorem TBuyer.u {a : Nat} {v : Option Nat} (hs : (K s).1 = 7) (h : TBuyer K G a) : TBuyer K (up2 G s f v) a := by
  obtain ⟨h1, ⟨h2, h3⟩, ⟨h4, h5⟩⟩ := h
  have e : up2 G s f v a = G a := u_ne hs (by rw [h1]; decide)
  exact ⟨h1, ⟨by rw [gp_of e, e]; exact h2, by rw [gp_of e]; exact h3⟩, ⟨by rw [gp_of e, e]; exact h4, by rw [gp_of e]; exact h5⟩⟩
theorem TPol.u {a : Nat} {v : Option Nat} (hs : (K s).1 = 7) (h : TPol K G a) : TPol K (up2 G s f v) a := by
  obtain ⟨h1, ⟨h2, h3⟩, ⟨h4, h5⟩⟩ := h
  have e : up2 G s f v a = G a := u_ne hs (by rw [h1]; decide)
  exact ⟨h1, ⟨by rw [gp_of e, e]; exact h2, by rw [gp_of e]; exact h3.u hs⟩, ⟨by rw [gp_of e, e]; exact h4, by rw [gp_of e]; exact h5⟩⟩
theorem gp_k {G1 : Gt} {a k : Nat} (h : G1 a k = G a k) : gp G1 a k = gp G a k := by
  show (G1 a k).getD 0 = (G a k).getD 0
  rw [h]
theorem TShip.u {a : Nat} (hs : (K s).1 = 7) (hv : (f = 14 ∧ (K d).1 = 8) ∨ (f = 15 ∧ (K d).1 = 9)) (h : TShip K G a) : TShip K (up2 G s f (some d)) a := by
  obtain ⟨h1, ⟨h2, h3⟩, ⟨h4, h5⟩, h6, h7⟩ := h
  have f0 : (0 : Nat) ≠ f := by omega
  have f1 : (1 : Nat) ≠ f := by omega
  by_cases e : a = s
  · subst e
    have e0 : up2 G a f (some d) a 0 = G a 0 := up2_k _ _ f0
    have e1 : up2 G a f (some d) a 1 = G a 1 := up2_k _ _ f1
    refine ⟨h1, ⟨by rw [gp_k e0, e0]; exact h2, by rw [gp_k e0]; exact h3.u hs⟩, ⟨by rw [gp_k e1, e1]; exact h4, by rw [gp_k e1]; exact h5.u hs⟩, fun q => ?_, fun q => ?_⟩
    · rcases hv with ⟨rfl, hd⟩ | ⟨rfl, hd⟩
      · rw [gp_eq (up2_eq G a 14 (some d))]; exact hd
      · have e14 : up2 G a 15 (some d) a 14 = G a 14 := up2_k _ _ (by decide)
        rw [e14] at q
        rw [gp_k e14]; exact h6 q
    · rcases hv with ⟨rfl, hd⟩ | ⟨rfl, hd⟩
      · have e15 : up2 G a 14 (some d) a 15 = G a 15 := up2_k _ _ (by decide)
        rw [e15] at q
        rw [gp_k e15]; exact h7 q
      · rw [gp_eq (up2_eq G a 15 (some d))]; exact hd
  · have e : up2 G s f (some d) a = G a := up2_a _ _ e
    exact ⟨h1, ⟨by rw [gp_of e, e]; exact h2, by rw [gp_of e]; exact h3.u hs⟩, ⟨by rw [gp_of e, e]; exact h4, by rw [gp_of e]; exact h5.u hs⟩, fun q => by rw [gp_of e]; exact h6 (by rw [← e]; exact q), fun q => by rw [gp_of e]; exact h7 (by rw [← e]; exact q)⟩
theorem PJ.u {j x : Nat} (hs : (K s).1 = 7) (hv : (f = 14 ∧ (K d).1 = 8) ∨ (f = 15 ∧ (K d).1 = 9)) (h : PJ j K G x) : PJ j K (up2 G s f (some d)) x := by
  unfold PJ at h ⊢
  split at h
  · rename_i c; rw [if_pos c]; exact h
  · rename_i c; rw [if_neg c]
    split at h
    · rename_i c; rw [if_pos c]; exact h.u hs
    · rename_i c; rw [if_neg c]
      split at h
      · rename_i c; rw [if_pos c]; exact h.u hs
      · rename_i c; rw [if_neg c]
        split at h
        · rename_i c; rw [if_pos c]; exact h.u hs
        · rename_i c; rw [if_neg c]; exact h.u hs hv
theorem u_eo {v : Option Nat} (hs : (K s).1 = 7) (h : Str X K G a0) : (∀ k, gp (up2 G s f v) a0 k = gp G a0 k) ∧ (∀ i, i < 5 → gp (up2 G s f v) (gp G a0 i) 1 = gp G (gp G a0 i) 1) ∧ (∀ i k, i < 5 → eo (up2 G s f v) a0 i k = eo G a0 i k) ∧ ∀ i, sz K (up2 G s f v) a0 i = sz K G a0 i := by
  have e0 : ∀ k, gp (up2 G s f v) a0 k = gp G a0 k := fun k => gp_of (u_ne hs (by rw [h.1.1]; decide)) k
  have e1 : ∀ i, i < 5 → gp (up2 G s f v) (gp G a0 i) 1 = gp G (gp G a0 i) 1 := fun i hi => gp_of (u_ne hs (by rw [h.k10 hi]; decide)) 1
  refine ⟨e0, e1, fun i k hi => ?_, fun i => by show (K (gp (up2 G s f v) a0 i)).2 = _; rw [e0]⟩
  show gp (up2 G s f v) (gp (up2 G s f v) (gp (up2 G s f v) a0 i) 1) k = _
  rw [e0, e1 i hi]
  exact gp_of (u_ne hs (by rw [h.k21 hi]; decide)) k
theorem Str.u (hs : (K s).1 = 7) (hv : (f = 14 ∧ (K d).1 = 8) ∨ (f = 15 ∧ (K d).1 = 9)) (h : Str X K G a0) : Str X K (up2 G s f (some d)) a0 := by
  obtain ⟨e0, e1, e2, -⟩ := u_eo (f := f) (v := some d) hs h
  have em : up2 G s f (some d) a0 = G a0 := u_ne hs (by rw [h.1.1]; decide)
  refine ⟨TMain.of h.1.1 (fun i hi => ?_) (fun i h5 hi => ?_), h.2.1, fun i j hi hj hij => ?_, fun i hi => ?_⟩
  · obtain ⟨l1, l2⟩ := h.1.lst hi
    rw [e0, em]
    refine ⟨l1, ?_⟩
    obtain ⟨t1, t2, t3, t4, t5, t6, t7⟩ := l2
    have eq0 : up2 G s f (some d) (gp G a0 i) = G (gp G a0 i) := u_ne hs (by rw [t1]; decide)
    have ea : up2 G s f (some d) (gp G (gp G a0 i) 1) = G (gp G (gp G a0 i) 1) := u_ne hs (by rw [t4]; decide)
    refine ⟨t1, t2, by rw [eq0, e1 i hi]; exact t3, by rw [e1 i hi]; exact t4, by rw [e1 i hi]; exact t5, by rw [e1 i hi]; exact t6, fun k hk => ?_⟩
    have q := t7 k hk
    have ek : el (up2 G s f (some d)) (gp G a0 i) k = el G (gp G a0 i) k := by
      show gp (up2 G s f (some d)) (gp (up2 G s f (some d)) (gp G a0 i) 1) k = _
      rw [e1 i hi]
      exact gp_of ea k
    rw [ek, e1 i hi, ea]
    exact ⟨q.1, q.2.u hs hv⟩
  · obtain ⟨l1, l2⟩ := h.1.chest h5 hi
    rw [e0, em]
    exact ⟨l1, l2⟩
  · rw [e0, e0, e1 i hi, e1 j hj]
    exact h.2.2.1 i j hi hj hij
  · rw [e0, e1 i hi]
    exact h.2.2.2 i hi
theorem u_cs {v : Option Nat} (hs : (K s).1 = 7) (hk : IK X K G a0) : CS K (up2 G s f v) a0 = CS K G a0 := by
  obtain ⟨e0, e1, e2, e3⟩ := u_eo (f := f) (v := v) hs hk.1
  have m2 : (List.range (sz K G a0 2)).map (fun i => gp (up2 G s f v) (eo (up2 G s f v) a0 2 i) 1) = (List.range (sz K G a0 2)).map (fun i => gp G (eo G a0 2 i) 1) := List.map_congr_left (fun i hi => by
    have hi := List.mem_range.mp hi
    rw [e2 2 i (by decide), gp_of (u_ne hs (by rw [(hk.exp hi).1]; decide))])
  have m1 : (List.range (sz K G a0 1)).map (fun i => gp (up2 G s f v) (eo (up2 G s f v) a0 1 i) 3) = (List.range (sz K G a0 1)).map (fun i => gp G (eo G a0 1 i) 3) := List.map_congr_left (fun i hi => by
    have hi := List.mem_range.mp hi
    rw [e2 1 i (by decide), gp_of (u_ne hs (by rw [(hk.buyer hi).1]; decide))])
  unfold CS
  rw [e3, e3, m2, m1, e0, e0, e0, e0]
/-- the references, when a shipment gets its damage or its delay -/
theorem IK.u (hk : IK X K G a0) {i : Nat} (hi : i < sz K G a0 4) (hv : (f = 14 ∧ (K d).1 = 8 ∧ ∀ j, j < sz K G a0 4 → ¬ G (eo G a0 4 j) 14 = some d) ∨ (f = 15 ∧ (K d).1 = 9)) : IK X K (up2 G (eo G a0 4 i) f (some d)) a0 := by
  have hs := (hk.ship hi).1
  have hv2 : (f = 14 ∧ (K d).1 = 8) ∨ (f = 15 ∧ (K d).1 = 9) := hv.imp (fun q => ⟨q.1, q.2.1⟩) id
  obtain ⟨e0, e1, e2, e3⟩ := u_eo (f := f) (v := some d) hs hk.1
  have ek : ∀ x k, k ≠ f → up2 G (eo G a0 4 i) f (some d) x k = G x k := fun x k hkf => by
    by_cases e : x = eo G a0 4 i
    · rw [e]; exact up2_k _ _ hkf
    · rw [up2_a _ _ e]
  have f0 : (0 : Nat) ≠ f := by omega
  have f1 : (1 : Nat) ≠ f := by omega
  refine ⟨hk.1.u hs hv2, by rw [u_cs hs hk]; exact hk.2.1, fun j hj => ?_, fun j hj => ?_, fun j q hj hq w e => ?_⟩
  · rw [e3] at hj
    obtain ⟨q, hq, eq⟩ := hk.2.2.1 j hj
    exact ⟨q, by rw [e3]; exact hq, by rw [e2 3 j (by decide), e2 2 q (by decide), gp_k (ek _ 1 f1)]; exact eq⟩
  · rw [e3] at hj
    obtain ⟨⟨p, hp, ep⟩, ⟨b, hb, eb⟩⟩ := hk.2.2.2.1 j hj
    exact ⟨⟨p, by rw [e3]; exact hp, by rw [e2 4 j (by decide), e2 3 p (by decide), gp_k (ek _ 0 f0)]; exact ep⟩, ⟨b, by rw [e3]; exact hb, by rw [e2 4 j (by decide), e2 1 b (by decide), gp_k (ek _ 1 f1)]; exact eb⟩⟩
  · rw [e3] at hj hq
    rw [e2 4 j (by decide)] at w e ⊢
    rw [e2 4 q (by decide)] at e ⊢
    rcases hv with ⟨rfl, hd, hn⟩ | ⟨rfl, hd⟩
    · by_cases c1 : eo G a0 4 j = eo G a0 4 i
      · by_cases c2 : eo G a0 4 q = eo G a0 4 i
        · rw [c1, c2]
        · rw [c1, up2_eq, up2_a _ _ c2] at e
          exact absurd e.symm (hn q hq)
      · rw [up2_a _ _ c1] at w e
        by_cases c2 : eo G a0 4 q = eo G a0 4 i
        · rw [c2, up2_eq] at e
          exact absurd e (hn j hj)
        · rw [up2_a _ _ c2] at e
          exact hk.2.2.2.2 j q hj hq w e
    · rw [ek _ 14 (by decide)] at w e
      rw [ek _ 14 (by decide)] at e
      exact hk.2.2.2.2 j q hj hq w e
end PNC
