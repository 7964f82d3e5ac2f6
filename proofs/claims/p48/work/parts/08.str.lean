/-! the office's own lists and chests: what stays when a list gets one more -/
section PST
/-- what was there, but for lists and their arrays, is as it was -/
def Ex2 (K : Kt) (G : Gt) (K1 : Kt) (G1 : Gt) : Prop := ∀ a, (K a).1 ≠ 0 → (K a).1 ≠ 10 → (K a).1 ≠ 21 → K1 a = K a ∧ G1 a = G a
theorem Ext.ex2 {K K1 : Kt} {G G1 : Gt} (E : Ext K G K1 G1) : Ex2 K G K1 G1 := fun a h _ _ => E a h
theorem AddRel.ex2 {K : Kt} {F : Ft} {G : Gt} {q e n n' : Nat} {K' : Kt} {F' : Ft} {G' : Gt} (h : AddRel K F G q e n n' K' F' G') (hq : (K q).1 = 10) (ha : (K (gp G q 1)).1 = 21) : Ex2 K G K' G' := fun a h0 h1 h2 => by
  have n1 : a ≠ q := fun z => h1 (by rw [z]; exact hq)
  have n2 : a ≠ gp G q 1 := fun z => h2 (by rw [z]; exact ha)
  exact ⟨(h.2.2.1 a h0 n1).1, h.2.2.2.1 a h0 n1 n2⟩
theorem AddRel.ff {K : Kt} {F : Ft} {G : Gt} {q e n n' : Nat} {K' : Kt} {F' : Ft} {G' : Gt} (h : AddRel K F G q e n n' K' F' G') (hq : (K q).1 = 10) {a : Nat} (h0 : (K a).1 ≠ 0) (h1 : (K a).1 ≠ 10) : F' a = F a := (h.2.2.1 a h0 (fun z => h1 (by rw [z]; exact hq))).2
section
variable {K K1 : Kt} {G G1 : Gt}
theorem Ex2.k (E : Ex2 K G K1 G1) {a k : Nat} (h : (K a).1 = k) (h0 : k ≠ 0 := by decide) (h1 : k ≠ 10 := by decide) (h2 : k ≠ 21 := by decide) : (K1 a).1 = k := by
  rw [(E a (by rw [h]; exact h0) (by rw [h]; exact h1) (by rw [h]; exact h2)).1]
  exact h
theorem Ex2.kk (E : Ex2 K G K1 G1) {a : Nat} {x : Nat × Nat} (h : K a = x) (h0 : x.1 ≠ 0 := by decide) (h1 : x.1 ≠ 10 := by decide) (h2 : x.1 ≠ 21 := by decide) : K1 a = x := by
  rw [(E a (by rw [h]; exact h0) (by rw [h]; exact h1) (by rw [h]; exact h2)).1]
  exact h
theorem Ex2.g (E : Ex2 K G K1 G1) {a k : Nat} (h : (K a).1 = k) (h0 : k ≠ 0 := by decide) (h1 : k ≠ 10 := by decide) (h2 : k ≠ 21 := by decide) : G1 a = G a :=
  (E a (by rw [h]; exact h0) (by rw [h]; exact h1) (by rw [h]; exact h2)).2
theorem gp_of {G G1 : Gt} {a : Nat} (h : G1 a = G a) (k : Nat) : gp G1 a k = gp G a k := by
  show (G1 a k).getD 0 = (G a k).getD 0
  rw [h]
theorem TBuyer.ex2 (E : Ex2 K G K1 G1) {a : Nat} (h : TBuyer K G a) : TBuyer K1 G1 a := by
  obtain ⟨h1, ⟨h2, h3⟩, ⟨h4, h5⟩⟩ := h
  have e := E.g h1
  exact ⟨E.k h1, ⟨by rw [gp_of e, e]; exact h2, by rw [gp_of e]; exact E.k h3⟩, ⟨by rw [gp_of e, e]; exact h4, by rw [gp_of e]; exact E.k h5⟩⟩
theorem TExp.ex2 (E : Ex2 K G K1 G1) {a : Nat} (h : TExp K G a) : TExp K1 G1 a := by
  obtain ⟨h1, ⟨h2, h3⟩⟩ := h
  have e := E.g h1
  exact ⟨E.k h1, ⟨by rw [gp_of e, e]; exact h2, by rw [gp_of e]; exact E.k h3⟩⟩
theorem TPol.ex2 (E : Ex2 K G K1 G1) {a : Nat} (h : TPol K G a) : TPol K1 G1 a := by
  obtain ⟨h1, ⟨h2, h3⟩, ⟨h4, h5⟩⟩ := h
  have e := E.g h1
  exact ⟨E.k h1, ⟨by rw [gp_of e, e]; exact h2, by rw [gp_of e]; exact h3.ex2 E⟩, ⟨by rw [gp_of e, e]; exact h4, by rw [gp_of e]; exact E.kk h5⟩⟩
theorem TShip.ex2 (E : Ex2 K G K1 G1) {a : Nat} (h : TShip K G a) : TShip K1 G1 a := by
  obtain ⟨h1, ⟨h2, h3⟩, ⟨h4, h5⟩, h6, h7⟩ := h
  have e := E.g h1
  exact ⟨E.k h1, ⟨by rw [gp_of e, e]; exact h2, by rw [gp_of e]; exact h3.ex2 E⟩, ⟨by rw [gp_of e, e]; exact h4, by rw [gp_of e]; exact h5.ex2 E⟩, fun q => by rw [gp_of e]; exact E.k (h6 (by rw [← e]; exact q)), fun q => by rw [gp_of e]; exact E.k (h7 (by rw [← e]; exact q))⟩
def PJ (j : Nat) (K : Kt) (G : Gt) (x : Nat) : Prop := if j = 0 then (K x).1 = 3 else if j = 1 then TBuyer K G x else if j = 2 then TExp K G x else if j = 3 then TPol K G x else TShip K G x
theorem PJ.ex2 (E : Ex2 K G K1 G1) {j x : Nat} (h : PJ j K G x) : PJ j K1 G1 x := by
  unfold PJ at h ⊢
  split at h
  · rename_i c; rw [if_pos c]; exact E.k h
  · rename_i c; rw [if_neg c]
    split at h
    · rename_i c; rw [if_pos c]; exact h.ex2 E
    · rename_i c; rw [if_neg c]
      split at h
      · rename_i c; rw [if_pos c]; exact h.ex2 E
      · rename_i c; rw [if_neg c]
        split at h
        · rename_i c; rw [if_pos c]; exact h.ex2 E
        · rename_i c; rw [if_neg c]; exact h.ex2 E
theorem TMain.lst {a0 : Nat} (t : TMain K G a0) {i : Nat} (hi : i < 5) : G a0 i = some (gp G a0 i) ∧ TLst (PJ i K G) K G (gp G a0 i) := by
  obtain ⟨-, t0, t1, t2, t3, t4, -⟩ := t
  rcases (show i = 0 ∨ i = 1 ∨ i = 2 ∨ i = 3 ∨ i = 4 by omega) with rfl | rfl | rfl | rfl | rfl
  · exact t0
  · exact t1
  · exact t2
  · exact t3
  · exact t4
theorem TMain.chest {a0 : Nat} (t : TMain K G a0) {i : Nat} (h5 : 5 ≤ i) (hi : i < 9) : G a0 i = some (gp G a0 i) ∧ (K (gp G a0 i)).1 = 2 := by
  obtain ⟨-, -, -, -, -, -, t0, t1, t2, t3⟩ := t
  rcases (show i = 5 ∨ i = 6 ∨ i = 7 ∨ i = 8 by omega) with rfl | rfl | rfl | rfl
  · exact t0
  · exact t1
  · exact t2
  · exact t3
theorem TMain.of {a0 : Nat} (h0 : (K a0).1 = 1) (hl : ∀ i, i < 5 → G a0 i = some (gp G a0 i) ∧ TLst (PJ i K G) K G (gp G a0 i)) (hc : ∀ i, 5 ≤ i → i < 9 → G a0 i = some (gp G a0 i) ∧ (K (gp G a0 i)).1 = 2) : TMain K G a0 :=
  ⟨h0, hl 0 (by decide), hl 1 (by decide), hl 2 (by decide), hl 3 (by decide), hl 4 (by decide), hc 5 (by decide) (by decide), hc 6 (by decide) (by decide), hc 7 (by decide) (by decide), hc 8 (by decide) (by decide)⟩
end
/-- the office's lists apart from each other -/
def Str (X : Xt) (K : Kt) (G : Gt) (a0 : Nat) : Prop := TMain K G a0 ∧ K (xz X) = (21, 0) ∧ (∀ i j, i < 5 → j < 5 → i ≠ j → gp G a0 i ≠ gp G a0 j ∧ (gp G (gp G a0 i) 1 = gp G (gp G a0 j) 1 → gp G (gp G a0 i) 1 = xz X)) ∧ ∀ i, i < 5 → (K (gp G (gp G a0 i) 1)).2 = 0 → gp G (gp G a0 i) 1 = xz X
theorem Str.k10 {X : Xt} {K : Kt} {G : Gt} {a0 i : Nat} (h : Str X K G a0) (hi : i < 5) : (K (gp G a0 i)).1 = 10 := (h.1.lst hi).2.1
theorem Str.k21 {X : Xt} {K : Kt} {G : Gt} {a0 i : Nat} (h : Str X K G a0) (hi : i < 5) : (K (gp G (gp G a0 i) 1)).1 = 21 := (h.1.lst hi).2.2.2.2.1
theorem Str.ext {X : Xt} {K K1 : Kt} {G G1 : Gt} (E : Ext K G K1 G1) {a0 : Nat} (h : Str X K G a0) : Str X K1 G1 a0 := by
  have t := h.1
  obtain ⟨h1, h2, h3, h4⟩ := h
  have e0 : ∀ i, gp G1 a0 i = gp G a0 i := fun i => E.pp (by rw [t.1]; decide) i
  have e1 : ∀ i, i < 5 → gp G1 (gp G a0 i) 1 = gp G (gp G a0 i) 1 := fun i hi => E.pp (by rw [(t.lst hi).2.1]; decide) 1
  have e2 : ∀ i, i < 5 → K1 (gp G (gp G a0 i) 1) = K (gp G (gp G a0 i) 1) := fun i hi => (E _ (by rw [(t.lst hi).2.2.2.2.1]; decide)).1
  refine ⟨t.ext E, E.kk h2 (by decide), fun i j hi hj hij => ?_, fun i hi => ?_⟩
  · rw [e0, e0, e1 i hi, e1 j hj]
    exact h3 i j hi hj hij
  · rw [e0, e1 i hi, e2 i hi]
    exact h4 i hi
section
variable {X : Xt} {K : Kt} {F : Ft} {G : Gt} {a0 j e n n' : Nat} {K' : Kt} {F' : Ft} {G' : Gt}
theorem Str.ex2 (h : Str X K G a0) (hj : j < 5) (hA : AddRel K F G (gp G a0 j) e n n' K' F' G') : Ex2 K G K' G' := hA.ex2 (h.k10 hj) (h.k21 hj)
theorem Str.main (h : Str X K G a0) (hj : j < 5) (hA : AddRel K F G (gp G a0 j) e n n' K' F' G') : G' a0 = G a0 := (h.ex2 hj hA).g h.1.1
theorem Str.ne (h : Str X K G a0) {i : Nat} (hi : i < 5) (hj : j < 5) : gp G a0 i ≠ gp G (gp G a0 j) 1 := fun z => by
  have := h.k21 hj
  rw [← z, h.k10 hi] at this
  cases this
theorem Str.oth (h : Str X K G a0) (hj : j < 5) (hA : AddRel K F G (gp G a0 j) e n n' K' F' G') {i : Nat} (hi : i < 5) (hij : i ≠ j) : K' (gp G a0 i) = K (gp G a0 i) ∧ F' (gp G a0 i) = F (gp G a0 i) ∧ G' (gp G a0 i) = G (gp G a0 i) := by
  have k := h.k10 hi
  have n0 : (K (gp G a0 i)).1 ≠ 0 := by rw [k]; decide
  have n1 := (h.2.2.1 i j hi hj hij).1
  exact ⟨(hA.2.2.1 _ n0 n1).1, (hA.2.2.1 _ n0 n1).2, hA.2.2.2.1 _ n0 n1 (h.ne hi hj)⟩
theorem Str.arr (h : Str X K G a0) (hj : j < 5) (hA : AddRel K F G (gp G a0 j) e n n' K' F' G') {i : Nat} (hi : i < 5) : K' (gp G (gp G a0 i) 1) = K (gp G (gp G a0 i) 1) := by
  have k := h.k21 hi
  exact (hA.2.2.1 _ (by rw [k]; decide) (fun z => h.ne hj hi z.symm)).1
theorem Str.add (h : Str X K G a0) (hj : j < 5) (hA : AddRel K F G (gp G a0 j) e n n' K' F' G') (hs : (K (gp G a0 j)).2 < 48) (he : PJ j K' G' e) : Str X K' G' a0 := by
  have E := h.ex2 hj hA
  have t := h.1
  have em := h.main hj hA
  have eg : ∀ i, gp G' a0 i = gp G a0 i := gp_of em
  have hne : ∀ i, i < 5 → i ≠ j → gp G' (gp G a0 i) 1 = gp G (gp G a0 i) 1 := fun i hi hij => gp_of (h.oth hj hA hi hij).2.2 1
  have hnew : gp G' (gp G a0 j) 1 = gp G (gp G a0 j) 1 ∨ (K (gp G' (gp G a0 j) 1)).1 = 0 := hA.2.2.2.2.2.2.2.2.2.2.imp id And.left
  have hap : ∀ i, i < 5 → i ≠ j → gp G' (gp G a0 i) 1 = gp G' (gp G a0 j) 1 → gp G (gp G a0 i) 1 = xz X := fun i hi hij z => by
    rw [hne i hi hij] at z
    rcases hnew with w | w
    · rw [w] at z
      exact (h.2.2.1 i j hi hj hij).2 z
    · rw [← z, h.k21 hi] at w
      cases w
  refine ⟨TMain.of (E.k t.1) (fun i hi => ?_) (fun i h5 hi => ?_), ?_, fun i k hi hk hik => ?_, fun i hi => ?_⟩
  · obtain ⟨l1, l2⟩ := t.lst hi
    rw [eg, em]
    refine ⟨l1, ?_⟩
    by_cases hij : i = j
    · subst hij
      exact hA.self l2 hs (fun x hx => hx.ex2 E) he
    · exact hA.other (h.k10 hj) (h.k21 hj) l2 (h.2.2.1 i j hi hj hij).1 (fun z => by
        have z2 := (h.2.2.1 i j hi hj hij).2 z
        have z3 := l2.2.2.2.2.2.1
        rw [z2, h.2.1] at z3
        exact Nat.le_zero.mp z3) (fun x hx => hx.ex2 E)
  · obtain ⟨l1, l2⟩ := t.chest h5 hi
    rw [eg, em]
    exact ⟨l1, E.k l2⟩
  · rw [(hA.2.2.1 _ (by rw [h.2.1]; decide) (fun z => by have := h.k10 hj; rw [← z, h.2.1] at this; cases this)).1]
    exact h.2.1
  · rw [eg, eg]
    refine ⟨(h.2.2.1 i k hi hk hik).1, fun z => ?_⟩
    by_cases hij : i = j
    · subst hij
      have w := hap k hk (Ne.symm hik) z.symm
      rw [hne k hk (Ne.symm hik)] at z
      rw [z]
      exact w
    · rw [hne i hi hij]
      by_cases hkj : k = j
      · subst hkj
        exact hap i hi hij z
      · rw [hne i hi hij, hne k hk hkj] at z
        exact (h.2.2.1 i k hi hk hik).2 z
  · rw [eg]
    by_cases hij : i = j
    · subst hij
      intro z
      have := hA.2.2.2.2.2.2.2.1
      omega
    · rw [hne i hi hij, h.arr hj hA hi]
      exact h.2.2.2 i hi
/-- the lists read after one more came -/
theorem Str.size (h : Str X K G a0) (hj : j < 5) (hA : AddRel K F G (gp G a0 j) e n n' K' F' G') {i : Nat} (hi : i < 5) : (K' (gp G a0 i)).2 = if i = j then (K (gp G a0 i)).2 + 1 else (K (gp G a0 i)).2 := by
  by_cases hij : i = j
  · subst hij
    rw [if_pos rfl, hA.2.1]
  · rw [if_neg hij, (h.oth hj hA hi hij).1]
theorem Str.els (h : Str X K G a0) (hj : j < 5) (hA : AddRel K F G (gp G a0 j) e n n' K' F' G') {i k : Nat} (hi : i < 5) (hk : k < (K (gp G a0 i)).2) : el G' (gp G a0 i) k = el G (gp G a0 i) k := by
  have l2 := (h.1.lst hi).2
  by_cases hij : i = j
  · subst hij
    show (G' (gp G' (gp G a0 i) 1) k).getD 0 = _
    rw [hA.2.2.2.2.2.2.2.2.1 k hk]
    rfl
  · have e1 := gp_of (h.oth hj hA hi hij).2.2 1
    have k21 := h.k21 hi
    have n3 : gp G (gp G a0 i) 1 ≠ gp G (gp G a0 j) 1 := fun z => by
      have z2 := (h.2.2.1 i j hi hj hij).2 z
      have z3 := l2.2.2.2.2.2.1
      rw [z2, h.2.1] at z3
      exact absurd hk (by have := Nat.le_zero.mp z3; omega)
    have e3 := hA.2.2.2.1 (gp G (gp G a0 i) 1) (by rw [k21]; decide) (fun z => h.ne hj hi z.symm) n3
    show (G' (gp G' (gp G a0 i) 1) k).getD 0 = (G (gp G (gp G a0 i) 1) k).getD 0
    rw [e1, e3]
theorem Str.last (h : Str X K G a0) (hj : j < 5) (hA : AddRel K F G (gp G a0 j) e n n' K' F' G') : el G' (gp G a0 j) (K (gp G a0 j)).2 = e := gp_eq hA.2.2.2.2.2.2.2.2.2.1
end
end PST
