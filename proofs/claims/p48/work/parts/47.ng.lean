/-! whole numbers of the law, and the office while it is made -/
section PNG
variable {X : Xt} {K K' : Kt} {F F' F'' F2 : Ft} {G G' G'' : Gt} {a0 n j : Nat} {B B' : Int}
theorem rem_spec {x m : Int32} (hx : 0 ≤ x.toInt) (hm : 0 < m.toInt) : (x - x / m * m).toInt = x.toInt % m.toInt := by
  have r := fb_rng x
  have d := i_div hx hm
  have q0 : 0 ≤ x.toInt / m.toInt * m.toInt := Int.mul_nonneg (Int.ediv_nonneg hx (Int.le_of_lt hm)) (Int.le_of_lt hm)
  have q1 : x.toInt / m.toInt * m.toInt ≤ x.toInt := Int.ediv_mul_le _ (by omega)
  have e1 : (x / m * m).toInt = x.toInt / m.toInt * m.toInt := by rw [fb_mulI (by rw [d]; omega) (by rw [d]; omega), d]
  rw [fb_subI (by rw [e1]; omega) (by rw [e1]; omega), e1, Int.emod_def, Int.mul_comm m.toInt]
theorem int_is {x : Int32} (h : 0 ≤ x.toInt) : x = nI x.toInt.toNat := by
  have r := fb_rng x
  refine Int32.toInt_inj.mp ?_
  rw [nI_toInt (by omega)]
  omega
theorem rem_nI {x m : Int32} {k : Nat} (hx : 0 ≤ x.toInt) (hm : m.toInt = (k : Int)) (hk : 0 < k) : ∃ i, i < k ∧ x - x / m * m = nI i := by
  have e := rem_spec hx (by rw [hm]; omega)
  have h1 := Int.emod_nonneg x.toInt (b := m.toInt) (by omega)
  have h2 := Int.emod_lt_of_pos x.toInt (b := m.toInt) (by omega)
  refine ⟨(x - x / m * m).toInt.toNat, by omega, int_is (by omega)⟩
theorem and_nn (x : Int32) : 0 ≤ (x &&& 2147483647).toInt := by
  have h : (x &&& 2147483647).toBitVec.msb = false := by
    rw [Int32.toBitVec_and, BitVec.msb_and]
    have h2 : (2147483647 : Int32).toBitVec.msb = false := by decide
    rw [h2, Bool.and_false]
  show 0 ≤ (x &&& 2147483647).toBitVec.toInt
  rw [BitVec.toInt_eq_msb_cond, h]
  exact Int.natCast_nonneg _
theorem within_of {x a b : Int32} (h1 : a.toInt ≤ x.toInt) (h2 : x.toInt ≤ b.toInt) : ¬ f_X8_isWithin K F G x a b = 0 := by
  unfold f_X8_isWithin
  rw [if_neg (by rw [Int32.lt_iff_toInt_lt]; omega), if_neg (by rw [Int32.lt_iff_toInt_lt]; omega)]
  unfold f_X8_isWithin_J15
  decide
theorem next_row {x : Int32} (h0 : 0 ≤ x.toInt) (h1 : x.toInt ≤ 100) : 0 ≤ (f_X8_nextInRow K F G x).toInt ∧ (f_X8_nextInRow K F G x).toInt ≤ 100 := by
  unfold f_X8_nextInRow
  have k27 : (27 : Int32).toInt = 27 := rfl
  have k29 : (29 : Int32).toInt = 29 := rfl
  have k101 : (101 : Int32).toInt = 101 := rfl
  have e1 : (27 * x).toInt = 27 * x.toInt := by rw [fb_mulI (by rw [k27]; omega) (by rw [k27]; omega), k27]
  have e2 : (27 * x + 29).toInt = 27 * x.toInt + 29 := by rw [fb_addI (by rw [e1, k29]; omega) (by rw [e1, k29]; omega), e1, k29]
  have e3 := rem_spec (x := 27 * x + 29) (m := 101) (by rw [e2]; omega) (by rw [k101]; decide)
  rw [e3, k101, e2]
  omega
/-- the office while it is made -/
def Off (X : Xt) (B : Int) (K : Kt) (F : Ft) (G : Gt) (a0 c0 c1 c2 c3 : Nat) : Prop := IK X K G a0 ∧ IV B K F G a0 ∧ sz K G a0 0 = c0 ∧ sz K G a0 1 = c1 ∧ sz K G a0 2 = c2 ∧ sz K G a0 3 = c3 ∧ sz K G a0 4 = 0 ∧ F a0 9 = 0 ∧ ∀ i, i < c3 → F (eo G a0 3 i) 6 = 0
section
variable {c0 c1 c2 c3 : Nat}
theorem Off.up (h : Off X B K F G a0 c0 c1 c2 c3) (hB : B ≤ B') : Off X B' K F G a0 c0 c1 c2 c3 := ⟨h.1, h.2.1.mono hB, h.2.2⟩
theorem Off.old (h : Off X B K F G a0 c0 c1 c2 c3) (o : Old K F G K' F2 G' a0 j) (k1 : IK X K' G' a0) (v1 : IV B K' F2 G' a0) (h4 : j ≠ 4) (h3 : j = 3 → F2 (eo G' a0 3 c3) 6 = 0) : Off X B K' F2 G' a0 (if j = 0 then c0 + 1 else c0) (if j = 1 then c1 + 1 else c1) (if j = 2 then c2 + 1 else c2) (if j = 3 then c3 + 1 else c3) := by
  obtain ⟨hk, hv, s0, s1, s2, s3, s4, s9, s6⟩ := h
  refine ⟨k1, v1, ?_, ?_, ?_, ?_, ?_, ?_, fun i hi => ?_⟩
  · rw [o.1 0 (by decide), s0]; by_cases c : j = 0
    · rw [if_pos c, if_pos c.symm]
    · rw [if_neg c, if_neg (Ne.symm c)]
  · rw [o.1 1 (by decide), s1]; by_cases c : j = 1
    · rw [if_pos c, if_pos c.symm]
    · rw [if_neg c, if_neg (Ne.symm c)]
  · rw [o.1 2 (by decide), s2]; by_cases c : j = 2
    · rw [if_pos c, if_pos c.symm]
    · rw [if_neg c, if_neg (Ne.symm c)]
  · rw [o.1 3 (by decide), s3]; by_cases c : j = 3
    · rw [if_pos c, if_pos c.symm]
    · rw [if_neg c, if_neg (Ne.symm c)]
  · rw [o.1 4 (by decide), s4, if_neg (Ne.symm h4)]
  · rw [(o.at hk.1.1.1).2.2]; exact s9
  · by_cases c : i < c3
    · rw [o.2.1 3 i (by decide) (by rw [s3]; exact c), (o.at (hk.pol (by rw [s3]; exact c)).1).2.2]
      exact s6 i c
    · by_cases c2 : j = 3
      · rw [if_pos c2] at hi
        have : i = c3 := by omega
        rw [this]; exact h3 c2
      · rw [if_neg c2] at hi; exact absurd hi c
/-- numbers alone are written, policies' marks not -/
theorem Off.sto (h : Off X B K F G a0 c0 c1 c2 c3) (s : Sto B' K F G F' a0) (e : ∀ i, i < c3 → F' (eo G a0 3 i) 6 = F (eo G a0 3 i) 6) : Off X B' K F' G a0 c0 c1 c2 c3 :=
  ⟨h.1, s.1, h.2.2.1, h.2.2.2.1, h.2.2.2.2.1, h.2.2.2.2.2.1, h.2.2.2.2.2.2.1, s.2.2.trans h.2.2.2.2.2.2.2.1, fun i hi => (e i hi).trans (h.2.2.2.2.2.2.2.2 i hi)⟩
theorem Off.land (h : Off X B K F G a0 c0 c1 c2 c3) {n' : Nat} (hs : c0 < 5) {F1 : Ft} (hfr : (K n).1 = 0) (p1 : ∀ a, a ≠ n → F1 a = F a) (hA : AddRel (va_up K n (3, 0)) F1 (va_up G n (fun _ => none)) (gp (va_up G n (fun _ => none)) a0 0) n (n + 1) n' K' F2 G') : Off X B K' F2 G' a0 (c0 + 1) c1 c2 c3 := by
  obtain ⟨k1, v1, o⟩ := land_inv h.1 h.2.1 (by rw [h.2.2.1]; exact hs) hfr p1 hA
  exact h.old o k1 v1 (by decide) (fun q => absurd q (by decide))
theorem Off.exporter (h : Off X B K F G a0 c0 c1 c2 c3) (hB0 : 0 ≤ B) {n' : Nat} (hs : c2 < 6) {F1 : Ft} (hfr : (K n).1 = 0) (hfr2 : (K (n + 1)).1 = 0) (p1 : ∀ a, a ≠ n → a ≠ n + 1 → F1 a = F a) (p2 : F1 (n + 1) 0 = 0) (hA : AddRel (KE K n) F1 (GE G n) (gp (GE G n) a0 2) n (n + 1 + 1) n' K' F2 G') : Off X B K' F2 G' a0 c0 c1 (c2 + 1) c3 := by
  obtain ⟨k1, v1, o⟩ := exporter_inv h.1 h.2.1 hB0 (by rw [h.2.2.2.2.1]; exact hs) hfr hfr2 p1 p2 hA
  exact h.old o k1 v1 (by decide) (fun q => absurd q (by decide))
theorem Off.buyer (h : Off X B K F G a0 c0 c1 c2 c3) (hB0 : 0 ≤ B) {a1 n' : Nat} (t1 : (K a1).1 = 3) (hs : c1 < 12) {F1 : Ft} (hfr : (K n).1 = 0) (hfr2 : (K (n + 1)).1 = 0) (p1 : ∀ a, a ≠ n → a ≠ n + 1 → F1 a = F a) (p2 : F1 (n + 1) 0 = 0) (hA : AddRel (KB K n) F1 (GB G n a1) (gp (GB G n a1) a0 1) n (n + 1 + 1) n' K' F2 G') : Off X B K' F2 G' a0 c0 (c1 + 1) c2 c3 ∧ eo G' a0 1 c1 = n := by
  obtain ⟨k1, v1, o⟩ := buyer_inv h.1 h.2.1 hB0 t1 (by rw [h.2.2.2.1]; exact hs) hfr hfr2 p1 p2 hA
  refine ⟨h.old o k1 v1 (by decide) (fun q => absurd q (by decide)), ?_⟩
  have E : Ext K G (KB K n) (GB G n a1) := ext_B hfr hfr2
  obtain ⟨-, gl, -⟩ := old_of (F := F) h.1.1 E (by decide) hA (fun x h0 => p1 x (kne hfr h0) (kne hfr2 h0))
  rw [h.2.2.2.1] at gl
  exact gl
theorem Off.policy (h : Off X B K F G a0 c0 c1 c2 c3) {x1 n' : Nat} (hi : x1 < c2) (hs : c3 < 8) {F1 : Ft} {x2 x4 : Int32} (h2 : 50 ≤ x2.toInt ∧ x2.toInt ≤ 95) (h4 : 0 ≤ x4.toInt ∧ x4.toInt ≤ 60) (hfr : (K n).1 = 0) (hfr2 : (K (n + 1)).1 = 0) (p1 : ∀ a, a ≠ n → a ≠ n + 1 → F1 a = F a) (f0 : F1 n 0 = nI (K (gp G a0 3)).2) (f2 : F1 n 2 = x2) (f4 : F1 n 4 = x4) (f6 : F1 n 6 = 0)
    (hA : AddRel (KP K n) F1 (GP G n (el G (gp G a0 2) x1)) (gp (GP G n (el G (gp G a0 2) x1)) a0 3) n (n + 1 + 1) n' K' F2 G') : Off X B K' F2 G' a0 c0 c1 c2 (c3 + 1) := by
  have hi2 : x1 < sz K G a0 2 := by rw [h.2.2.2.2.1]; exact hi
  obtain ⟨k1, v1, o⟩ := policy_inv h.1 h.2.1 hi2 (by rw [h.2.2.2.2.2.1]; exact hs) h2 h4 hfr hfr2 p1 f0 f2 f4 f6 hA
  have te : TExp K G (el G (gp G a0 2) x1) := h.1.exp hi2
  have E : Ext K G (KP K n) (GP G n (el G (gp G a0 2) x1)) := ext_P hfr hfr2
  have tp := new_pol (G := G) hfr hfr2 te
  obtain ⟨-, gl, go1⟩ := old_of (F := F) h.1.1 E (by decide) hA (fun x h0 => p1 x (kne hfr h0) (kne hfr2 h0))
  refine h.old o k1 v1 (by decide) (fun _ => ?_)
  rw [h.2.2.2.2.2.1] at gl
  rw [gl, (go1 n (by rw [tp.1]; decide) (by rw [tp.1]; decide) (by rw [tp.1]; decide)).2.2, f6]
theorem Off.give (h : Off X B K F G a0 c0 c1 c2 c3) {x1 : Nat} (hi : x1 < c1) {x2 : Int32} (hx : 0 ≤ x2.toInt ∧ x2.toInt ≤ 99999) (hB0 : 0 ≤ B) (hB : B + 99999 < 2147483648) : Off X (B + 99999) K (f_X1_giveTo K F G (gp G a0 8) (gp G (eo G a0 1 x1) 3) x2) G a0 c0 c1 c2 c3 := by
  have hi2 : x1 < sz K G a0 1 := by rw [h.2.2.2.1]; exact hi
  have st := earn_stp h.1 h.2.1 hi2 hx hB0 hB
  refine h.sto st (fun i hi3 => ?_)
  have kp := (h.1.pol (i := i) (by rw [h.2.2.2.2.2.1]; exact hi3)).1
  rw [give_kk (CS.kind h.1.1.1 CS.world) (CS.kind h.1.1.1 (CS.buyer hi2)) (by rw [kp]; decide)]
theorem Off.grant (h : Off X B K F G a0 c0 c1 c2 c3) {x1 : Nat} (hi : x1 < c3) {x y : Int32} : Off X B K (f_X6_grant K F G (eo G a0 3 x1) x y) G a0 c0 c1 c2 c3 := by
  have tp := h.1.pol (i := x1) (by rw [h.2.2.2.2.2.1]; exact hi)
  refine h.sto (grant_stp h.1 h.2.1 tp) (fun i hi3 => ?_)
  have kp := (h.1.pol (i := i) (by rw [h.2.2.2.2.2.1]; exact hi3)).1
  unfold f_X6_grant f_X6_grant_J20
  split
  · rfl
  · split
    · rfl
    · rw [up2_a _ _ (ne_kind (show (K (gp G (eo G a0 3 x1) 5)).1 = 20 by rw [tp.2.2.2]) (by rw [kp]; decide))]
end
end PNG
