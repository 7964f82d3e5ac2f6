/-! signed ints as whole numbers (rows pasted from kit/laws/COUNTS.to-paste), and what divides -/
section PNU
theorem fb_rng (x : Int32) : -2147483648 ≤ x.toInt ∧ x.toInt < 2147483648 := by
  have h1 := Int32.le_toInt x
  have h2 := Int32.toInt_lt x
  omega
theorem fb_bmod {z : Int} (h1 : -2147483648 ≤ z) (h2 : z < 2147483648) : z.bmod (2 ^ 32) = z := by
  rw [Int.bmod_eq_of_le (by omega) (by omega)]
theorem fb_addI {x y : Int32} (h1 : -2147483648 ≤ x.toInt + y.toInt) (h2 : x.toInt + y.toInt < 2147483648) : (x + y).toInt = x.toInt + y.toInt := by
  rw [Int32.toInt_add, fb_bmod h1 h2]
theorem fb_subI {x y : Int32} (h1 : -2147483648 ≤ x.toInt - y.toInt) (h2 : x.toInt - y.toInt < 2147483648) : (x - y).toInt = x.toInt - y.toInt := by
  rw [Int32.toInt_sub, fb_bmod h1 h2]
theorem fb_mulI {x y : Int32} (h1 : -2147483648 ≤ x.toInt * y.toInt) (h2 : x.toInt * y.toInt < 2147483648) : (x * y).toInt = x.toInt * y.toInt := by
  rw [Int32.toInt_mul, fb_bmod h1 h2]
theorem fb_negI {x : Int32} (h : x.toInt ≠ -2147483648) : (-x).toInt = -x.toInt := by
  have := fb_rng x
  rw [Int32.toInt_neg, fb_bmod (by omega) (by omega)]
theorem fb_ofI {z : Int} (h1 : -2147483648 ≤ z) (h2 : z < 2147483648) : (Int32.ofInt z).toInt = z := by
  rw [Int32.toInt_ofInt, fb_bmod h1 h2]
theorem fb_asI (x : Int32) : Int32.ofInt x.toInt = x := Int32.ofInt_toInt x
theorem fb_rngL (x : Int64) : -9223372036854775808 ≤ x.toInt ∧ x.toInt < 9223372036854775808 := by
  have h1 := Int64.le_toInt x
  have h2 := Int64.toInt_lt x
  omega
theorem fb_bmodL {z : Int} (h1 : -9223372036854775808 ≤ z) (h2 : z < 9223372036854775808) : z.bmod (2 ^ 64) = z := by
  rw [Int.bmod_eq_of_le (by omega) (by omega)]
theorem fb_addL {x y : Int64} (h1 : -9223372036854775808 ≤ x.toInt + y.toInt) (h2 : x.toInt + y.toInt < 9223372036854775808) : (x + y).toInt = x.toInt + y.toInt := by
  rw [Int64.toInt_add, fb_bmodL h1 h2]
theorem fb_subL {x y : Int64} (h1 : -9223372036854775808 ≤ x.toInt - y.toInt) (h2 : x.toInt - y.toInt < 9223372036854775808) : (x - y).toInt = x.toInt - y.toInt := by
  rw [Int64.toInt_sub, fb_bmodL h1 h2]
theorem fb_mulL {x y : Int64} (h1 : -9223372036854775808 ≤ x.toInt * y.toInt) (h2 : x.toInt * y.toInt < 9223372036854775808) : (x * y).toInt = x.toInt * y.toInt := by
  rw [Int64.toInt_mul, fb_bmodL h1 h2]
theorem i_div {x y : Int32} (hx : 0 ≤ x.toInt) (hy : 0 < y.toInt) : (x / y).toInt = x.toInt / y.toInt := by
  have h1 := fb_rng x
  have h2 : 0 ≤ x.toInt / y.toInt := Int.ediv_nonneg hx (Int.le_of_lt hy)
  have h3 : x.toInt / y.toInt ≤ x.toInt := Int.ediv_le_self _ hx
  rw [Int32.toInt_div, Int.tdiv_eq_ediv_of_nonneg hx, fb_bmod (by omega) (by omega)]
theorem i_divL {x y : Int64} (hx : 0 ≤ x.toInt) (hy : 0 < y.toInt) : (x / y).toInt = x.toInt / y.toInt := by
  have h1 := fb_rngL x
  have h2 : 0 ≤ x.toInt / y.toInt := Int.ediv_nonneg hx (Int.le_of_lt hy)
  have h3 : x.toInt / y.toInt ≤ x.toInt := Int.ediv_le_self _ hx
  rw [Int64.toInt_div, Int.tdiv_eq_ediv_of_nonneg hx, fb_bmodL (by omega) (by omega)]
theorem i_div_b {z k : Int32} {M : Int} (hk : 0 < k.toInt) (h : 2147483648 ≤ M * k.toInt) (hM : M < 2147483648) : -M ≤ (z / k).toInt ∧ (z / k).toInt ≤ M := by
  have h1 := fb_rng z
  by_cases hz : 0 ≤ z.toInt
  · rw [i_div hz hk]
    have h2 : 0 ≤ z.toInt / k.toInt := Int.ediv_nonneg hz (Int.le_of_lt hk)
    have h3 : z.toInt / k.toInt ≤ M := Int.ediv_le_of_le_mul hk (by omega)
    omega
  · have e : z.toInt.tdiv k.toInt = -((-z.toInt) / k.toInt) := by
      rw [← Int.tdiv_eq_ediv_of_nonneg (by omega), Int.neg_tdiv, Int.neg_neg]
    have h2 : 0 ≤ (-z.toInt) / k.toInt := Int.ediv_nonneg (by omega) (Int.le_of_lt hk)
    have h3 : (-z.toInt) / k.toInt ≤ M := Int.ediv_le_of_le_mul hk (by omega)
    rw [Int32.toInt_div, e, fb_bmod (by omega) (by omega)]
    omega
/-- what lies in chests, together -/
def tot (F : Ft) (L : List Nat) : Int := (L.map (fun c => (F c 0).toInt)).sum
theorem tot_congr {F F' : Ft} {L : List Nat} (h : ∀ c ∈ L, F' c 0 = F c 0) : tot F' L = tot F L := by
  unfold tot
  congr 1
  exact List.map_congr_left (fun c hc => by rw [h c hc])
theorem tot_up {F F' : Ft} {L : List Nat} {a : Nat} (hn : L.Nodup) (ha : a ∈ L) (h : ∀ c ∈ L, c ≠ a → F' c 0 = F c 0) : tot F' L = tot F L + ((F' a 0).toInt - (F a 0).toInt) := by
  induction L with
  | nil => cases ha
  | cons x L ih =>
    rw [List.nodup_cons] at hn
    have u : ∀ f : Ft, tot f (x :: L) = (f x 0).toInt + tot f L := fun f => by simp [tot]
    rw [u, u]
    by_cases hx : a = x
    · subst hx
      rw [tot_congr (L := L) (fun c hc => h c (List.mem_cons_of_mem _ hc) (fun z => hn.1 (by rw [← z]; exact hc)))]
      omega
    · have ha2 : a ∈ L := by
        rcases List.mem_cons.mp ha with q | q
        · exact absurd q hx
        · exact q
      rw [ih hn.2 ha2 (fun c hc => h c (List.mem_cons_of_mem _ hc)), h x (List.mem_cons_self ..) (Ne.symm hx)]
      omega
/-- money: all together nothing, and no chest beyond B -/
def Mon (B : Int) (F : Ft) (L : List Nat) : Prop := tot F L = 0 ∧ ∀ c ∈ L, -B ≤ (F c 0).toInt ∧ (F c 0).toInt ≤ B
theorem Mon.mono {B B' : Int} {F : Ft} {L : List Nat} (h : Mon B F L) (hb : B ≤ B') : Mon B' F L := ⟨h.1, fun c hc => by have := h.2 c hc; omega⟩
theorem Mon.congr {B : Int} {F F' : Ft} {L : List Nat} (h : Mon B F L) (e : ∀ c ∈ L, F' c 0 = F c 0) : Mon B F' L := ⟨by rw [tot_congr e]; exact h.1, fun c hc => by rw [e c hc]; exact h.2 c hc⟩
section
variable {K : Kt} {F : Ft} {G : Gt} {a b : Nat} {x : Int32}
theorem give_a (hab : a ≠ b) : f_X1_giveTo K F G a b x a 0 = F a 0 - x := by
  unfold f_X1_giveTo
  rw [up2_a _ _ hab, up2_eq]
theorem give_b (hab : a ≠ b) : f_X1_giveTo K F G a b x b 0 = F b 0 + x := by
  unfold f_X1_giveTo
  rw [up2_eq, up2_a _ _ (Ne.symm hab)]
theorem give_same : f_X1_giveTo K F G a a x a 0 = F a 0 := by
  unfold f_X1_giveTo
  rw [up2_eq, up2_eq]
  simp
theorem give_ne {c : Nat} (h1 : c ≠ a) (h2 : c ≠ b) : f_X1_giveTo K F G a b x c = F c := by
  unfold f_X1_giveTo
  rw [up2_a _ _ h2, up2_a _ _ h1]
theorem give_k {c k : Nat} (h : k ≠ 0) : f_X1_giveTo K F G a b x c k = F c k := by
  unfold f_X1_giveTo
  by_cases h2 : c = b
  · subst h2
    rw [up2_k _ _ h]
    by_cases h1 : c = a
    · subst h1; rw [up2_k _ _ h]
    · rw [up2_a _ _ h1]
  · rw [up2_a _ _ h2]
    by_cases h1 : c = a
    · subst h1; rw [up2_k _ _ h]
    · rw [up2_a _ _ h1]
/-- what a gift does to each chest, as whole numbers -/
theorem give_to {B M : Int} {L : List Nat} (h : Mon B F L) (ha : a ∈ L) (hb : b ∈ L) (hx : -M ≤ x.toInt ∧ x.toInt ≤ M) (hB : B + M < 2147483648) (hab : a ≠ b) : (f_X1_giveTo K F G a b x a 0).toInt = (F a 0).toInt - x.toInt ∧ (f_X1_giveTo K F G a b x b 0).toInt = (F b 0).toInt + x.toInt := by
  have h1 := h.2 a ha
  have h2 := h.2 b hb
  rw [give_a hab, give_b hab]
  exact ⟨fb_subI (by omega) (by omega), fb_addI (by omega) (by omega)⟩
theorem Mon.give {B M : Int} {L : List Nat} (h : Mon B F L) (hn : L.Nodup) (ha : a ∈ L) (hb : b ∈ L) (hx : -M ≤ x.toInt ∧ x.toInt ≤ M) (hM : 0 ≤ M) (hB : B + M < 2147483648) : Mon (B + M) (f_X1_giveTo K F G a b x) L := by
  by_cases hab : a = b
  · subst hab
    refine (h.congr (fun c hc => ?_)).mono (by omega)
    by_cases hca : c = a
    · subst hca; exact give_same
    · rw [give_ne hca hca]
  · obtain ⟨e1, e2⟩ := give_to (K := K) (G := G) h ha hb hx hB hab
    refine ⟨?_, fun c hc => ?_⟩
    · have w1 := tot_up (F := F) (F' := up2 F a 0 (F a 0 - x)) hn ha (fun c _ hca => by rw [up2_a _ _ hca])
      have w2 := tot_up (F := up2 F a 0 (F a 0 - x)) (F' := f_X1_giveTo K F G a b x) hn hb (fun c _ hcb => by unfold f_X1_giveTo; rw [up2_a _ _ hcb])
      have w3 : up2 F a 0 (F a 0 - x) a 0 = f_X1_giveTo K F G a b x a 0 := by rw [give_a hab, up2_eq]
      have w4 : up2 F a 0 (F a 0 - x) b 0 = F b 0 := by rw [up2_a _ _ (Ne.symm hab)]
      rw [w2, w1, w3, w4, e1, e2, h.1]
      omega
    · have h1 := h.2 c hc
      by_cases hca : c = a
      · subst hca; rw [e1]; omega
      · by_cases hcb : c = b
        · subst hcb; rw [e2]; omega
        · rw [give_ne hca hcb]; omega
end
end PNU
