/-! a new office -/
section PNB
variable {X : Xt} {K : Kt} {F : Ft} {G : Gt} {a0 n : Nat}
def KI (K : Kt) (n : Nat) : Kt := (va_up (va_up (va_up (va_up (va_up (va_up (va_up (va_up (va_up K n (10, 0)) (n + 1) (10, 0)) ((n + 1) + 1) (10, 0)) (((n + 1) + 1) + 1) (10, 0)) ((((n + 1) + 1) + 1) + 1) (10, 0)) (((((n + 1) + 1) + 1) + 1) + 1) (2, 0)) ((((((n + 1) + 1) + 1) + 1) + 1) + 1) (2, 0)) (((((((n + 1) + 1) + 1) + 1) + 1) + 1) + 1) (2, 0)) ((((((((n + 1) + 1) + 1) + 1) + 1) + 1) + 1) + 1) (2, 0))
def FI (F : Ft) (n : Nat) : Ft := (va_up (va_up (va_up (va_up (up2 (va_up (up2 (va_up (up2 (va_up (up2 (va_up (up2 (va_up F n (fun _ => 0)) n 0 0) (n + 1) (fun _ => 0)) (n + 1) 0 0) ((n + 1) + 1) (fun _ => 0)) ((n + 1) + 1) 0 0) (((n + 1) + 1) + 1) (fun _ => 0)) (((n + 1) + 1) + 1) 0 0) ((((n + 1) + 1) + 1) + 1) (fun _ => 0)) ((((n + 1) + 1) + 1) + 1) 0 0) (((((n + 1) + 1) + 1) + 1) + 1) (fun _ => 0)) ((((((n + 1) + 1) + 1) + 1) + 1) + 1) (fun _ => 0)) (((((((n + 1) + 1) + 1) + 1) + 1) + 1) + 1) (fun _ => 0)) ((((((((n + 1) + 1) + 1) + 1) + 1) + 1) + 1) + 1) (fun _ => 0))
def GI (X : Xt) (G : Gt) (a0 n : Nat) : Gt := (up2 (va_up (up2 (va_up (up2 (va_up (up2 (va_up (up2 (up2 (va_up (up2 (up2 (va_up (up2 (up2 (va_up (up2 (up2 (va_up (up2 (up2 (va_up G n (fun _ => none)) n 1 (some (xz X))) a0 0 (some n)) (n + 1) (fun _ => none)) (n + 1) 1 (some (xz X))) a0 1 (some (n + 1))) ((n + 1) + 1) (fun _ => none)) ((n + 1) + 1) 1 (some (xz X))) a0 2 (some ((n + 1) + 1))) (((n + 1) + 1) + 1) (fun _ => none)) (((n + 1) + 1) + 1) 1 (some (xz X))) a0 3 (some (((n + 1) + 1) + 1))) ((((n + 1) + 1) + 1) + 1) (fun _ => none)) ((((n + 1) + 1) + 1) + 1) 1 (some (xz X))) a0 4 (some ((((n + 1) + 1) + 1) + 1))) (((((n + 1) + 1) + 1) + 1) + 1) (fun _ => none)) a0 5 (some (((((n + 1) + 1) + 1) + 1) + 1))) ((((((n + 1) + 1) + 1) + 1) + 1) + 1) (fun _ => none)) a0 6 (some ((((((n + 1) + 1) + 1) + 1) + 1) + 1))) (((((((n + 1) + 1) + 1) + 1) + 1) + 1) + 1) (fun _ => none)) a0 7 (some (((((((n + 1) + 1) + 1) + 1) + 1) + 1) + 1))) ((((((((n + 1) + 1) + 1) + 1) + 1) + 1) + 1) + 1) (fun _ => none)) a0 8 (some ((((((((n + 1) + 1) + 1) + 1) + 1) + 1) + 1) + 1)))
theorem init_inv (ha : K a0 = (1, 0)) (hz : K (xz X) = (21, 0)) (hfr : ∀ i, i < 9 → (K (n + i)).1 = 0) (hF : ∀ k, F a0 k = 0) : IK X (KI K n) (GI X G a0 n) a0 ∧ IV 0 (KI K n) (FI F n) (GI X G a0 n) a0 ∧ ∀ i, i < 5 → sz (KI K n) (GI X G a0 n) a0 i = 0 := by
  have kz : ∀ i, i < 9 → xz X ≠ n + i := fun i hi => kne (hfr i hi) (by rw [hz]; exact (by decide : (21 : Nat) ≠ 0))
  have ka : ∀ i, i < 9 → a0 ≠ n + i := fun i hi => kne (hfr i hi) (by rw [ha]; exact (by decide : (1 : Nat) ≠ 0))
  have qa0 : a0 ≠ n := ka 0 (by decide)
  have qb0 : n ≠ a0 := Ne.symm qa0
  have qz0 : xz X ≠ n := kz 0 (by decide)
  have qa1 : a0 ≠ (n + 1) := ka 1 (by decide)
  have qb1 : (n + 1) ≠ a0 := Ne.symm qa1
  have qz1 : xz X ≠ (n + 1) := kz 1 (by decide)
  have qa2 : a0 ≠ (n + 2) := ka 2 (by decide)
  have qb2 : (n + 2) ≠ a0 := Ne.symm qa2
  have qz2 : xz X ≠ (n + 2) := kz 2 (by decide)
  have qa3 : a0 ≠ (n + 3) := ka 3 (by decide)
  have qb3 : (n + 3) ≠ a0 := Ne.symm qa3
  have qz3 : xz X ≠ (n + 3) := kz 3 (by decide)
  have qa4 : a0 ≠ (n + 4) := ka 4 (by decide)
  have qb4 : (n + 4) ≠ a0 := Ne.symm qa4
  have qz4 : xz X ≠ (n + 4) := kz 4 (by decide)
  have qa5 : a0 ≠ (n + 5) := ka 5 (by decide)
  have qb5 : (n + 5) ≠ a0 := Ne.symm qa5
  have qz5 : xz X ≠ (n + 5) := kz 5 (by decide)
  have qa6 : a0 ≠ (n + 6) := ka 6 (by decide)
  have qb6 : (n + 6) ≠ a0 := Ne.symm qa6
  have qz6 : xz X ≠ (n + 6) := kz 6 (by decide)
  have qa7 : a0 ≠ (n + 7) := ka 7 (by decide)
  have qb7 : (n + 7) ≠ a0 := Ne.symm qa7
  have qz7 : xz X ≠ (n + 7) := kz 7 (by decide)
  have qa8 : a0 ≠ (n + 8) := ka 8 (by decide)
  have qb8 : (n + 8) ≠ a0 := Ne.symm qa8
  have qz8 : xz X ≠ (n + 8) := kz 8 (by decide)
  have K0 : KI K n a0 = (1, 0) := by simp [KI, va_up, Nat.add_assoc, qa0, qb0, qz0, qa1, qb1, qz1, qa2, qb2, qz2, qa3, qb3, qz3, qa4, qb4, qz4, qa5, qb5, qz5, qa6, qb6, qz6, qa7, qb7, qz7, qa8, qb8, qz8, ha]
  have Kz : KI K n (xz X) = (21, 0) := by simp [KI, va_up, Nat.add_assoc, qa0, qb0, qz0, qa1, qb1, qz1, qa2, qb2, qz2, qa3, qb3, qz3, qa4, qb4, qz4, qa5, qb5, qz5, qa6, qb6, qz6, qa7, qb7, qz7, qa8, qb8, qz8, hz]
  have F0 : ∀ k, FI F n a0 k = 0 := fun k => by simp [FI, va_up, up2, Nat.add_assoc, qa0, qb0, qz0, qa1, qb1, qz1, qa2, qb2, qz2, qa3, qb3, qz3, qa4, qb4, qz4, qa5, qb5, qz5, qa6, qb6, qz6, qa7, qb7, qz7, qa8, qb8, qz8, hF]
  have K1 : KI K n n = (10, 0) := by simp [KI, va_up, Nat.add_assoc]
  have G0 : GI X G a0 n a0 0 = some n := by simp [GI, va_up, up2, Nat.add_assoc, qa0, qb0, qz0, qa1, qb1, qz1, qa2, qb2, qz2, qa3, qb3, qz3, qa4, qb4, qz4, qa5, qb5, qz5, qa6, qb6, qz6, qa7, qb7, qz7, qa8, qb8, qz8]
  have H0 : GI X G a0 n n 1 = some (xz X) := by simp [GI, va_up, up2, Nat.add_assoc, qa0, qb0, qz0, qa1, qb1, qz1, qa2, qb2, qz2, qa3, qb3, qz3, qa4, qb4, qz4, qa5, qb5, qz5, qa6, qb6, qz6, qa7, qb7, qz7, qa8, qb8, qz8]
  have K2 : KI K n (n + 1) = (10, 0) := by simp [KI, va_up, Nat.add_assoc]
  have G1 : GI X G a0 n a0 1 = some (n + 1) := by simp [GI, va_up, up2, Nat.add_assoc, qa0, qb0, qz0, qa1, qb1, qz1, qa2, qb2, qz2, qa3, qb3, qz3, qa4, qb4, qz4, qa5, qb5, qz5, qa6, qb6, qz6, qa7, qb7, qz7, qa8, qb8, qz8]
  have H1 : GI X G a0 n (n + 1) 1 = some (xz X) := by simp [GI, va_up, up2, Nat.add_assoc, qa0, qb0, qz0, qa1, qb1, qz1, qa2, qb2, qz2, qa3, qb3, qz3, qa4, qb4, qz4, qa5, qb5, qz5, qa6, qb6, qz6, qa7, qb7, qz7, qa8, qb8, qz8]
  have K3 : KI K n (n + 2) = (10, 0) := by simp [KI, va_up, Nat.add_assoc]
  have G2 : GI X G a0 n a0 2 = some (n + 2) := by simp [GI, va_up, up2, Nat.add_assoc, qa0, qb0, qz0, qa1, qb1, qz1, qa2, qb2, qz2, qa3, qb3, qz3, qa4, qb4, qz4, qa5, qb5, qz5, qa6, qb6, qz6, qa7, qb7, qz7, qa8, qb8, qz8]
  have H2 : GI X G a0 n (n + 2) 1 = some (xz X) := by simp [GI, va_up, up2, Nat.add_assoc, qa0, qb0, qz0, qa1, qb1, qz1, qa2, qb2, qz2, qa3, qb3, qz3, qa4, qb4, qz4, qa5, qb5, qz5, qa6, qb6, qz6, qa7, qb7, qz7, qa8, qb8, qz8]
  have K4 : KI K n (n + 3) = (10, 0) := by simp [KI, va_up, Nat.add_assoc]
  have G3 : GI X G a0 n a0 3 = some (n + 3) := by simp [GI, va_up, up2, Nat.add_assoc, qa0, qb0, qz0, qa1, qb1, qz1, qa2, qb2, qz2, qa3, qb3, qz3, qa4, qb4, qz4, qa5, qb5, qz5, qa6, qb6, qz6, qa7, qb7, qz7, qa8, qb8, qz8]
  have H3 : GI X G a0 n (n + 3) 1 = some (xz X) := by simp [GI, va_up, up2, Nat.add_assoc, qa0, qb0, qz0, qa1, qb1, qz1, qa2, qb2, qz2, qa3, qb3, qz3, qa4, qb4, qz4, qa5, qb5, qz5, qa6, qb6, qz6, qa7, qb7, qz7, qa8, qb8, qz8]
  have K5 : KI K n (n + 4) = (10, 0) := by simp [KI, va_up, Nat.add_assoc]
  have G4 : GI X G a0 n a0 4 = some (n + 4) := by simp [GI, va_up, up2, Nat.add_assoc, qa0, qb0, qz0, qa1, qb1, qz1, qa2, qb2, qz2, qa3, qb3, qz3, qa4, qb4, qz4, qa5, qb5, qz5, qa6, qb6, qz6, qa7, qb7, qz7, qa8, qb8, qz8]
  have H4 : GI X G a0 n (n + 4) 1 = some (xz X) := by simp [GI, va_up, up2, Nat.add_assoc, qa0, qb0, qz0, qa1, qb1, qz1, qa2, qb2, qz2, qa3, qb3, qz3, qa4, qb4, qz4, qa5, qb5, qz5, qa6, qb6, qz6, qa7, qb7, qz7, qa8, qb8, qz8]
  have K6 : KI K n (n + 5) = (2, 0) := by simp [KI, va_up, Nat.add_assoc]
  have G5 : GI X G a0 n a0 5 = some (n + 5) := by simp [GI, va_up, up2, Nat.add_assoc, qa0, qb0, qz0, qa1, qb1, qz1, qa2, qb2, qz2, qa3, qb3, qz3, qa4, qb4, qz4, qa5, qb5, qz5, qa6, qb6, qz6, qa7, qb7, qz7, qa8, qb8, qz8]
  have F5 : FI F n (n + 5) 0 = 0 := by simp [FI, va_up, up2, Nat.add_assoc, qa0, qb0, qz0, qa1, qb1, qz1, qa2, qb2, qz2, qa3, qb3, qz3, qa4, qb4, qz4, qa5, qb5, qz5, qa6, qb6, qz6, qa7, qb7, qz7, qa8, qb8, qz8]
  have K7 : KI K n (n + 6) = (2, 0) := by simp [KI, va_up, Nat.add_assoc]
  have G6 : GI X G a0 n a0 6 = some (n + 6) := by simp [GI, va_up, up2, Nat.add_assoc, qa0, qb0, qz0, qa1, qb1, qz1, qa2, qb2, qz2, qa3, qb3, qz3, qa4, qb4, qz4, qa5, qb5, qz5, qa6, qb6, qz6, qa7, qb7, qz7, qa8, qb8, qz8]
  have F6 : FI F n (n + 6) 0 = 0 := by simp [FI, va_up, up2, Nat.add_assoc, qa0, qb0, qz0, qa1, qb1, qz1, qa2, qb2, qz2, qa3, qb3, qz3, qa4, qb4, qz4, qa5, qb5, qz5, qa6, qb6, qz6, qa7, qb7, qz7, qa8, qb8, qz8]
  have K8 : KI K n (n + 7) = (2, 0) := by simp [KI, va_up, Nat.add_assoc]
  have G7 : GI X G a0 n a0 7 = some (n + 7) := by simp [GI, va_up, up2, Nat.add_assoc, qa0, qb0, qz0, qa1, qb1, qz1, qa2, qb2, qz2, qa3, qb3, qz3, qa4, qb4, qz4, qa5, qb5, qz5, qa6, qb6, qz6, qa7, qb7, qz7, qa8, qb8, qz8]
  have F7 : FI F n (n + 7) 0 = 0 := by simp [FI, va_up, up2, Nat.add_assoc, qa0, qb0, qz0, qa1, qb1, qz1, qa2, qb2, qz2, qa3, qb3, qz3, qa4, qb4, qz4, qa5, qb5, qz5, qa6, qb6, qz6, qa7, qb7, qz7, qa8, qb8, qz8]
  have K9 : KI K n (n + 8) = (2, 0) := by simp [KI, va_up, Nat.add_assoc]
  have G8 : GI X G a0 n a0 8 = some (n + 8) := by simp [GI, va_up, up2, Nat.add_assoc, qa0, qb0, qz0, qa1, qb1, qz1, qa2, qb2, qz2, qa3, qb3, qz3, qa4, qb4, qz4, qa5, qb5, qz5, qa6, qb6, qz6, qa7, qb7, qz7, qa8, qb8, qz8]
  have F8 : FI F n (n + 8) 0 = 0 := by simp [FI, va_up, up2, Nat.add_assoc, qa0, qb0, qz0, qa1, qb1, qz1, qa2, qb2, qz2, qa3, qb3, qz3, qa4, qb4, qz4, qa5, qb5, qz5, qa6, qb6, qz6, qa7, qb7, qz7, qa8, qb8, qz8]
  generalize KI K n = KK at *
  generalize FI F n = FF at *
  generalize GI X G a0 n = GG at *
  have gl : ∀ i, i < 9 → GG a0 i = some (n + i) := fun i hi => by
    rcases (show i = 0 ∨ i = 1 ∨ i = 2 ∨ i = 3 ∨ i = 4 ∨ i = 5 ∨ i = 6 ∨ i = 7 ∨ i = 8 by omega) with rfl | rfl | rfl | rfl | rfl | rfl | rfl | rfl | rfl
    · exact G0
    · exact G1
    · exact G2
    · exact G3
    · exact G4
    · exact G5
    · exact G6
    · exact G7
    · exact G8
  have gq : ∀ i, i < 9 → gp GG a0 i = n + i := fun i hi => gp_eq (gl i hi)
  have kl : ∀ i, i < 5 → KK (n + i) = (10, 0) ∧ GG (n + i) 1 = some (xz X) := fun i hi => by
    rcases (show i = 0 ∨ i = 1 ∨ i = 2 ∨ i = 3 ∨ i = 4 by omega) with rfl | rfl | rfl | rfl | rfl
    · exact ⟨K1, H0⟩
    · exact ⟨K2, H1⟩
    · exact ⟨K3, H2⟩
    · exact ⟨K4, H3⟩
    · exact ⟨K5, H4⟩
  have kc : ∀ i, 5 ≤ i → i < 9 → KK (n + i) = (2, 0) ∧ FF (n + i) 0 = 0 := fun i h5 hi => by
    rcases (show i = 5 ∨ i = 6 ∨ i = 7 ∨ i = 8 by omega) with rfl | rfl | rfl | rfl
    · exact ⟨K6, F5⟩
    · exact ⟨K7, F6⟩
    · exact ⟨K8, F7⟩
    · exact ⟨K9, F8⟩
  have hs : ∀ i, i < 5 → sz KK GG a0 i = 0 := fun i hi => by show (KK (gp GG a0 i)).2 = 0; rw [gq i (by omega), (kl i hi).1]
  have hcs : CS KK GG a0 = [n + 5, n + 6, n + 7, n + 8] := by
    unfold CS
    rw [hs 2 (by decide), hs 1 (by decide), gq 5 (by decide), gq 6 (by decide), gq 7 (by decide), gq 8 (by decide)]
    rfl
  have hT : TMain KK GG a0 := TMain.of (by rw [K0]) (fun i hi => ?_) (fun i h5 hi => ?_)
  · refine ⟨⟨⟨hT, Kz, fun i j hi hj hij => ?_, fun i hi _ => ?_⟩, by rw [hcs]; simp, fun i hi => ?_, fun i hi => ?_, fun i j hi _ _ _ => ?_⟩, ⟨?_, fun i hi => ?_, ?_, fun i hi => ?_, fun i hi => ?_, ?_⟩, hs⟩
    · rw [gq i (by omega), gq j (by omega)]
      exact ⟨by omega, fun _ => gp_eq (kl i hi).2⟩
    · rw [gq i (by omega)]; exact gp_eq (kl i hi).2
    · rw [hs 3 (by decide)] at hi; omega
    · rw [hs 4 (by decide)] at hi; omega
    · rw [hs 4 (by decide)] at hi; omega
    · rw [hcs]
      refine ⟨by simp [tot, (kc 5 (by decide) (by decide)).2, (kc 6 (by decide) (by decide)).2, (kc 7 (by decide) (by decide)).2, (kc 8 (by decide) (by decide)).2], fun c hc => ?_⟩
      have : FF c 0 = 0 := by
        simp only [List.mem_cons, List.not_mem_nil, or_false] at hc
        rcases hc with rfl | rfl | rfl | rfl
        · exact F5
        · exact F6
        · exact F7
        · exact F8
      rw [this, Int32.toInt_zero]; omega
    · rw [hs 1 (by decide)] at hi; omega
    · rw [gq 5 (by decide), F5, F0, F0, F0]; decide
    · rw [hs 3 (by decide)] at hi; omega
    · rw [hs 4 (by decide)] at hi; omega
    · rw [F0, Int32.toInt_zero]; omega
  · have q := kl i hi
    refine ⟨by rw [gq i (by omega)]; exact gl i (by omega), ?_⟩
    rw [gq i (by omega)]
    refine ⟨by rw [q.1], by rw [q.1]; exact Nat.zero_le _, by rw [gp_eq q.2]; exact q.2, by rw [gp_eq q.2, Kz], by rw [gp_eq q.2, Kz]; exact Or.inl rfl, by rw [q.1]; exact Nat.zero_le _, fun k hk => ?_⟩
    rw [q.1] at hk
    exact absurd hk (Nat.not_lt_zero _)
  · refine ⟨by rw [gq i hi]; exact gl i hi, by rw [gq i hi, (kc i h5 hi).1]⟩
end PNB
