section PHL
theorem oget {α : Type} {o : Option α} {d : α} (h : ¬ o = none) : o = some (o.getD d) := by
  cases o with
  | none => exact absurd rfl h
  | some x => rfl
theorem vin_c {x : Int32} {n : Nat} (h1 : 0 ≤ x) (h2 : x < nI n) (hn : n < 2 ^ 31 := by decide) : vp_in x n := by
  rintro (h | h)
  · exact absurd h (Int32.not_lt.mpr h1)
  · rw [Int32.lt_iff_toInt_lt, nI_toInt hn] at h2
    have h3 : n ≤ x.toInt.toNat := h
    have h4 : (0 : Int) ≤ x.toInt := by rw [Int32.le_iff_toInt_le, Int32.toInt_zero] at h1; exact h1
    omega
theorem ne_gt {x : Int32} (h : 0 < x) : ¬ x = 0 := fun q => by rw [q] at h; exact absurd h (by decide)
theorem ne_gtL {x : Int32} (h : 0 < x) : ¬ x.toInt64 = 0 := fun q => by
  have h1 := congrArg Int64.toInt q
  rw [Int32.toInt_toInt64] at h1
  rw [Int32.lt_iff_toInt_lt, Int32.toInt_zero] at h
  have h2 : (0 : Int64).toInt = 0 := by decide
  omega
theorem fz_of {x : Int32} (h : x = 0 ∨ x = 1) : fits .boolean (.int x) = true := by rcases h with rfl | rfl <;> decide
theorem vr_cat (o : Option Nat) : (va_rf o).category = 1 := by cases o <;> rfl
theorem zz_of {x : Int32} (h : x = 0 ∨ x = 1) : narrow .boolean (.int x) = .int x := by rcases h with rfl | rfl <;> rfl
theorem sw_of {x : Int32} {k : Nat} (h : ∀ i : Nat, i ≤ k → ¬ x = nI i) (hk : k < 2 ^ 31) : x.toInt < 0 ∨ (k : Int) < x.toInt := by
  by_cases h1 : x.toInt < 0
  · exact Or.inl h1
  · by_cases h2 : (k : Int) < x.toInt
    · exact Or.inr h2
    · refine absurd ?_ (h x.toInt.toNat (by omega))
      refine Int32.toInt_inj.mp ?_
      rw [nI_toInt (by omega)]
      omega
theorem sw_0_1 {x : Int32} (c0 : ¬ x = 0) (c1 : ¬ x = 1) : x.toInt < 0 ∨ 1 < x.toInt := by
  have h := sw_of (x := x) (k := 1) (fun i hi => by
    rcases (show i = 0 ∨ i = 1 by omega) with rfl | rfl
    · exact c0
    · exact c1) (by decide)
  exact h
theorem sw_0_4 {x : Int32} (c0 : ¬ x = 0) (c1 : ¬ x = 1) (c2 : ¬ x = 2) (c3 : ¬ x = 3) (c4 : ¬ x = 4) : x.toInt < 0 ∨ 4 < x.toInt := by
  have h := sw_of (x := x) (k := 4) (fun i hi => by
    rcases (show i = 0 ∨ i = 1 ∨ i = 2 ∨ i = 3 ∨ i = 4 by omega) with rfl | rfl | rfl | rfl | rfl
    · exact c0
    · exact c1
    · exact c2
    · exact c3
    · exact c4) (by decide)
  exact h
theorem sw_0_5 {x : Int32} (c0 : ¬ x = 0) (c1 : ¬ x = 1) (c2 : ¬ x = 2) (c3 : ¬ x = 3) (c4 : ¬ x = 4) (c5 : ¬ x = 5) : x.toInt < 0 ∨ 5 < x.toInt := by
  have h := sw_of (x := x) (k := 5) (fun i hi => by
    rcases (show i = 0 ∨ i = 1 ∨ i = 2 ∨ i = 3 ∨ i = 4 ∨ i = 5 by omega) with rfl | rfl | rfl | rfl | rfl | rfl
    · exact c0
    · exact c1
    · exact c2
    · exact c3
    · exact c4
    · exact c5) (by decide)
  exact h
theorem sw_0_7 {x : Int32} (c0 : ¬ x = 0) (c1 : ¬ x = 1) (c2 : ¬ x = 2) (c3 : ¬ x = 3) (c4 : ¬ x = 4) (c5 : ¬ x = 5) (c6 : ¬ x = 6) (c7 : ¬ x = 7) : x.toInt < 0 ∨ 7 < x.toInt := by
  have h := sw_of (x := x) (k := 7) (fun i hi => by
    rcases (show i = 0 ∨ i = 1 ∨ i = 2 ∨ i = 3 ∨ i = 4 ∨ i = 5 ∨ i = 6 ∨ i = 7 by omega) with rfl | rfl | rfl | rfl | rfl | rfl | rfl | rfl
    · exact c0
    · exact c1
    · exact c2
    · exact c3
    · exact c4
    · exact c5
    · exact c6
    · exact c7) (by decide)
  exact h
theorem sw_0_15 {x : Int32} (c0 : ¬ x = 0) (c1 : ¬ x = 1) (c2 : ¬ x = 2) (c3 : ¬ x = 3) (c4 : ¬ x = 4) (c5 : ¬ x = 5) (c6 : ¬ x = 6) (c7 : ¬ x = 7) (c8 : ¬ x = 8) (c9 : ¬ x = 9) (c10 : ¬ x = 10) (c11 : ¬ x = 11) (c12 : ¬ x = 12) (c13 : ¬ x = 13) (c14 : ¬ x = 14) (c15 : ¬ x = 15) : x.toInt < 0 ∨ 15 < x.toInt := by
  have h := sw_of (x := x) (k := 15) (fun i hi => by
    rcases (show i = 0 ∨ i = 1 ∨ i = 2 ∨ i = 3 ∨ i = 4 ∨ i = 5 ∨ i = 6 ∨ i = 7 ∨ i = 8 ∨ i = 9 ∨ i = 10 ∨ i = 11 ∨ i = 12 ∨ i = 13 ∨ i = 14 ∨ i = 15 by omega) with rfl | rfl | rfl | rfl | rfl | rfl | rfl | rfl | rfl | rfl | rfl | rfl | rfl | rfl | rfl | rfl
    · exact c0
    · exact c1
    · exact c2
    · exact c3
    · exact c4
    · exact c5
    · exact c6
    · exact c7
    · exact c8
    · exact c9
    · exact c10
    · exact c11
    · exact c12
    · exact c13
    · exact c14
    · exact c15) (by decide)
  exact h
theorem sw_0_18 {x : Int32} (c0 : ¬ x = 0) (c1 : ¬ x = 1) (c2 : ¬ x = 2) (c3 : ¬ x = 3) (c4 : ¬ x = 4) (c5 : ¬ x = 5) (c6 : ¬ x = 6) (c7 : ¬ x = 7) (c8 : ¬ x = 8) (c9 : ¬ x = 9) (c10 : ¬ x = 10) (c11 : ¬ x = 11) (c12 : ¬ x = 12) (c13 : ¬ x = 13) (c14 : ¬ x = 14) (c15 : ¬ x = 15) (c16 : ¬ x = 16) (c17 : ¬ x = 17) (c18 : ¬ x = 18) : x.toInt < 0 ∨ 18 < x.toInt := by
  have h := sw_of (x := x) (k := 18) (fun i hi => by
    rcases (show i = 0 ∨ i = 1 ∨ i = 2 ∨ i = 3 ∨ i = 4 ∨ i = 5 ∨ i = 6 ∨ i = 7 ∨ i = 8 ∨ i = 9 ∨ i = 10 ∨ i = 11 ∨ i = 12 ∨ i = 13 ∨ i = 14 ∨ i = 15 ∨ i = 16 ∨ i = 17 ∨ i = 18 by omega) with rfl | rfl | rfl | rfl | rfl | rfl | rfl | rfl | rfl | rfl | rfl | rfl | rfl | rfl | rfl | rfl | rfl | rfl | rfl
    · exact c0
    · exact c1
    · exact c2
    · exact c3
    · exact c4
    · exact c5
    · exact c6
    · exact c7
    · exact c8
    · exact c9
    · exact c10
    · exact c11
    · exact c12
    · exact c13
    · exact c14
    · exact c15
    · exact c16
    · exact c17
    · exact c18) (by decide)
  exact h
end PHL

section PM1
variable {X : Xt}
def f_X1_giveTo (K : Kt) (F : Ft) (G : Gt) (a0 : Nat) (a1 : Nat) (x2 : Int32) : Ft := up2 (up2 F a0 0 ((F a0 0) - x2)) a1 0 (((up2 F a0 0 ((F a0 0) - x2)) a1 0) + x2)
theorem hdS_X1_giveTo : yX1_giveTo.cls ≠ "java/lang/invoke/MethodHandle" ∧ yX1_giveTo.cls ≠ "java/lang/invoke/VarHandle" ∧ (parseMethodDescriptor yX1_giveTo.desc).map (fun d => d.parameters.length) = some 2 := by decide +kernel
theorem hdV_X1_giveTo : yX1_giveTo.cls = RX1 ∧ yX1_giveTo.cls ≠ "java/lang/invoke/MethodHandle" ∧ yX1_giveTo.cls ≠ "java/lang/invoke/VarHandle" ∧ (parseMethodDescriptor yX1_giveTo.desc).map (fun d => d.parameters.length) = some 2 := by decide +kernel
set_option maxHeartbeats 4000000 in
set_option maxRecDepth 100000 in
theorem m_X1_giveTo (l : Launch) {n : Nat} {K : Kt} {F : Ft} {G : Gt} {a0 : Nat} {a1 : Nat} {x2 : Int32} (t0 : (K a0).1 = 2) (t1 : (K a1).1 = 2) : Mw X l yX1_giveTo cX1_giveTo 3 none 0 0 0 0 [.ref a0, .ref a1, .int x2] n K F G none n K (f_X1_giveTo K F G a0 a1 x2) G := by
  generalize hf : f_X1_giveTo K F G a0 a1 x2 = r
  refine Mw.of (lv := [(0, .ref a0), (1, .ref a1), (2, .int x2)]) (by decide) (Nat.le_of_ble_eq_true rfl) rfl ?_
  intro p e s m args below meth c Q hC hin hQ
  have hC : Cx X p s m args meth c RX1 cX1_giveTo 3 none := hC
  rw [f_X1_giveTo] at hf
  refine v_aload_n hC dX1_giveTo_0 rfl 0 rfl ?_
  refine v_dup hC dX1_giveTo_1 rfl ?_
  refine gf_X1_7 hC t0 dX1_giveTo_2 ?_
  refine v_iload_n hC dX1_giveTo_5 rfl 2 rfl ?_
  refine v_isub hC dX1_giveTo_6 ?_
  refine pf_X1_7 hC t0 dX1_giveTo_7 ?_
  refine v_aload_n hC dX1_giveTo_10 rfl 1 rfl ?_
  refine v_dup hC dX1_giveTo_11 rfl ?_
  refine gf_X1_7 hC t1 dX1_giveTo_12 ?_
  refine v_iload_n hC dX1_giveTo_15 rfl 2 rfl ?_
  refine v_iadd hC dX1_giveTo_16 ?_
  refine pf_X1_7 hC t1 dX1_giveTo_17 ?_
  exact v_vret hC rfl hQ dX1_giveTo_20 rfl rfl rfl hf rfl
def f_X2_partOf (K : Kt) (F : Ft) (G : Gt) (a0 : Nat) (x1 : Int32) : Int32 := if x1 = 0 then (F a0 0) - (F a0 1) else if x1 = 1 then (F a0 1) - (F a0 2) else F a0 2
theorem hdS_X2_partOf : yX2_partOf.cls ≠ "java/lang/invoke/MethodHandle" ∧ yX2_partOf.cls ≠ "java/lang/invoke/VarHandle" ∧ (parseMethodDescriptor yX2_partOf.desc).map (fun d => d.parameters.length) = some 1 := by decide +kernel
theorem hdV_X2_partOf : yX2_partOf.cls = RX2 ∧ yX2_partOf.cls ≠ "java/lang/invoke/MethodHandle" ∧ yX2_partOf.cls ≠ "java/lang/invoke/VarHandle" ∧ (parseMethodDescriptor yX2_partOf.desc).map (fun d => d.parameters.length) = some 1 := by decide +kernel
set_option maxHeartbeats 4000000 in
set_option maxRecDepth 100000 in
theorem m_X2_partOf (l : Launch) {n : Nat} {K : Kt} {F : Ft} {G : Gt} {a0 : Nat} {x1 : Int32} (t0 : (K a0).1 = 8) : Mw X l yX2_partOf cX2_partOf 2 (some .int) 0 0 0 0 [.ref a0, .int x1] n K F G (some (.int (f_X2_partOf K F G a0 x1))) n K F G := by
  generalize hf : f_X2_partOf K F G a0 x1 = r
  refine Mw.of (lv := [(0, .ref a0), (1, .int x1)]) (by decide) (Nat.le_of_ble_eq_true rfl) rfl ?_
  intro p e s m args below meth c Q hC hin hQ
  have hC : Cx X p s m args meth c RX2 cX2_partOf 2 (some .int) := hC
  rw [f_X2_partOf] at hf
  refine v_iload_n hC dX2_partOf_0 rfl 1 rfl ?_
  by_cases c1 : x1 = 0
  · rw [if_pos c1] at hf
    refine v_lookup (tgt := 28) hC dX2_partOf_1 (by decide) (by rw [c1]; first | done | rfl) (by decide) ?_
    refine v_aload_n hC dX2_partOf_28 rfl 0 rfl ?_
    refine gf_X2_7 hC t0 dX2_partOf_29 ?_
    refine v_aload_n hC dX2_partOf_32 rfl 0 rfl ?_
    refine gf_X2_13 hC t0 dX2_partOf_33 ?_
    refine v_isub hC dX2_partOf_36 ?_
    exact v_iret hC rfl hQ dX2_partOf_37 (congrArg (fun z => some (Value.int z)) hf) rfl rfl rfl rfl
  · rw [if_neg c1] at hf
    by_cases c2 : x1 = 1
    · rw [if_pos c2] at hf
      refine v_lookup (tgt := 38) hC dX2_partOf_1 (by decide) (by rw [c2]; first | done | rfl) (by decide) ?_
      refine v_aload_n hC dX2_partOf_38 rfl 0 rfl ?_
      refine gf_X2_13 hC t0 dX2_partOf_39 ?_
      refine v_aload_n hC dX2_partOf_42 rfl 0 rfl ?_
      refine gf_X2_16 hC t0 dX2_partOf_43 ?_
      refine v_isub hC dX2_partOf_46 ?_
      exact v_iret hC rfl hQ dX2_partOf_47 (congrArg (fun z => some (Value.int z)) hf) rfl rfl rfl rfl
    · rw [if_neg c2] at hf
      refine v_lookup (tgt := 48) (off := 47) hC dX2_partOf_1 (by decide) ((lv_osw c1 rfl).trans ((lv_osw c2 rfl).trans rfl)) (by decide) ?_
      refine v_aload_n hC dX2_partOf_48 rfl 0 rfl ?_
      refine gf_X2_16 hC t0 dX2_partOf_49 ?_
      exact v_iret hC rfl hQ dX2_partOf_52 (congrArg (fun z => some (Value.int z)) hf) rfl rfl rfl rfl
def f_X2_hadBy (K : Kt) (F : Ft) (G : Gt) (a0 : Nat) (x1 : Int32) : Int32 := if x1 = 0 then F a0 4 else if x1 = 1 then F a0 5 else F a0 6
theorem hdS_X2_hadBy : yX2_hadBy.cls ≠ "java/lang/invoke/MethodHandle" ∧ yX2_hadBy.cls ≠ "java/lang/invoke/VarHandle" ∧ (parseMethodDescriptor yX2_hadBy.desc).map (fun d => d.parameters.length) = some 1 := by decide +kernel
theorem hdV_X2_hadBy : yX2_hadBy.cls = RX2 ∧ yX2_hadBy.cls ≠ "java/lang/invoke/MethodHandle" ∧ yX2_hadBy.cls ≠ "java/lang/invoke/VarHandle" ∧ (parseMethodDescriptor yX2_hadBy.desc).map (fun d => d.parameters.length) = some 1 := by decide +kernel
set_option maxHeartbeats 4000000 in
set_option maxRecDepth 100000 in
theorem m_X2_hadBy (l : Launch) {n : Nat} {K : Kt} {F : Ft} {G : Gt} {a0 : Nat} {x1 : Int32} (t0 : (K a0).1 = 8) : Mw X l yX2_hadBy cX2_hadBy 2 (some .int) 0 0 0 0 [.ref a0, .int x1] n K F G (some (.int (f_X2_hadBy K F G a0 x1))) n K F G := by
  generalize hf : f_X2_hadBy K F G a0 x1 = r
  refine Mw.of (lv := [(0, .ref a0), (1, .int x1)]) (by decide) (Nat.le_of_ble_eq_true rfl) rfl ?_
  intro p e s m args below meth c Q hC hin hQ
  have hC : Cx X p s m args meth c RX2 cX2_hadBy 2 (some .int) := hC
  rw [f_X2_hadBy] at hf
  refine v_iload_n hC dX2_hadBy_0 rfl 1 rfl ?_
  by_cases c1 : x1 = 0
  · rw [if_pos c1] at hf
    refine v_lookup (tgt := 28) hC dX2_hadBy_1 (by decide) (by rw [c1]; first | done | rfl) (by decide) ?_
    refine v_aload_n hC dX2_hadBy_28 rfl 0 rfl ?_
    refine gf_X2_19 hC t0 dX2_hadBy_29 ?_
    exact v_iret hC rfl hQ dX2_hadBy_32 (congrArg (fun z => some (Value.int z)) hf) rfl rfl rfl rfl
  · rw [if_neg c1] at hf
    by_cases c2 : x1 = 1
    · rw [if_pos c2] at hf
      refine v_lookup (tgt := 33) hC dX2_hadBy_1 (by decide) (by rw [c2]; first | done | rfl) (by decide) ?_
      refine v_aload_n hC dX2_hadBy_33 rfl 0 rfl ?_
      refine gf_X2_22 hC t0 dX2_hadBy_34 ?_
      exact v_iret hC rfl hQ dX2_hadBy_37 (congrArg (fun z => some (Value.int z)) hf) rfl rfl rfl rfl
    · rw [if_neg c2] at hf
      refine v_lookup (tgt := 38) (off := 37) hC dX2_hadBy_1 (by decide) ((lv_osw c1 rfl).trans ((lv_osw c2 rfl).trans rfl)) (by decide) ?_
      refine v_aload_n hC dX2_hadBy_38 rfl 0 rfl ?_
      refine gf_X2_25 hC t0 dX2_hadBy_39 ?_
      exact v_iret hC rfl hQ dX2_hadBy_42 (congrArg (fun z => some (Value.int z)) hf) rfl rfl rfl rfl
def f_X2_dueOf_J26 (K : Kt) (F : Ft) (G : Gt) (u1 : Int32) : Int32 := u1
def f_X2_dueOf (K : Kt) (F : Ft) (G : Gt) (a0 : Nat) (x1 : Int32) : Int32 := if (F a0 0) ≤ 0 then f_X2_dueOf_J26 K F G 0 else f_X2_dueOf_J26 K F G (((((F a0 3).toInt64) * x1.toInt64) / ((F a0 0).toInt64)).toInt32)
theorem hdS_X2_dueOf : yX2_dueOf.cls ≠ "java/lang/invoke/MethodHandle" ∧ yX2_dueOf.cls ≠ "java/lang/invoke/VarHandle" ∧ (parseMethodDescriptor yX2_dueOf.desc).map (fun d => d.parameters.length) = some 1 := by decide +kernel
theorem hdV_X2_dueOf : yX2_dueOf.cls = RX2 ∧ yX2_dueOf.cls ≠ "java/lang/invoke/MethodHandle" ∧ yX2_dueOf.cls ≠ "java/lang/invoke/VarHandle" ∧ (parseMethodDescriptor yX2_dueOf.desc).map (fun d => d.parameters.length) = some 1 := by decide +kernel
set_option maxHeartbeats 4000000 in
set_option maxRecDepth 100000 in
theorem m_X2_dueOf (l : Launch) {n : Nat} {K : Kt} {F : Ft} {G : Gt} {a0 : Nat} {x1 : Int32} (t0 : (K a0).1 = 8) : Mw X l yX2_dueOf cX2_dueOf 2 (some .int) 0 0 0 0 [.ref a0, .int x1] n K F G (some (.int (f_X2_dueOf K F G a0 x1))) n K F G := by
  generalize hf : f_X2_dueOf K F G a0 x1 = r
  refine Mw.of (lv := [(0, .ref a0), (1, .int x1)]) (by decide) (Nat.le_of_ble_eq_true rfl) rfl ?_
  intro p e s m args below meth c Q hC hin hQ
  have hC : Cx X p s m args meth c RX2 cX2_dueOf 2 (some .int) := hC
  rw [f_X2_dueOf] at hf
  refine v_aload_n hC dX2_dueOf_0 rfl 0 rfl ?_
  refine gf_X2_7 hC t0 dX2_dueOf_1 ?_
  have KJ26 : ∀ (u1 : Int32), f_X2_dueOf_J26 K F G u1 = r → V X 2 p l e ({ frames := 0, cells := 0, slots := 0, locals := 0 } : Room) s m args below meth c Q 0 0 n K F G [] 26 [.int u1] := by
    intro u1 hf
    rw [f_X2_dueOf_J26] at hf
    exact v_iret hC rfl hQ dX2_dueOf_26 (congrArg (fun z => some (Value.int z)) hf) rfl rfl rfl rfl
  refine v_if_le (tgt := 25) hC dX2_dueOf_4 (by decide) (fun c2 => ?_) (fun c2 => ?_)
  · rw [if_pos c2] at hf
    refine v_iconst (v := 0) hC dX2_dueOf_25 (by decide) ?_
    refine v_sub [] rfl ?_
    exact KJ26 0 hf
  · rw [if_neg c2] at hf
    refine v_aload_n hC dX2_dueOf_7 rfl 0 rfl ?_
    refine gf_X2_28 hC t0 dX2_dueOf_8 ?_
    refine v_i2l hC dX2_dueOf_11 ?_
    refine v_iload_n hC dX2_dueOf_12 rfl 1 rfl ?_
    refine v_i2l hC dX2_dueOf_13 ?_
    refine v_lmul hC dX2_dueOf_14 ?_
    refine v_aload_n hC dX2_dueOf_15 rfl 0 rfl ?_
    refine gf_X2_7 hC t0 dX2_dueOf_16 ?_
    refine v_i2l hC dX2_dueOf_19 ?_
    refine v_ldiv hC dX2_dueOf_20 (ne_gtL (Int32.not_le.mp c2)) ?_
    refine v_l2i hC dX2_dueOf_21 ?_
    refine v_goto (tgt := 26) hC dX2_dueOf_22 (by decide) ?_
    refine v_sub [] rfl ?_
    exact KJ26 (((((F a0 3).toInt64) * x1.toInt64) / ((F a0 0).toInt64)).toInt32) hf
def f_X2_recover_C48 (K : Kt) (F : Ft) (G : Gt) (a0 : Nat) (x1 : Int32) (F1 : Ft) : Ft := up2 F1 a0 4 ((F1 a0 4) + ((x1 - ((F1 a0 5) - (F a0 5))) - ((F1 a0 6) - (F a0 6))))
def f_X2_recover (K : Kt) (F : Ft) (G : Gt) (a0 : Nat) (x1 : Int32) : Ft := f_X2_recover_C48 K F G a0 x1 (up2 (up2 (up2 F a0 3 ((F a0 3) + x1)) a0 5 (f_X2_dueOf K (up2 F a0 3 ((F a0 3) + x1)) G a0 (f_X2_partOf K (up2 F a0 3 ((F a0 3) + x1)) G a0 1))) a0 6 (f_X2_dueOf K (up2 (up2 F a0 3 ((F a0 3) + x1)) a0 5 (f_X2_dueOf K (up2 F a0 3 ((F a0 3) + x1)) G a0 (f_X2_partOf K (up2 F a0 3 ((F a0 3) + x1)) G a0 1))) G a0 (f_X2_partOf K (up2 (up2 F a0 3 ((F a0 3) + x1)) a0 5 (f_X2_dueOf K (up2 F a0 3 ((F a0 3) + x1)) G a0 (f_X2_partOf K (up2 F a0 3 ((F a0 3) + x1)) G a0 1))) G a0 2)))
theorem hdS_X2_recover : yX2_recover.cls ≠ "java/lang/invoke/MethodHandle" ∧ yX2_recover.cls ≠ "java/lang/invoke/VarHandle" ∧ (parseMethodDescriptor yX2_recover.desc).map (fun d => d.parameters.length) = some 1 := by decide +kernel
theorem hdV_X2_recover : yX2_recover.cls = RX2 ∧ yX2_recover.cls ≠ "java/lang/invoke/MethodHandle" ∧ yX2_recover.cls ≠ "java/lang/invoke/VarHandle" ∧ (parseMethodDescriptor yX2_recover.desc).map (fun d => d.parameters.length) = some 1 := by decide +kernel
set_option maxHeartbeats 4000000 in
set_option maxRecDepth 100000 in
theorem m_X2_recover (l : Launch) {n : Nat} {K : Kt} {F : Ft} {G : Gt} {a0 : Nat} {x1 : Int32} (t0 : (K a0).1 = 8) : Mw X l yX2_recover cX2_recover 4 none 1 21 0 0 [.ref a0, .int x1] n K F G none n K (f_X2_recover K F G a0 x1) G := by
  generalize hf : f_X2_recover K F G a0 x1 = r
  refine Mw.of (lv := [(0, .ref a0), (1, .int x1)]) (by decide) (Nat.le_of_ble_eq_true rfl) rfl ?_
  intro p e s m args below meth c Q hC hin hQ
  have hC : Cx X p s m args meth c RX2 cX2_recover 4 none := hC
  rw [f_X2_recover] at hf
  refine v_aload_n hC dX2_recover_0 rfl 0 rfl ?_
  refine gf_X2_22 hC t0 dX2_recover_1 ?_
  refine v_istore_n (i := 2) (lv' := [(2, .int (F a0 5)), (0, .ref a0), (1, .int x1)]) hC dX2_recover_4 rfl (by decide) rfl ?_
  refine v_aload_n hC dX2_recover_5 rfl 1 rfl ?_
  refine gf_X2_25 hC t0 dX2_recover_6 ?_
  refine v_istore_n (i := 3) (lv' := [(3, .int (F a0 6)), (2, .int (F a0 5)), (0, .ref a0), (1, .int x1)]) hC dX2_recover_9 rfl (by decide) rfl ?_
  refine v_aload_n hC dX2_recover_10 rfl 2 rfl ?_
  refine v_dup hC dX2_recover_11 rfl ?_
  refine gf_X2_28 hC t0 dX2_recover_12 ?_
  refine v_iload_n hC dX2_recover_15 rfl 3 rfl ?_
  refine v_iadd hC dX2_recover_16 ?_
  refine pf_X2_28 hC t0 dX2_recover_17 ?_
  refine v_aload_n hC dX2_recover_20 rfl 2 rfl ?_
  refine v_aload_n hC dX2_recover_21 rfl 2 rfl ?_
  refine v_aload_n hC dX2_recover_22 rfl 2 rfl ?_
  refine v_iconst (v := 1) hC dX2_recover_23 (by decide) ?_
  refine v_callV (c2 := 0) (s2 := 0) (As := [.int 1]) hC (m_X2_partOf l (n := n) (K := K) (F := (up2 F a0 3 ((F a0 3) + x1))) (G := G) (a0 := a0) (x1 := 1) t0) q_X2_31 (by rw [t0]; decide) (ce_8 t0) (ci := 7) rfl hdV_X2_partOf rfl rfl (Nat.le_of_ble_eq_true rfl) (Nat.le_of_ble_eq_true rfl) (Nat.le_of_ble_eq_true rfl) (Nat.le_of_ble_eq_true rfl) (Nat.le_of_ble_eq_true rfl) (Nat.le_of_ble_eq_true rfl) (Nat.le_of_ble_eq_true rfl) dX2_recover_24 ?_
  refine v_callV (c2 := 0) (s2 := 0) (As := [.int (f_X2_partOf K (up2 F a0 3 ((F a0 3) + x1)) G a0 1)]) hC (m_X2_dueOf l (n := n) (K := K) (F := (up2 F a0 3 ((F a0 3) + x1))) (G := G) (a0 := a0) (x1 := (f_X2_partOf K (up2 F a0 3 ((F a0 3) + x1)) G a0 1)) t0) q_X2_35 (by rw [t0]; decide) (ce_8 t0) (ci := 7) rfl hdV_X2_dueOf rfl rfl (Nat.le_of_ble_eq_true rfl) (Nat.le_of_ble_eq_true rfl) (Nat.le_of_ble_eq_true rfl) (Nat.le_of_ble_eq_true rfl) (Nat.le_of_ble_eq_true rfl) (Nat.le_of_ble_eq_true rfl) (Nat.le_of_ble_eq_true rfl) dX2_recover_27 ?_
  refine pf_X2_22 hC t0 dX2_recover_30 ?_
  refine v_aload_n hC dX2_recover_33 rfl 2 rfl ?_
  refine v_aload_n hC dX2_recover_34 rfl 2 rfl ?_
  refine v_aload_n hC dX2_recover_35 rfl 2 rfl ?_
  refine v_iconst (v := 2) hC dX2_recover_36 (by decide) ?_
  refine v_callV (c2 := 0) (s2 := 0) (As := [.int 2]) hC (m_X2_partOf l (n := n) (K := K) (F := (up2 (up2 F a0 3 ((F a0 3) + x1)) a0 5 (f_X2_dueOf K (up2 F a0 3 ((F a0 3) + x1)) G a0 (f_X2_partOf K (up2 F a0 3 ((F a0 3) + x1)) G a0 1)))) (G := G) (a0 := a0) (x1 := 2) t0) q_X2_31 (by rw [t0]; decide) (ce_8 t0) (ci := 7) rfl hdV_X2_partOf rfl rfl (Nat.le_of_ble_eq_true rfl) (Nat.le_of_ble_eq_true rfl) (Nat.le_of_ble_eq_true rfl) (Nat.le_of_ble_eq_true rfl) (Nat.le_of_ble_eq_true rfl) (Nat.le_of_ble_eq_true rfl) (Nat.le_of_ble_eq_true rfl) dX2_recover_37 ?_
  refine v_callV (c2 := 0) (s2 := 0) (As := [.int (f_X2_partOf K (up2 (up2 F a0 3 ((F a0 3) + x1)) a0 5 (f_X2_dueOf K (up2 F a0 3 ((F a0 3) + x1)) G a0 (f_X2_partOf K (up2 F a0 3 ((F a0 3) + x1)) G a0 1))) G a0 2)]) hC (m_X2_dueOf l (n := n) (K := K) (F := (up2 (up2 F a0 3 ((F a0 3) + x1)) a0 5 (f_X2_dueOf K (up2 F a0 3 ((F a0 3) + x1)) G a0 (f_X2_partOf K (up2 F a0 3 ((F a0 3) + x1)) G a0 1)))) (G := G) (a0 := a0) (x1 := (f_X2_partOf K (up2 (up2 F a0 3 ((F a0 3) + x1)) a0 5 (f_X2_dueOf K (up2 F a0 3 ((F a0 3) + x1)) G a0 (f_X2_partOf K (up2 F a0 3 ((F a0 3) + x1)) G a0 1))) G a0 2)) t0) q_X2_35 (by rw [t0]; decide) (ce_8 t0) (ci := 7) rfl hdV_X2_dueOf rfl rfl (Nat.le_of_ble_eq_true rfl) (Nat.le_of_ble_eq_true rfl) (Nat.le_of_ble_eq_true rfl) (Nat.le_of_ble_eq_true rfl) (Nat.le_of_ble_eq_true rfl) (Nat.le_of_ble_eq_true rfl) (Nat.le_of_ble_eq_true rfl) dX2_recover_40 ?_
  refine pf_X2_25 hC t0 dX2_recover_43 ?_
  refine v_aload_n hC dX2_recover_46 rfl 2 rfl ?_
  refine v_dup hC dX2_recover_47 rfl ?_
  have KC48 : ∀ (F1 : Ft), f_X2_recover_C48 K F G a0 x1 F1 = r → V X 4 p l e ({ frames := 1, cells := 0, slots := 0, locals := 21 } : Room) s m args below meth c Q 0 0 n K F1 G [(0, .ref a0), (1, .int x1), (2, .int (F a0 5)), (3, .int (F a0 6))] 48 [.ref a0, .ref a0] := by
    intro F1 hf
    rw [f_X2_recover_C48] at hf
    refine gf_X2_19 hC t0 dX2_recover_48 ?_
    refine v_iload_n hC dX2_recover_51 rfl 1 rfl ?_
    refine v_aload_n hC dX2_recover_52 rfl 0 rfl ?_
    refine gf_X2_22 hC t0 dX2_recover_53 ?_
    refine v_iload_n hC dX2_recover_56 rfl 2 rfl ?_
    refine v_isub hC dX2_recover_57 ?_
    refine v_isub hC dX2_recover_58 ?_
    refine v_aload_n hC dX2_recover_59 rfl 0 rfl ?_
    refine gf_X2_25 hC t0 dX2_recover_60 ?_
    refine v_iload_n hC dX2_recover_63 rfl 3 rfl ?_
    refine v_isub hC dX2_recover_64 ?_
    refine v_isub hC dX2_recover_65 ?_
    refine v_iadd hC dX2_recover_66 ?_
    refine pf_X2_19 hC t0 dX2_recover_67 ?_
    exact v_vret hC rfl hQ dX2_recover_70 rfl rfl rfl hf rfl
  refine v_sub [2, 3, 1, 0] rfl ?_
  exact KC48 (up2 (up2 (up2 F a0 3 ((F a0 3) + x1)) a0 5 (f_X2_dueOf K (up2 F a0 3 ((F a0 3) + x1)) G a0 (f_X2_partOf K (up2 F a0 3 ((F a0 3) + x1)) G a0 1))) a0 6 (f_X2_dueOf K (up2 (up2 F a0 3 ((F a0 3) + x1)) a0 5 (f_X2_dueOf K (up2 F a0 3 ((F a0 3) + x1)) G a0 (f_X2_partOf K (up2 F a0 3 ((F a0 3) + x1)) G a0 1))) G a0 (f_X2_partOf K (up2 (up2 F a0 3 ((F a0 3) + x1)) a0 5 (f_X2_dueOf K (up2 F a0 3 ((F a0 3) + x1)) G a0 (f_X2_partOf K (up2 F a0 3 ((F a0 3) + x1)) G a0 1))) G a0 2))) hf
def f_X2_isSplitSound_J63 (K : Kt) (F : Ft) (G : Gt) (u2 : Int32) : Int32 := u2
def f_X2_isSplitSound_J62 (K : Kt) (F : Ft) (G : Gt) : Int32 := f_X2_isSplitSound_J63 K F G 0
def f_X2_isSplitSound_J29 (K : Kt) (F : Ft) (G : Gt) (a0 : Nat) (u1 : Int32) : Int32 := if u1 = 0 then f_X2_isSplitSound_J62 K F G else if (((f_X2_hadBy K F G a0 0) + (f_X2_hadBy K F G a0 1)) + (f_X2_hadBy K F G a0 2)) = (F a0 3) then f_X2_isSplitSound_J63 K F G 1 else f_X2_isSplitSound_J62 K F G
def f_X2_isSplitSound (K : Kt) (F : Ft) (G : Gt) (a0 : Nat) : Int32 := if (((f_X2_partOf K F G a0 0) + (f_X2_partOf K F G a0 1)) + (f_X2_partOf K F G a0 2)) = (F a0 0) then f_X2_isSplitSound_J29 K F G a0 1 else f_X2_isSplitSound_J29 K F G a0 0
theorem hdS_X2_isSplitSound : yX2_isSplitSound.cls ≠ "java/lang/invoke/MethodHandle" ∧ yX2_isSplitSound.cls ≠ "java/lang/invoke/VarHandle" ∧ (parseMethodDescriptor yX2_isSplitSound.desc).map (fun d => d.parameters.length) = some 0 := by decide +kernel
theorem hdV_X2_isSplitSound : yX2_isSplitSound.cls = RX2 ∧ yX2_isSplitSound.cls ≠ "java/lang/invoke/MethodHandle" ∧ yX2_isSplitSound.cls ≠ "java/lang/invoke/VarHandle" ∧ (parseMethodDescriptor yX2_isSplitSound.desc).map (fun d => d.parameters.length) = some 0 := by decide +kernel
set_option maxHeartbeats 4000000 in
set_option maxRecDepth 100000 in
theorem m_X2_isSplitSound (l : Launch) {n : Nat} {K : Kt} {F : Ft} {G : Gt} {a0 : Nat} (t0 : (K a0).1 = 8) : Mw X l yX2_isSplitSound cX2_isSplitSound 2 (some .boolean) 1 21 0 0 [.ref a0] n K F G (some (.int (f_X2_isSplitSound K F G a0))) n K F G := by
  generalize hf : f_X2_isSplitSound K F G a0 = r
  refine Mw.of (lv := [(0, .ref a0)]) (by decide) (Nat.le_of_ble_eq_true rfl) rfl ?_
  intro p e s m args below meth c Q hC hin hQ
  have hC : Cx X p s m args meth c RX2 cX2_isSplitSound 2 (some .boolean) := hC
  rw [f_X2_isSplitSound] at hf
  refine v_aload_n hC dX2_isSplitSound_0 rfl 0 rfl ?_
  refine v_iconst (v := 0) hC dX2_isSplitSound_1 (by decide) ?_
  refine v_callV (c2 := 0) (s2 := 0) (As := [.int 0]) hC (m_X2_partOf l (n := n) (K := K) (F := F) (G := G) (a0 := a0) (x1 := 0) t0) q_X2_31 (by rw [t0]; decide) (ce_8 t0) (ci := 7) rfl hdV_X2_partOf rfl rfl (Nat.le_of_ble_eq_true rfl) (Nat.le_of_ble_eq_true rfl) (Nat.le_of_ble_eq_true rfl) (Nat.le_of_ble_eq_true rfl) (Nat.le_of_ble_eq_true rfl) (Nat.le_of_ble_eq_true rfl) (Nat.le_of_ble_eq_true rfl) dX2_isSplitSound_2 ?_
  refine v_aload_n hC dX2_isSplitSound_5 rfl 0 rfl ?_
  refine v_iconst (v := 1) hC dX2_isSplitSound_6 (by decide) ?_
  refine v_callV (c2 := 0) (s2 := 0) (As := [.int 1]) hC (m_X2_partOf l (n := n) (K := K) (F := F) (G := G) (a0 := a0) (x1 := 1) t0) q_X2_31 (by rw [t0]; decide) (ce_8 t0) (ci := 7) rfl hdV_X2_partOf rfl rfl (Nat.le_of_ble_eq_true rfl) (Nat.le_of_ble_eq_true rfl) (Nat.le_of_ble_eq_true rfl) (Nat.le_of_ble_eq_true rfl) (Nat.le_of_ble_eq_true rfl) (Nat.le_of_ble_eq_true rfl) (Nat.le_of_ble_eq_true rfl) dX2_isSplitSound_7 ?_
  refine v_iadd hC dX2_isSplitSound_10 ?_
  refine v_aload_n hC dX2_isSplitSound_11 rfl 0 rfl ?_
  refine v_iconst (v := 2) hC dX2_isSplitSound_12 (by decide) ?_
  refine v_callV (c2 := 0) (s2 := 0) (As := [.int 2]) hC (m_X2_partOf l (n := n) (K := K) (F := F) (G := G) (a0 := a0) (x1 := 2) t0) q_X2_31 (by rw [t0]; decide) (ce_8 t0) (ci := 7) rfl hdV_X2_partOf rfl rfl (Nat.le_of_ble_eq_true rfl) (Nat.le_of_ble_eq_true rfl) (Nat.le_of_ble_eq_true rfl) (Nat.le_of_ble_eq_true rfl) (Nat.le_of_ble_eq_true rfl) (Nat.le_of_ble_eq_true rfl) (Nat.le_of_ble_eq_true rfl) dX2_isSplitSound_13 ?_
  refine v_iadd hC dX2_isSplitSound_16 ?_
  refine v_aload_n hC dX2_isSplitSound_17 rfl 0 rfl ?_
  refine gf_X2_7 hC t0 dX2_isSplitSound_18 ?_
  have KJ29 : ∀ (u1 : Int32) (tu1 : u1 = 0 ∨ u1 = 1), f_X2_isSplitSound_J29 K F G a0 u1 = r → V X 2 p l e ({ frames := 1, cells := 0, slots := 0, locals := 21 } : Room) s m args below meth c Q 0 0 n K F G [(0, .ref a0)] 29 [.int u1] := by
    intro u1 tu1 hf
    rw [f_X2_isSplitSound_J29] at hf
    refine v_istore_n (i := 1) (lv' := [(1, .int u1), (0, .ref a0)]) hC dX2_isSplitSound_29 rfl (by decide) rfl ?_
    refine v_iload_n hC dX2_isSplitSound_30 rfl 0 rfl ?_
    have KJ63 : ∀ (u2 : Int32) (tu2 : u2 = 0 ∨ u2 = 1), f_X2_isSplitSound_J63 K F G u2 = r → V X 2 p l e ({ frames := 1, cells := 0, slots := 0, locals := 21 } : Room) s m args below meth c Q 0 0 n K F G [] 63 [.int u2] := by
      intro u2 tu2 hf
      rw [f_X2_isSplitSound_J63] at hf
      exact v_zret (ty := .boolean) hC rfl (zz_of tu2) hQ dX2_isSplitSound_63 (congrArg (fun z => some (Value.int z)) hf) rfl rfl rfl rfl
    have KJ62 : f_X2_isSplitSound_J62 K F G = r → V X 2 p l e ({ frames := 1, cells := 0, slots := 0, locals := 21 } : Room) s m args below meth c Q 0 0 n K F G [] 62 [] := by
      intro hf
      rw [f_X2_isSplitSound_J62] at hf
      refine v_iconst (v := 0) hC dX2_isSplitSound_62 (by decide) ?_
      exact KJ63 0 (Or.inl rfl) hf
    refine v_if_eq (tgt := 62) hC dX2_isSplitSound_31 (by decide) (fun c3 => ?_) (fun c3 => ?_)
    · rw [if_pos c3] at hf
      refine v_sub [] rfl ?_
      exact KJ62 hf
    · rw [if_neg c3] at hf
      refine v_aload_n hC dX2_isSplitSound_34 rfl 1 rfl ?_
      refine v_iconst (v := 0) hC dX2_isSplitSound_35 (by decide) ?_
      refine v_callV (c2 := 0) (s2 := 0) (As := [.int 0]) hC (m_X2_hadBy l (n := n) (K := K) (F := F) (G := G) (a0 := a0) (x1 := 0) t0) q_X2_38 (by rw [t0]; decide) (ce_8 t0) (ci := 7) rfl hdV_X2_hadBy rfl rfl (Nat.le_of_ble_eq_true rfl) (Nat.le_of_ble_eq_true rfl) (Nat.le_of_ble_eq_true rfl) (Nat.le_of_ble_eq_true rfl) (Nat.le_of_ble_eq_true rfl) (Nat.le_of_ble_eq_true rfl) (Nat.le_of_ble_eq_true rfl) dX2_isSplitSound_36 ?_
      refine v_aload_n hC dX2_isSplitSound_39 rfl 1 rfl ?_
      refine v_iconst (v := 1) hC dX2_isSplitSound_40 (by decide) ?_
      refine v_callV (c2 := 0) (s2 := 0) (As := [.int 1]) hC (m_X2_hadBy l (n := n) (K := K) (F := F) (G := G) (a0 := a0) (x1 := 1) t0) q_X2_38 (by rw [t0]; decide) (ce_8 t0) (ci := 7) rfl hdV_X2_hadBy rfl rfl (Nat.le_of_ble_eq_true rfl) (Nat.le_of_ble_eq_true rfl) (Nat.le_of_ble_eq_true rfl) (Nat.le_of_ble_eq_true rfl) (Nat.le_of_ble_eq_true rfl) (Nat.le_of_ble_eq_true rfl) (Nat.le_of_ble_eq_true rfl) dX2_isSplitSound_41 ?_
      refine v_iadd hC dX2_isSplitSound_44 ?_
      refine v_aload_n hC dX2_isSplitSound_45 rfl 1 rfl ?_
      refine v_iconst (v := 2) hC dX2_isSplitSound_46 (by decide) ?_
      refine v_callV (c2 := 0) (s2 := 0) (As := [.int 2]) hC (m_X2_hadBy l (n := n) (K := K) (F := F) (G := G) (a0 := a0) (x1 := 2) t0) q_X2_38 (by rw [t0]; decide) (ce_8 t0) (ci := 7) rfl hdV_X2_hadBy rfl rfl (Nat.le_of_ble_eq_true rfl) (Nat.le_of_ble_eq_true rfl) (Nat.le_of_ble_eq_true rfl) (Nat.le_of_ble_eq_true rfl) (Nat.le_of_ble_eq_true rfl) (Nat.le_of_ble_eq_true rfl) (Nat.le_of_ble_eq_true rfl) dX2_isSplitSound_47 ?_
      refine v_iadd hC dX2_isSplitSound_50 ?_
      refine v_aload_n hC dX2_isSplitSound_51 rfl 1 rfl ?_
      refine gf_X2_28 hC t0 dX2_isSplitSound_52 ?_
      refine v_icmp_ne (tgt := 62) hC dX2_isSplitSound_55 (by decide) (fun c4 => ?_) (fun c4 => ?_)
      · rw [if_neg c4] at hf
        refine v_sub [] rfl ?_
        exact KJ62 hf
      · rw [if_pos c4] at hf
        refine v_iconst (v := 1) hC dX2_isSplitSound_58 (by decide) ?_
        refine v_goto (tgt := 63) hC dX2_isSplitSound_59 (by decide) ?_
        refine v_sub [] rfl ?_
        exact KJ63 1 (Or.inr rfl) hf
  refine v_icmp_ne (tgt := 28) hC dX2_isSplitSound_21 (by decide) (fun c5 => ?_) (fun c5 => ?_)
  · rw [if_neg c5] at hf
    refine v_iconst (v := 0) hC dX2_isSplitSound_28 (by decide) ?_
    exact KJ29 0 (Or.inl rfl) hf
  · rw [if_pos c5] at hf
    refine v_iconst (v := 1) hC dX2_isSplitSound_24 (by decide) ?_
    refine v_goto (tgt := 29) hC dX2_isSplitSound_25 (by decide) ?_
    exact KJ29 1 (Or.inr rfl) hf
def f_X3_nextOf_J28 (K : Kt) (F : Ft) (G : Gt) (a0 : Nat) (x1 : Int32) : Ft × Int32 := (up2 F a0 3 ((F a0 3) + 1), x1)
def f_X3_nextOf (K : Kt) (F : Ft) (G : Gt) (a0 : Nat) (x1 : Int32) : Ft × Int32 := if ((up2 F a0 3 ((F a0 3) + 1)) a0 2) ≤ 0 then f_X3_nextOf_J28 K F G a0 x1 else if ((up2 F a0 3 ((F a0 3) + 1)) a0 3) < ((up2 F a0 3 ((F a0 3) + 1)) a0 2) then (up2 F a0 3 ((F a0 3) + 1), (if (((up2 F a0 3 ((F a0 3) + 1)) a0 0) / ((up2 F a0 3 ((F a0 3) + 1)) a0 2)) < x1 then (((up2 F a0 3 ((F a0 3) + 1)) a0 0) / ((up2 F a0 3 ((F a0 3) + 1)) a0 2)) else x1)) else f_X3_nextOf_J28 K F G a0 x1
theorem hdS_X3_nextOf : yX3_nextOf.cls ≠ "java/lang/invoke/MethodHandle" ∧ yX3_nextOf.cls ≠ "java/lang/invoke/VarHandle" ∧ (parseMethodDescriptor yX3_nextOf.desc).map (fun d => d.parameters.length) = some 1 := by decide +kernel
theorem hdV_X3_nextOf : yX3_nextOf.cls = RX3 ∧ yX3_nextOf.cls ≠ "java/lang/invoke/MethodHandle" ∧ yX3_nextOf.cls ≠ "java/lang/invoke/VarHandle" ∧ (parseMethodDescriptor yX3_nextOf.desc).map (fun d => d.parameters.length) = some 1 := by decide +kernel
set_option maxHeartbeats 4000000 in
set_option maxRecDepth 100000 in
theorem m_X3_nextOf (l : Launch) {n : Nat} {K : Kt} {F : Ft} {G : Gt} {a0 : Nat} {x1 : Int32} (t0 : (K a0).1 = 9) : Mw X l yX3_nextOf cX3_nextOf 2 (some .int) 1 21 0 0 [.ref a0, .int x1] n K F G (some (.int (f_X3_nextOf K F G a0 x1).2)) n K (f_X3_nextOf K F G a0 x1).1 G := by
  generalize hf : f_X3_nextOf K F G a0 x1 = r
  refine Mw.of (lv := [(0, .ref a0), (1, .int x1)]) (by decide) (Nat.le_of_ble_eq_true rfl) rfl ?_
  intro p e s m args below meth c Q hC hin hQ
  have hC : Cx X p s m args meth c RX3 cX3_nextOf 2 (some .int) := hC
  rw [f_X3_nextOf] at hf
  refine v_aload_n hC dX3_nextOf_0 rfl 0 rfl ?_
  refine v_dup hC dX3_nextOf_1 rfl ?_
  refine gf_X3_19 hC t0 dX3_nextOf_2 ?_
  refine v_iconst (v := 1) hC dX3_nextOf_5 (by decide) ?_
  refine v_iadd hC dX3_nextOf_6 ?_
  refine pf_X3_19 hC t0 dX3_nextOf_7 ?_
  refine v_aload_n hC dX3_nextOf_10 rfl 0 rfl ?_
  refine gf_X3_16 hC t0 dX3_nextOf_11 ?_
  have KJ28 : f_X3_nextOf_J28 K F G a0 x1 = r → V X 2 p l e ({ frames := 1, cells := 0, slots := 0, locals := 21 } : Room) s m args below meth c Q 0 0 n K (up2 F a0 3 ((F a0 3) + 1)) G [(1, .int x1)] 28 [] := by
    intro hf
    rw [f_X3_nextOf_J28] at hf
    refine v_iload_n hC dX3_nextOf_28 rfl 0 rfl ?_
    exact v_iret hC rfl hQ dX3_nextOf_29 (congrArg (fun z => some (Value.int z.2)) hf) rfl rfl (congrArg Prod.fst hf) rfl
  refine v_if_le (tgt := 28) hC dX3_nextOf_14 (by decide) (fun c1 => ?_) (fun c1 => ?_)
  · rw [if_pos c1] at hf
    refine v_sub [1] rfl ?_
    exact KJ28 hf
  · rw [if_neg c1] at hf
    refine v_aload_n hC dX3_nextOf_17 rfl 0 rfl ?_
    refine gf_X3_19 hC t0 dX3_nextOf_18 ?_
    refine v_aload_n hC dX3_nextOf_21 rfl 0 rfl ?_
    refine gf_X3_16 hC t0 dX3_nextOf_22 ?_
    refine v_icmp_lt (tgt := 30) hC dX3_nextOf_25 (by decide) (fun c2 => ?_) (fun c2 => ?_)
    · rw [if_pos c2] at hf
      refine v_iload_n hC dX3_nextOf_30 rfl 1 rfl ?_
      refine v_aload_n hC dX3_nextOf_31 rfl 0 rfl ?_
      refine gf_X3_7 hC t0 dX3_nextOf_32 ?_
      refine v_aload_n hC dX3_nextOf_35 rfl 0 rfl ?_
      refine gf_X3_16 hC t0 dX3_nextOf_36 ?_
      refine v_idiv hC dX3_nextOf_39 (ne_gt (Int32.not_le.mp c1)) ?_
      refine v_mmin hC aw_270 (Nat.le_of_ble_eq_true rfl) (Nat.le_of_ble_eq_true rfl) (Nat.le_of_ble_eq_true rfl) (Nat.le_of_ble_eq_true rfl) (Nat.le_of_ble_eq_true rfl) dX3_nextOf_40 ?_
      exact v_iret hC rfl hQ dX3_nextOf_43 (congrArg (fun z => some (Value.int z.2)) hf) rfl rfl (congrArg Prod.fst hf) rfl
    · rw [if_neg c2] at hf
      refine v_sub [1] rfl ?_
      exact KJ28 hf
def f_X5_trouble_J39 (K : Kt) (F : Ft) (G : Gt) (u2 : Int32) : Int32 := u2
def f_X5_trouble (K : Kt) (F : Ft) (G : Gt) (a0 : Nat) : Int32 := if (F a0 4) = (-1) then F a0 5 else if (F a0 5) = (-1) then f_X5_trouble_J39 K F G (F a0 4) else f_X5_trouble_J39 K F G (if (F a0 5) < (F a0 4) then (F a0 5) else (F a0 4))
theorem hdS_X5_trouble : yX5_trouble.cls ≠ "java/lang/invoke/MethodHandle" ∧ yX5_trouble.cls ≠ "java/lang/invoke/VarHandle" ∧ (parseMethodDescriptor yX5_trouble.desc).map (fun d => d.parameters.length) = some 0 := by decide +kernel
theorem hdV_X5_trouble : yX5_trouble.cls = RX5 ∧ yX5_trouble.cls ≠ "java/lang/invoke/MethodHandle" ∧ yX5_trouble.cls ≠ "java/lang/invoke/VarHandle" ∧ (parseMethodDescriptor yX5_trouble.desc).map (fun d => d.parameters.length) = some 0 := by decide +kernel
set_option maxHeartbeats 4000000 in
set_option maxRecDepth 100000 in
theorem m_X5_trouble (l : Launch) {n : Nat} {K : Kt} {F : Ft} {G : Gt} {a0 : Nat} (t0 : (K a0).1 = 3) : Mw X l yX5_trouble cX5_trouble 1 (some .int) 1 21 0 0 [.ref a0] n K F G (some (.int (f_X5_trouble K F G a0))) n K F G := by
  generalize hf : f_X5_trouble K F G a0 = r
  refine Mw.of (lv := [(0, .ref a0)]) (by decide) (Nat.le_of_ble_eq_true rfl) rfl ?_
  intro p e s m args below meth c Q hC hin hQ
  have hC : Cx X p s m args meth c RX5 cX5_trouble 1 (some .int) := hC
  rw [f_X5_trouble] at hf
  refine v_aload_n hC dX5_trouble_0 rfl 0 rfl ?_
  refine gf_X5_9 hC t0 dX5_trouble_1 ?_
  refine v_iconst (v := (-1)) hC dX5_trouble_4 (by decide) ?_
  refine v_icmp_ne (tgt := 13) hC dX5_trouble_5 (by decide) (fun c1 => ?_) (fun c1 => ?_)
  · rw [if_neg c1] at hf
    refine v_aload_n hC dX5_trouble_13 rfl 0 rfl ?_
    refine gf_X5_15 hC t0 dX5_trouble_14 ?_
    refine v_iconst (v := (-1)) hC dX5_trouble_17 (by decide) ?_
    have KJ39 : ∀ (u2 : Int32), f_X5_trouble_J39 K F G u2 = r → V X 1 p l e ({ frames := 1, cells := 0, slots := 0, locals := 21 } : Room) s m args below meth c Q 0 0 n K F G [] 39 [.int u2] := by
      intro u2 hf
      rw [f_X5_trouble_J39] at hf
      exact v_iret hC rfl hQ dX5_trouble_39 (congrArg (fun z => some (Value.int z)) hf) rfl rfl rfl rfl
    refine v_icmp_ne (tgt := 28) hC dX5_trouble_18 (by decide) (fun c3 => ?_) (fun c3 => ?_)
    · rw [if_neg c3] at hf
      refine v_aload_n hC dX5_trouble_28 rfl 0 rfl ?_
      refine gf_X5_9 hC t0 dX5_trouble_29 ?_
      refine v_aload_n hC dX5_trouble_32 rfl 0 rfl ?_
      refine gf_X5_15 hC t0 dX5_trouble_33 ?_
      refine v_mmin hC aw_233 (Nat.le_of_ble_eq_true rfl) (Nat.le_of_ble_eq_true rfl) (Nat.le_of_ble_eq_true rfl) (Nat.le_of_ble_eq_true rfl) (Nat.le_of_ble_eq_true rfl) dX5_trouble_36 ?_
      refine v_sub [] rfl ?_
      exact KJ39 (if (F a0 5) < (F a0 4) then (F a0 5) else (F a0 4)) hf
    · rw [if_pos c3] at hf
      refine v_aload_n hC dX5_trouble_21 rfl 0 rfl ?_
      refine gf_X5_9 hC t0 dX5_trouble_22 ?_
      refine v_goto (tgt := 39) hC dX5_trouble_25 (by decide) ?_
      refine v_sub [] rfl ?_
      exact KJ39 (F a0 4) hf
  · rw [if_pos c1] at hf
    refine v_aload_n hC dX5_trouble_8 rfl 0 rfl ?_
    refine gf_X5_15 hC t0 dX5_trouble_9 ?_
    exact v_iret hC rfl hQ dX5_trouble_12 (congrArg (fun z => some (Value.int z)) hf) rfl rfl rfl rfl
def f_X5_isTroubled_J13 (K : Kt) (F : Ft) (G : Gt) (u1 : Int32) : Int32 := u1
def f_X5_isTroubled (K : Kt) (F : Ft) (G : Gt) (a0 : Nat) : Int32 := if (f_X5_trouble K F G a0) = (-1) then f_X5_isTroubled_J13 K F G 0 else f_X5_isTroubled_J13 K F G 1
theorem hdS_X5_isTroubled : yX5_isTroubled.cls ≠ "java/lang/invoke/MethodHandle" ∧ yX5_isTroubled.cls ≠ "java/lang/invoke/VarHandle" ∧ (parseMethodDescriptor yX5_isTroubled.desc).map (fun d => d.parameters.length) = some 0 := by decide +kernel
theorem hdV_X5_isTroubled : yX5_isTroubled.cls = RX5 ∧ yX5_isTroubled.cls ≠ "java/lang/invoke/MethodHandle" ∧ yX5_isTroubled.cls ≠ "java/lang/invoke/VarHandle" ∧ (parseMethodDescriptor yX5_isTroubled.desc).map (fun d => d.parameters.length) = some 0 := by decide +kernel
set_option maxHeartbeats 4000000 in
set_option maxRecDepth 100000 in
theorem m_X5_isTroubled (l : Launch) {n : Nat} {K : Kt} {F : Ft} {G : Gt} {a0 : Nat} (t0 : (K a0).1 = 3) : Mw X l yX5_isTroubled cX5_isTroubled 1 (some .boolean) 2 41 0 0 [.ref a0] n K F G (some (.int (f_X5_isTroubled K F G a0))) n K F G := by
  generalize hf : f_X5_isTroubled K F G a0 = r
  refine Mw.of (lv := [(0, .ref a0)]) (by decide) (Nat.le_of_ble_eq_true rfl) rfl ?_
  intro p e s m args below meth c Q hC hin hQ
  have hC : Cx X p s m args meth c RX5 cX5_isTroubled 1 (some .boolean) := hC
  rw [f_X5_isTroubled] at hf
  refine v_aload_n hC dX5_isTroubled_0 rfl 0 rfl ?_
  refine v_callV (c2 := 0) (s2 := 0) (As := []) hC (m_X5_trouble l (n := n) (K := K) (F := F) (G := G) (a0 := a0) t0) q_X5_36 (by rw [t0]; decide) (ce_3 t0) (ci := 2) rfl hdV_X5_trouble rfl rfl (Nat.le_of_ble_eq_true rfl) (Nat.le_of_ble_eq_true rfl) (Nat.le_of_ble_eq_true rfl) (Nat.le_of_ble_eq_true rfl) (Nat.le_of_ble_eq_true rfl) (Nat.le_of_ble_eq_true rfl) (Nat.le_of_ble_eq_true rfl) dX5_isTroubled_1 ?_
  refine v_iconst (v := (-1)) hC dX5_isTroubled_4 (by decide) ?_
  have KJ13 : ∀ (u1 : Int32) (tu1 : u1 = 0 ∨ u1 = 1), f_X5_isTroubled_J13 K F G u1 = r → V X 1 p l e ({ frames := 2, cells := 0, slots := 0, locals := 41 } : Room) s m args below meth c Q 0 0 n K F G [] 13 [.int u1] := by
    intro u1 tu1 hf
    rw [f_X5_isTroubled_J13] at hf
    exact v_zret (ty := .boolean) hC rfl (zz_of tu1) hQ dX5_isTroubled_13 (congrArg (fun z => some (Value.int z)) hf) rfl rfl rfl rfl
  refine v_icmp_eq (tgt := 12) hC dX5_isTroubled_5 (by decide) (fun c2 => ?_) (fun c2 => ?_)
  · rw [if_pos c2] at hf
    refine v_iconst (v := 0) hC dX5_isTroubled_12 (by decide) ?_
    refine v_sub [] rfl ?_
    exact KJ13 0 (Or.inl rfl) hf
  · rw [if_neg c2] at hf
    refine v_iconst (v := 1) hC dX5_isTroubled_8 (by decide) ?_
    refine v_goto (tgt := 13) hC dX5_isTroubled_9 (by decide) ?_
    refine v_sub [] rfl ?_
    exact KJ13 1 (Or.inr rfl) hf
def f_X5_noticeOn_J37 (K : Kt) (F : Ft) (G : Gt) (u2 : Int32) : Int32 := u2
def f_X5_noticeOn_J24 (K : Kt) (F : Ft) (G : Gt) (a0 : Nat) (u1 : Int32) : Int32 := if u1 = 0 then f_X5_noticeOn_J37 K F G (-1) else f_X5_noticeOn_J37 K F G (F a0 6)
def f_X5_noticeOn_J23 (K : Kt) (F : Ft) (G : Gt) (a0 : Nat) : Int32 := f_X5_noticeOn_J24 K F G a0 0
def f_X5_noticeOn (K : Kt) (F : Ft) (G : Gt) (a0 : Nat) (x1 : Int32) : Int32 := if (F a0 7) = (-1) then f_X5_noticeOn_J23 K F G a0 else if 90 ≤ (x1 - (F a0 7)) then f_X5_noticeOn_J23 K F G a0 else f_X5_noticeOn_J24 K F G a0 1
theorem hdS_X5_noticeOn : yX5_noticeOn.cls ≠ "java/lang/invoke/MethodHandle" ∧ yX5_noticeOn.cls ≠ "java/lang/invoke/VarHandle" ∧ (parseMethodDescriptor yX5_noticeOn.desc).map (fun d => d.parameters.length) = some 1 := by decide +kernel
theorem hdV_X5_noticeOn : yX5_noticeOn.cls = RX5 ∧ yX5_noticeOn.cls ≠ "java/lang/invoke/MethodHandle" ∧ yX5_noticeOn.cls ≠ "java/lang/invoke/VarHandle" ∧ (parseMethodDescriptor yX5_noticeOn.desc).map (fun d => d.parameters.length) = some 1 := by decide +kernel
set_option maxHeartbeats 4000000 in
set_option maxRecDepth 100000 in
theorem m_X5_noticeOn (l : Launch) {n : Nat} {K : Kt} {F : Ft} {G : Gt} {a0 : Nat} {x1 : Int32} (t0 : (K a0).1 = 3) : Mw X l yX5_noticeOn cX5_noticeOn 3 (some .int) 0 0 0 0 [.ref a0, .int x1] n K F G (some (.int (f_X5_noticeOn K F G a0 x1))) n K F G := by
  generalize hf : f_X5_noticeOn K F G a0 x1 = r
  refine Mw.of (lv := [(0, .ref a0), (1, .int x1)]) (by decide) (Nat.le_of_ble_eq_true rfl) rfl ?_
  intro p e s m args below meth c Q hC hin hQ
  have hC : Cx X p s m args meth c RX5 cX5_noticeOn 3 (some .int) := hC
  rw [f_X5_noticeOn] at hf
  refine v_aload_n hC dX5_noticeOn_0 rfl 0 rfl ?_
  refine gf_X5_18 hC t0 dX5_noticeOn_1 ?_
  refine v_iconst (v := (-1)) hC dX5_noticeOn_4 (by decide) ?_
  have KJ24 : ∀ (u1 : Int32) (tu1 : u1 = 0 ∨ u1 = 1), f_X5_noticeOn_J24 K F G a0 u1 = r → V X 3 p l e ({ frames := 0, cells := 0, slots := 0, locals := 0 } : Room) s m args below meth c Q 0 0 n K F G [(0, .ref a0)] 24 [.int u1] := by
    intro u1 tu1 hf
    rw [f_X5_noticeOn_J24] at hf
    refine v_istore_n (i := 2) (lv' := [(2, .int u1), (0, .ref a0)]) hC dX5_noticeOn_24 rfl (by decide) rfl ?_
    refine v_iload_n hC dX5_noticeOn_25 rfl 0 rfl ?_
    have KJ37 : ∀ (u2 : Int32), f_X5_noticeOn_J37 K F G u2 = r → V X 3 p l e ({ frames := 0, cells := 0, slots := 0, locals := 0 } : Room) s m args below meth c Q 0 0 n K F G [] 37 [.int u2] := by
      intro u2 hf
      rw [f_X5_noticeOn_J37] at hf
      exact v_iret hC rfl hQ dX5_noticeOn_37 (congrArg (fun z => some (Value.int z)) hf) rfl rfl rfl rfl
    refine v_if_eq (tgt := 36) hC dX5_noticeOn_26 (by decide) (fun c3 => ?_) (fun c3 => ?_)
    · rw [if_pos c3] at hf
      refine v_iconst (v := (-1)) hC dX5_noticeOn_36 (by decide) ?_
      refine v_sub [] rfl ?_
      exact KJ37 (-1) hf
    · rw [if_neg c3] at hf
      refine v_aload_n hC dX5_noticeOn_29 rfl 1 rfl ?_
      refine gf_X5_40 hC t0 dX5_noticeOn_30 ?_
      refine v_goto (tgt := 37) hC dX5_noticeOn_33 (by decide) ?_
      refine v_sub [] rfl ?_
      exact KJ37 (F a0 6) hf
  have KJ23 : f_X5_noticeOn_J23 K F G a0 = r → V X 3 p l e ({ frames := 0, cells := 0, slots := 0, locals := 0 } : Room) s m args below meth c Q 0 0 n K F G [(0, .ref a0)] 23 [] := by
    intro hf
    rw [f_X5_noticeOn_J23] at hf
    refine v_iconst (v := 0) hC dX5_noticeOn_23 (by decide) ?_
    exact KJ24 0 (Or.inl rfl) hf
  refine v_icmp_eq (tgt := 23) hC dX5_noticeOn_5 (by decide) (fun c4 => ?_) (fun c4 => ?_)
  · rw [if_pos c4] at hf
    refine v_sub [0] rfl ?_
    exact KJ23 hf
  · rw [if_neg c4] at hf
    refine v_iload_n hC dX5_noticeOn_8 rfl 1 rfl ?_
    refine v_aload_n hC dX5_noticeOn_9 rfl 0 rfl ?_
    refine gf_X5_18 hC t0 dX5_noticeOn_10 ?_
    refine v_isub hC dX5_noticeOn_13 ?_
    refine v_bipush (v := 90) hC dX5_noticeOn_14 (by decide) ?_
    refine v_icmp_ge (tgt := 23) hC dX5_noticeOn_16 (by decide) (fun c5 => ?_) (fun c5 => ?_)
    · rw [if_pos c5] at hf
      refine v_sub [0] rfl ?_
      exact KJ23 hf
    · rw [if_neg c5] at hf
      refine v_iconst (v := 1) hC dX5_noticeOn_19 (by decide) ?_
      refine v_goto (tgt := 24) hC dX5_noticeOn_20 (by decide) ?_
      refine v_sub [0] rfl ?_
      exact KJ24 1 (Or.inr rfl) hf
def f_X5_rateOn_J66 (K : Kt) (F : Ft) (G : Gt) (u2 : Int32) : Int32 := u2
def f_X5_rateOn_N39 (K : Kt) (F : Ft) (G : Gt) (a0 : Nat) (x1 : Int32) (y1 : Int32) : Int32 := if (f_X5_noticeOn K F G a0 x1) = (-1) then f_X5_rateOn_J66 K F G y1 else f_X5_rateOn_J66 K F G (if (f_X5_noticeOn K F G a0 x1) < y1 then (f_X5_noticeOn K F G a0 x1) else y1)
def f_X5_rateOn (K : Kt) (F : Ft) (G : Gt) (a0 : Nat) (x1 : Int32) (x2 : Int32) (x3 : Int32) : Int32 := f_X5_rateOn_N39 K F G a0 x1 (((8 + ((3 * (F a0 1)) * (F a0 1))) + (((F a0 1) + 1) * ((x3 + 179) / 180))) + (4 * x2))
theorem hdS_X5_rateOn : yX5_rateOn.cls ≠ "java/lang/invoke/MethodHandle" ∧ yX5_rateOn.cls ≠ "java/lang/invoke/VarHandle" ∧ (parseMethodDescriptor yX5_rateOn.desc).map (fun d => d.parameters.length) = some 3 := by decide +kernel
theorem hdV_X5_rateOn : yX5_rateOn.cls = RX5 ∧ yX5_rateOn.cls ≠ "java/lang/invoke/MethodHandle" ∧ yX5_rateOn.cls ≠ "java/lang/invoke/VarHandle" ∧ (parseMethodDescriptor yX5_rateOn.desc).map (fun d => d.parameters.length) = some 3 := by decide +kernel
set_option maxHeartbeats 4000000 in
set_option maxRecDepth 100000 in
theorem m_X5_rateOn (l : Launch) {n : Nat} {K : Kt} {F : Ft} {G : Gt} {a0 : Nat} {x1 : Int32} {x2 : Int32} {x3 : Int32} (t0 : (K a0).1 = 3) : Mw X l yX5_rateOn cX5_rateOn 7 (some .int) 1 22 0 0 [.ref a0, .int x1, .int x2, .int x3] n K F G (some (.int (f_X5_rateOn K F G a0 x1 x2 x3))) n K F G := by
  generalize hf : f_X5_rateOn K F G a0 x1 x2 x3 = r
  refine Mw.of (lv := [(0, .ref a0), (1, .int x1), (2, .int x2), (3, .int x3)]) (by decide) (Nat.le_of_ble_eq_true rfl) rfl ?_
  intro p e s m args below meth c Q hC hin hQ
  have hC : Cx X p s m args meth c RX5 cX5_rateOn 7 (some .int) := hC
  rw [f_X5_rateOn] at hf
  refine v_iload_n hC dX5_rateOn_0 rfl 3 rfl ?_
  refine v_sipush (v := 179) hC dX5_rateOn_1 (by decide) ?_
  refine v_iadd hC dX5_rateOn_4 ?_
  refine v_sipush (v := 180) hC dX5_rateOn_5 (by decide) ?_
  refine v_idiv hC dX5_rateOn_8 (by decide) ?_
  refine v_istore (i := 4) (lv' := [(4, .int ((x3 + 179) / 180)), (0, .ref a0), (1, .int x1), (2, .int x2), (3, .int x3)]) hC dX5_rateOn_9 (by decide) rfl ?_
  refine v_bipush (v := 8) hC dX5_rateOn_11 (by decide) ?_
  refine v_iconst (v := 3) hC dX5_rateOn_13 (by decide) ?_
  refine v_aload_n hC dX5_rateOn_14 rfl 1 rfl ?_
  refine gf_X5_24 hC t0 dX5_rateOn_15 ?_
  refine v_imul hC dX5_rateOn_18 ?_
  refine v_aload_n hC dX5_rateOn_19 rfl 1 rfl ?_
  refine gf_X5_24 hC t0 dX5_rateOn_20 ?_
  refine v_imul hC dX5_rateOn_23 ?_
  refine v_iadd hC dX5_rateOn_24 ?_
  refine v_aload_n hC dX5_rateOn_25 rfl 1 rfl ?_
  refine gf_X5_24 hC t0 dX5_rateOn_26 ?_
  refine v_iconst (v := 1) hC dX5_rateOn_29 (by decide) ?_
  refine v_iadd hC dX5_rateOn_30 ?_
  refine v_iload hC dX5_rateOn_31 0 rfl ?_
  refine v_imul hC dX5_rateOn_33 ?_
  refine v_iadd hC dX5_rateOn_34 ?_
  refine v_iconst (v := 4) hC dX5_rateOn_35 (by decide) ?_
  refine v_iload_n hC dX5_rateOn_36 rfl 3 rfl ?_
  refine v_imul hC dX5_rateOn_37 ?_
  refine v_iadd hC dX5_rateOn_38 ?_
  have KN39 : ∀ (y1 : Int32), f_X5_rateOn_N39 K F G a0 x1 y1 = r → V X 7 p l e ({ frames := 1, cells := 0, slots := 0, locals := 22 } : Room) s m args below meth c Q 0 0 n K F G [(0, .ref a0), (1, .int x1)] 39 [.int y1] := by
    intro y1 hf
    rw [f_X5_rateOn_N39] at hf
    refine v_istore (i := 5) (lv' := [(5, .int y1), (0, .ref a0), (1, .int x1)]) hC dX5_rateOn_39 (by decide) rfl ?_
    refine v_aload_n hC dX5_rateOn_41 rfl 1 rfl ?_
    refine v_iload_n hC dX5_rateOn_42 rfl 2 rfl ?_
    refine v_callV (c2 := 0) (s2 := 0) (As := [.int x1]) hC (m_X5_noticeOn l (n := n) (K := K) (F := F) (G := G) (a0 := a0) (x1 := x1) t0) q_X5_43 (by rw [t0]; decide) (ce_3 t0) (ci := 2) rfl hdV_X5_noticeOn rfl rfl (Nat.le_of_ble_eq_true rfl) (Nat.le_of_ble_eq_true rfl) (Nat.le_of_ble_eq_true rfl) (Nat.le_of_ble_eq_true rfl) (Nat.le_of_ble_eq_true rfl) (Nat.le_of_ble_eq_true rfl) (Nat.le_of_ble_eq_true rfl) dX5_rateOn_43 ?_
    refine v_istore (i := 6) (lv' := [(6, .int (f_X5_noticeOn K F G a0 x1)), (5, .int y1), (0, .ref a0), (1, .int x1)]) hC dX5_rateOn_46 (by decide) rfl ?_
    refine v_iload hC dX5_rateOn_48 0 rfl ?_
    refine v_iconst (v := (-1)) hC dX5_rateOn_50 (by decide) ?_
    have KJ66 : ∀ (u2 : Int32), f_X5_rateOn_J66 K F G u2 = r → V X 7 p l e ({ frames := 1, cells := 0, slots := 0, locals := 22 } : Room) s m args below meth c Q 0 0 n K F G [] 66 [.int u2] := by
      intro u2 hf
      rw [f_X5_rateOn_J66] at hf
      exact v_iret hC rfl hQ dX5_rateOn_66 (congrArg (fun z => some (Value.int z)) hf) rfl rfl rfl rfl
    refine v_icmp_ne (tgt := 59) hC dX5_rateOn_51 (by decide) (fun c3 => ?_) (fun c3 => ?_)
    · rw [if_neg c3] at hf
      refine v_iload hC dX5_rateOn_59 1 rfl ?_
      refine v_iload hC dX5_rateOn_61 0 rfl ?_
      refine v_mmin hC aw_233 (Nat.le_of_ble_eq_true rfl) (Nat.le_of_ble_eq_true rfl) (Nat.le_of_ble_eq_true rfl) (Nat.le_of_ble_eq_true rfl) (Nat.le_of_ble_eq_true rfl) dX5_rateOn_63 ?_
      refine v_sub [] rfl ?_
      exact KJ66 (if (f_X5_noticeOn K F G a0 x1) < y1 then (f_X5_noticeOn K F G a0 x1) else y1) hf
    · rw [if_pos c3] at hf
      refine v_iload hC dX5_rateOn_54 1 rfl ?_
      refine v_goto (tgt := 66) hC dX5_rateOn_56 (by decide) ?_
      refine v_sub [] rfl ?_
      exact KJ66 y1 hf
  refine v_sub [1, 2] rfl ?_
  exact KN39 (((8 + ((3 * (F a0 1)) * (F a0 1))) + (((F a0 1) + 1) * ((x3 + 179) / 180))) + (4 * x2)) hf
def f_X5_longestTermOn_J17 (K : Kt) (F : Ft) (G : Gt) : Int32 := 3600
def f_X5_longestTermOn_J38 (K : Kt) (F : Ft) (G : Gt) (u3 : Int32) : Int32 := u3
def f_X5_longestTermOn (K : Kt) (F : Ft) (G : Gt) (a0 : Nat) (x1 : Int32) : Int32 := if (F a0 1) ≤ 2 then f_X5_longestTermOn_J17 K F G else if (f_X5_noticeOn K F G a0 x1) = (-1) then if 5 < (F a0 1) then f_X5_longestTermOn_J38 K F G 360 else f_X5_longestTermOn_J38 K F G 1800 else f_X5_longestTermOn_J17 K F G
theorem hdS_X5_longestTermOn : yX5_longestTermOn.cls ≠ "java/lang/invoke/MethodHandle" ∧ yX5_longestTermOn.cls ≠ "java/lang/invoke/VarHandle" ∧ (parseMethodDescriptor yX5_longestTermOn.desc).map (fun d => d.parameters.length) = some 1 := by decide +kernel
theorem hdV_X5_longestTermOn : yX5_longestTermOn.cls = RX5 ∧ yX5_longestTermOn.cls ≠ "java/lang/invoke/MethodHandle" ∧ yX5_longestTermOn.cls ≠ "java/lang/invoke/VarHandle" ∧ (parseMethodDescriptor yX5_longestTermOn.desc).map (fun d => d.parameters.length) = some 1 := by decide +kernel
set_option maxHeartbeats 4000000 in
set_option maxRecDepth 100000 in
theorem m_X5_longestTermOn (l : Launch) {n : Nat} {K : Kt} {F : Ft} {G : Gt} {a0 : Nat} {x1 : Int32} (t0 : (K a0).1 = 3) : Mw X l yX5_longestTermOn cX5_longestTermOn 2 (some .int) 1 22 0 0 [.ref a0, .int x1] n K F G (some (.int (f_X5_longestTermOn K F G a0 x1))) n K F G := by
  generalize hf : f_X5_longestTermOn K F G a0 x1 = r
  refine Mw.of (lv := [(0, .ref a0), (1, .int x1)]) (by decide) (Nat.le_of_ble_eq_true rfl) rfl ?_
  intro p e s m args below meth c Q hC hin hQ
  have hC : Cx X p s m args meth c RX5 cX5_longestTermOn 2 (some .int) := hC
  rw [f_X5_longestTermOn] at hf
  refine v_aload_n hC dX5_longestTermOn_0 rfl 0 rfl ?_
  refine gf_X5_24 hC t0 dX5_longestTermOn_1 ?_
  refine v_iconst (v := 2) hC dX5_longestTermOn_4 (by decide) ?_
  have KJ17 : f_X5_longestTermOn_J17 K F G = r → V X 2 p l e ({ frames := 1, cells := 0, slots := 0, locals := 22 } : Room) s m args below meth c Q 0 0 n K F G [] 17 [] := by
    intro hf
    rw [f_X5_longestTermOn_J17] at hf
    refine v_sipush (v := 3600) hC dX5_longestTermOn_17 (by decide) ?_
    exact v_iret hC rfl hQ dX5_longestTermOn_20 (congrArg (fun z => some (Value.int z)) hf) rfl rfl rfl rfl
  refine v_icmp_le (tgt := 17) hC dX5_longestTermOn_5 (by decide) (fun c1 => ?_) (fun c1 => ?_)
  · rw [if_pos c1] at hf
    refine v_sub [] rfl ?_
    exact KJ17 hf
  · rw [if_neg c1] at hf
    refine v_aload_n hC dX5_longestTermOn_8 rfl 0 rfl ?_
    refine v_iload_n hC dX5_longestTermOn_9 rfl 1 rfl ?_
    refine v_callV (c2 := 0) (s2 := 0) (As := [.int x1]) hC (m_X5_noticeOn l (n := n) (K := K) (F := F) (G := G) (a0 := a0) (x1 := x1) t0) q_X5_43 (by rw [t0]; decide) (ce_3 t0) (ci := 2) rfl hdV_X5_noticeOn rfl rfl (Nat.le_of_ble_eq_true rfl) (Nat.le_of_ble_eq_true rfl) (Nat.le_of_ble_eq_true rfl) (Nat.le_of_ble_eq_true rfl) (Nat.le_of_ble_eq_true rfl) (Nat.le_of_ble_eq_true rfl) (Nat.le_of_ble_eq_true rfl) dX5_longestTermOn_10 ?_
    refine v_iconst (v := (-1)) hC dX5_longestTermOn_13 (by decide) ?_
    refine v_icmp_eq (tgt := 21) hC dX5_longestTermOn_14 (by decide) (fun c2 => ?_) (fun c2 => ?_)
    · rw [if_pos c2] at hf
      refine v_aload_n hC dX5_longestTermOn_21 rfl 0 rfl ?_
      refine gf_X5_24 hC t0 dX5_longestTermOn_22 ?_
      refine v_iconst (v := 5) hC dX5_longestTermOn_25 (by decide) ?_
      have KJ38 : ∀ (u3 : Int32), f_X5_longestTermOn_J38 K F G u3 = r → V X 2 p l e ({ frames := 1, cells := 0, slots := 0, locals := 22 } : Room) s m args below meth c Q 0 0 n K F G [] 38 [.int u3] := by
        intro u3 hf
        rw [f_X5_longestTermOn_J38] at hf
        exact v_iret hC rfl hQ dX5_longestTermOn_38 (congrArg (fun z => some (Value.int z)) hf) rfl rfl rfl rfl
      refine v_icmp_gt (tgt := 35) hC dX5_longestTermOn_26 (by decide) (fun c4 => ?_) (fun c4 => ?_)
      · rw [if_pos c4] at hf
        refine v_sipush (v := 360) hC dX5_longestTermOn_35 (by decide) ?_
        refine v_sub [] rfl ?_
        exact KJ38 360 hf
      · rw [if_neg c4] at hf
        refine v_sipush (v := 1800) hC dX5_longestTermOn_29 (by decide) ?_
        refine v_goto (tgt := 38) hC dX5_longestTermOn_32 (by decide) ?_
        refine v_sub [] rfl ?_
        exact KJ38 1800 hf
    · rw [if_neg c2] at hf
      refine v_sub [] rfl ?_
      exact KJ17 hf
def f_X0_isBroke_J13 (K : Kt) (F : Ft) (G : Gt) (u1 : Int32) : Int32 := u1
def f_X0_isBroke (K : Kt) (F : Ft) (G : Gt) (a0 : Nat) : Int32 := if (F a0 4) = (-1) then f_X0_isBroke_J13 K F G 0 else f_X0_isBroke_J13 K F G 1
theorem hdS_X0_isBroke : yX0_isBroke.cls ≠ "java/lang/invoke/MethodHandle" ∧ yX0_isBroke.cls ≠ "java/lang/invoke/VarHandle" ∧ (parseMethodDescriptor yX0_isBroke.desc).map (fun d => d.parameters.length) = some 0 := by decide +kernel
theorem hdV_X0_isBroke : yX0_isBroke.cls = RX0 ∧ yX0_isBroke.cls ≠ "java/lang/invoke/MethodHandle" ∧ yX0_isBroke.cls ≠ "java/lang/invoke/VarHandle" ∧ (parseMethodDescriptor yX0_isBroke.desc).map (fun d => d.parameters.length) = some 0 := by decide +kernel
set_option maxHeartbeats 4000000 in
set_option maxRecDepth 100000 in
theorem m_X0_isBroke (l : Launch) {n : Nat} {K : Kt} {F : Ft} {G : Gt} {a0 : Nat} (t0 : TBuyer K G a0) : Mw X l yX0_isBroke cX0_isBroke 1 (some .boolean) 0 0 0 0 [.ref a0] n K F G (some (.int (f_X0_isBroke K F G a0))) n K F G := by
  generalize hf : f_X0_isBroke K F G a0 = r
  refine Mw.of (lv := [(0, .ref a0)]) (by decide) (Nat.le_of_ble_eq_true rfl) rfl ?_
  intro p e s m args below meth c Q hC hin hQ
  have hC : Cx X p s m args meth c RX0 cX0_isBroke 1 (some .boolean) := hC
  rw [f_X0_isBroke] at hf
  refine v_aload_n hC dX0_isBroke_0 rfl 0 rfl ?_
  refine gf_X0_18 hC t0.1 dX0_isBroke_1 ?_
  refine v_iconst (v := (-1)) hC dX0_isBroke_4 (by decide) ?_
  have KJ13 : ∀ (u1 : Int32) (tu1 : u1 = 0 ∨ u1 = 1), f_X0_isBroke_J13 K F G u1 = r → V X 1 p l e ({ frames := 0, cells := 0, slots := 0, locals := 0 } : Room) s m args below meth c Q 0 0 n K F G [] 13 [.int u1] := by
    intro u1 tu1 hf
    rw [f_X0_isBroke_J13] at hf
    exact v_zret (ty := .boolean) hC rfl (zz_of tu1) hQ dX0_isBroke_13 (congrArg (fun z => some (Value.int z)) hf) rfl rfl rfl rfl
  refine v_icmp_eq (tgt := 12) hC dX0_isBroke_5 (by decide) (fun c2 => ?_) (fun c2 => ?_)
  · rw [if_pos c2] at hf
    refine v_iconst (v := 0) hC dX0_isBroke_12 (by decide) ?_
    refine v_sub [] rfl ?_
    exact KJ13 0 (Or.inl rfl) hf
  · rw [if_neg c2] at hf
    refine v_iconst (v := 1) hC dX0_isBroke_8 (by decide) ?_
    refine v_goto (tgt := 13) hC dX0_isBroke_9 (by decide) ?_
    refine v_sub [] rfl ?_
    exact KJ13 1 (Or.inr rfl) hf
def f_X0_canPay_J22 (K : Kt) (F : Ft) (G : Gt) (u1 : Int32) : Int32 := u1
def f_X0_canPay_J21 (K : Kt) (F : Ft) (G : Gt) : Int32 := f_X0_canPay_J22 K F G 0
def f_X0_canPay (K : Kt) (F : Ft) (G : Gt) (a0 : Nat) : Int32 := if (f_X0_isBroke K F G a0) = 0 then if (f_X5_isTroubled K F G (gp G a0 1)) = 0 then f_X0_canPay_J22 K F G 1 else f_X0_canPay_J21 K F G else f_X0_canPay_J21 K F G
theorem hdS_X0_canPay : yX0_canPay.cls ≠ "java/lang/invoke/MethodHandle" ∧ yX0_canPay.cls ≠ "java/lang/invoke/VarHandle" ∧ (parseMethodDescriptor yX0_canPay.desc).map (fun d => d.parameters.length) = some 0 := by decide +kernel
theorem hdV_X0_canPay : yX0_canPay.cls = RX0 ∧ yX0_canPay.cls ≠ "java/lang/invoke/MethodHandle" ∧ yX0_canPay.cls ≠ "java/lang/invoke/VarHandle" ∧ (parseMethodDescriptor yX0_canPay.desc).map (fun d => d.parameters.length) = some 0 := by decide +kernel
set_option maxHeartbeats 4000000 in
set_option maxRecDepth 100000 in
theorem m_X0_canPay (l : Launch) {n : Nat} {K : Kt} {F : Ft} {G : Gt} {a0 : Nat} (t0 : TBuyer K G a0) : Mw X l yX0_canPay cX0_canPay 1 (some .boolean) 3 61 0 0 [.ref a0] n K F G (some (.int (f_X0_canPay K F G a0))) n K F G := by
  generalize hf : f_X0_canPay K F G a0 = r
  refine Mw.of (lv := [(0, .ref a0)]) (by decide) (Nat.le_of_ble_eq_true rfl) rfl ?_
  intro p e s m args below meth c Q hC hin hQ
  have hC : Cx X p s m args meth c RX0 cX0_canPay 1 (some .boolean) := hC
  rw [f_X0_canPay] at hf
  refine v_aload_n hC dX0_canPay_0 rfl 0 rfl ?_
  refine v_callV (c2 := 0) (s2 := 0) (As := []) hC (m_X0_isBroke l (n := n) (K := K) (F := F) (G := G) (a0 := a0) t0) q_X0_32 (by rw [t0.1]; decide) (ce_4 t0.1) (ci := 3) rfl hdV_X0_isBroke rfl rfl (Nat.le_of_ble_eq_true rfl) (Nat.le_of_ble_eq_true rfl) (Nat.le_of_ble_eq_true rfl) (Nat.le_of_ble_eq_true rfl) (Nat.le_of_ble_eq_true rfl) (Nat.le_of_ble_eq_true rfl) (Nat.le_of_ble_eq_true rfl) dX0_canPay_1 ?_
  have KJ22 : ∀ (u1 : Int32) (tu1 : u1 = 0 ∨ u1 = 1), f_X0_canPay_J22 K F G u1 = r → V X 1 p l e ({ frames := 3, cells := 0, slots := 0, locals := 61 } : Room) s m args below meth c Q 0 0 n K F G [] 22 [.int u1] := by
    intro u1 tu1 hf
    rw [f_X0_canPay_J22] at hf
    exact v_zret (ty := .boolean) hC rfl (zz_of tu1) hQ dX0_canPay_22 (congrArg (fun z => some (Value.int z)) hf) rfl rfl rfl rfl
  have KJ21 : f_X0_canPay_J21 K F G = r → V X 1 p l e ({ frames := 3, cells := 0, slots := 0, locals := 61 } : Room) s m args below meth c Q 0 0 n K F G [] 21 [] := by
    intro hf
    rw [f_X0_canPay_J21] at hf
    refine v_iconst (v := 0) hC dX0_canPay_21 (by decide) ?_
    exact KJ22 0 (Or.inl rfl) hf
  refine v_if_ne (tgt := 21) hC dX0_canPay_4 (by decide) (fun c2 => ?_) (fun c2 => ?_)
  · rw [if_neg c2] at hf
    refine v_sub [] rfl ?_
    exact KJ21 hf
  · rw [if_pos c2] at hf
    refine v_aload_n hC dX0_canPay_7 rfl 0 rfl ?_
    refine gf_X0_25 hC t0.1 t0.2.1.1 dX0_canPay_8 ?_
    refine v_callV (c2 := 0) (s2 := 0) (As := []) hC (m_X5_isTroubled l (n := n) (K := K) (F := F) (G := G) (a0 := (gp G a0 1)) t0.2.1.2) q_X0_36 (by rw [t0.2.1.2]; decide) (ce_3 t0.2.1.2) (ci := 2) rfl hdV_X5_isTroubled rfl rfl (Nat.le_of_ble_eq_true rfl) (Nat.le_of_ble_eq_true rfl) (Nat.le_of_ble_eq_true rfl) (Nat.le_of_ble_eq_true rfl) (Nat.le_of_ble_eq_true rfl) (Nat.le_of_ble_eq_true rfl) (Nat.le_of_ble_eq_true rfl) dX0_canPay_11 ?_
    refine v_if_ne (tgt := 21) hC dX0_canPay_14 (by decide) (fun c3 => ?_) (fun c3 => ?_)
    · rw [if_neg c3] at hf
      refine v_sub [] rfl ?_
      exact KJ21 hf
    · rw [if_pos c3] at hf
      refine v_iconst (v := 1) hC dX0_canPay_17 (by decide) ?_
      refine v_goto (tgt := 22) hC dX0_canPay_18 (by decide) ?_
      refine v_sub [] rfl ?_
      exact KJ22 1 (Or.inr rfl) hf
def f_X4_suppliers (K : Kt) (F : Ft) (G : Gt) (a0 : Nat) : Int32 := (F a0 2) ||| (F a0 3)
theorem hdS_X4_suppliers : yX4_suppliers.cls ≠ "java/lang/invoke/MethodHandle" ∧ yX4_suppliers.cls ≠ "java/lang/invoke/VarHandle" ∧ (parseMethodDescriptor yX4_suppliers.desc).map (fun d => d.parameters.length) = some 0 := by decide +kernel
theorem hdV_X4_suppliers : yX4_suppliers.cls = RX4 ∧ yX4_suppliers.cls ≠ "java/lang/invoke/MethodHandle" ∧ yX4_suppliers.cls ≠ "java/lang/invoke/VarHandle" ∧ (parseMethodDescriptor yX4_suppliers.desc).map (fun d => d.parameters.length) = some 0 := by decide +kernel
set_option maxHeartbeats 4000000 in
set_option maxRecDepth 100000 in
theorem m_X4_suppliers (l : Launch) {n : Nat} {K : Kt} {F : Ft} {G : Gt} {a0 : Nat} (t0 : TExp K G a0) : Mw X l yX4_suppliers cX4_suppliers 1 (some .int) 0 0 0 0 [.ref a0] n K F G (some (.int (f_X4_suppliers K F G a0))) n K F G := by
  generalize hf : f_X4_suppliers K F G a0 = r
  refine Mw.of (lv := [(0, .ref a0)]) (by decide) (Nat.le_of_ble_eq_true rfl) rfl ?_
  intro p e s m args below meth c Q hC hin hQ
  have hC : Cx X p s m args meth c RX4 cX4_suppliers 1 (some .int) := hC
  rw [f_X4_suppliers] at hf
  refine v_aload_n hC dX4_suppliers_0 rfl 0 rfl ?_
  refine gf_X4_20 hC t0.1 dX4_suppliers_1 ?_
  refine v_aload_n hC dX4_suppliers_4 rfl 0 rfl ?_
  refine gf_X4_23 hC t0.1 dX4_suppliers_5 ?_
  refine v_ior hC dX4_suppliers_8 ?_
  exact v_iret hC rfl hQ dX4_suppliers_9 (congrArg (fun z => some (Value.int z)) hf) rfl rfl rfl rfl
def f_X6_grantedFor_J23 (K : Kt) (F : Ft) (G : Gt) (u1 : Int32) : Int32 := u1
def f_X6_grantedFor_J22 (K : Kt) (F : Ft) (G : Gt) : Int32 := f_X6_grantedFor_J23 K F G 0
def f_X6_grantedFor (K : Kt) (F : Ft) (G : Gt) (a0 : Nat) (x1 : Int32) : Int32 := if x1 < 0 then f_X6_grantedFor_J22 K F G else if (nI 12) ≤ x1 then f_X6_grantedFor_J22 K F G else f_X6_grantedFor_J23 K F G (F (gp G a0 5) x1.toNatClampNeg)
theorem hdS_X6_grantedFor : yX6_grantedFor.cls ≠ "java/lang/invoke/MethodHandle" ∧ yX6_grantedFor.cls ≠ "java/lang/invoke/VarHandle" ∧ (parseMethodDescriptor yX6_grantedFor.desc).map (fun d => d.parameters.length) = some 1 := by decide +kernel
theorem hdV_X6_grantedFor : yX6_grantedFor.cls = RX6 ∧ yX6_grantedFor.cls ≠ "java/lang/invoke/MethodHandle" ∧ yX6_grantedFor.cls ≠ "java/lang/invoke/VarHandle" ∧ (parseMethodDescriptor yX6_grantedFor.desc).map (fun d => d.parameters.length) = some 1 := by decide +kernel
set_option maxHeartbeats 4000000 in
set_option maxRecDepth 100000 in
theorem m_X6_grantedFor (l : Launch) {n : Nat} {K : Kt} {F : Ft} {G : Gt} {a0 : Nat} {x1 : Int32} (t0 : TPol K G a0) : Mw X l yX6_grantedFor cX6_grantedFor 2 (some .int) 0 0 0 0 [.ref a0, .int x1] n K F G (some (.int (f_X6_grantedFor K F G a0 x1))) n K F G := by
  generalize hf : f_X6_grantedFor K F G a0 x1 = r
  refine Mw.of (lv := [(0, .ref a0), (1, .int x1)]) (by decide) (Nat.le_of_ble_eq_true rfl) rfl ?_
  intro p e s m args below meth c Q hC hin hQ
  have hC : Cx X p s m args meth c RX6 cX6_grantedFor 2 (some .int) := hC
  rw [f_X6_grantedFor] at hf
  refine v_iload_n hC dX6_grantedFor_0 rfl 1 rfl ?_
  have KJ23 : ∀ (u1 : Int32), f_X6_grantedFor_J23 K F G u1 = r → V X 2 p l e ({ frames := 0, cells := 0, slots := 0, locals := 0 } : Room) s m args below meth c Q 0 0 n K F G [] 23 [.int u1] := by
    intro u1 hf
    rw [f_X6_grantedFor_J23] at hf
    exact v_iret hC rfl hQ dX6_grantedFor_23 (congrArg (fun z => some (Value.int z)) hf) rfl rfl rfl rfl
  have KJ22 : f_X6_grantedFor_J22 K F G = r → V X 2 p l e ({ frames := 0, cells := 0, slots := 0, locals := 0 } : Room) s m args below meth c Q 0 0 n K F G [] 22 [] := by
    intro hf
    rw [f_X6_grantedFor_J22] at hf
    refine v_iconst (v := 0) hC dX6_grantedFor_22 (by decide) ?_
    exact KJ23 0 hf
  refine v_if_lt (tgt := 22) hC dX6_grantedFor_1 (by decide) (fun c2 => ?_) (fun c2 => ?_)
  · rw [if_pos c2] at hf
    refine v_sub [] rfl ?_
    exact KJ22 hf
  · rw [if_neg c2] at hf
    refine v_iload_n hC dX6_grantedFor_4 rfl 1 rfl ?_
    refine v_aload_n hC dX6_grantedFor_5 rfl 0 rfl ?_
    refine gf_X6_9 hC t0.1 t0.2.2.1 dX6_grantedFor_6 ?_
    refine v_alen_20 hC t0.2.2.2 dX6_grantedFor_9 ?_
    refine v_icmp_ge (tgt := 22) hC dX6_grantedFor_10 (by decide) (fun c3 => ?_) (fun c3 => ?_)
    · rw [if_pos c3] at hf
      refine v_sub [] rfl ?_
      exact KJ22 hf
    · rw [if_neg c3] at hf
      refine v_aload_n hC dX6_grantedFor_13 rfl 0 rfl ?_
      refine gf_X6_9 hC t0.1 t0.2.2.1 dX6_grantedFor_14 ?_
      refine v_iload_n hC dX6_grantedFor_17 rfl 1 rfl ?_
      refine v_iald hC t0.2.2.2 (vin_c (Int32.not_lt.mp c2) (Int32.not_le.mp c3)) dX6_grantedFor_18 ?_
      refine v_goto (tgt := 23) hC dX6_grantedFor_19 (by decide) ?_
      refine v_sub [] rfl ?_
      exact KJ23 (F (gp G a0 5) x1.toNatClampNeg) hf
def f_X6_grant_J20 (K : Kt) (G : Gt) (F1 : Ft) : Ft := F1
def f_X6_grant (K : Kt) (F : Ft) (G : Gt) (a0 : Nat) (x1 : Int32) (x2 : Int32) : Ft := if x1 < 0 then f_X6_grant_J20 K G F else if (nI 12) ≤ x1 then f_X6_grant_J20 K G F else f_X6_grant_J20 K G (up2 F (gp G a0 5) x1.toNatClampNeg x2)
theorem hdS_X6_grant : yX6_grant.cls ≠ "java/lang/invoke/MethodHandle" ∧ yX6_grant.cls ≠ "java/lang/invoke/VarHandle" ∧ (parseMethodDescriptor yX6_grant.desc).map (fun d => d.parameters.length) = some 2 := by decide +kernel
theorem hdV_X6_grant : yX6_grant.cls = RX6 ∧ yX6_grant.cls ≠ "java/lang/invoke/MethodHandle" ∧ yX6_grant.cls ≠ "java/lang/invoke/VarHandle" ∧ (parseMethodDescriptor yX6_grant.desc).map (fun d => d.parameters.length) = some 2 := by decide +kernel
set_option maxHeartbeats 4000000 in
set_option maxRecDepth 100000 in
theorem m_X6_grant (l : Launch) {n : Nat} {K : Kt} {F : Ft} {G : Gt} {a0 : Nat} {x1 : Int32} {x2 : Int32} (t0 : TPol K G a0) : Mw X l yX6_grant cX6_grant 3 none 0 0 0 0 [.ref a0, .int x1, .int x2] n K F G none n K (f_X6_grant K F G a0 x1 x2) G := by
  generalize hf : f_X6_grant K F G a0 x1 x2 = r
  refine Mw.of (lv := [(0, .ref a0), (1, .int x1), (2, .int x2)]) (by decide) (Nat.le_of_ble_eq_true rfl) rfl ?_
  intro p e s m args below meth c Q hC hin hQ
  have hC : Cx X p s m args meth c RX6 cX6_grant 3 none := hC
  rw [f_X6_grant] at hf
  refine v_iload_n hC dX6_grant_0 rfl 1 rfl ?_
  have KJ20 : ∀ (F1 : Ft), f_X6_grant_J20 K G F1 = r → V X 3 p l e ({ frames := 0, cells := 0, slots := 0, locals := 0 } : Room) s m args below meth c Q 0 0 n K F1 G [] 20 [] := by
    intro F1 hf
    rw [f_X6_grant_J20] at hf
    exact v_vret hC rfl hQ dX6_grant_20 rfl rfl rfl hf rfl
  refine v_if_lt (tgt := 20) hC dX6_grant_1 (by decide) (fun c2 => ?_) (fun c2 => ?_)
  · rw [if_pos c2] at hf
    refine v_sub [] rfl ?_
    exact KJ20 F hf
  · rw [if_neg c2] at hf
    refine v_iload_n hC dX6_grant_4 rfl 1 rfl ?_
    refine v_aload_n hC dX6_grant_5 rfl 0 rfl ?_
    refine gf_X6_9 hC t0.1 t0.2.2.1 dX6_grant_6 ?_
    refine v_alen_20 hC t0.2.2.2 dX6_grant_9 ?_
    refine v_icmp_ge (tgt := 20) hC dX6_grant_10 (by decide) (fun c3 => ?_) (fun c3 => ?_)
    · rw [if_pos c3] at hf
      refine v_sub [] rfl ?_
      exact KJ20 F hf
    · rw [if_neg c3] at hf
      refine v_aload_n hC dX6_grant_13 rfl 0 rfl ?_
      refine gf_X6_9 hC t0.1 t0.2.2.1 dX6_grant_14 ?_
      refine v_iload_n hC dX6_grant_17 rfl 1 rfl ?_
      refine v_iload_n hC dX6_grant_18 rfl 2 rfl ?_
      refine v_iast hC t0.2.2.2 (vin_c (Int32.not_lt.mp c2) (Int32.not_le.mp c3)) dX6_grant_19 ?_
      refine v_sub [] rfl ?_
      exact KJ20 (up2 F (gp G a0 5) x1.toNatClampNeg x2) hf
def f_X7_isOpen_J26 (K : Kt) (F : Ft) (G : Gt) (u1 : Int32) : Int32 := u1
def f_X7_isOpen_J25 (K : Kt) (F : Ft) (G : Gt) : Int32 := f_X7_isOpen_J26 K F G 0
def f_X7_isOpen (K : Kt) (F : Ft) (G : Gt) (a0 : Nat) : Int32 := if G a0 14 = none then if G a0 15 = none then if (F a0 13) = 0 then f_X7_isOpen_J26 K F G 1 else f_X7_isOpen_J25 K F G else f_X7_isOpen_J25 K F G else f_X7_isOpen_J25 K F G
theorem hdS_X7_isOpen : yX7_isOpen.cls ≠ "java/lang/invoke/MethodHandle" ∧ yX7_isOpen.cls ≠ "java/lang/invoke/VarHandle" ∧ (parseMethodDescriptor yX7_isOpen.desc).map (fun d => d.parameters.length) = some 0 := by decide +kernel
theorem hdV_X7_isOpen : yX7_isOpen.cls = RX7 ∧ yX7_isOpen.cls ≠ "java/lang/invoke/MethodHandle" ∧ yX7_isOpen.cls ≠ "java/lang/invoke/VarHandle" ∧ (parseMethodDescriptor yX7_isOpen.desc).map (fun d => d.parameters.length) = some 0 := by decide +kernel
set_option maxHeartbeats 4000000 in
set_option maxRecDepth 100000 in
theorem m_X7_isOpen (l : Launch) {n : Nat} {K : Kt} {F : Ft} {G : Gt} {a0 : Nat} (t0 : TShip K G a0) : Mw X l yX7_isOpen cX7_isOpen 1 (some .boolean) 0 0 0 0 [.ref a0] n K F G (some (.int (f_X7_isOpen K F G a0))) n K F G := by
  generalize hf : f_X7_isOpen K F G a0 = r
  refine Mw.of (lv := [(0, .ref a0)]) (by decide) (Nat.le_of_ble_eq_true rfl) rfl ?_
  intro p e s m args below meth c Q hC hin hQ
  have hC : Cx X p s m args meth c RX7 cX7_isOpen 1 (some .boolean) := hC
  rw [f_X7_isOpen] at hf
  refine v_aload_n hC dX7_isOpen_0 rfl 0 rfl ?_
  refine gq_X7_48 hC t0.1 dX7_isOpen_1 ?_
  have KJ26 : ∀ (u1 : Int32) (tu1 : u1 = 0 ∨ u1 = 1), f_X7_isOpen_J26 K F G u1 = r → V X 1 p l e ({ frames := 0, cells := 0, slots := 0, locals := 0 } : Room) s m args below meth c Q 0 0 n K F G [] 26 [.int u1] := by
    intro u1 tu1 hf
    rw [f_X7_isOpen_J26] at hf
    exact v_zret (ty := .boolean) hC rfl (zz_of tu1) hQ dX7_isOpen_26 (congrArg (fun z => some (Value.int z)) hf) rfl rfl rfl rfl
  have KJ25 : f_X7_isOpen_J25 K F G = r → V X 1 p l e ({ frames := 0, cells := 0, slots := 0, locals := 0 } : Room) s m args below meth c Q 0 0 n K F G [] 25 [] := by
    intro hf
    rw [f_X7_isOpen_J25] at hf
    refine v_iconst (v := 0) hC dX7_isOpen_25 (by decide) ?_
    exact KJ26 0 (Or.inl rfl) hf
  refine v_ifnonnull (tgt := 25) hC dX7_isOpen_4 (by decide) (fun c2 => ?_) (fun c2 => ?_)
  · rw [if_neg c2] at hf
    refine v_sub [] rfl ?_
    exact KJ25 hf
  · rw [if_pos c2] at hf
    refine v_aload_n hC dX7_isOpen_7 rfl 0 rfl ?_
    refine gq_X7_52 hC t0.1 dX7_isOpen_8 ?_
    refine v_ifnonnull (tgt := 25) hC dX7_isOpen_11 (by decide) (fun c3 => ?_) (fun c3 => ?_)
    · rw [if_neg c3] at hf
      refine v_sub [] rfl ?_
      exact KJ25 hf
    · rw [if_pos c3] at hf
      refine v_aload_n hC dX7_isOpen_14 rfl 0 rfl ?_
      refine gf_X7_56 hC t0.1 dX7_isOpen_15 ?_
      refine v_if_ne (tgt := 25) hC dX7_isOpen_18 (by decide) (fun c4 => ?_) (fun c4 => ?_)
      · rw [if_neg c4] at hf
        refine v_sub [] rfl ?_
        exact KJ25 hf
      · rw [if_pos c4] at hf
        refine v_iconst (v := 1) hC dX7_isOpen_21 (by decide) ?_
        refine v_goto (tgt := 26) hC dX7_isOpen_22 (by decide) ?_
        refine v_sub [] rfl ?_
        exact KJ26 1 (Or.inr rfl) hf
def f_X7_isToPay_J33 (K : Kt) (F : Ft) (G : Gt) (u1 : Int32) : Int32 := u1
def f_X7_isToPay_J32 (K : Kt) (F : Ft) (G : Gt) : Int32 := f_X7_isToPay_J33 K F G 0
def f_X7_isToPay (K : Kt) (F : Ft) (G : Gt) (a0 : Nat) : Int32 := if (F a0 5) = 0 then if (F a0 13) = 0 then if G a0 15 = none then if (F a0 10) ≤ 0 then f_X7_isToPay_J32 K F G else f_X7_isToPay_J33 K F G 1 else f_X7_isToPay_J32 K F G else f_X7_isToPay_J32 K F G else f_X7_isToPay_J32 K F G
theorem hdS_X7_isToPay : yX7_isToPay.cls ≠ "java/lang/invoke/MethodHandle" ∧ yX7_isToPay.cls ≠ "java/lang/invoke/VarHandle" ∧ (parseMethodDescriptor yX7_isToPay.desc).map (fun d => d.parameters.length) = some 0 := by decide +kernel
theorem hdV_X7_isToPay : yX7_isToPay.cls = RX7 ∧ yX7_isToPay.cls ≠ "java/lang/invoke/MethodHandle" ∧ yX7_isToPay.cls ≠ "java/lang/invoke/VarHandle" ∧ (parseMethodDescriptor yX7_isToPay.desc).map (fun d => d.parameters.length) = some 0 := by decide +kernel
set_option maxHeartbeats 4000000 in
set_option maxRecDepth 100000 in
theorem m_X7_isToPay (l : Launch) {n : Nat} {K : Kt} {F : Ft} {G : Gt} {a0 : Nat} (t0 : TShip K G a0) : Mw X l yX7_isToPay cX7_isToPay 1 (some .boolean) 0 0 0 0 [.ref a0] n K F G (some (.int (f_X7_isToPay K F G a0))) n K F G := by
  generalize hf : f_X7_isToPay K F G a0 = r
  refine Mw.of (lv := [(0, .ref a0)]) (by decide) (Nat.le_of_ble_eq_true rfl) rfl ?_
  intro p e s m args below meth c Q hC hin hQ
  have hC : Cx X p s m args meth c RX7 cX7_isToPay 1 (some .boolean) := hC
  rw [f_X7_isToPay] at hf
  refine v_aload_n hC dX7_isToPay_0 rfl 0 rfl ?_
  refine gf_X7_29 hC t0.1 dX7_isToPay_1 ?_
  have KJ33 : ∀ (u1 : Int32) (tu1 : u1 = 0 ∨ u1 = 1), f_X7_isToPay_J33 K F G u1 = r → V X 1 p l e ({ frames := 0, cells := 0, slots := 0, locals := 0 } : Room) s m args below meth c Q 0 0 n K F G [] 33 [.int u1] := by
    intro u1 tu1 hf
    rw [f_X7_isToPay_J33] at hf
    exact v_zret (ty := .boolean) hC rfl (zz_of tu1) hQ dX7_isToPay_33 (congrArg (fun z => some (Value.int z)) hf) rfl rfl rfl rfl
  have KJ32 : f_X7_isToPay_J32 K F G = r → V X 1 p l e ({ frames := 0, cells := 0, slots := 0, locals := 0 } : Room) s m args below meth c Q 0 0 n K F G [] 32 [] := by
    intro hf
    rw [f_X7_isToPay_J32] at hf
    refine v_iconst (v := 0) hC dX7_isToPay_32 (by decide) ?_
    exact KJ33 0 (Or.inl rfl) hf
  refine v_if_ne (tgt := 32) hC dX7_isToPay_4 (by decide) (fun c2 => ?_) (fun c2 => ?_)
  · rw [if_neg c2] at hf
    refine v_sub [] rfl ?_
    exact KJ32 hf
  · rw [if_pos c2] at hf
    refine v_aload_n hC dX7_isToPay_7 rfl 0 rfl ?_
    refine gf_X7_56 hC t0.1 dX7_isToPay_8 ?_
    refine v_if_ne (tgt := 32) hC dX7_isToPay_11 (by decide) (fun c3 => ?_) (fun c3 => ?_)
    · rw [if_neg c3] at hf
      refine v_sub [] rfl ?_
      exact KJ32 hf
    · rw [if_pos c3] at hf
      refine v_aload_n hC dX7_isToPay_14 rfl 0 rfl ?_
      refine gq_X7_52 hC t0.1 dX7_isToPay_15 ?_
      refine v_ifnonnull (tgt := 32) hC dX7_isToPay_18 (by decide) (fun c4 => ?_) (fun c4 => ?_)
      · rw [if_neg c4] at hf
        refine v_sub [] rfl ?_
        exact KJ32 hf
      · rw [if_pos c4] at hf
        refine v_aload_n hC dX7_isToPay_21 rfl 0 rfl ?_
        refine gf_X7_33 hC t0.1 dX7_isToPay_22 ?_
        refine v_if_le (tgt := 32) hC dX7_isToPay_25 (by decide) (fun c5 => ?_) (fun c5 => ?_)
        · rw [if_pos c5] at hf
          refine v_sub [] rfl ?_
          exact KJ32 hf
        · rw [if_neg c5] at hf
          refine v_iconst (v := 1) hC dX7_isToPay_28 (by decide) ?_
          refine v_goto (tgt := 33) hC dX7_isToPay_29 (by decide) ?_
          refine v_sub [] rfl ?_
          exact KJ33 1 (Or.inr rfl) hf
def f_X7_atRisk_J22 (K : Kt) (F : Ft) (G : Gt) (u1 : Int32) : Int32 := u1
def f_X7_atRisk (K : Kt) (F : Ft) (G : Gt) (a0 : Nat) : Int32 := if (f_X7_isOpen K F G a0) = 0 then f_X7_atRisk_J22 K F G 0 else f_X7_atRisk_J22 K F G (if (F a0 10) < (F a0 7) then (F a0 10) else (F a0 7))
theorem hdS_X7_atRisk : yX7_atRisk.cls ≠ "java/lang/invoke/MethodHandle" ∧ yX7_atRisk.cls ≠ "java/lang/invoke/VarHandle" ∧ (parseMethodDescriptor yX7_atRisk.desc).map (fun d => d.parameters.length) = some 0 := by decide +kernel
theorem hdV_X7_atRisk : yX7_atRisk.cls = RX7 ∧ yX7_atRisk.cls ≠ "java/lang/invoke/MethodHandle" ∧ yX7_atRisk.cls ≠ "java/lang/invoke/VarHandle" ∧ (parseMethodDescriptor yX7_atRisk.desc).map (fun d => d.parameters.length) = some 0 := by decide +kernel
set_option maxHeartbeats 4000000 in
set_option maxRecDepth 100000 in
theorem m_X7_atRisk (l : Launch) {n : Nat} {K : Kt} {F : Ft} {G : Gt} {a0 : Nat} (t0 : TShip K G a0) : Mw X l yX7_atRisk cX7_atRisk 1 (some .int) 1 21 0 0 [.ref a0] n K F G (some (.int (f_X7_atRisk K F G a0))) n K F G := by
  generalize hf : f_X7_atRisk K F G a0 = r
  refine Mw.of (lv := [(0, .ref a0)]) (by decide) (Nat.le_of_ble_eq_true rfl) rfl ?_
  intro p e s m args below meth c Q hC hin hQ
  have hC : Cx X p s m args meth c RX7 cX7_atRisk 1 (some .int) := hC
  rw [f_X7_atRisk] at hf
  refine v_aload_n hC dX7_atRisk_0 rfl 0 rfl ?_
  refine v_callV (c2 := 0) (s2 := 0) (As := []) hC (m_X7_isOpen l (n := n) (K := K) (F := F) (G := G) (a0 := a0) t0) q_X7_59 (by rw [t0.1]; decide) (ce_7 t0.1) (ci := 6) rfl hdV_X7_isOpen rfl rfl (Nat.le_of_ble_eq_true rfl) (Nat.le_of_ble_eq_true rfl) (Nat.le_of_ble_eq_true rfl) (Nat.le_of_ble_eq_true rfl) (Nat.le_of_ble_eq_true rfl) (Nat.le_of_ble_eq_true rfl) (Nat.le_of_ble_eq_true rfl) dX7_atRisk_1 ?_
  have KJ22 : ∀ (u1 : Int32), f_X7_atRisk_J22 K F G u1 = r → V X 1 p l e ({ frames := 1, cells := 0, slots := 0, locals := 21 } : Room) s m args below meth c Q 0 0 n K F G [] 22 [.int u1] := by
    intro u1 hf
    rw [f_X7_atRisk_J22] at hf
    exact v_iret hC rfl hQ dX7_atRisk_22 (congrArg (fun z => some (Value.int z)) hf) rfl rfl rfl rfl
  refine v_if_eq (tgt := 21) hC dX7_atRisk_4 (by decide) (fun c2 => ?_) (fun c2 => ?_)
  · rw [if_pos c2] at hf
    refine v_iconst (v := 0) hC dX7_atRisk_21 (by decide) ?_
    refine v_sub [] rfl ?_
    exact KJ22 0 hf
  · rw [if_neg c2] at hf
    refine v_aload_n hC dX7_atRisk_7 rfl 0 rfl ?_
    refine gf_X7_39 hC t0.1 dX7_atRisk_8 ?_
    refine v_aload_n hC dX7_atRisk_11 rfl 0 rfl ?_
    refine gf_X7_33 hC t0.1 dX7_atRisk_12 ?_
    refine v_mmin hC aw_422 (Nat.le_of_ble_eq_true rfl) (Nat.le_of_ble_eq_true rfl) (Nat.le_of_ble_eq_true rfl) (Nat.le_of_ble_eq_true rfl) (Nat.le_of_ble_eq_true rfl) dX7_atRisk_15 ?_
    refine v_goto (tgt := 22) hC dX7_atRisk_18 (by decide) ?_
    refine v_sub [] rfl ?_
    exact KJ22 (if (F a0 10) < (F a0 7) then (F a0 10) else (F a0 7)) hf
def f_X7_isOverdue_J23 (K : Kt) (F : Ft) (G : Gt) (u1 : Int32) : Int32 := u1
def f_X7_isOverdue_J22 (K : Kt) (F : Ft) (G : Gt) : Int32 := f_X7_isOverdue_J23 K F G 0
def f_X7_isOverdue (K : Kt) (F : Ft) (G : Gt) (a0 : Nat) (x1 : Int32) : Int32 := if x1 ≤ ((F a0 4) + 60) then f_X7_isOverdue_J22 K F G else if (F a0 10) ≤ 0 then f_X7_isOverdue_J22 K F G else f_X7_isOverdue_J23 K F G 1
theorem hdS_X7_isOverdue : yX7_isOverdue.cls ≠ "java/lang/invoke/MethodHandle" ∧ yX7_isOverdue.cls ≠ "java/lang/invoke/VarHandle" ∧ (parseMethodDescriptor yX7_isOverdue.desc).map (fun d => d.parameters.length) = some 1 := by decide +kernel
theorem hdV_X7_isOverdue : yX7_isOverdue.cls = RX7 ∧ yX7_isOverdue.cls ≠ "java/lang/invoke/MethodHandle" ∧ yX7_isOverdue.cls ≠ "java/lang/invoke/VarHandle" ∧ (parseMethodDescriptor yX7_isOverdue.desc).map (fun d => d.parameters.length) = some 1 := by decide +kernel
set_option maxHeartbeats 4000000 in
set_option maxRecDepth 100000 in
theorem m_X7_isOverdue (l : Launch) {n : Nat} {K : Kt} {F : Ft} {G : Gt} {a0 : Nat} {x1 : Int32} (t0 : TShip K G a0) : Mw X l yX7_isOverdue cX7_isOverdue 2 (some .boolean) 0 0 0 0 [.ref a0, .int x1] n K F G (some (.int (f_X7_isOverdue K F G a0 x1))) n K F G := by
  generalize hf : f_X7_isOverdue K F G a0 x1 = r
  refine Mw.of (lv := [(0, .ref a0), (1, .int x1)]) (by decide) (Nat.le_of_ble_eq_true rfl) rfl ?_
  intro p e s m args below meth c Q hC hin hQ
  have hC : Cx X p s m args meth c RX7 cX7_isOverdue 2 (some .boolean) := hC
  rw [f_X7_isOverdue] at hf
  refine v_iload_n hC dX7_isOverdue_0 rfl 1 rfl ?_
  refine v_aload_n hC dX7_isOverdue_1 rfl 0 rfl ?_
  refine gf_X7_26 hC t0.1 dX7_isOverdue_2 ?_
  refine v_bipush (v := 60) hC dX7_isOverdue_5 (by decide) ?_
  refine v_iadd hC dX7_isOverdue_7 ?_
  have KJ23 : ∀ (u1 : Int32) (tu1 : u1 = 0 ∨ u1 = 1), f_X7_isOverdue_J23 K F G u1 = r → V X 2 p l e ({ frames := 0, cells := 0, slots := 0, locals := 0 } : Room) s m args below meth c Q 0 0 n K F G [] 23 [.int u1] := by
    intro u1 tu1 hf
    rw [f_X7_isOverdue_J23] at hf
    exact v_zret (ty := .boolean) hC rfl (zz_of tu1) hQ dX7_isOverdue_23 (congrArg (fun z => some (Value.int z)) hf) rfl rfl rfl rfl
  have KJ22 : f_X7_isOverdue_J22 K F G = r → V X 2 p l e ({ frames := 0, cells := 0, slots := 0, locals := 0 } : Room) s m args below meth c Q 0 0 n K F G [] 22 [] := by
    intro hf
    rw [f_X7_isOverdue_J22] at hf
    refine v_iconst (v := 0) hC dX7_isOverdue_22 (by decide) ?_
    exact KJ23 0 (Or.inl rfl) hf
  refine v_icmp_le (tgt := 22) hC dX7_isOverdue_8 (by decide) (fun c2 => ?_) (fun c2 => ?_)
  · rw [if_pos c2] at hf
    refine v_sub [] rfl ?_
    exact KJ22 hf
  · rw [if_neg c2] at hf
    refine v_aload_n hC dX7_isOverdue_11 rfl 0 rfl ?_
    refine gf_X7_33 hC t0.1 dX7_isOverdue_12 ?_
    refine v_if_le (tgt := 22) hC dX7_isOverdue_15 (by decide) (fun c3 => ?_) (fun c3 => ?_)
    · rw [if_pos c3] at hf
      refine v_sub [] rfl ?_
      exact KJ22 hf
    · rw [if_neg c3] at hf
      refine v_iconst (v := 1) hC dX7_isOverdue_18 (by decide) ?_
      refine v_goto (tgt := 23) hC dX7_isOverdue_19 (by decide) ?_
      refine v_sub [] rfl ?_
      exact KJ23 1 (Or.inr rfl) hf
def f_X7_causeOnceDue_J70 (K : Kt) (F : Ft) (G : Gt) (u3 : Int32) : Int32 := u3
def f_X7_causeOnceDue_J69 (K : Kt) (F : Ft) (G : Gt) : Int32 := f_X7_causeOnceDue_J70 K F G 1
def f_X7_causeOnceDue_J56 (K : Kt) (F : Ft) (G : Gt) (u1 : Int32) (u2 : Int32) : Int32 := if u1 = 0 then f_X7_causeOnceDue_J69 K F G else if u2 = 0 then f_X7_causeOnceDue_J70 K F G 2 else f_X7_causeOnceDue_J69 K F G
def f_X7_causeOnceDue_J55 (K : Kt) (F : Ft) (G : Gt) (u1 : Int32) : Int32 := f_X7_causeOnceDue_J56 K F G u1 0
def f_X7_causeOnceDue_J29 (K : Kt) (F : Ft) (G : Gt) (a0 : Nat) (u1 : Int32) : Int32 := if (f_X0_isBroke K F G (gp G a0 1)) = 0 then f_X7_causeOnceDue_J55 K F G u1 else if (f_X5_trouble K F G (gp G (gp G a0 1) 1)) ≤ (F (gp G a0 1) 4) then f_X7_causeOnceDue_J55 K F G u1 else f_X7_causeOnceDue_J56 K F G u1 1
def f_X7_causeOnceDue_J28 (K : Kt) (F : Ft) (G : Gt) (a0 : Nat) : Int32 := f_X7_causeOnceDue_J29 K F G a0 0
def f_X7_causeOnceDue (K : Kt) (F : Ft) (G : Gt) (a0 : Nat) : Int32 := if (f_X5_trouble K F G (gp G (gp G a0 1) 1)) = (-1) then f_X7_causeOnceDue_J28 K F G a0 else if (F a0 4) < (f_X5_trouble K F G (gp G (gp G a0 1) 1)) then f_X7_causeOnceDue_J28 K F G a0 else f_X7_causeOnceDue_J29 K F G a0 1
theorem hdS_X7_causeOnceDue : yX7_causeOnceDue.cls ≠ "java/lang/invoke/MethodHandle" ∧ yX7_causeOnceDue.cls ≠ "java/lang/invoke/VarHandle" ∧ (parseMethodDescriptor yX7_causeOnceDue.desc).map (fun d => d.parameters.length) = some 0 := by decide +kernel
theorem hdV_X7_causeOnceDue : yX7_causeOnceDue.cls = RX7 ∧ yX7_causeOnceDue.cls ≠ "java/lang/invoke/MethodHandle" ∧ yX7_causeOnceDue.cls ≠ "java/lang/invoke/VarHandle" ∧ (parseMethodDescriptor yX7_causeOnceDue.desc).map (fun d => d.parameters.length) = some 0 := by decide +kernel
set_option maxHeartbeats 4000000 in
set_option maxRecDepth 100000 in
theorem m_X7_causeOnceDue (l : Launch) {n : Nat} {K : Kt} {F : Ft} {G : Gt} {a0 : Nat} (t0 : TShip K G a0) : Mw X l yX7_causeOnceDue cX7_causeOnceDue 4 (some .int) 2 41 0 0 [.ref a0] n K F G (some (.int (f_X7_causeOnceDue K F G a0))) n K F G := by
  generalize hf : f_X7_causeOnceDue K F G a0 = r
  refine Mw.of (lv := [(0, .ref a0)]) (by decide) (Nat.le_of_ble_eq_true rfl) rfl ?_
  intro p e s m args below meth c Q hC hin hQ
  have hC : Cx X p s m args meth c RX7 cX7_causeOnceDue 4 (some .int) := hC
  rw [f_X7_causeOnceDue] at hf
  refine v_aload_n hC dX7_causeOnceDue_0 rfl 0 rfl ?_
  refine gf_X7_15 hC t0.1 t0.2.2.1.1 dX7_causeOnceDue_1 ?_
  refine gf_X7_73 hC t0.2.2.1.2.1 t0.2.2.1.2.2.1.1 dX7_causeOnceDue_4 ?_
  refine v_callV (c2 := 0) (s2 := 0) (As := []) hC (m_X5_trouble l (n := n) (K := K) (F := F) (G := G) (a0 := (gp G (gp G a0 1) 1)) t0.2.2.1.2.2.1.2) q_X7_79 (by rw [t0.2.2.1.2.2.1.2]; decide) (ce_3 t0.2.2.1.2.2.1.2) (ci := 2) rfl hdV_X5_trouble rfl rfl (Nat.le_of_ble_eq_true rfl) (Nat.le_of_ble_eq_true rfl) (Nat.le_of_ble_eq_true rfl) (Nat.le_of_ble_eq_true rfl) (Nat.le_of_ble_eq_true rfl) (Nat.le_of_ble_eq_true rfl) (Nat.le_of_ble_eq_true rfl) dX7_causeOnceDue_7 ?_
  refine v_istore_n (i := 1) (lv' := [(1, .int (f_X5_trouble K F G (gp G (gp G a0 1) 1))), (0, .ref a0)]) hC dX7_causeOnceDue_10 rfl (by decide) rfl ?_
  refine v_iload_n hC dX7_causeOnceDue_11 rfl 0 rfl ?_
  refine v_iconst (v := (-1)) hC dX7_causeOnceDue_12 (by decide) ?_
  have KJ29 : ∀ (u1 : Int32) (tu1 : u1 = 0 ∨ u1 = 1), f_X7_causeOnceDue_J29 K F G a0 u1 = r → V X 4 p l e ({ frames := 2, cells := 0, slots := 0, locals := 41 } : Room) s m args below meth c Q 0 0 n K F G [(0, .ref a0), (1, .int (f_X5_trouble K F G (gp G (gp G a0 1) 1)))] 29 [.int u1] := by
    intro u1 tu1 hf
    rw [f_X7_causeOnceDue_J29] at hf
    refine v_istore_n (i := 2) (lv' := [(2, .int u1), (0, .ref a0), (1, .int (f_X5_trouble K F G (gp G (gp G a0 1) 1)))]) hC dX7_causeOnceDue_29 rfl (by decide) rfl ?_
    refine v_aload_n hC dX7_causeOnceDue_30 rfl 1 rfl ?_
    refine gf_X7_15 hC t0.1 t0.2.2.1.1 dX7_causeOnceDue_31 ?_
    refine v_callV (c2 := 0) (s2 := 0) (As := []) hC (m_X0_isBroke l (n := n) (K := K) (F := F) (G := G) (a0 := (gp G a0 1)) t0.2.2.1.2) q_X7_84 (by rw [t0.2.2.1.2.1]; decide) (ce_4 t0.2.2.1.2.1) (ci := 3) rfl hdV_X0_isBroke rfl rfl (Nat.le_of_ble_eq_true rfl) (Nat.le_of_ble_eq_true rfl) (Nat.le_of_ble_eq_true rfl) (Nat.le_of_ble_eq_true rfl) (Nat.le_of_ble_eq_true rfl) (Nat.le_of_ble_eq_true rfl) (Nat.le_of_ble_eq_true rfl) dX7_causeOnceDue_34 ?_
    have KJ56 : ∀ (u2 : Int32) (tu2 : u2 = 0 ∨ u2 = 1), f_X7_causeOnceDue_J56 K F G u1 u2 = r → V X 4 p l e ({ frames := 2, cells := 0, slots := 0, locals := 41 } : Room) s m args below meth c Q 0 0 n K F G [(2, .int u1)] 56 [.int u2] := by
      intro u2 tu2 hf
      rw [f_X7_causeOnceDue_J56] at hf
      refine v_istore_n (i := 3) (lv' := [(3, .int u2), (2, .int u1)]) hC dX7_causeOnceDue_56 rfl (by decide) rfl ?_
      refine v_iload_n hC dX7_causeOnceDue_57 rfl 1 rfl ?_
      have KJ70 : ∀ (u3 : Int32), f_X7_causeOnceDue_J70 K F G u3 = r → V X 4 p l e ({ frames := 2, cells := 0, slots := 0, locals := 41 } : Room) s m args below meth c Q 0 0 n K F G [] 70 [.int u3] := by
        intro u3 hf
        rw [f_X7_causeOnceDue_J70] at hf
        exact v_iret hC rfl hQ dX7_causeOnceDue_70 (congrArg (fun z => some (Value.int z)) hf) rfl rfl rfl rfl
      have KJ69 : f_X7_causeOnceDue_J69 K F G = r → V X 4 p l e ({ frames := 2, cells := 0, slots := 0, locals := 41 } : Room) s m args below meth c Q 0 0 n K F G [] 69 [] := by
        intro hf
        rw [f_X7_causeOnceDue_J69] at hf
        refine v_iconst (v := 1) hC dX7_causeOnceDue_69 (by decide) ?_
        exact KJ70 1 hf
      refine v_if_eq (tgt := 69) hC dX7_causeOnceDue_58 (by decide) (fun c4 => ?_) (fun c4 => ?_)
      · rw [if_pos c4] at hf
        refine v_sub [] rfl ?_
        exact KJ69 hf
      · rw [if_neg c4] at hf
        refine v_iload_n hC dX7_causeOnceDue_61 rfl 0 rfl ?_
        refine v_if_ne (tgt := 69) hC dX7_causeOnceDue_62 (by decide) (fun c5 => ?_) (fun c5 => ?_)
        · rw [if_neg c5] at hf
          refine v_sub [] rfl ?_
          exact KJ69 hf
        · rw [if_pos c5] at hf
          refine v_iconst (v := 2) hC dX7_causeOnceDue_65 (by decide) ?_
          refine v_goto (tgt := 70) hC dX7_causeOnceDue_66 (by decide) ?_
          refine v_sub [] rfl ?_
          exact KJ70 2 hf
    have KJ55 : f_X7_causeOnceDue_J55 K F G u1 = r → V X 4 p l e ({ frames := 2, cells := 0, slots := 0, locals := 41 } : Room) s m args below meth c Q 0 0 n K F G [(2, .int u1)] 55 [] := by
      intro hf
      rw [f_X7_causeOnceDue_J55] at hf
      refine v_iconst (v := 0) hC dX7_causeOnceDue_55 (by decide) ?_
      exact KJ56 0 (Or.inl rfl) hf
    refine v_if_eq (tgt := 55) hC dX7_causeOnceDue_37 (by decide) (fun c6 => ?_) (fun c6 => ?_)
    · rw [if_pos c6] at hf
      refine v_sub [0] rfl ?_
      exact KJ55 hf
    · rw [if_neg c6] at hf
      refine v_aload_n hC dX7_causeOnceDue_40 rfl 1 rfl ?_
      refine gf_X7_15 hC t0.1 t0.2.2.1.1 dX7_causeOnceDue_41 ?_
      refine gf_X7_87 hC t0.2.2.1.2.1 dX7_causeOnceDue_44 ?_
      refine v_iload_n hC dX7_causeOnceDue_47 rfl 2 rfl ?_
      refine v_icmp_ge (tgt := 55) hC dX7_causeOnceDue_48 (by decide) (fun c7 => ?_) (fun c7 => ?_)
      · rw [if_pos c7] at hf
        refine v_sub [0] rfl ?_
        exact KJ55 hf
      · rw [if_neg c7] at hf
        refine v_iconst (v := 1) hC dX7_causeOnceDue_51 (by decide) ?_
        refine v_goto (tgt := 56) hC dX7_causeOnceDue_52 (by decide) ?_
        refine v_sub [0] rfl ?_
        exact KJ56 1 (Or.inr rfl) hf
  have KJ28 : f_X7_causeOnceDue_J28 K F G a0 = r → V X 4 p l e ({ frames := 2, cells := 0, slots := 0, locals := 41 } : Room) s m args below meth c Q 0 0 n K F G [(0, .ref a0), (1, .int (f_X5_trouble K F G (gp G (gp G a0 1) 1)))] 28 [] := by
    intro hf
    rw [f_X7_causeOnceDue_J28] at hf
    refine v_iconst (v := 0) hC dX7_causeOnceDue_28 (by decide) ?_
    exact KJ29 0 (Or.inl rfl) hf
  refine v_icmp_eq (tgt := 28) hC dX7_causeOnceDue_13 (by decide) (fun c8 => ?_) (fun c8 => ?_)
  · rw [if_pos c8] at hf
    refine v_sub [1, 0] rfl ?_
    exact KJ28 hf
  · rw [if_neg c8] at hf
    refine v_iload_n hC dX7_causeOnceDue_16 rfl 0 rfl ?_
    refine v_aload_n hC dX7_causeOnceDue_17 rfl 1 rfl ?_
    refine gf_X7_26 hC t0.1 dX7_causeOnceDue_18 ?_
    refine v_icmp_gt (tgt := 28) hC dX7_causeOnceDue_21 (by decide) (fun c9 => ?_) (fun c9 => ?_)
    · rw [if_pos c9] at hf
      refine v_sub [1, 0] rfl ?_
      exact KJ28 hf
    · rw [if_neg c9] at hf
      refine v_iconst (v := 1) hC dX7_causeOnceDue_24 (by decide) ?_
      refine v_goto (tgt := 29) hC dX7_causeOnceDue_25 (by decide) ?_
      refine v_sub [1, 0] rfl ?_
      exact KJ29 1 (Or.inr rfl) hf
def f_X7_causeOn_J23 (K : Kt) (F : Ft) (G : Gt) (u1 : Int32) : Int32 := u1
def f_X7_causeOn_J22 (K : Kt) (F : Ft) (G : Gt) : Int32 := f_X7_causeOn_J23 K F G 0
def f_X7_causeOn (K : Kt) (F : Ft) (G : Gt) (a0 : Nat) (x1 : Int32) : Int32 := if x1 < (F a0 4) then f_X7_causeOn_J22 K F G else if (F a0 10) ≤ 0 then f_X7_causeOn_J22 K F G else f_X7_causeOn_J23 K F G (f_X7_causeOnceDue K F G a0)
theorem hdS_X7_causeOn : yX7_causeOn.cls ≠ "java/lang/invoke/MethodHandle" ∧ yX7_causeOn.cls ≠ "java/lang/invoke/VarHandle" ∧ (parseMethodDescriptor yX7_causeOn.desc).map (fun d => d.parameters.length) = some 1 := by decide +kernel
theorem hdV_X7_causeOn : yX7_causeOn.cls = RX7 ∧ yX7_causeOn.cls ≠ "java/lang/invoke/MethodHandle" ∧ yX7_causeOn.cls ≠ "java/lang/invoke/VarHandle" ∧ (parseMethodDescriptor yX7_causeOn.desc).map (fun d => d.parameters.length) = some 1 := by decide +kernel
set_option maxHeartbeats 4000000 in
set_option maxRecDepth 100000 in
theorem m_X7_causeOn (l : Launch) {n : Nat} {K : Kt} {F : Ft} {G : Gt} {a0 : Nat} {x1 : Int32} (t0 : TShip K G a0) : Mw X l yX7_causeOn cX7_causeOn 2 (some .int) 3 64 0 0 [.ref a0, .int x1] n K F G (some (.int (f_X7_causeOn K F G a0 x1))) n K F G := by
  generalize hf : f_X7_causeOn K F G a0 x1 = r
  refine Mw.of (lv := [(0, .ref a0), (1, .int x1)]) (by decide) (Nat.le_of_ble_eq_true rfl) rfl ?_
  intro p e s m args below meth c Q hC hin hQ
  have hC : Cx X p s m args meth c RX7 cX7_causeOn 2 (some .int) := hC
  rw [f_X7_causeOn] at hf
  refine v_iload_n hC dX7_causeOn_0 rfl 1 rfl ?_
  refine v_aload_n hC dX7_causeOn_1 rfl 0 rfl ?_
  refine gf_X7_26 hC t0.1 dX7_causeOn_2 ?_
  have KJ23 : ∀ (u1 : Int32), f_X7_causeOn_J23 K F G u1 = r → V X 2 p l e ({ frames := 3, cells := 0, slots := 0, locals := 64 } : Room) s m args below meth c Q 0 0 n K F G [] 23 [.int u1] := by
    intro u1 hf
    rw [f_X7_causeOn_J23] at hf
    exact v_iret hC rfl hQ dX7_causeOn_23 (congrArg (fun z => some (Value.int z)) hf) rfl rfl rfl rfl
  have KJ22 : f_X7_causeOn_J22 K F G = r → V X 2 p l e ({ frames := 3, cells := 0, slots := 0, locals := 64 } : Room) s m args below meth c Q 0 0 n K F G [] 22 [] := by
    intro hf
    rw [f_X7_causeOn_J22] at hf
    refine v_iconst (v := 0) hC dX7_causeOn_22 (by decide) ?_
    exact KJ23 0 hf
  refine v_icmp_lt (tgt := 22) hC dX7_causeOn_5 (by decide) (fun c2 => ?_) (fun c2 => ?_)
  · rw [if_pos c2] at hf
    refine v_sub [] rfl ?_
    exact KJ22 hf
  · rw [if_neg c2] at hf
    refine v_aload_n hC dX7_causeOn_8 rfl 0 rfl ?_
    refine gf_X7_33 hC t0.1 dX7_causeOn_9 ?_
    refine v_if_le (tgt := 22) hC dX7_causeOn_12 (by decide) (fun c3 => ?_) (fun c3 => ?_)
    · rw [if_pos c3] at hf
      refine v_sub [] rfl ?_
      exact KJ22 hf
    · rw [if_neg c3] at hf
      refine v_aload_n hC dX7_causeOn_15 rfl 0 rfl ?_
      refine v_callV (c2 := 0) (s2 := 0) (As := []) hC (m_X7_causeOnceDue l (n := n) (K := K) (F := F) (G := G) (a0 := a0) t0) q_X7_69 (by rw [t0.1]; decide) (ce_7 t0.1) (ci := 6) rfl hdV_X7_causeOnceDue rfl rfl (Nat.le_of_ble_eq_true rfl) (Nat.le_of_ble_eq_true rfl) (Nat.le_of_ble_eq_true rfl) (Nat.le_of_ble_eq_true rfl) (Nat.le_of_ble_eq_true rfl) (Nat.le_of_ble_eq_true rfl) (Nat.le_of_ble_eq_true rfl) dX7_causeOn_16 ?_
      refine v_goto (tgt := 23) hC dX7_causeOn_19 (by decide) ?_
      refine v_sub [] rfl ?_
      exact KJ23 (f_X7_causeOnceDue K F G a0) hf
def f_X7_waiting_J29 (K : Kt) (F : Ft) (G : Gt) (u2 : Int32) : Int32 := u2
def f_X7_waiting (K : Kt) (F : Ft) (G : Gt) (a0 : Nat) : Int32 := if (f_X7_causeOnceDue K F G a0) = 2 then 90 else if (f_X0_isBroke K F G (gp G a0 1)) = 0 then f_X7_waiting_J29 K F G 180 else f_X7_waiting_J29 K F G 30
theorem hdS_X7_waiting : yX7_waiting.cls ≠ "java/lang/invoke/MethodHandle" ∧ yX7_waiting.cls ≠ "java/lang/invoke/VarHandle" ∧ (parseMethodDescriptor yX7_waiting.desc).map (fun d => d.parameters.length) = some 0 := by decide +kernel
theorem hdV_X7_waiting : yX7_waiting.cls = RX7 ∧ yX7_waiting.cls ≠ "java/lang/invoke/MethodHandle" ∧ yX7_waiting.cls ≠ "java/lang/invoke/VarHandle" ∧ (parseMethodDescriptor yX7_waiting.desc).map (fun d => d.parameters.length) = some 0 := by decide +kernel
set_option maxHeartbeats 4000000 in
set_option maxRecDepth 100000 in
theorem m_X7_waiting (l : Launch) {n : Nat} {K : Kt} {F : Ft} {G : Gt} {a0 : Nat} (t0 : TShip K G a0) : Mw X l yX7_waiting cX7_waiting 1 (some .int) 3 64 0 0 [.ref a0] n K F G (some (.int (f_X7_waiting K F G a0))) n K F G := by
  generalize hf : f_X7_waiting K F G a0 = r
  refine Mw.of (lv := [(0, .ref a0)]) (by decide) (Nat.le_of_ble_eq_true rfl) rfl ?_
  intro p e s m args below meth c Q hC hin hQ
  have hC : Cx X p s m args meth c RX7 cX7_waiting 1 (some .int) := hC
  rw [f_X7_waiting] at hf
  refine v_aload_n hC dX7_waiting_0 rfl 0 rfl ?_
  refine v_callV (c2 := 0) (s2 := 0) (As := []) hC (m_X7_causeOnceDue l (n := n) (K := K) (F := F) (G := G) (a0 := a0) t0) q_X7_69 (by rw [t0.1]; decide) (ce_7 t0.1) (ci := 6) rfl hdV_X7_causeOnceDue rfl rfl (Nat.le_of_ble_eq_true rfl) (Nat.le_of_ble_eq_true rfl) (Nat.le_of_ble_eq_true rfl) (Nat.le_of_ble_eq_true rfl) (Nat.le_of_ble_eq_true rfl) (Nat.le_of_ble_eq_true rfl) (Nat.le_of_ble_eq_true rfl) dX7_waiting_1 ?_
  refine v_iconst (v := 2) hC dX7_waiting_4 (by decide) ?_
  refine v_icmp_ne (tgt := 11) hC dX7_waiting_5 (by decide) (fun c1 => ?_) (fun c1 => ?_)
  · rw [if_neg c1] at hf
    refine v_aload_n hC dX7_waiting_11 rfl 0 rfl ?_
    refine gf_X7_15 hC t0.1 t0.2.2.1.1 dX7_waiting_12 ?_
    refine v_callV (c2 := 0) (s2 := 0) (As := []) hC (m_X0_isBroke l (n := n) (K := K) (F := F) (G := G) (a0 := (gp G a0 1)) t0.2.2.1.2) q_X7_84 (by rw [t0.2.2.1.2.1]; decide) (ce_4 t0.2.2.1.2.1) (ci := 3) rfl hdV_X0_isBroke rfl rfl (Nat.le_of_ble_eq_true rfl) (Nat.le_of_ble_eq_true rfl) (Nat.le_of_ble_eq_true rfl) (Nat.le_of_ble_eq_true rfl) (Nat.le_of_ble_eq_true rfl) (Nat.le_of_ble_eq_true rfl) (Nat.le_of_ble_eq_true rfl) dX7_waiting_15 ?_
    have KJ29 : ∀ (u2 : Int32), f_X7_waiting_J29 K F G u2 = r → V X 1 p l e ({ frames := 3, cells := 0, slots := 0, locals := 64 } : Room) s m args below meth c Q 0 0 n K F G [] 29 [.int u2] := by
      intro u2 hf
      rw [f_X7_waiting_J29] at hf
      exact v_iret hC rfl hQ dX7_waiting_29 (congrArg (fun z => some (Value.int z)) hf) rfl rfl rfl rfl
    refine v_if_eq (tgt := 26) hC dX7_waiting_18 (by decide) (fun c3 => ?_) (fun c3 => ?_)
    · rw [if_pos c3] at hf
      refine v_sipush (v := 180) hC dX7_waiting_26 (by decide) ?_
      refine v_sub [] rfl ?_
      exact KJ29 180 hf
    · rw [if_neg c3] at hf
      refine v_bipush (v := 30) hC dX7_waiting_21 (by decide) ?_
      refine v_goto (tgt := 29) hC dX7_waiting_23 (by decide) ?_
      refine v_sub [] rfl ?_
      exact KJ29 30 hf
  · rw [if_pos c1] at hf
    refine v_bipush (v := 90) hC dX7_waiting_8 (by decide) ?_
    exact v_iret hC rfl hQ dX7_waiting_10 (congrArg (fun z => some (Value.int z)) hf) rfl rfl rfl rfl
def f_X7_claimableFrom_J28 (K : Kt) (F : Ft) (G : Gt) : Int32 := (-1)
def f_X7_claimableFrom (K : Kt) (F : Ft) (G : Gt) (a0 : Nat) : Int32 := if (f_X7_isOpen K F G a0) = 0 then f_X7_claimableFrom_J28 K F G else if (F a0 12) = 0 then if (F a0 10) ≤ 0 then f_X7_claimableFrom_J28 K F G else if 0 < (F a0 7) then (F a0 4) + (f_X7_waiting K F G a0) else f_X7_claimableFrom_J28 K F G else f_X7_claimableFrom_J28 K F G
theorem hdS_X7_claimableFrom : yX7_claimableFrom.cls ≠ "java/lang/invoke/MethodHandle" ∧ yX7_claimableFrom.cls ≠ "java/lang/invoke/VarHandle" ∧ (parseMethodDescriptor yX7_claimableFrom.desc).map (fun d => d.parameters.length) = some 0 := by decide +kernel
theorem hdV_X7_claimableFrom : yX7_claimableFrom.cls = RX7 ∧ yX7_claimableFrom.cls ≠ "java/lang/invoke/MethodHandle" ∧ yX7_claimableFrom.cls ≠ "java/lang/invoke/VarHandle" ∧ (parseMethodDescriptor yX7_claimableFrom.desc).map (fun d => d.parameters.length) = some 0 := by decide +kernel
set_option maxHeartbeats 4000000 in
set_option maxRecDepth 100000 in
theorem m_X7_claimableFrom (l : Launch) {n : Nat} {K : Kt} {F : Ft} {G : Gt} {a0 : Nat} (t0 : TShip K G a0) : Mw X l yX7_claimableFrom cX7_claimableFrom 1 (some .int) 4 84 0 0 [.ref a0] n K F G (some (.int (f_X7_claimableFrom K F G a0))) n K F G := by
  generalize hf : f_X7_claimableFrom K F G a0 = r
  refine Mw.of (lv := [(0, .ref a0)]) (by decide) (Nat.le_of_ble_eq_true rfl) rfl ?_
  intro p e s m args below meth c Q hC hin hQ
  have hC : Cx X p s m args meth c RX7 cX7_claimableFrom 1 (some .int) := hC
  rw [f_X7_claimableFrom] at hf
  refine v_aload_n hC dX7_claimableFrom_0 rfl 0 rfl ?_
  refine v_callV (c2 := 0) (s2 := 0) (As := []) hC (m_X7_isOpen l (n := n) (K := K) (F := F) (G := G) (a0 := a0) t0) q_X7_59 (by rw [t0.1]; decide) (ce_7 t0.1) (ci := 6) rfl hdV_X7_isOpen rfl rfl (Nat.le_of_ble_eq_true rfl) (Nat.le_of_ble_eq_true rfl) (Nat.le_of_ble_eq_true rfl) (Nat.le_of_ble_eq_true rfl) (Nat.le_of_ble_eq_true rfl) (Nat.le_of_ble_eq_true rfl) (Nat.le_of_ble_eq_true rfl) dX7_claimableFrom_1 ?_
  have KJ28 : f_X7_claimableFrom_J28 K F G = r → V X 1 p l e ({ frames := 4, cells := 0, slots := 0, locals := 84 } : Room) s m args below meth c Q 0 0 n K F G [] 28 [] := by
    intro hf
    rw [f_X7_claimableFrom_J28] at hf
    refine v_iconst (v := (-1)) hC dX7_claimableFrom_28 (by decide) ?_
    exact v_iret hC rfl hQ dX7_claimableFrom_29 (congrArg (fun z => some (Value.int z)) hf) rfl rfl rfl rfl
  refine v_if_eq (tgt := 28) hC dX7_claimableFrom_4 (by decide) (fun c1 => ?_) (fun c1 => ?_)
  · rw [if_pos c1] at hf
    refine v_sub [] rfl ?_
    exact KJ28 hf
  · rw [if_neg c1] at hf
    refine v_aload_n hC dX7_claimableFrom_7 rfl 0 rfl ?_
    refine gf_X7_90 hC t0.1 dX7_claimableFrom_8 ?_
    refine v_if_ne (tgt := 28) hC dX7_claimableFrom_11 (by decide) (fun c2 => ?_) (fun c2 => ?_)
    · rw [if_neg c2] at hf
      refine v_sub [] rfl ?_
      exact KJ28 hf
    · rw [if_pos c2] at hf
      refine v_aload_n hC dX7_claimableFrom_14 rfl 0 rfl ?_
      refine gf_X7_33 hC t0.1 dX7_claimableFrom_15 ?_
      refine v_if_le (tgt := 28) hC dX7_claimableFrom_18 (by decide) (fun c3 => ?_) (fun c3 => ?_)
      · rw [if_pos c3] at hf
        refine v_sub [] rfl ?_
        exact KJ28 hf
      · rw [if_neg c3] at hf
        refine v_aload_n hC dX7_claimableFrom_21 rfl 0 rfl ?_
        refine gf_X7_39 hC t0.1 dX7_claimableFrom_22 ?_
        refine v_if_gt (tgt := 30) hC dX7_claimableFrom_25 (by decide) (fun c4 => ?_) (fun c4 => ?_)
        · rw [if_pos c4] at hf
          refine v_aload_n hC dX7_claimableFrom_30 rfl 0 rfl ?_
          refine gf_X7_26 hC t0.1 dX7_claimableFrom_31 ?_
          refine v_aload_n hC dX7_claimableFrom_34 rfl 0 rfl ?_
          refine v_callV (c2 := 0) (s2 := 0) (As := []) hC (m_X7_waiting l (n := n) (K := K) (F := F) (G := G) (a0 := a0) t0) q_X7_93 (by rw [t0.1]; decide) (ce_7 t0.1) (ci := 6) rfl hdV_X7_waiting rfl rfl (Nat.le_of_ble_eq_true rfl) (Nat.le_of_ble_eq_true rfl) (Nat.le_of_ble_eq_true rfl) (Nat.le_of_ble_eq_true rfl) (Nat.le_of_ble_eq_true rfl) (Nat.le_of_ble_eq_true rfl) (Nat.le_of_ble_eq_true rfl) dX7_claimableFrom_35 ?_
          refine v_iadd hC dX7_claimableFrom_38 ?_
          exact v_iret hC rfl hQ dX7_claimableFrom_39 (congrArg (fun z => some (Value.int z)) hf) rfl rfl rfl rfl
        · rw [if_neg c4] at hf
          refine v_sub [] rfl ?_
          exact KJ28 hf
def f_X7_marks_J89 (K : Kt) (F : Ft) (G : Gt) (u1 : Int32) (u2 : Int32) (u3 : Int32) (u4 : Int32) (u5 : Int32) (u6 : Int32) : Int32 := ((((u1 + u2) + u3) + u4) + u5) + u6
def f_X7_marks_J73 (K : Kt) (F : Ft) (G : Gt) (a0 : Nat) (u1 : Int32) (u2 : Int32) (u3 : Int32) (u4 : Int32) (u5 : Int32) : Int32 := if (F a0 5) = 0 then f_X7_marks_J89 K F G u1 u2 u3 u4 u5 0 else f_X7_marks_J89 K F G u1 u2 u3 u4 u5 32
def f_X7_marks_J57 (K : Kt) (F : Ft) (G : Gt) (a0 : Nat) (u1 : Int32) (u2 : Int32) (u3 : Int32) (u4 : Int32) : Int32 := if (F a0 13) = 0 then f_X7_marks_J73 K F G a0 u1 u2 u3 u4 0 else f_X7_marks_J73 K F G a0 u1 u2 u3 u4 16
def f_X7_marks_J41 (K : Kt) (F : Ft) (G : Gt) (a0 : Nat) (u1 : Int32) (u2 : Int32) (u3 : Int32) : Int32 := if G a0 15 = none then f_X7_marks_J57 K F G a0 u1 u2 u3 0 else f_X7_marks_J57 K F G a0 u1 u2 u3 8
def f_X7_marks_J26 (K : Kt) (F : Ft) (G : Gt) (a0 : Nat) (u1 : Int32) (u2 : Int32) : Int32 := if G a0 14 = none then f_X7_marks_J41 K F G a0 u1 u2 0 else f_X7_marks_J41 K F G a0 u1 u2 4
def f_X7_marks_J12 (K : Kt) (F : Ft) (G : Gt) (a0 : Nat) (u1 : Int32) : Int32 := if (F a0 12) = 0 then f_X7_marks_J26 K F G a0 u1 0 else f_X7_marks_J26 K F G a0 u1 2
def f_X7_marks (K : Kt) (F : Ft) (G : Gt) (a0 : Nat) : Int32 := if (F a0 11) = 0 then f_X7_marks_J12 K F G a0 0 else f_X7_marks_J12 K F G a0 1
theorem hdS_X7_marks : yX7_marks.cls ≠ "java/lang/invoke/MethodHandle" ∧ yX7_marks.cls ≠ "java/lang/invoke/VarHandle" ∧ (parseMethodDescriptor yX7_marks.desc).map (fun d => d.parameters.length) = some 0 := by decide +kernel
theorem hdV_X7_marks : yX7_marks.cls = RX7 ∧ yX7_marks.cls ≠ "java/lang/invoke/MethodHandle" ∧ yX7_marks.cls ≠ "java/lang/invoke/VarHandle" ∧ (parseMethodDescriptor yX7_marks.desc).map (fun d => d.parameters.length) = some 0 := by decide +kernel
set_option maxHeartbeats 4000000 in
set_option maxRecDepth 100000 in
theorem m_X7_marks (l : Launch) {n : Nat} {K : Kt} {F : Ft} {G : Gt} {a0 : Nat} (t0 : TShip K G a0) : Mw X l yX7_marks cX7_marks 2 (some .int) 0 0 0 0 [.ref a0] n K F G (some (.int (f_X7_marks K F G a0))) n K F G := by
  generalize hf : f_X7_marks K F G a0 = r
  refine Mw.of (lv := [(0, .ref a0)]) (by decide) (Nat.le_of_ble_eq_true rfl) rfl ?_
  intro p e s m args below meth c Q hC hin hQ
  have hC : Cx X p s m args meth c RX7 cX7_marks 2 (some .int) := hC
  rw [f_X7_marks] at hf
  refine v_aload_n hC dX7_marks_0 rfl 0 rfl ?_
  refine gf_X7_101 hC t0.1 dX7_marks_1 ?_
  have KJ12 : ∀ (u1 : Int32) (tu1 : u1 = 0 ∨ u1 = 1), f_X7_marks_J12 K F G a0 u1 = r → V X 2 p l e ({ frames := 0, cells := 0, slots := 0, locals := 0 } : Room) s m args below meth c Q 0 0 n K F G [(0, .ref a0)] 12 [.int u1] := by
    intro u1 tu1 hf
    rw [f_X7_marks_J12] at hf
    refine v_istore_n (i := 1) (lv' := [(1, .int u1), (0, .ref a0)]) hC dX7_marks_12 rfl (by decide) rfl ?_
    refine v_iload_n hC dX7_marks_13 rfl 0 rfl ?_
    refine v_aload_n hC dX7_marks_14 rfl 1 rfl ?_
    refine gf_X7_90 hC t0.1 dX7_marks_15 ?_
    have KJ26 : ∀ (u2 : Int32), f_X7_marks_J26 K F G a0 u1 u2 = r → V X 2 p l e ({ frames := 0, cells := 0, slots := 0, locals := 0 } : Room) s m args below meth c Q 0 0 n K F G [(0, .ref a0)] 26 [.int u2, .int u1] := by
      intro u2 hf
      rw [f_X7_marks_J26] at hf
      refine v_iadd hC dX7_marks_26 ?_
      refine v_istore_n (i := 1) (lv' := [(1, .int (u1 + u2)), (0, .ref a0)]) hC dX7_marks_27 rfl (by decide) rfl ?_
      refine v_iload_n hC dX7_marks_28 rfl 0 rfl ?_
      refine v_aload_n hC dX7_marks_29 rfl 1 rfl ?_
      refine gq_X7_48 hC t0.1 dX7_marks_30 ?_
      have KJ41 : ∀ (u3 : Int32), f_X7_marks_J41 K F G a0 u1 u2 u3 = r → V X 2 p l e ({ frames := 0, cells := 0, slots := 0, locals := 0 } : Room) s m args below meth c Q 0 0 n K F G [(0, .ref a0)] 41 [.int u3, .int (u1 + u2)] := by
        intro u3 hf
        rw [f_X7_marks_J41] at hf
        refine v_iadd hC dX7_marks_41 ?_
        refine v_istore_n (i := 1) (lv' := [(1, .int ((u1 + u2) + u3)), (0, .ref a0)]) hC dX7_marks_42 rfl (by decide) rfl ?_
        refine v_iload_n hC dX7_marks_43 rfl 0 rfl ?_
        refine v_aload_n hC dX7_marks_44 rfl 1 rfl ?_
        refine gq_X7_52 hC t0.1 dX7_marks_45 ?_
        have KJ57 : ∀ (u4 : Int32), f_X7_marks_J57 K F G a0 u1 u2 u3 u4 = r → V X 2 p l e ({ frames := 0, cells := 0, slots := 0, locals := 0 } : Room) s m args below meth c Q 0 0 n K F G [(0, .ref a0)] 57 [.int u4, .int ((u1 + u2) + u3)] := by
          intro u4 hf
          rw [f_X7_marks_J57] at hf
          refine v_iadd hC dX7_marks_57 ?_
          refine v_istore_n (i := 1) (lv' := [(1, .int (((u1 + u2) + u3) + u4)), (0, .ref a0)]) hC dX7_marks_58 rfl (by decide) rfl ?_
          refine v_iload_n hC dX7_marks_59 rfl 0 rfl ?_
          refine v_aload_n hC dX7_marks_60 rfl 1 rfl ?_
          refine gf_X7_56 hC t0.1 dX7_marks_61 ?_
          have KJ73 : ∀ (u5 : Int32), f_X7_marks_J73 K F G a0 u1 u2 u3 u4 u5 = r → V X 2 p l e ({ frames := 0, cells := 0, slots := 0, locals := 0 } : Room) s m args below meth c Q 0 0 n K F G [(0, .ref a0)] 73 [.int u5, .int (((u1 + u2) + u3) + u4)] := by
            intro u5 hf
            rw [f_X7_marks_J73] at hf
            refine v_iadd hC dX7_marks_73 ?_
            refine v_istore_n (i := 1) (lv' := [(1, .int ((((u1 + u2) + u3) + u4) + u5)), (0, .ref a0)]) hC dX7_marks_74 rfl (by decide) rfl ?_
            refine v_iload_n hC dX7_marks_75 rfl 0 rfl ?_
            refine v_aload_n hC dX7_marks_76 rfl 1 rfl ?_
            refine gf_X7_29 hC t0.1 dX7_marks_77 ?_
            have KJ89 : ∀ (u6 : Int32), f_X7_marks_J89 K F G u1 u2 u3 u4 u5 u6 = r → V X 2 p l e ({ frames := 0, cells := 0, slots := 0, locals := 0 } : Room) s m args below meth c Q 0 0 n K F G [] 89 [.int u6, .int ((((u1 + u2) + u3) + u4) + u5)] := by
              intro u6 hf
              rw [f_X7_marks_J89] at hf
              refine v_iadd hC dX7_marks_89 ?_
              exact v_iret hC rfl hQ dX7_marks_90 (congrArg (fun z => some (Value.int z)) hf) rfl rfl rfl rfl
            refine v_if_eq (tgt := 88) hC dX7_marks_80 (by decide) (fun c7 => ?_) (fun c7 => ?_)
            · rw [if_pos c7] at hf
              refine v_iconst (v := 0) hC dX7_marks_88 (by decide) ?_
              refine v_sub [] rfl ?_
              exact KJ89 0 hf
            · rw [if_neg c7] at hf
              refine v_bipush (v := 32) hC dX7_marks_83 (by decide) ?_
              refine v_goto (tgt := 89) hC dX7_marks_85 (by decide) ?_
              refine v_sub [] rfl ?_
              exact KJ89 32 hf
          refine v_if_eq (tgt := 72) hC dX7_marks_64 (by decide) (fun c8 => ?_) (fun c8 => ?_)
          · rw [if_pos c8] at hf
            refine v_iconst (v := 0) hC dX7_marks_72 (by decide) ?_
            refine v_sub [1] rfl ?_
            exact KJ73 0 hf
          · rw [if_neg c8] at hf
            refine v_bipush (v := 16) hC dX7_marks_67 (by decide) ?_
            refine v_goto (tgt := 73) hC dX7_marks_69 (by decide) ?_
            refine v_sub [1] rfl ?_
            exact KJ73 16 hf
        refine v_ifnull (tgt := 56) hC dX7_marks_48 (by decide) (fun c9 => ?_) (fun c9 => ?_)
        · rw [if_pos c9] at hf
          refine v_iconst (v := 0) hC dX7_marks_56 (by decide) ?_
          refine v_sub [1] rfl ?_
          exact KJ57 0 hf
        · rw [if_neg c9] at hf
          refine v_bipush (v := 8) hC dX7_marks_51 (by decide) ?_
          refine v_goto (tgt := 57) hC dX7_marks_53 (by decide) ?_
          refine v_sub [1] rfl ?_
          exact KJ57 8 hf
      refine v_ifnull (tgt := 40) hC dX7_marks_33 (by decide) (fun c10 => ?_) (fun c10 => ?_)
      · rw [if_pos c10] at hf
        refine v_iconst (v := 0) hC dX7_marks_40 (by decide) ?_
        refine v_sub [1] rfl ?_
        exact KJ41 0 hf
      · rw [if_neg c10] at hf
        refine v_iconst (v := 4) hC dX7_marks_36 (by decide) ?_
        refine v_goto (tgt := 41) hC dX7_marks_37 (by decide) ?_
        refine v_sub [1] rfl ?_
        exact KJ41 4 hf
    refine v_if_eq (tgt := 25) hC dX7_marks_18 (by decide) (fun c11 => ?_) (fun c11 => ?_)
    · rw [if_pos c11] at hf
      refine v_iconst (v := 0) hC dX7_marks_25 (by decide) ?_
      refine v_sub [1] rfl ?_
      exact KJ26 0 hf
    · rw [if_neg c11] at hf
      refine v_iconst (v := 2) hC dX7_marks_21 (by decide) ?_
      refine v_goto (tgt := 26) hC dX7_marks_22 (by decide) ?_
      refine v_sub [1] rfl ?_
      exact KJ26 2 hf
  refine v_if_eq (tgt := 11) hC dX7_marks_4 (by decide) (fun c12 => ?_) (fun c12 => ?_)
  · rw [if_pos c12] at hf
    refine v_iconst (v := 0) hC dX7_marks_11 (by decide) ?_
    exact KJ12 0 (Or.inl rfl) hf
  · rw [if_neg c12] at hf
    refine v_iconst (v := 1) hC dX7_marks_7 (by decide) ?_
    refine v_goto (tgt := 12) hC dX7_marks_8 (by decide) ?_
    exact KJ12 1 (Or.inr rfl) hf
def f_X7_isDamageSound_J67 (K : Kt) (F : Ft) (G : Gt) (u3 : Int32) : Int32 := u3
def f_X7_isDamageSound_J66 (K : Kt) (F : Ft) (G : Gt) : Int32 := f_X7_isDamageSound_J67 K F G 0
def f_X7_isDamageSound_J27 (K : Kt) (F : Ft) (G : Gt) (a0 : Nat) (u2 : Int32) : Int32 := if (f_X2_isSplitSound K F G (gp G a0 14)) = 0 then f_X7_isDamageSound_J66 K F G else if (F (gp G a0 14) 0) = (((F a0 10) + (F (gp G a0 14) 3)) + u2) then f_X7_isDamageSound_J67 K F G 1 else f_X7_isDamageSound_J66 K F G
def f_X7_isDamageSound (K : Kt) (F : Ft) (G : Gt) (a0 : Nat) : Int32 := if G a0 14 = none then 1 else if G a0 15 = none then f_X7_isDamageSound_J27 K F G a0 0 else f_X7_isDamageSound_J27 K F G a0 (F (gp G a0 15) 1)
theorem hdS_X7_isDamageSound : yX7_isDamageSound.cls ≠ "java/lang/invoke/MethodHandle" ∧ yX7_isDamageSound.cls ≠ "java/lang/invoke/VarHandle" ∧ (parseMethodDescriptor yX7_isDamageSound.desc).map (fun d => d.parameters.length) = some 0 := by decide +kernel
theorem hdV_X7_isDamageSound : yX7_isDamageSound.cls = RX7 ∧ yX7_isDamageSound.cls ≠ "java/lang/invoke/MethodHandle" ∧ yX7_isDamageSound.cls ≠ "java/lang/invoke/VarHandle" ∧ (parseMethodDescriptor yX7_isDamageSound.desc).map (fun d => d.parameters.length) = some 0 := by decide +kernel
set_option maxHeartbeats 4000000 in
set_option maxRecDepth 100000 in
theorem m_X7_isDamageSound (l : Launch) {n : Nat} {K : Kt} {F : Ft} {G : Gt} {a0 : Nat} (t0 : TShip K G a0) : Mw X l yX7_isDamageSound cX7_isDamageSound 2 (some .boolean) 2 42 0 0 [.ref a0] n K F G (some (.int (f_X7_isDamageSound K F G a0))) n K F G := by
  generalize hf : f_X7_isDamageSound K F G a0 = r
  refine Mw.of (lv := [(0, .ref a0)]) (by decide) (Nat.le_of_ble_eq_true rfl) rfl ?_
  intro p e s m args below meth c Q hC hin hQ
  have hC : Cx X p s m args meth c RX7 cX7_isDamageSound 2 (some .boolean) := hC
  rw [f_X7_isDamageSound] at hf
  refine v_aload_n hC dX7_isDamageSound_0 rfl 0 rfl ?_
  refine gq_X7_48 hC t0.1 dX7_isDamageSound_1 ?_
  refine v_ifnonnull (tgt := 9) hC dX7_isDamageSound_4 (by decide) (fun c1 => ?_) (fun c1 => ?_)
  · rw [if_neg c1] at hf
    refine v_aload_n hC dX7_isDamageSound_9 rfl 0 rfl ?_
    refine gq_X7_52 hC t0.1 dX7_isDamageSound_10 ?_
    have KJ27 : ∀ (u2 : Int32), f_X7_isDamageSound_J27 K F G a0 u2 = r → V X 2 p l e ({ frames := 2, cells := 0, slots := 0, locals := 42 } : Room) s m args below meth c Q 0 0 n K F G [(0, .ref a0)] 27 [.int u2] := by
      intro u2 hf
      rw [f_X7_isDamageSound_J27] at hf
      refine v_istore_n (i := 1) (lv' := [(1, .int u2), (0, .ref a0)]) hC dX7_isDamageSound_27 rfl (by decide) rfl ?_
      refine v_aload_n hC dX7_isDamageSound_28 rfl 1 rfl ?_
      refine gq_X7_48 hC t0.1 dX7_isDamageSound_29 ?_
      refine v_deref (gp_some c1) ?_
      refine v_callV (c2 := 0) (s2 := 0) (As := []) hC (m_X2_isSplitSound l (n := n) (K := K) (F := F) (G := G) (a0 := (gp G a0 14)) ((t0.2.2.2.1) c1)) q_X7_110 (by rw [((t0.2.2.2.1) c1)]; decide) (ce_8 ((t0.2.2.2.1) c1)) (ci := 7) rfl hdV_X2_isSplitSound rfl rfl (Nat.le_of_ble_eq_true rfl) (Nat.le_of_ble_eq_true rfl) (Nat.le_of_ble_eq_true rfl) (Nat.le_of_ble_eq_true rfl) (Nat.le_of_ble_eq_true rfl) (Nat.le_of_ble_eq_true rfl) (Nat.le_of_ble_eq_true rfl) dX7_isDamageSound_32 ?_
      have KJ67 : ∀ (u3 : Int32) (tu3 : u3 = 0 ∨ u3 = 1), f_X7_isDamageSound_J67 K F G u3 = r → V X 2 p l e ({ frames := 2, cells := 0, slots := 0, locals := 42 } : Room) s m args below meth c Q 0 0 n K F G [] 67 [.int u3] := by
        intro u3 tu3 hf
        rw [f_X7_isDamageSound_J67] at hf
        exact v_zret (ty := .boolean) hC rfl (zz_of tu3) hQ dX7_isDamageSound_67 (congrArg (fun z => some (Value.int z)) hf) rfl rfl rfl rfl
      have KJ66 : f_X7_isDamageSound_J66 K F G = r → V X 2 p l e ({ frames := 2, cells := 0, slots := 0, locals := 42 } : Room) s m args below meth c Q 0 0 n K F G [] 66 [] := by
        intro hf
        rw [f_X7_isDamageSound_J66] at hf
        refine v_iconst (v := 0) hC dX7_isDamageSound_66 (by decide) ?_
        exact KJ67 0 (Or.inl rfl) hf
      refine v_if_eq (tgt := 66) hC dX7_isDamageSound_35 (by decide) (fun c4 => ?_) (fun c4 => ?_)
      · rw [if_pos c4] at hf
        refine v_sub [] rfl ?_
        exact KJ66 hf
      · rw [if_neg c4] at hf
        refine v_aload_n hC dX7_isDamageSound_38 rfl 1 rfl ?_
        refine gq_X7_48 hC t0.1 dX7_isDamageSound_39 ?_
        refine v_deref (gp_some c1) ?_
        refine gf_X7_115 hC ((t0.2.2.2.1) c1) dX7_isDamageSound_42 ?_
        refine v_aload_n hC dX7_isDamageSound_45 rfl 1 rfl ?_
        refine gf_X7_33 hC t0.1 dX7_isDamageSound_46 ?_
        refine v_aload_n hC dX7_isDamageSound_49 rfl 1 rfl ?_
        refine gq_X7_48 hC t0.1 dX7_isDamageSound_50 ?_
        refine v_deref (gp_some c1) ?_
        refine gf_X7_118 hC ((t0.2.2.2.1) c1) dX7_isDamageSound_53 ?_
        refine v_iadd hC dX7_isDamageSound_56 ?_
        refine v_iload_n hC dX7_isDamageSound_57 rfl 0 rfl ?_
        refine v_iadd hC dX7_isDamageSound_58 ?_
        refine v_icmp_ne (tgt := 66) hC dX7_isDamageSound_59 (by decide) (fun c5 => ?_) (fun c5 => ?_)
        · rw [if_neg c5] at hf
          refine v_sub [] rfl ?_
          exact KJ66 hf
        · rw [if_pos c5] at hf
          refine v_iconst (v := 1) hC dX7_isDamageSound_62 (by decide) ?_
          refine v_goto (tgt := 67) hC dX7_isDamageSound_63 (by decide) ?_
          refine v_sub [] rfl ?_
          exact KJ67 1 (Or.inr rfl) hf
    refine v_ifnonnull (tgt := 20) hC dX7_isDamageSound_13 (by decide) (fun c6 => ?_) (fun c6 => ?_)
    · rw [if_neg c6] at hf
      refine v_aload_n hC dX7_isDamageSound_20 rfl 0 rfl ?_
      refine gq_X7_52 hC t0.1 dX7_isDamageSound_21 ?_
      refine v_deref (gp_some c6) ?_
      refine gf_X7_107 hC ((t0.2.2.2.2) c6) dX7_isDamageSound_24 ?_
      exact KJ27 (F (gp G a0 15) 1) hf
    · rw [if_pos c6] at hf
      refine v_iconst (v := 0) hC dX7_isDamageSound_16 (by decide) ?_
      refine v_goto (tgt := 27) hC dX7_isDamageSound_17 (by decide) ?_
      exact KJ27 0 hf
  · rw [if_pos c1] at hf
    refine v_iconst (v := 1) hC dX7_isDamageSound_7 (by decide) ?_
    exact v_zret (ty := .boolean) hC rfl rfl hQ dX7_isDamageSound_8 (congrArg (fun z => some (Value.int z)) hf) rfl rfl rfl rfl
def f_X7_isSoundAlone_J29 (K : Kt) (F : Ft) (G : Gt) : Int32 := 0
def f_X7_isSoundAlone_J57 (K : Kt) (F : Ft) (G : Gt) (u4 : Int32) : Int32 := u4
def f_X7_isSoundAlone_J56 (K : Kt) (F : Ft) (G : Gt) : Int32 := f_X7_isSoundAlone_J57 K F G 0
def f_X7_isSoundAlone_J45 (K : Kt) (F : Ft) (G : Gt) (a0 : Nat) : Int32 := if (f_X7_isDamageSound K F G a0) = 0 then f_X7_isSoundAlone_J56 K F G else f_X7_isSoundAlone_J57 K F G 1
def f_X7_isSoundAlone (K : Kt) (F : Ft) (G : Gt) (a0 : Nat) : Int32 := if (F a0 10) < 0 then f_X7_isSoundAlone_J29 K F G else if (F a0 2) < (F a0 10) then f_X7_isSoundAlone_J29 K F G else if (F a0 7) ≤ (F a0 2) then if (F a0 5) = 0 then if (F a0 13) = 0 then f_X7_isSoundAlone_J45 K F G a0 else f_X7_isSoundAlone_J56 K F G else f_X7_isSoundAlone_J45 K F G a0 else f_X7_isSoundAlone_J29 K F G
theorem hdS_X7_isSoundAlone : yX7_isSoundAlone.cls ≠ "java/lang/invoke/MethodHandle" ∧ yX7_isSoundAlone.cls ≠ "java/lang/invoke/VarHandle" ∧ (parseMethodDescriptor yX7_isSoundAlone.desc).map (fun d => d.parameters.length) = some 0 := by decide +kernel
theorem hdV_X7_isSoundAlone : yX7_isSoundAlone.cls = RX7 ∧ yX7_isSoundAlone.cls ≠ "java/lang/invoke/MethodHandle" ∧ yX7_isSoundAlone.cls ≠ "java/lang/invoke/VarHandle" ∧ (parseMethodDescriptor yX7_isSoundAlone.desc).map (fun d => d.parameters.length) = some 0 := by decide +kernel
set_option maxHeartbeats 4000000 in
set_option maxRecDepth 100000 in
theorem m_X7_isSoundAlone (l : Launch) {n : Nat} {K : Kt} {F : Ft} {G : Gt} {a0 : Nat} (t0 : TShip K G a0) : Mw X l yX7_isSoundAlone cX7_isSoundAlone 1 (some .boolean) 3 63 0 0 [.ref a0] n K F G (some (.int (f_X7_isSoundAlone K F G a0))) n K F G := by
  generalize hf : f_X7_isSoundAlone K F G a0 = r
  refine Mw.of (lv := [(0, .ref a0)]) (by decide) (Nat.le_of_ble_eq_true rfl) rfl ?_
  intro p e s m args below meth c Q hC hin hQ
  have hC : Cx X p s m args meth c RX7 cX7_isSoundAlone 1 (some .boolean) := hC
  rw [f_X7_isSoundAlone] at hf
  refine v_aload_n hC dX7_isSoundAlone_0 rfl 0 rfl ?_
  refine gf_X7_33 hC t0.1 dX7_isSoundAlone_1 ?_
  have KJ29 : f_X7_isSoundAlone_J29 K F G = r → V X 1 p l e ({ frames := 3, cells := 0, slots := 0, locals := 63 } : Room) s m args below meth c Q 0 0 n K F G [] 29 [] := by
    intro hf
    rw [f_X7_isSoundAlone_J29] at hf
    refine v_iconst (v := 0) hC dX7_isSoundAlone_29 (by decide) ?_
    exact v_zret (ty := .boolean) hC rfl rfl hQ dX7_isSoundAlone_30 (congrArg (fun z => some (Value.int z)) hf) rfl rfl rfl rfl
  refine v_if_lt (tgt := 29) hC dX7_isSoundAlone_4 (by decide) (fun c1 => ?_) (fun c1 => ?_)
  · rw [if_pos c1] at hf
    refine v_sub [] rfl ?_
    exact KJ29 hf
  · rw [if_neg c1] at hf
    refine v_aload_n hC dX7_isSoundAlone_7 rfl 0 rfl ?_
    refine gf_X7_33 hC t0.1 dX7_isSoundAlone_8 ?_
    refine v_aload_n hC dX7_isSoundAlone_11 rfl 0 rfl ?_
    refine gf_X7_19 hC t0.1 dX7_isSoundAlone_12 ?_
    refine v_icmp_gt (tgt := 29) hC dX7_isSoundAlone_15 (by decide) (fun c2 => ?_) (fun c2 => ?_)
    · rw [if_pos c2] at hf
      refine v_sub [] rfl ?_
      exact KJ29 hf
    · rw [if_neg c2] at hf
      refine v_aload_n hC dX7_isSoundAlone_18 rfl 0 rfl ?_
      refine gf_X7_39 hC t0.1 dX7_isSoundAlone_19 ?_
      refine v_aload_n hC dX7_isSoundAlone_22 rfl 0 rfl ?_
      refine gf_X7_19 hC t0.1 dX7_isSoundAlone_23 ?_
      refine v_icmp_le (tgt := 31) hC dX7_isSoundAlone_26 (by decide) (fun c3 => ?_) (fun c3 => ?_)
      · rw [if_pos c3] at hf
        refine v_aload_n hC dX7_isSoundAlone_31 rfl 0 rfl ?_
        refine gf_X7_29 hC t0.1 dX7_isSoundAlone_32 ?_
        have KJ57 : ∀ (u4 : Int32) (tu4 : u4 = 0 ∨ u4 = 1), f_X7_isSoundAlone_J57 K F G u4 = r → V X 1 p l e ({ frames := 3, cells := 0, slots := 0, locals := 63 } : Room) s m args below meth c Q 0 0 n K F G [] 57 [.int u4] := by
          intro u4 tu4 hf
          rw [f_X7_isSoundAlone_J57] at hf
          exact v_zret (ty := .boolean) hC rfl (zz_of tu4) hQ dX7_isSoundAlone_57 (congrArg (fun z => some (Value.int z)) hf) rfl rfl rfl rfl
        have KJ56 : f_X7_isSoundAlone_J56 K F G = r → V X 1 p l e ({ frames := 3, cells := 0, slots := 0, locals := 63 } : Room) s m args below meth c Q 0 0 n K F G [] 56 [] := by
          intro hf
          rw [f_X7_isSoundAlone_J56] at hf
          refine v_iconst (v := 0) hC dX7_isSoundAlone_56 (by decide) ?_
          exact KJ57 0 (Or.inl rfl) hf
        have KJ45 : f_X7_isSoundAlone_J45 K F G a0 = r → V X 1 p l e ({ frames := 3, cells := 0, slots := 0, locals := 63 } : Room) s m args below meth c Q 0 0 n K F G [(0, .ref a0)] 45 [] := by
          intro hf
          rw [f_X7_isSoundAlone_J45] at hf
          refine v_aload_n hC dX7_isSoundAlone_45 rfl 0 rfl ?_
          refine v_callV (c2 := 0) (s2 := 0) (As := []) hC (m_X7_isDamageSound l (n := n) (K := K) (F := F) (G := G) (a0 := a0) t0) q_X7_104 (by rw [t0.1]; decide) (ce_7 t0.1) (ci := 6) rfl hdV_X7_isDamageSound rfl rfl (Nat.le_of_ble_eq_true rfl) (Nat.le_of_ble_eq_true rfl) (Nat.le_of_ble_eq_true rfl) (Nat.le_of_ble_eq_true rfl) (Nat.le_of_ble_eq_true rfl) (Nat.le_of_ble_eq_true rfl) (Nat.le_of_ble_eq_true rfl) dX7_isSoundAlone_46 ?_
          refine v_if_eq (tgt := 56) hC dX7_isSoundAlone_49 (by decide) (fun c5 => ?_) (fun c5 => ?_)
          · rw [if_pos c5] at hf
            refine v_sub [] rfl ?_
            exact KJ56 hf
          · rw [if_neg c5] at hf
            refine v_iconst (v := 1) hC dX7_isSoundAlone_52 (by decide) ?_
            refine v_goto (tgt := 57) hC dX7_isSoundAlone_53 (by decide) ?_
            refine v_sub [] rfl ?_
            exact KJ57 1 (Or.inr rfl) hf
        refine v_if_ne (tgt := 45) hC dX7_isSoundAlone_35 (by decide) (fun c6 => ?_) (fun c6 => ?_)
        · rw [if_neg c6] at hf
          exact KJ45 hf
        · rw [if_pos c6] at hf
          refine v_aload_n hC dX7_isSoundAlone_38 rfl 0 rfl ?_
          refine gf_X7_56 hC t0.1 dX7_isSoundAlone_39 ?_
          refine v_if_ne (tgt := 56) hC dX7_isSoundAlone_42 (by decide) (fun c7 => ?_) (fun c7 => ?_)
          · rw [if_neg c7] at hf
            refine v_sub [] rfl ?_
            exact KJ56 hf
          · rw [if_pos c7] at hf
            exact KJ45 hf
      · rw [if_neg c3] at hf
        refine v_sub [] rfl ?_
        exact KJ29 hf
def f_X7_keepTerms_J40 (K : Kt) (F : Ft) (G : Gt) (a0 : Nat) (x1 : Int32) (x2 : Int32) (x3 : Int32) (u1 : Int32) : Ft := up2 (up2 (up2 (up2 F a0 6 x1) a0 7 x2) a0 8 x3) a0 9 u1
def f_X7_keepTerms_J38 (K : Kt) (F : Ft) (G : Gt) (a0 : Nat) (x1 : Int32) (x2 : Int32) (x3 : Int32) : Ft := f_X7_keepTerms_J40 K F G a0 x1 x2 x3 ((x2 * x1) / 10000)
def f_X7_keepTerms (K : Kt) (F : Ft) (G : Gt) (a0 : Nat) (x1 : Int32) (x2 : Int32) (x3 : Int32) : Ft := if ((x2 * x1) / 10000) = 0 then if x2 = 0 then f_X7_keepTerms_J38 K F G a0 x1 x2 x3 else f_X7_keepTerms_J40 K F G a0 x1 x2 x3 1 else f_X7_keepTerms_J38 K F G a0 x1 x2 x3
theorem hdS_X7_keepTerms : yX7_keepTerms.cls ≠ "java/lang/invoke/MethodHandle" ∧ yX7_keepTerms.cls ≠ "java/lang/invoke/VarHandle" ∧ (parseMethodDescriptor yX7_keepTerms.desc).map (fun d => d.parameters.length) = some 3 := by decide +kernel
theorem hdV_X7_keepTerms : yX7_keepTerms.cls = RX7 ∧ yX7_keepTerms.cls ≠ "java/lang/invoke/MethodHandle" ∧ yX7_keepTerms.cls ≠ "java/lang/invoke/VarHandle" ∧ (parseMethodDescriptor yX7_keepTerms.desc).map (fun d => d.parameters.length) = some 3 := by decide +kernel
set_option maxHeartbeats 4000000 in
set_option maxRecDepth 100000 in
theorem m_X7_keepTerms (l : Launch) {n : Nat} {K : Kt} {F : Ft} {G : Gt} {a0 : Nat} {x1 : Int32} {x2 : Int32} {x3 : Int32} (t0 : TShip K G a0) : Mw X l yX7_keepTerms cX7_keepTerms 5 none 0 0 0 0 [.ref a0, .int x1, .int x2, .int x3] n K F G none n K (f_X7_keepTerms K F G a0 x1 x2 x3) G := by
  generalize hf : f_X7_keepTerms K F G a0 x1 x2 x3 = r
  refine Mw.of (lv := [(0, .ref a0), (1, .int x1), (2, .int x2), (3, .int x3)]) (by decide) (Nat.le_of_ble_eq_true rfl) rfl ?_
  intro p e s m args below meth c Q hC hin hQ
  have hC : Cx X p s m args meth c RX7 cX7_keepTerms 5 none := hC
  rw [f_X7_keepTerms] at hf
  refine v_aload_n hC dX7_keepTerms_0 rfl 0 rfl ?_
  refine v_iload_n hC dX7_keepTerms_1 rfl 1 rfl ?_
  refine pf_X7_36 hC t0.1 dX7_keepTerms_2 ?_
  refine v_aload_n hC dX7_keepTerms_5 rfl 0 rfl ?_
  refine v_iload_n hC dX7_keepTerms_6 rfl 2 rfl ?_
  refine pf_X7_39 hC t0.1 dX7_keepTerms_7 ?_
  refine v_aload_n hC dX7_keepTerms_10 rfl 0 rfl ?_
  refine v_iload_n hC dX7_keepTerms_11 rfl 3 rfl ?_
  refine pf_X7_42 hC t0.1 dX7_keepTerms_12 ?_
  refine v_iload_n hC dX7_keepTerms_15 rfl 2 rfl ?_
  refine v_iload_n hC dX7_keepTerms_16 rfl 1 rfl ?_
  refine v_imul hC dX7_keepTerms_17 ?_
  refine v_sipush (v := 10000) hC dX7_keepTerms_18 (by decide) ?_
  refine v_idiv hC dX7_keepTerms_21 (by decide) ?_
  refine v_istore (i := 4) (lv' := [(4, .int ((x2 * x1) / 10000)), (0, .ref a0), (1, .int x1), (2, .int x2), (3, .int x3)]) hC dX7_keepTerms_22 (by decide) rfl ?_
  refine v_aload_n hC dX7_keepTerms_24 rfl 1 rfl ?_
  refine v_iload hC dX7_keepTerms_25 0 rfl ?_
  have KJ40 : ∀ (u1 : Int32), f_X7_keepTerms_J40 K F G a0 x1 x2 x3 u1 = r → V X 5 p l e ({ frames := 0, cells := 0, slots := 0, locals := 0 } : Room) s m args below meth c Q 0 0 n K (up2 (up2 (up2 F a0 6 x1) a0 7 x2) a0 8 x3) G [] 40 [.int u1, .ref a0] := by
    intro u1 hf
    rw [f_X7_keepTerms_J40] at hf
    refine pf_X7_45 hC t0.1 dX7_keepTerms_40 ?_
    exact v_vret hC rfl hQ dX7_keepTerms_43 rfl rfl rfl hf rfl
  have KJ38 : f_X7_keepTerms_J38 K F G a0 x1 x2 x3 = r → V X 5 p l e ({ frames := 0, cells := 0, slots := 0, locals := 0 } : Room) s m args below meth c Q 0 0 n K (up2 (up2 (up2 F a0 6 x1) a0 7 x2) a0 8 x3) G [(4, .int ((x2 * x1) / 10000))] 38 [.ref a0] := by
    intro hf
    rw [f_X7_keepTerms_J38] at hf
    refine v_iload hC dX7_keepTerms_38 0 rfl ?_
    refine v_sub [] rfl ?_
    exact KJ40 ((x2 * x1) / 10000) hf
  refine v_if_ne (tgt := 38) hC dX7_keepTerms_27 (by decide) (fun c2 => ?_) (fun c2 => ?_)
  · rw [if_neg c2] at hf
    refine v_sub [0] rfl ?_
    exact KJ38 hf
  · rw [if_pos c2] at hf
    refine v_iload_n hC dX7_keepTerms_30 rfl 3 rfl ?_
    refine v_if_eq (tgt := 38) hC dX7_keepTerms_31 (by decide) (fun c3 => ?_) (fun c3 => ?_)
    · rw [if_pos c3] at hf
      refine v_sub [0] rfl ?_
      exact KJ38 hf
    · rw [if_neg c3] at hf
      refine v_iconst (v := 1) hC dX7_keepTerms_34 (by decide) ?_
      refine v_goto (tgt := 40) hC dX7_keepTerms_35 (by decide) ?_
      refine v_sub [] rfl ?_
      exact KJ40 1 hf
end PM1
