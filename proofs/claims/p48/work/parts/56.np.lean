/-! the text of a slip: the builder -/
section PNP
variable {X : Xt}
section
variable {p : Program} {l : Launch} {e : Env} {R : Room} {s : State} {m : MethodId} {args : Array Value} {below : List Frame} {meth : Method} {c : Code} {nL : Nat} {Q : State → Prop} {cells slots n : Nat} {K : Kt} {F : Ft} {G : Gt} {lv : List (Nat × Value)} {pc : Nat} {st : List Value}
theorem v_toC {P : Pt5} {o : Option Value} {mc ms : Nat} (hQ : Q = MQ below (QR X P) args s mc ms (Aft X)) (hp : P o n K F G) (k : V X nL p l e R s m args below meth c (MQ below (QW X o n K F G) args s mc ms (Aft X)) cells slots n K F G lv pc st) : V X nL p l e R s m args below meth c Q cells slots n K F G lv pc st := v_toR hQ hp k
end
theorem ex_ens : Cond.selects RJ4 yJ5_ensureCapacityInternal_d00df yJ5_ensureCapacityInternal_d00df ∈ Al := List.mem_append.mpr (Or.inl (List.Mem.head _))
theorem ex_new : Cond.selects RJ4 yJ5_newCapacity_0f7a4 yJ5_newCapacity_0f7a4 ∈ Al := List.mem_append.mpr (Or.inl (List.Mem.tail _ (List.Mem.head _)))
theorem ex_put : Cond.selects RJ4 yJ5_putStringAt_47b60 yJ5_putStringAt_47b60 ∈ Al := List.mem_append.mpr (Or.inl (List.Mem.tail _ (List.Mem.tail _ (List.Mem.head _))))
theorem ex_inf : Cond.selects RJ4 yJ5_inflateIfNeededFor_a7421 yJ5_inflateIfNeededFor_a7421 ∈ Al := List.mem_append.mpr (Or.inl (List.Mem.tail _ (List.Mem.tail _ (List.Mem.tail _ (List.Mem.head _)))))
theorem qp_100 : qP RJ5 100 yJ5_ensureCapacityInternal_d00df cJ5_ensureCapacityInternal_d00df 3 none := ⟨aw_551, aw_553, ex_ens, aw_79, aw_554⟩
theorem qp_104 : qP RJ5 104 yJ5_newCapacity_0f7a4 cJ5_newCapacity_0f7a4 6 (some .int) := ⟨aw_555, aw_557, ex_new, aw_79, aw_558⟩
theorem qp_208 : qP RJ5 208 yJ5_putStringAt_47b60 cJ5_putStringAt_47b60 3 none := ⟨aw_624, aw_626, ex_put, aw_79, aw_627⟩
theorem qp_397 : qP RJ5 397 yJ5_inflateIfNeededFor_a7421 cJ5_inflateIfNeededFor_a7421 2 none := ⟨aw_628, aw_630, ex_inf, aw_79, aw_631⟩
theorem qp_83 : qP RJ5 83 yJ5_isLatin1_aae02 cJ5_isLatin1_aae02 1 (some .boolean) := ⟨aw_584, aw_585, aw_587, aw_79, aw_588⟩
theorem aw_1472 : Cond.sameMethod RJ5 RJ5 "append" "(I)Ljava/lang/AbstractStringBuilder;" ∈ Al := al_in (i := 1472) (by decide +kernel) (by decide +kernel)
theorem aw_511 : Cond.superclass RJ4 RJ5 ∈ Al := al_in (i := 511) (by decide +kernel) (by decide +kernel)
theorem qu_53 : qU RJ4 53 yJ5_append_c97b9 cJ5_append_c97b9 4 (some (.object "java/lang/AbstractStringBuilder")) := ⟨aw_662, aw_1472, aw_511, aw_663, aw_79, aw_664⟩
theorem aw_1473 : Cond.sameMethod RJ5 RJ5 "append" "(C)Ljava/lang/AbstractStringBuilder;" ∈ Al := al_in (i := 1473) (by decide +kernel) (by decide +kernel)
theorem qu_50 : qU RJ4 50 yJ5_append_3fe6f cJ5_append_3fe6f 2 (some (.object "java/lang/AbstractStringBuilder")) := ⟨aw_797, aw_1473, aw_511, aw_798, aw_79, aw_799⟩
theorem aw_1465 : Cond.sameMethod RJ5 RJ5 "append" "(Ljava/lang/String;)Ljava/lang/AbstractStringBuilder;" ∈ Al := al_in (i := 1465) (by decide +kernel) (by decide +kernel)
theorem qu_29 : qU RJ4 29 yJ5_append_cf1ce cJ5_append_cf1ce 3 (some (.object "java/lang/AbstractStringBuilder")) := ⟨aw_544, aw_1465, aw_511, aw_545, aw_79, aw_546⟩
theorem aw_703 : Cond.sameMethod RJ5 RJ5 "length" "()I" ∈ Al := al_in (i := 703) (by decide +kernel) (by decide +kernel)
theorem qu_343 : qU RJ4 343 yJ5_length_8abf5 cJ5_length_8abf5 1 (some .int) := ⟨aw_707, aw_703, aw_511, aw_702, aw_79, aw_708⟩
theorem aw_1464 : Cond.sameMethod RJ5 RJ5 "setLength" "(I)V" ∈ Al := al_in (i := 1464) (by decide +kernel) (by decide +kernel)
theorem qu_333 : qU RJ4 333 yJ5_setLength_d00df cJ5_setLength_d00df 2 none := ⟨aw_529, aw_1464, aw_511, aw_530, aw_79, aw_531⟩
set_option maxRecDepth 100000 in
set_option maxHeartbeats 4000000 in
theorem m_J5_isLatin1_aae02 (l : Launch) {n : Nat} {K : Kt} {F : Ft} {G : Gt} {q : Nat} (t0 : (K q).1 = 11) (h1 : F q 1 = 0) : Mw X l yJ5_isLatin1_aae02 cJ5_isLatin1_aae02 1 (some .boolean) 0 0 0 0 [.ref q] n K F G (some (.int 1)) n K F G := by
  refine Mw.of (lv := [(0, .ref q)]) (by decide) (Nat.le_of_ble_eq_true rfl) rfl ?_
  intro p e s m args below meth c Q hC hin hQ
  have hC : Cx X p s m args meth c RJ5 cJ5_isLatin1_aae02 1 (some .boolean) := hC
  refine v_getsC hC aw_489 dJ5_isLatin1_aae02_0 ?_
  refine v_if_eq (tgt := 17) hC dJ5_isLatin1_aae02_3 (by decide) (fun q => absurd q (by decide)) (fun _ => ?_)
  refine v_aload_n hC dJ5_isLatin1_aae02_6 rfl 0 rfl ?_
  refine gz22 hC t0 h1 dJ5_isLatin1_aae02_7 ?_
  refine v_if_ne (tgt := 17) hC dJ5_isLatin1_aae02_10 (by decide) (fun q => absurd rfl q) (fun _ => ?_)
  refine v_iconst (v := 1) hC dJ5_isLatin1_aae02_13 (by decide) ?_
  refine v_goto (tgt := 18) hC dJ5_isLatin1_aae02_14 (by decide) ?_
  exact v_zret hC rfl rfl hQ dJ5_isLatin1_aae02_18 rfl rfl rfl rfl rfl
set_option maxRecDepth 100000 in
set_option maxHeartbeats 4000000 in
theorem m_J5_newCapacity_0f7a4 (l : Launch) {n : Nat} {K : Kt} {F : Ft} {G : Gt} {q arr cap mn : Nat} (t0 : (K q).1 = 11) (h1 : F q 1 = 0) (hg : G q 0 = some arr) (ha : K arr = (22, cap)) (hcap : capS cap) (hlt : cap < mn) (hmn : mn ≤ cap + 18) : Mw X l yJ5_newCapacity_0f7a4 cJ5_newCapacity_0f7a4 6 (some .int) 2 60 0 0 [.ref q, .int (nI mn)] n K F G (some (.int (nI (2 * cap + 2)))) n K F G := by
  refine Mw.of (lv := [(0, .ref q), (1, .int (nI mn))]) (by decide) (Nat.le_of_ble_eq_true rfl) rfl ?_
  intro p e s m args below meth c Q hC hin hQ
  have hC : Cx X p s m args meth c RJ5 cJ5_newCapacity_0f7a4 6 (some .int) := hC
  obtain ⟨e1, e2, e3⟩ := nl2_eq (K := K) (F := F) (G := G) hcap hlt hmn rfl rfl rfl
  refine v_aload_n hC dJ5_newCapacity_0f7a4_0 rfl 0 rfl ?_
  refine gf_J5_15 (q := arr) hC t0 hg dJ5_newCapacity_0f7a4_1 ?_
  refine v_alen_22 (N := cap) hC ha dJ5_newCapacity_0f7a4_4 ?_
  refine v_istore_n (i := 2) (lv' := [(2, .int (nI cap)), (0, .ref q), (1, .int (nI mn))]) hC dJ5_newCapacity_0f7a4_5 rfl (by decide) rfl ?_
  refine v_iload_n hC dJ5_newCapacity_0f7a4_6 rfl 2 rfl ?_
  refine v_aload_n hC dJ5_newCapacity_0f7a4_7 rfl 1 rfl ?_
  refine gz22 hC t0 h1 dJ5_newCapacity_0f7a4_8 ?_
  refine v_ishl hC dJ5_newCapacity_0f7a4_11 ?_
  refine v_cst (congrArg Value.int (sb_shl0 _)) ?_
  refine v_istore_n (i := 3) (lv' := [(3, .int (nI mn)), (2, .int (nI cap)), (0, .ref q), (1, .int (nI mn))]) hC dJ5_newCapacity_0f7a4_12 rfl (by decide) rfl ?_
  refine v_iload_n hC dJ5_newCapacity_0f7a4_13 rfl 0 rfl ?_
  refine v_iload_n hC dJ5_newCapacity_0f7a4_14 rfl 1 rfl ?_
  refine v_isub hC dJ5_newCapacity_0f7a4_15 ?_
  refine v_istore (i := 4) (lv' := [(4, .int ((nI mn) - (nI cap))), (3, .int (nI mn)), (2, .int (nI cap)), (0, .ref q), (1, .int (nI mn))]) hC dJ5_newCapacity_0f7a4_16 (by decide) rfl ?_
  refine v_iload_n hC dJ5_newCapacity_0f7a4_18 rfl 2 rfl ?_
  refine v_iload hC dJ5_newCapacity_0f7a4_19 0 rfl ?_
  refine v_iload_n hC dJ5_newCapacity_0f7a4_21 rfl 2 rfl ?_
  refine v_iconst (v := nI 2) hC dJ5_newCapacity_0f7a4_22 (by decide) ?_
  refine v_aload_n hC dJ5_newCapacity_0f7a4_23 rfl 3 rfl ?_
  refine gz22 hC t0 h1 dJ5_newCapacity_0f7a4_24 ?_
  refine v_ishl hC dJ5_newCapacity_0f7a4_27 ?_
  refine v_cst (congrArg Value.int (sb_shl0 _)) ?_
  refine v_iadd hC dJ5_newCapacity_0f7a4_28 ?_
  refine v_callS (c2 := 0) (s2 := 0) (As := [.int (nI cap), .int (nI mn - nI cap), .int (nI cap + nI 2)]) hC (m_J8_newLength_cabcc l e1 e2) q_J5_114 hdS_J8_newLength_cabcc rfl rfl (Nat.le_of_ble_eq_true rfl) (Nat.le_of_ble_eq_true rfl) (Nat.le_of_ble_eq_true rfl) (Nat.le_of_ble_eq_true rfl) (Nat.le_of_ble_eq_true rfl) (Nat.le_of_ble_eq_true rfl) (Nat.le_of_ble_eq_true rfl) dJ5_newCapacity_0f7a4_29 ?_
  rw [e3]
  refine v_istore (i := 5) (lv' := [(5, .int (nI (2 * cap + 2))), (4, .int ((nI mn) - (nI cap))), (3, .int (nI mn)), (2, .int (nI cap)), (0, .ref q), (1, .int (nI mn))]) hC dJ5_newCapacity_0f7a4_32 (by decide) rfl ?_
  refine v_iload hC dJ5_newCapacity_0f7a4_34 0 rfl ?_
  refine v_ldc (v := 2147483647) hC aw_569 dJ5_newCapacity_0f7a4_36 ?_
  refine v_icmp_ne (tgt := 51) hC dJ5_newCapacity_0f7a4_38 (by decide) (fun _ => ?_) (fun q => ?_)
  rotate_left
  · have hb := capS_b hcap
    have q2 := congrArg Int32.toInt q
    rw [nI_toInt (by omega), show (2147483647 : Int32).toInt = 2147483647 from by decide] at q2
    omega
  refine v_iload hC dJ5_newCapacity_0f7a4_51 0 rfl ?_
  refine v_aload_n hC dJ5_newCapacity_0f7a4_53 rfl 4 rfl ?_
  refine gz22 hC t0 h1 dJ5_newCapacity_0f7a4_54 ?_
  refine v_ishr hC dJ5_newCapacity_0f7a4_57 ?_
  refine v_cst (congrArg Value.int (sb_shr0 _)) ?_
  exact v_iret hC rfl hQ dJ5_newCapacity_0f7a4_58 rfl rfl rfl rfl rfl
set_option maxRecDepth 100000 in
set_option maxHeartbeats 4000000 in
theorem m_J7_copyOf_9075b (l : Launch) {n : Nat} {K : Kt} {F : Ft} {G : Gt} {arr c1 c2 : Nat} (ha : K arr = (22, c1)) (hlt : c1 < c2) (hc2 : c2 ≤ 600) (hfit : sb_Fit (F arr)) : Mr X l yJ7_copyOf_9075b cJ7_copyOf_9075b 3 (some (.array .byte)) 1 60 1 c2 [.ref arr, .int (nI c2)] n K F G (fun o n' K' F' G' => o = some (.ref n) ∧ n' = n + 1 ∧ K' = va_up K n (22, c2) ∧ G' = G ∧ By F F' n) := by
  refine Mr.of (lv := [(0, .ref arr), (1, .int (nI c2))]) (by decide) (Nat.le_of_ble_eq_true rfl) rfl ?_
  intro p e s m args below meth c Q hC hin hQ
  have hC : Cx X p s m args meth c RJ7 cJ7_copyOf_9075b 3 (some (.array .byte)) := hC
  refine v_fresh (fun hfr => ?_)
  have har : arr ≠ n := kne hfr (by rw [ha]; exact (by decide : (22 : Nat) ≠ 0))
  refine v_iload_n hC dJ7_copyOf_9075b_0 rfl 1 rfl ?_
  refine v_aload_n hC dJ7_copyOf_9075b_1 rfl 0 rfl ?_
  refine v_alen_22 (N := c1) hC ha dJ7_copyOf_9075b_2 ?_
  refine v_icmp_ne (tgt := 14) hC dJ7_copyOf_9075b_3 (by decide) (fun _ => ?_) (fun q => absurd ((nI_eq (by omega) (by omega)).mp q) (by omega))
  refine v_iload_n hC dJ7_copyOf_9075b_14 rfl 1 rfl ?_
  refine v_newb (N := c2) hC (nI_pos (by omega)) (nI_clamp (by omega)) (by omega) (by show 0 + 1 ≤ 1; omega) (by show 0 + c2 ≤ c2; omega) dJ7_copyOf_9075b_15 ?_
  have ha1 : va_up K n (22, c2) arr = (22, c1) := (va_up_ne _ _ har).trans ha
  refine v_astore_n (i := 2) (lv' := [(2, .ref n), (0, .ref arr), (1, .int (nI c2))]) hC dJ7_copyOf_9075b_17 rfl (by decide) rfl ?_
  refine v_aload_n hC dJ7_copyOf_9075b_18 rfl 1 rfl ?_
  refine v_iconst (v := 0) hC dJ7_copyOf_9075b_19 (by decide) ?_
  refine v_aload_n hC dJ7_copyOf_9075b_20 rfl 0 rfl ?_
  refine v_iconst (v := 0) hC dJ7_copyOf_9075b_21 (by decide) ?_
  refine v_aload_n hC dJ7_copyOf_9075b_22 rfl 1 rfl ?_
  refine v_alen_22 (N := c1) hC ha1 dJ7_copyOf_9075b_23 ?_
  refine v_iload_n hC dJ7_copyOf_9075b_24 rfl 2 rfl ?_
  refine v_mmin hC aw_580 (Nat.le_of_ble_eq_true rfl) (Nat.le_of_ble_eq_true rfl) (by show 0 + 1 ≤ 1; omega) (by show 0 + c2 ≤ c2; omega) (Nat.le_of_ble_eq_true rfl) dJ7_copyOf_9075b_25 ?_
  rw [if_neg (nI_nlt (Nat.le_of_lt hlt) (by omega))]
  refine v_acopyX (n0 := c1) (N1 := c2) (f := va_up F n (fun _ => 0) arr) hC al_ac3 (by simp [va_up]) (by decide) (by decide) (nI_pos (by omega)) (by rw [nI_clamp (by omega)]; show 0 + c1 ≤ c1; omega) (by rw [nI_clamp (by omega)]; show 0 + c1 ≤ c2; omega) (fun i _ => by rw [va_up_ne _ _ har]; exact hfit _) (src_our hC ha1) (Nat.le_of_ble_eq_true rfl) (Nat.le_of_ble_eq_true rfl) (Nat.le_of_ble_eq_true rfl) dJ7_copyOf_9075b_28 ?_
  refine v_aload_n hC dJ7_copyOf_9075b_31 rfl 0 rfl ?_
  refine v_toC (o := some (.ref n)) hQ ⟨rfl, rfl, rfl, rfl, fun x hx => (va_up_ne _ _ hx).trans (va_up_ne _ _ hx), ?_⟩ ?_
  · rw [kat]
    refine sb_fitC ?_ ?_
    · rw [va_up_ne _ _ har]; exact hfit
    · rw [kat]; exact sb_fit0
  refine v_widen (k2 := 1) (n2 := c2) (by omega) (by omega) ?_
  exact v_aret hC rfl (Or.inr ⟨_, rfl⟩) rfl dJ7_copyOf_9075b_32 rfl rfl rfl rfl rfl
theorem i_subz {a b : Nat} (ha : a < 2 ^ 30) (hb : b < 2 ^ 30) : nI a - nI b ≤ 0 ↔ a ≤ b := by
  have e1 := nI_toInt (n := a) (by omega)
  have e2 := nI_toInt (n := b) (by omega)
  rw [Int32.le_iff_toInt_le, fb_subI (by rw [e1, e2]; omega) (by rw [e1, e2]; omega), e1, e2, Int32.toInt_zero]
  omega
theorem Sbf.grow {K0 K : Kt} {F0 F F' : Ft} {G0 G : Gt} {q len cap cap' n : Nat} (h : Sbf K0 F0 G0 K F G q len cap) (hn : (K n).1 = 0) (hle : cap ≤ cap') (hc : capS cap') (hB : By F F' n) : Sbf K0 F0 G0 (va_up K n (22, cap')) F' (up2 G q 0 (some n)) q len cap' := by
  obtain ⟨h1, h2, h3, h4, h5, h6, h7, arr, h8, h9, h10, h11⟩ := h
  have hq : q ≠ n := kne hn (by rw [h3]; decide)
  have h0 : (K0 n).1 = 0 := by
    by_cases e : (K0 n).1 = 0
    · exact e
    · exact absurd hn (by rw [(h1 n e).1]; exact e)
  refine ⟨fun x hx => ?_, h2, ?_, ?_, ?_, Nat.le_trans h6 hle, hc, n, by simp [up2, va_up], h0, kat, hB.2⟩
  · obtain ⟨g1, g2, g3⟩ := h1 x hx
    have hxn : x ≠ n := fun e => hx (by rw [e]; exact h0)
    have hxq : x ≠ q := fun e => hx (by rw [e]; exact h2)
    exact ⟨(va_up_ne _ _ hxn).trans g1, (hB.1 x hxn).trans g2, (up2_a _ _ hxq).trans g3⟩
  · rw [va_up_ne _ _ hq]; exact h3
  · rw [hB.1 q hq]; exact h4
  · rw [hB.1 q hq]; exact h5
set_option maxRecDepth 100000 in
set_option maxHeartbeats 4000000 in
theorem m_J5_ensureCapacityInternal_d00df (l : Launch) {n : Nat} {K : Kt} {F : Ft} {G : Gt} {K0 : Kt} {F0 : Ft} {G0 : Gt} {q len cap mn : Nat} (hS : Sbf K0 F0 G0 K F G q len cap) (hmn : mn ≤ len + 18) (hmb : mn ≤ 286) : Mr X l yJ5_ensureCapacityInternal_d00df cJ5_ensureCapacityInternal_d00df 3 none 3 120 (eC cap mn) (eS cap mn) [.ref q, .int (nI mn)] n K F G (fun o n' K' F' G' => o = none ∧ Sbf K0 F0 G0 K' F' G' q len (gw cap mn)) := by
  obtain ⟨k1, k2, k3, k4, k5⟩ := gw_ok hS.2.2.2.2.2.2.1 hS.2.2.2.2.2.1 hmn hmb
  have hS0 := hS
  obtain ⟨h1, h2, t0, h4, h5, h6, h7, arr, h8, h9, h10, h11⟩ := hS
  obtain ⟨b1, b2⟩ := capS_b h7
  refine Mr.of (lv := [(0, .ref q), (1, .int (nI mn))]) (by decide) (Nat.le_of_ble_eq_true rfl) rfl ?_
  intro p e s m args below meth c Q hC hin hQ
  have hC : Cx X p s m args meth c RJ5 cJ5_ensureCapacityInternal_d00df 3 none := hC
  refine v_aload_n hC dJ5_ensureCapacityInternal_d00df_0 rfl 0 rfl ?_
  refine gf_J5_15 (q := arr) hC t0 h8 dJ5_ensureCapacityInternal_d00df_1 ?_
  refine v_alen_22 (N := cap) hC h10 dJ5_ensureCapacityInternal_d00df_4 ?_
  refine v_aload_n hC dJ5_ensureCapacityInternal_d00df_5 rfl 0 rfl ?_
  refine gz22 hC t0 h4 dJ5_ensureCapacityInternal_d00df_6 ?_
  refine v_ishr hC dJ5_ensureCapacityInternal_d00df_9 ?_
  refine v_cst (congrArg Value.int (sb_shr0 _)) ?_
  refine v_istore_n (i := 2) (lv' := [(2, .int (nI cap)), (0, .ref q), (1, .int (nI mn))]) hC dJ5_ensureCapacityInternal_d00df_10 rfl (by decide) rfl ?_
  refine v_iload_n hC dJ5_ensureCapacityInternal_d00df_11 rfl 2 rfl ?_
  refine v_iload_n hC dJ5_ensureCapacityInternal_d00df_12 rfl 0 rfl ?_
  refine v_isub hC dJ5_ensureCapacityInternal_d00df_13 ?_
  refine v_if_le (tgt := 38) hC dJ5_ensureCapacityInternal_d00df_14 (by decide) (fun w => ?_) (fun w => ?_)
  · have hm := (i_subz (by omega) (by omega)).mp w
    refine v_toC (o := none) hQ ⟨rfl, by rw [show gw cap mn = cap from if_pos hm]; exact hS0⟩ ?_
    refine v_widen (k2 := eC cap mn) (n2 := eS cap mn) (Nat.zero_le _) (Nat.zero_le _) ?_
    exact v_vret hC rfl rfl dJ5_ensureCapacityInternal_d00df_38 rfl rfl rfl rfl rfl
  · have hm : ¬ mn ≤ cap := fun q => w ((i_subz (by omega) (by omega)).mpr q)
    have g1 : gw cap mn = 2 * cap + 2 := if_neg hm
    have g2 : eC cap mn = 1 := if_neg hm
    have g3 : eS cap mn = 2 * cap + 2 := if_neg hm
    rw [g1] at k1 k3
    refine v_fresh (fun hfr => ?_)
    refine v_aload_n hC dJ5_ensureCapacityInternal_d00df_17 rfl 1 rfl ?_
    refine v_aload_n hC dJ5_ensureCapacityInternal_d00df_18 rfl 1 rfl ?_
    refine gf_J5_15 (q := arr) hC t0 h8 dJ5_ensureCapacityInternal_d00df_19 ?_
    refine v_aload_n hC dJ5_ensureCapacityInternal_d00df_22 rfl 1 rfl ?_
    refine v_iload_n hC dJ5_ensureCapacityInternal_d00df_23 rfl 2 rfl ?_
    refine v_gcallP (S := Tr) (c2 := 0) (s2 := 0) (As := [.int (nI mn)]) hC trivial Tr_st (m_J5_newCapacity_0f7a4 l t0 h4 h8 h10 h7 (by omega) (by omega)).mr.g qp_104 t0 ⟨hdS_J5_newCapacity_0f7a4.1, hdS_J5_newCapacity_0f7a4.2⟩ rfl rfl (Nat.le_of_ble_eq_true rfl) (Nat.le_of_ble_eq_true rfl) (Nat.zero_le _) (Nat.zero_le _) (Nat.le_of_ble_eq_true rfl) (Nat.le_of_ble_eq_true rfl) (Nat.le_of_ble_eq_true rfl) dJ5_ensureCapacityInternal_d00df_24 (fun o1 n1 K1 F1 G1 hP => ?_)
    obtain ⟨rfl, rfl, rfl, rfl, rfl⟩ := hP
    refine v_aload_n hC dJ5_ensureCapacityInternal_d00df_27 rfl 1 rfl ?_
    refine gz22 hC t0 h4 dJ5_ensureCapacityInternal_d00df_28 ?_
    refine v_ishl hC dJ5_ensureCapacityInternal_d00df_31 ?_
    refine v_cst (congrArg Value.int (sb_shl0 _)) ?_
    refine v_rcallS (c2 := eC cap mn) (s2 := eS cap mn) (As := [.ref arr, .int (nI (2 * cap + 2))]) hC (m_J7_copyOf_9075b l h10 (by omega) (by omega) h11) q_J5_108 hdS_J7_copyOf_9075b rfl rfl (Nat.le_of_ble_eq_true rfl) (Nat.le_of_ble_eq_true rfl) (by show 0 + 1 ≤ eC cap mn; omega) (by show 0 + (2 * cap + 2) ≤ eS cap mn; omega) (by omega) (by omega) (Nat.le_of_ble_eq_true rfl) dJ5_ensureCapacityInternal_d00df_32 (fun o2 n2 K2 F2 G2 hP2 => ?_)
    obtain ⟨rfl, rfl, rfl, rfl, hB⟩ := hP2
    refine pf_J5_15 hC (kup hfr t0 (by decide)) dJ5_ensureCapacityInternal_d00df_35 ?_
    refine v_toC (o := none) hQ ⟨rfl, by rw [g1]; exact hS0.grow hfr (by omega) k1 hB⟩ ?_
    exact v_vret hC rfl rfl dJ5_ensureCapacityInternal_d00df_38 rfl rfl rfl rfl rfl
set_option maxRecDepth 100000 in
set_option maxHeartbeats 4000000 in
theorem m_J5_init_d00df (l : Launch) {n : Nat} {K : Kt} {F : Ft} {G : Gt} {q : Nat} (t0 : (K q).1 = 11) : Mw X l yJ5_init_d00df cJ5_init_d00df 2 none 1 40 1 16 [.ref q, .int 16] n K F G none (n + 1) (va_up K n (22, 16)) (up2 (va_up F n (fun _ => 0)) q 1 0) (up2 G q 0 (some n)) := by
  refine Mw.of (lv := [(0, .ref q), (1, .int 16)]) (by decide) (Nat.le_of_ble_eq_true rfl) rfl ?_
  intro p e s m args below meth c Q hC hin hQ
  have hC : Cx X p s m args meth c RJ5 cJ5_init_d00df 2 none := hC
  refine v_fresh (fun hfr => ?_)
  refine v_aload_n hC dJ5_init_d00df_0 rfl 0 rfl ?_
  refine v_objInit hC aw_488 (Nat.le_of_ble_eq_true rfl) (Nat.le_of_ble_eq_true rfl) (Nat.le_of_ble_eq_true rfl) dJ5_init_d00df_1 ?_
  refine v_getsC hC aw_489 dJ5_init_d00df_4 ?_
  refine v_if_eq (tgt := 25) hC dJ5_init_d00df_7 (by decide) (fun q => absurd q (by decide)) (fun _ => ?_)
  refine v_aload_n hC dJ5_init_d00df_10 rfl 0 rfl ?_
  refine v_iload_n hC dJ5_init_d00df_11 rfl 1 rfl ?_
  refine v_newb (N := 16) hC (by decide) (by decide) (by omega) (Nat.le_of_ble_eq_true rfl) (Nat.le_of_ble_eq_true rfl) dJ5_init_d00df_12 ?_
  refine pf_J5_15 hC (kup hfr t0 (by decide)) dJ5_init_d00df_14 ?_
  refine v_aload_n hC dJ5_init_d00df_17 rfl 0 rfl ?_
  refine v_iconst (v := 0) hC dJ5_init_d00df_18 (by decide) ?_
  refine pf_J5_22 hC (kup hfr t0 (by decide)) dJ5_init_d00df_19 ?_
  refine v_goto (tgt := 38) hC dJ5_init_d00df_22 (by decide) ?_
  exact v_vret hC rfl hQ dJ5_init_d00df_38 rfl rfl rfl rfl rfl
set_option maxRecDepth 100000 in
set_option maxHeartbeats 4000000 in
theorem m_J4_init_da8c8 (l : Launch) {n : Nat} {K : Kt} {F : Ft} {G : Gt} {q : Nat} (t0 : (K q).1 = 11) : Mw X l yJ4_init_da8c8 cJ4_init_da8c8 1 none 2 80 1 16 [.ref q] n K F G none (n + 1) (va_up K n (22, 16)) (up2 (va_up F n (fun _ => 0)) q 1 0) (up2 G q 0 (some n)) := by
  refine Mw.of (lv := [(0, .ref q)]) (by decide) (Nat.le_of_ble_eq_true rfl) rfl ?_
  intro p e s m args below meth c Q hC hin hQ
  have hC : Cx X p s m args meth c RJ4 cJ4_init_da8c8 1 none := hC
  refine v_aload_n hC dJ4_init_da8c8_0 rfl 0 rfl ?_
  refine v_bipush (v := 16) hC dJ4_init_da8c8_1 (by decide) ?_
  refine v_callI (c2 := 1) (s2 := 16) (As := [.int 16]) hC (m_J5_init_d00df l t0) q_J4_1 rfl hdS_J5_init_d00df rfl rfl (Nat.le_of_ble_eq_true rfl) (Nat.le_of_ble_eq_true rfl) (Nat.le_of_ble_eq_true rfl) (Nat.le_of_ble_eq_true rfl) (Nat.le_of_ble_eq_true rfl) (Nat.le_of_ble_eq_true rfl) (Nat.le_of_ble_eq_true rfl) dJ4_init_da8c8_3 ?_
  exact v_vret hC rfl hQ dJ4_init_da8c8_6 rfl rfl rfl rfl rfl
set_option maxRecDepth 100000 in
set_option maxHeartbeats 4000000 in
theorem m_J5_length_8abf5 (l : Launch) {n : Nat} {K : Kt} {F : Ft} {G : Gt} {q : Nat} (t0 : (K q).1 = 11) : Mw X l yJ5_length_8abf5 cJ5_length_8abf5 1 (some .int) 0 0 0 0 [.ref q] n K F G (some (.int (F q 3))) n K F G := by
  refine Mw.of (lv := [(0, .ref q)]) (by decide) (Nat.le_of_ble_eq_true rfl) rfl ?_
  intro p e s m args below meth c Q hC hin hQ
  have hC : Cx X p s m args meth c RJ5 cJ5_length_8abf5 1 (some .int) := hC
  refine v_aload_n hC dJ5_length_8abf5_0 rfl 0 rfl ?_
  refine gf_J5_79 hC t0 dJ5_length_8abf5_1 ?_
  exact v_iret hC rfl hQ dJ5_length_8abf5_4 rfl rfl rfl rfl rfl
set_option maxRecDepth 100000 in
set_option maxHeartbeats 4000000 in
theorem m_J4_length_8abf5 (l : Launch) {n : Nat} {K : Kt} {F : Ft} {G : Gt} {q : Nat} (t0 : (K q).1 = 11) : Mr X l yJ4_length_8abf5 cJ4_length_8abf5 1 (some .int) 1 40 0 0 [.ref q] n K F G (fun o n' K' F' G' => o = some (.int (F q 3)) ∧ n' = n ∧ K' = K ∧ F' = F ∧ G' = G) := by
  refine Mr.of (lv := [(0, .ref q)]) (by decide) (Nat.le_of_ble_eq_true rfl) rfl ?_
  intro p e s m args below meth c Q hC hin hQ
  have hC : Cx X p s m args meth c RJ4 cJ4_length_8abf5 1 (some .int) := hC
  refine v_aload_n hC dJ4_length_8abf5_0 rfl 0 rfl ?_
  refine v_gcallU (S := Tr) (c2 := 0) (s2 := 0) (As := []) hC trivial Tr_st (m_J5_length_8abf5 l t0).mr.g qu_343 t0 ⟨by decide, hdS_J5_length_8abf5.2.2⟩ rfl rfl (Nat.le_of_ble_eq_true rfl) (Nat.le_of_ble_eq_true rfl) (Nat.le_of_ble_eq_true rfl) (Nat.le_of_ble_eq_true rfl) (Nat.le_of_ble_eq_true rfl) (Nat.le_of_ble_eq_true rfl) (Nat.le_of_ble_eq_true rfl) dJ4_length_8abf5_1 (fun o1 n1 K1 F1 G1 hP => ?_)
  obtain ⟨rfl, rfl, rfl, rfl, rfl⟩ := hP
  refine v_toC hQ ⟨rfl, rfl, rfl, rfl, rfl⟩ ?_
  exact v_iret hC rfl rfl dJ4_length_8abf5_4 rfl rfl rfl rfl rfl
theorem Sbf.cnt {K0 K : Kt} {F0 F : Ft} {G0 G : Gt} {q len cap len' : Nat} (h : Sbf K0 F0 G0 K F G q len cap) (hl : len' ≤ cap) : Sbf K0 F0 G0 K (up2 F q 3 (nI len')) G q len' cap := by
  obtain ⟨h1, h2, h3, h4, h5, h6, h7, arr, h8, h9, h10, h11⟩ := h
  have hqa : arr ≠ q := fun e => by rw [← e, h10] at h3; cases h3
  refine ⟨fun x hx => ?_, h2, h3, by simp [up2, va_up] at h4 ⊢; exact h4, by simp [up2, va_up], hl, h7, arr, h8, h9, h10, by rw [up2_a _ _ hqa]; exact h11⟩
  obtain ⟨g1, g2, g3⟩ := h1 x hx
  exact ⟨g1, (up2_a _ _ (fun e => hx (by rw [e]; exact h2))).trans g2, g3⟩
theorem Sbf.may {K0 K : Kt} {F0 F : Ft} {G0 G : Gt} {q len cap : Nat} (h : Sbf K0 F0 G0 K F G q len cap) : Sbf K0 F0 G0 K (up2 F q 2 1) G q len cap := by
  obtain ⟨h1, h2, h3, h4, h5, h6, h7, arr, h8, h9, h10, h11⟩ := h
  have hqa : arr ≠ q := fun e => by rw [← e, h10] at h3; cases h3
  refine ⟨fun x hx => ?_, h2, h3, by simp [up2, va_up] at h4 ⊢; exact h4, by simp [up2, va_up] at h5 ⊢; exact h5, h6, h7, arr, h8, h9, h10, by rw [up2_a _ _ hqa]; exact h11⟩
  obtain ⟨g1, g2, g3⟩ := h1 x hx
  exact ⟨g1, (up2_a _ _ (fun e => hx (by rw [e]; exact h2))).trans g2, g3⟩
set_option maxRecDepth 100000 in
set_option maxHeartbeats 4000000 in
theorem m_J5_setLength_d00df (l : Launch) {n : Nat} {K : Kt} {F : Ft} {G : Gt} {K0 : Kt} {F0 : Ft} {G0 : Gt} {q len cap : Nat} (hS : Sbf K0 F0 G0 K F G q len cap) : Mr X l yJ5_setLength_d00df cJ5_setLength_d00df 2 none 4 160 0 0 [.ref q, .int 0] n K F G (fun o n' K' F' G' => o = none ∧ Sbf K0 F0 G0 K' F' G' q 0 cap) := by
  refine Mr.of (lv := [(0, .ref q), (1, .int 0)]) (by decide) (Nat.le_of_ble_eq_true rfl) rfl ?_
  intro p e s m args below meth c Q hC hin hQ
  have hC : Cx X p s m args meth c RJ5 cJ5_setLength_d00df 2 none := hC
  have e0 : eC cap 0 = 0 := if_pos (Nat.zero_le _)
  have e1 : eS cap 0 = 0 := if_pos (Nat.zero_le _)
  have e2 : gw cap 0 = cap := if_pos (Nat.zero_le _)
  refine v_iload_n hC dJ5_setLength_d00df_0 rfl 1 rfl ?_
  refine v_if_ge (tgt := 13) hC dJ5_setLength_d00df_1 (by decide) (fun _ => ?_) (fun q => absurd (Int32.le_refl _) q)
  refine v_aload_n hC dJ5_setLength_d00df_13 rfl 0 rfl ?_
  refine v_iload_n hC dJ5_setLength_d00df_14 rfl 1 rfl ?_
  refine v_gcallP (S := Tr) (c2 := 0 + eC cap 0) (s2 := 0 + eS cap 0) (As := [.int (nI 0)]) hC trivial Tr_st (m_J5_ensureCapacityInternal_d00df l hS (Nat.zero_le _) (Nat.zero_le _)).g qp_100 hS.2.2.1 ⟨hdS_J5_ensureCapacityInternal_d00df.1, hdS_J5_ensureCapacityInternal_d00df.2⟩ rfl rfl (Nat.le_of_ble_eq_true rfl) (Nat.le_of_ble_eq_true rfl) (by show 0 + eC cap 0 ≤ 0; omega) (by show 0 + eS cap 0 ≤ 0; omega) (Nat.le_refl _) (Nat.le_refl _) (Nat.le_of_ble_eq_true rfl) dJ5_setLength_d00df_15 (fun o1 n1 K1 F1 G1 hP => ?_)
  obtain ⟨rfl, S1⟩ := hP
  rw [e2] at S1
  have hb := capS_b S1.2.2.2.2.2.2.1
  have hl := S1.2.2.2.2.2.1
  refine v_aload_n hC dJ5_setLength_d00df_18 rfl 0 rfl ?_
  refine gz79 hC S1.2.2.1 S1.2.2.2.2.1 dJ5_setLength_d00df_19 ?_
  refine v_iload_n hC dJ5_setLength_d00df_22 rfl 1 rfl ?_
  refine v_icmp_ge (tgt := 63) hC dJ5_setLength_d00df_23 (by decide) (fun _ => ?_) (fun q => absurd (nI_pos' (by omega)) q)
  refine v_aload_n hC dJ5_setLength_d00df_63 rfl 0 rfl ?_
  refine gz79 hC S1.2.2.1 S1.2.2.2.2.1 dJ5_setLength_d00df_64 ?_
  refine v_iload_n hC dJ5_setLength_d00df_67 rfl 1 rfl ?_
  refine v_icmp_le (tgt := 76) hC dJ5_setLength_d00df_68 (by decide) (fun _ => ?_) (fun _ => ?_)
  · refine v_aload_n hC dJ5_setLength_d00df_76 rfl 0 rfl ?_
    refine v_iload_n hC dJ5_setLength_d00df_77 rfl 1 rfl ?_
    refine pf_J5_79 hC S1.2.2.1 dJ5_setLength_d00df_78 ?_
    refine v_toC hQ ⟨rfl, S1.cnt (len' := 0) (Nat.zero_le _)⟩ ?_
    refine v_widen (k2 := 0) (n2 := 0) (by omega) (by omega) ?_
    exact v_vret hC rfl rfl dJ5_setLength_d00df_81 rfl rfl rfl rfl rfl
  · refine v_aload_n hC dJ5_setLength_d00df_71 rfl 0 rfl ?_
    refine v_iconst (v := 1) hC dJ5_setLength_d00df_72 (by decide) ?_
    refine pf_J5_73 hC S1.2.2.1 dJ5_setLength_d00df_73 ?_
    have S2 := S1.may
    refine v_aload_n hC dJ5_setLength_d00df_76 rfl 0 rfl ?_
    refine v_iload_n hC dJ5_setLength_d00df_77 rfl 1 rfl ?_
    refine pf_J5_79 hC S2.2.2.1 dJ5_setLength_d00df_78 ?_
    refine v_toC hQ ⟨rfl, S2.cnt (len' := 0) (Nat.zero_le _)⟩ ?_
    refine v_widen (k2 := 0) (n2 := 0) (by omega) (by omega) ?_
    exact v_vret hC rfl rfl dJ5_setLength_d00df_81 rfl rfl rfl rfl rfl
set_option maxRecDepth 100000 in
set_option maxHeartbeats 4000000 in
theorem m_J4_setLength_d00df (l : Launch) {n : Nat} {K : Kt} {F : Ft} {G : Gt} {K0 : Kt} {F0 : Ft} {G0 : Gt} {q len cap : Nat} (hS : Sbf K0 F0 G0 K F G q len cap) : Mr X l yJ4_setLength_d00df cJ4_setLength_d00df 2 none 5 200 0 0 [.ref q, .int 0] n K F G (fun o n' K' F' G' => o = none ∧ Sbf K0 F0 G0 K' F' G' q 0 cap) := by
  refine Mr.of (lv := [(0, .ref q), (1, .int 0)]) (by decide) (Nat.le_of_ble_eq_true rfl) rfl ?_
  intro p e s m args below meth c Q hC hin hQ
  have hC : Cx X p s m args meth c RJ4 cJ4_setLength_d00df 2 none := hC
  refine v_aload_n hC dJ4_setLength_d00df_0 rfl 0 rfl ?_
  refine v_iload_n hC dJ4_setLength_d00df_1 rfl 1 rfl ?_
  refine v_gcallU (S := Tr) (c2 := 0) (s2 := 0) (As := [.int 0]) hC trivial Tr_st (m_J5_setLength_d00df l hS).g qu_333 hS.2.2.1 ⟨by decide, hdS_J5_setLength_d00df.2.2⟩ rfl rfl (Nat.le_of_ble_eq_true rfl) (Nat.le_of_ble_eq_true rfl) (Nat.le_of_ble_eq_true rfl) (Nat.le_of_ble_eq_true rfl) (Nat.le_of_ble_eq_true rfl) (Nat.le_of_ble_eq_true rfl) (Nat.le_of_ble_eq_true rfl) dJ4_setLength_d00df_2 (fun o1 n1 K1 F1 G1 hP => ?_)
  obtain ⟨rfl, S1⟩ := hP
  refine v_toC hQ ⟨rfl, S1⟩ ?_
  exact v_vret hC rfl rfl dJ4_setLength_d00df_5 rfl rfl rfl rfl rfl
end PNP
