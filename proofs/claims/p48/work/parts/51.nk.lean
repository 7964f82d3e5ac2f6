/-! the law's small methods, and isSo -/
section PNK
variable {X : Xt} {b L : Nat} {xs : Nat → Int32}
theorem hdS_L_below : yL_below.cls ≠ "java/lang/invoke/MethodHandle" ∧ yL_below.cls ≠ "java/lang/invoke/VarHandle" ∧ (parseMethodDescriptor yL_below.desc).map (fun d => d.parameters.length) = some 2 := by decide +kernel
theorem hdV_L_below : yL_below.cls = RL ∧ yL_below.cls ≠ "java/lang/invoke/MethodHandle" ∧ yL_below.cls ≠ "java/lang/invoke/VarHandle" ∧ (parseMethodDescriptor yL_below.desc).map (fun d => d.parameters.length) = some 2 := by decide +kernel
theorem hdS_L_cell : yL_cell.cls ≠ "java/lang/invoke/MethodHandle" ∧ yL_cell.cls ≠ "java/lang/invoke/VarHandle" ∧ (parseMethodDescriptor yL_cell.desc).map (fun d => d.parameters.length) = some 2 := by decide +kernel
theorem hdV_L_cell : yL_cell.cls = RL ∧ yL_cell.cls ≠ "java/lang/invoke/MethodHandle" ∧ yL_cell.cls ≠ "java/lang/invoke/VarHandle" ∧ (parseMethodDescriptor yL_cell.desc).map (fun d => d.parameters.length) = some 2 := by decide +kernel
theorem hdS_L_isSo : yL_isSo.cls ≠ "java/lang/invoke/MethodHandle" ∧ yL_isSo.cls ≠ "java/lang/invoke/VarHandle" ∧ (parseMethodDescriptor yL_isSo.desc).map (fun d => d.parameters.length) = some 1 := by decide +kernel
theorem hdV_L_isSo : yL_isSo.cls = RL ∧ yL_isSo.cls ≠ "java/lang/invoke/MethodHandle" ∧ yL_isSo.cls ≠ "java/lang/invoke/VarHandle" ∧ (parseMethodDescriptor yL_isSo.desc).map (fun d => d.parameters.length) = some 1 := by decide +kernel
def bel (v m : Int32) : Int32 := (v &&& 2147483647) - (v &&& 2147483647) / m * m
theorem bel_nI {v m : Int32} {k : Nat} (hm : m.toInt = (k : Int)) (hk : 0 < k) : ∃ i, i < k ∧ bel v m = nI i := rem_nI (and_nn v) hm hk
theorem m_L_below (l : Launch) {n : Nat} {K : Kt} {F : Ft} {G : Gt} {v m : Int32} (hm : ¬ m = 0) : Mw X l yL_below cL_below 2 (some .int) 0 0 0 0 [.int v, .int m] n K F G (some (.int (bel v m))) n K F G := by
  refine Mw.of (lv := [(0, .int v), (1, .int m)]) (by decide) (Nat.le_of_ble_eq_true rfl) rfl ?_
  intro p e s m' args below meth c Q hC hin hQ
  have hC : Cx X p s m' args meth c RL cL_below 2 (some .int) := hC
  refine v_iload_n hC dL_below_0 rfl 0 rfl ?_
  refine v_ldc (v := 2147483647) hC aw_852 dL_below_1 ?_
  refine v_iand hC dL_below_3 ?_
  refine v_iload_n hC dL_below_4 rfl 1 rfl ?_
  refine v_irem hC dL_below_5 hm ?_
  exact v_iret hC rfl hQ dL_below_6 rfl rfl rfl rfl rfl
theorem m_L_cell (l : Launch) {n : Nat} {K : Kt} {F : Ft} {G : Gt} {k : Int32} (hk : 0 ≤ k) (hL : L < 2 ^ 31) : Ms X l yL_cell cL_cell 2 (some .int) 0 0 0 0 [.ref b, .int k] b L xs n K F G (fun o n' K' F' G' => (∃ v, o = some (.int v)) ∧ n' = n ∧ K' = K ∧ F' = F ∧ G' = G) := by
  refine Ms.of (lv := [(0, .ref b), (1, .int k)]) (by decide) (Nat.le_of_ble_eq_true rfl) rfl ?_
  intro p e s m args below meth c Q hC hSc hQ
  have hC : Cx X p s m args meth c RL cL_cell 2 (some .int) := hC
  refine v_iload_n hC dL_cell_0 rfl 1 rfl ?_
  refine v_aload_n hC dL_cell_1 rfl 0 rfl ?_
  refine v_slen hC hSc dL_cell_2 ?_
  have KE : ∀ w, V X 2 p l e ({ frames := 0, cells := 0, slots := 0, locals := 0 } : Room) s m args below meth c Q 0 0 n K F G [(0, .ref b), (1, .int k)] 18 [.int w] := by
    intro w
    refine v_toR (n' := n) hQ ⟨⟨w, rfl⟩, rfl, rfl, rfl, rfl⟩ ?_
    exact v_iret hC rfl rfl dL_cell_18 rfl rfl rfl rfl rfl
  refine v_icmp_ge (tgt := 12) hC dL_cell_3 (by decide) (fun _ => ?_) (fun q => ?_)
  · refine v_ldc (v := 790386105) hC aw_856 dL_cell_12 ?_
    refine v_iload_n hC dL_cell_14 rfl 1 rfl ?_
    refine v_iconst (v := 3) hC dL_cell_15 (by decide) ?_
    refine v_iadd hC dL_cell_16 ?_
    refine v_imul hC dL_cell_17 ?_
    exact KE _
  · refine v_aload_n hC dL_cell_6 rfl 0 rfl ?_
    refine v_iload_n hC dL_cell_7 rfl 1 rfl ?_
    refine v_sld hC hSc (vin_c hk (Int32.not_le.mp q) hL) dL_cell_8 ?_
    refine v_goto (tgt := 18) hC dL_cell_9 (by decide) ?_
    exact KE _
theorem i64_of (x : Int32) : x.toInt64 = Int64.ofInt x.toInt := by
  refine Int64.toInt_inj.mp ?_
  have r := fb_rng x
  rw [Int32.toInt_toInt64, Int64.toInt_ofInt, fb_bmodL (by omega) (by omega)]
theorem cnt_F {K : Kt} {F F' : Ft} {G : Gt} {a0 a1 : Nat} : ∀ (k j : Nat) (w : Int32), f_X8_countOfShipmentsUnder_L4 K F G a0 a1 k j w = f_X8_countOfShipmentsUnder_L4 K F' G a0 a1 k j w := by
  intro k
  induction k with
  | zero => intro j w; rfl
  | succ k ih =>
    intro j w
    rw [f_X8_countOfShipmentsUnder_L4, f_X8_countOfShipmentsUnder_L4]
    unfold f_X8_countOfShipmentsUnder_J36
    rw [ih, ih]
theorem mk6_n : ∀ b1 b2 b3 b4 b5 b6 : Bool, (b3 = false → mk6 b1 b2 b3 b4 b5 b6 &&& 4 = 0) ∧ True ∧ True := by decide +kernel
theorem vp_nI {i N : Nat} (h : i < N) (hN : N < 2 ^ 31) : vp_in (nI i) N := by
  rintro (q | q)
  · rw [Int32.lt_iff_toInt_lt, nI_toInt (by omega), Int32.toInt_zero] at q; omega
  · rw [nI_clamp (by omega)] at q; omega
theorem i_zadd (a b c : Int32) : 0 + a + b + c = a + b + c := by rw [Int32.zero_add]
set_option maxHeartbeats 4000000 in
set_option maxRecDepth 100000 in
theorem m_L_isSo (l : Launch) {n : Nat} {K : Kt} {F : Ft} {G : Gt} {a0 : Nat} {B : Int} (hk : IK X K G a0) (h : IV B K F G a0) (z1 : sz K G a0 1 = 6) (z2 : sz K G a0 2 = 3) (z3 : sz K G a0 3 = 3) : Mr X l yL_isSo cL_isSo 10 (some .boolean) 8 176 1 3 [.ref a0] n K F G (fun o n' K' F' G' => o = some (.int 1) ∧ Old K F G K' F' G' a0 7 ∧ IK X K' G' a0 ∧ IV B K' F' G' a0) := by
  refine Mr.of (lv := [(0, .ref a0)]) (by decide) (Nat.le_of_ble_eq_true rfl) rfl ?_
  intro p e s m args below meth c Q hC hin hQ
  have hC : Cx X p s m args meth c RL cL_isSo 10 (some .boolean) := hC
  have tm := hk.1.1
  refine v_aload_n hC dL_isSo_0 rfl 0 rfl ?_
  refine v_bipush (v := nI 7) hC dL_isSo_1 (by decide) ?_
  refine v_callV (c2 := 0) (s2 := 0) (As := [.int (nI 7)]) hC (m_X8_books l (x1 := 7) tm (by decide)) q_L_47 (by rw [tm.1]; decide) (ce_1 tm.1) (ci := 0) rfl hdV_X8_books rfl rfl (Nat.le_of_ble_eq_true rfl) (Nat.le_of_ble_eq_true rfl) (Nat.le_of_ble_eq_true rfl) (Nat.le_of_ble_eq_true rfl) (Nat.le_of_ble_eq_true rfl) (Nat.le_of_ble_eq_true rfl) (Nat.le_of_ble_eq_true rfl) dL_isSo_3 ?_
  rw [bk7]
  refine v_i2l hC dL_isSo_6 ?_
  refine v_aload_n hC dL_isSo_7 rfl 0 rfl ?_
  refine v_bipush (v := nI 8) hC dL_isSo_8 (by decide) ?_
  refine v_callV (c2 := 0) (s2 := 0) (As := [.int (nI 8)]) hC (m_X8_books l (x1 := 8) tm (by decide)) q_L_47 (by rw [tm.1]; decide) (ce_1 tm.1) (ci := 0) rfl hdV_X8_books rfl rfl (Nat.le_of_ble_eq_true rfl) (Nat.le_of_ble_eq_true rfl) (Nat.le_of_ble_eq_true rfl) (Nat.le_of_ble_eq_true rfl) (Nat.le_of_ble_eq_true rfl) (Nat.le_of_ble_eq_true rfl) (Nat.le_of_ble_eq_true rfl) dL_isSo_10 ?_
  rw [bk8]
  refine v_i2l hC dL_isSo_13 ?_
  refine v_ladd hC dL_isSo_14 ?_
  refine v_aload_n hC dL_isSo_15 rfl 0 rfl ?_
  refine v_bipush (v := nI 9) hC dL_isSo_16 (by decide) ?_
  refine v_callV (c2 := 0) (s2 := 0) (As := [.int (nI 9)]) hC (m_X8_books l (x1 := 9) tm (by decide)) q_L_47 (by rw [tm.1]; decide) (ce_1 tm.1) (ci := 0) rfl hdV_X8_books rfl rfl (Nat.le_of_ble_eq_true rfl) (Nat.le_of_ble_eq_true rfl) (Nat.le_of_ble_eq_true rfl) (Nat.le_of_ble_eq_true rfl) (Nat.le_of_ble_eq_true rfl) (Nat.le_of_ble_eq_true rfl) (Nat.le_of_ble_eq_true rfl) dL_isSo_18 ?_
  rw [bk9]
  refine v_i2l hC dL_isSo_21 ?_
  refine v_ladd hC dL_isSo_22 ?_
  refine v_aload_n hC dL_isSo_23 rfl 0 rfl ?_
  refine v_bipush (v := nI 10) hC dL_isSo_24 (by decide) ?_
  refine v_callV (c2 := 0) (s2 := 0) (As := [.int (nI 10)]) hC (m_X8_books l (x1 := 10) tm (by decide)) q_L_47 (by rw [tm.1]; decide) (ce_1 tm.1) (ci := 0) rfl hdV_X8_books rfl rfl (Nat.le_of_ble_eq_true rfl) (Nat.le_of_ble_eq_true rfl) (Nat.le_of_ble_eq_true rfl) (Nat.le_of_ble_eq_true rfl) (Nat.le_of_ble_eq_true rfl) (Nat.le_of_ble_eq_true rfl) (Nat.le_of_ble_eq_true rfl) dL_isSo_26 ?_
  rw [bk10]
  refine v_i2l hC dL_isSo_29 ?_
  refine v_ladd hC dL_isSo_30 ?_
  rw [i64_of, i64_of, i64_of, i64_of, ← Int64.ofInt_add, ← Int64.ofInt_add, ← Int64.ofInt_add]
  obtain ⟨z, hz⟩ : ∃ z : Int, z = (F (gp G a0 5) 0).toInt + (F (gp G a0 6) 0).toInt + (F (gp G a0 7) 0).toInt + (F (gp G a0 8) 0).toInt := ⟨_, rfl⟩
  rw [← hz]
  have ht : z + sm (fun i => (F (gp G (eo G a0 2 i) 1) 0).toInt) 3 0 + sm (fun i => (F (gp G (eo G a0 1 i) 3) 0).toInt) 6 0 = 0 := by
    have t := h.1.1
    rw [tot_cs, z1, z2] at t
    rw [hz]; exact t
  refine v_lstore_n (i := 1) (lv' := [(1, .long (Int64.ofInt z)), (0, .ref a0)]) hC dL_isSo_31 rfl (by decide) rfl ?_
  refine v_iconst (v := nI 0) hC dL_isSo_32 (by decide) ?_
  refine v_istore_n (i := 3) (lv' := [(3, .int (nI 0)), (1, .long (Int64.ofInt z)), (0, .ref a0)]) hC dL_isSo_33 rfl (by decide) rfl ?_
  have KT : V X 10 p l e ({ frames := 8, cells := 1, slots := 3, locals := 176 } : Room) s m args below meth c Q 0 0 n K F G [(0, .ref a0)] 113 [] := by
    refine v_iconst (v := 3) hC dL_isSo_113 (by decide) ?_
    refine v_fresh (fun hfr => ?_)
    refine v_newi (N := 3) hC (by decide) (by decide) (by decide) (Nat.le_of_ble_eq_true rfl) (Nat.le_of_ble_eq_true rfl) dL_isSo_114 ?_
    refine v_astore_n (i := 3) (lv' := [(3, .ref n), (0, .ref a0)]) hC dL_isSo_116 rfl (by decide) rfl ?_
    have E : Ext K G (va_up K n (20, 3)) G := fun x hx => ⟨va_up_ne _ _ (kne hfr hx), rfl⟩
    have hS1 : Str X (va_up K n (20, 3)) G a0 := hk.1.ext E
    have oF : ∀ F2 : Ft, (∀ x, x ≠ n → F2 x = F x) → Old K F G (va_up K n (20, 3)) F2 G a0 7 := fun F2 h2 => old_new hk.1 E (fun x hx => h2 x (kne hfr hx))
    have k1 : IK X (va_up K n (20, 3)) G a0 := ((oF F (fun _ _ => rfl)).nol hk h hS1).1
    have vF : ∀ F2 : Ft, (∀ x, x ≠ n → F2 x = F x) → IV B (va_up K n (20, 3)) F2 G a0 := fun F2 h2 => ((oF F2 h2).nol hk h hS1).2
    have kn : va_up K n (20, 3) n = (20, 3) := kat
    obtain ⟨K1, hK1⟩ : ∃ K1, K1 = va_up K n (20, 3) := ⟨_, rfl⟩
    have y3 : sz K1 G a0 3 = 3 := by rw [hK1]; exact ((oF F (fun _ _ => rfl)).szn (i := 3) (by decide) (by decide)).trans z3
    have y4 : sz K1 G a0 4 = sz K G a0 4 := by rw [hK1]; exact (oF F (fun _ _ => rfl)).szn (i := 4) (by decide) (by decide)
    rw [← hK1] at k1 vF kn oF ⊢
    have tm1 := k1.1.1
    have hz4 : sz K1 G a0 4 ≤ 48 := tm1.2.2.2.2.2.1.2.2.1
    have KP : ∀ (j k : Nat) (F2 : Ft), k + j = 3 → (∀ x, x ≠ n → F2 x = F x) → (∀ q, q < 3 → F2 n q = f_X8_countOfShipmentsUnder K1 F2 G a0 (eo G a0 3 q)) → V X 10 p l e ({ frames := 8, cells := 1, slots := 3, locals := 176 } : Room) s m args below meth c Q 1 3 (n + 1) K1 F2 G [(4, .int (nI k)), (3, .ref n), (0, .ref a0)] 412 [] := by
      intro j
      induction j with
      | zero =>
        intro k F2 hj h2 hc
        refine v_iload hC dL_isSo_412 0 rfl ?_
        refine v_iconst (v := nI 3) hC dL_isSo_414 (by decide) ?_
        refine v_icmp_ge (tgt := 440) hC dL_isSo_415 (by decide) (fun _ => ?_) (fun q => absurd (lp_z hj) q)
        refine v_aload_n hC dL_isSo_440 rfl 2 rfl ?_
        have v2 := vF F2 h2
        refine v_callV (c2 := 1) (s2 := 3) (As := []) hC (m_X8_isSound l tm1) q_L_133 (by rw [tm1.1]; decide) (ce_1 tm1.1) (ci := 0) rfl hdV_X8_isSound rfl rfl (Nat.le_of_ble_eq_true rfl) (Nat.le_of_ble_eq_true rfl) (Nat.le_of_ble_eq_true rfl) (Nat.le_of_ble_eq_true rfl) (Nat.le_of_ble_eq_true rfl) (Nat.le_of_ble_eq_true rfl) (Nat.le_of_ble_eq_true rfl) dL_isSo_441 ?_
        rw [sound_1 v2]
        refine v_toR (n' := n + 1) hQ ⟨rfl, oF F2 h2, k1, v2⟩ ?_
        exact v_zret hC rfl (by decide) rfl dL_isSo_444 rfl rfl rfl rfl rfl
      | succ j ih =>
        intro k F2 hj h2 hc
        refine v_iload hC dL_isSo_412 0 rfl ?_
        refine v_iconst (v := nI 3) hC dL_isSo_414 (by decide) ?_
        refine v_icmp_ge (tgt := 440) hC dL_isSo_415 (by decide) (fun q => absurd q (lp_s hj (by decide))) (fun _ => ?_)
        refine v_aload_n hC dL_isSo_418 rfl 2 rfl ?_
        refine v_iload hC dL_isSo_419 0 rfl ?_
        refine v_iconst (v := nI 5) hC dL_isSo_421 (by decide) ?_
        have hk3 : k < sz K1 G a0 3 := by rw [y3]; omega
        refine v_callV (c2 := 1) (s2 := 3) (As := [.int (nI k), .int (nI 5)]) hC (m_X8_ofPolicy l (x1 := k) (x2 := 5) tm1 hk3 (by decide)) q_L_122 (by rw [tm1.1]; decide) (ce_1 tm1.1) (ci := 0) rfl hdV_X8_ofPolicy rfl rfl (Nat.le_of_ble_eq_true rfl) (Nat.le_of_ble_eq_true rfl) (Nat.le_of_ble_eq_true rfl) (Nat.le_of_ble_eq_true rfl) (Nat.le_of_ble_eq_true rfl) (Nat.le_of_ble_eq_true rfl) (Nat.le_of_ble_eq_true rfl) dL_isSo_422 ?_
        rw [po5, ← hc k (by omega)]
        refine v_aload_n hC dL_isSo_425 rfl 1 rfl ?_
        refine v_iload hC dL_isSo_426 0 rfl ?_
        refine v_iald (N := 3) hC kn (vp_nI (by omega) (by decide)) dL_isSo_428 ?_
        rw [nI_clamp (by omega)]
        refine v_icmp_eq (tgt := 434) hC dL_isSo_429 (by decide) (fun _ => ?_) (fun q => absurd rfl q)
        refine v_iinc (lv' := [(4, .int (nI (k + 1))), (3, .ref n), (0, .ref a0)]) (v := nI (k + 1)) hC dL_isSo_434 0 rfl (nI_inc k) (by decide) rfl ?_
        refine v_goto (tgt := 412) hC dL_isSo_437 (by decide) ?_
        exact ih (k + 1) F2 (by omega) h2 hc
    have KM : ∀ (j k : Nat) (F2 : Ft), k + j = sz K1 G a0 4 → (∀ x, x ≠ n → F2 x = F x) → (∀ q, q < 3 → f_X8_countOfShipmentsUnder_L4 K1 F G a0 (eo G a0 3 q) j k (F2 n q) = f_X8_countOfShipmentsUnder K1 F G a0 (eo G a0 3 q)) → V X 10 p l e ({ frames := 8, cells := 1, slots := 3, locals := 176 } : Room) s m args below meth c Q 1 3 (n + 1) K1 F2 G [(4, .int (nI k)), (3, .ref n), (0, .ref a0)] 120 [] := by
      intro j
      induction j with
      | zero =>
        intro k F2 hj h2 hc
        refine v_iload hC dL_isSo_120 0 rfl ?_
        refine v_aload_n hC dL_isSo_122 rfl 2 rfl ?_
        refine v_bipush (v := nI 6) hC dL_isSo_123 (by decide) ?_
        refine v_callV (c2 := 1) (s2 := 3) (As := [.int (nI 6)]) hC (m_X8_books l (x1 := 6) tm1 (by decide)) q_L_47 (by rw [tm1.1]; decide) (ce_1 tm1.1) (ci := 0) rfl hdV_X8_books rfl rfl (Nat.le_of_ble_eq_true rfl) (Nat.le_of_ble_eq_true rfl) (Nat.le_of_ble_eq_true rfl) (Nat.le_of_ble_eq_true rfl) (Nat.le_of_ble_eq_true rfl) (Nat.le_of_ble_eq_true rfl) (Nat.le_of_ble_eq_true rfl) dL_isSo_125 ?_
        rw [bk6]
        refine v_icmp_ge (tgt := 409) hC dL_isSo_128 (by decide) (fun _ => ?_) (fun q => absurd (lp_z hj) q)
        refine v_iconst (v := nI 0) hC dL_isSo_409 (by decide) ?_
        refine v_istore (i := 4) (lv' := [(4, .int (nI 0)), (3, .ref n), (0, .ref a0)]) hC dL_isSo_410 (by decide) rfl ?_
        refine KP 3 0 F2 (by omega) h2 (fun q hq => ?_)
        have z := hc q hq
        rw [f_X8_countOfShipmentsUnder_L4] at z
        rw [z]
        exact cnt_F _ _ _
      | succ j ih =>
        intro k F2 hj h2 hc
        refine v_iload hC dL_isSo_120 0 rfl ?_
        refine v_aload_n hC dL_isSo_122 rfl 2 rfl ?_
        refine v_bipush (v := nI 6) hC dL_isSo_123 (by decide) ?_
        refine v_callV (c2 := 1) (s2 := 3) (As := [.int (nI 6)]) hC (m_X8_books l (x1 := 6) tm1 (by decide)) q_L_47 (by rw [tm1.1]; decide) (ce_1 tm1.1) (ci := 0) rfl hdV_X8_books rfl rfl (Nat.le_of_ble_eq_true rfl) (Nat.le_of_ble_eq_true rfl) (Nat.le_of_ble_eq_true rfl) (Nat.le_of_ble_eq_true rfl) (Nat.le_of_ble_eq_true rfl) (Nat.le_of_ble_eq_true rfl) (Nat.le_of_ble_eq_true rfl) dL_isSo_125 ?_
        rw [bk6]
        refine v_icmp_ge (tgt := 409) hC dL_isSo_128 (by decide) (fun q => absurd q (lp_s hj (by omega))) (fun _ => ?_)
        have hk4 : k < sz K1 G a0 4 := by omega
        have ts := k1.ship hk4
        have v2 := vF F2 h2
        have vs := v2.2.2.2.2.1 k hk4
        refine v_aload_n hC dL_isSo_131 rfl 2 rfl ?_
        refine v_iload hC dL_isSo_132 0 rfl ?_
        refine v_bipush (v := nI 11) hC dL_isSo_134 (by decide) ?_
        refine v_callV (c2 := 1) (s2 := 3) (As := [.int (nI k), .int (nI 11)]) hC (m_X8_ofShipment l (x1 := k) (x2 := 11) tm1 hk4 (by decide)) q_L_116 (by rw [tm1.1]; decide) (ce_1 tm1.1) (ci := 0) rfl hdV_X8_ofShipment rfl rfl (Nat.le_of_ble_eq_true rfl) (Nat.le_of_ble_eq_true rfl) (Nat.le_of_ble_eq_true rfl) (Nat.le_of_ble_eq_true rfl) (Nat.le_of_ble_eq_true rfl) (Nat.le_of_ble_eq_true rfl) (Nat.le_of_ble_eq_true rfl) dL_isSo_136 ?_
        rw [sh11]
        obtain ⟨mk, hmk⟩ : ∃ w, w = f_X7_marks K1 F2 G (eo G a0 4 k) := ⟨_, rfl⟩
        have hms := marks_isSo (K := K1) vs
        rw [← hmk] at hms ⊢
        refine v_istore (i := 5) (lv' := [(5, .int mk), (4, .int (nI k)), (3, .ref n), (0, .ref a0)]) hC dL_isSo_139 (by decide) rfl ?_
        refine v_aload_n hC dL_isSo_141 rfl 2 rfl ?_
        refine v_aload_n hC dL_isSo_142 rfl 3 rfl ?_
        refine v_iload hC dL_isSo_143 1 rfl ?_
        refine v_iconst (v := nI 0) hC dL_isSo_145 (by decide) ?_
        obtain ⟨⟨ip, hip, eip⟩, -⟩ := k1.2.2.2.1 k hk4
        have hip3 : ip < 3 := by rw [← y3]; exact hip
        have en : F2 (gp G (eo G a0 4 k) 0) 0 = nI ip := by rw [eip]; exact (v2.2.2.2.1 ip hip).1
        refine v_callV (c2 := 1) (s2 := 3) (As := [.int (nI k), .int (nI 0)]) hC (m_X8_ofShipment l (x1 := k) (x2 := 0) tm1 hk4 (by decide)) q_L_116 (by rw [tm1.1]; decide) (ce_1 tm1.1) (ci := 0) rfl hdV_X8_ofShipment rfl rfl (Nat.le_of_ble_eq_true rfl) (Nat.le_of_ble_eq_true rfl) (Nat.le_of_ble_eq_true rfl) (Nat.le_of_ble_eq_true rfl) (Nat.le_of_ble_eq_true rfl) (Nat.le_of_ble_eq_true rfl) (Nat.le_of_ble_eq_true rfl) dL_isSo_146 ?_
        rw [sh0, en]
        refine v_dup2 hC dL_isSo_149 rfl rfl ?_
        refine v_iald (N := 3) hC kn (vp_nI hip3 (by decide)) dL_isSo_150 ?_
        rw [nI_clamp (by omega)]
        refine v_iconst (v := 1) hC dL_isSo_151 (by decide) ?_
        refine v_iadd hC dL_isSo_152 ?_
        refine v_iast (N := 3) hC kn (vp_nI hip3 (by decide)) dL_isSo_153 ?_
        rw [nI_clamp (by omega)]
        obtain ⟨F3, hF3⟩ : ∃ f, f = up2 F2 n ip (F2 n ip + 1) := ⟨_, rfl⟩
        have h3 : ∀ x, x ≠ n → F3 x = F x := fun x hx => by rw [hF3, up2_a _ _ hx]; exact h2 x hx
        have hc3 : ∀ q, q < 3 → f_X8_countOfShipmentsUnder_L4 K1 F G a0 (eo G a0 3 q) j (k + 1) (F3 n q) = f_X8_countOfShipmentsUnder K1 F G a0 (eo G a0 3 q) := fun q hq => by
          have z := hc q hq
          rw [f_X8_countOfShipmentsUnder_L4] at z
          unfold f_X8_countOfShipmentsUnder_J36 at z
          by_cases c : q = ip
          · rw [c] at z ⊢
            rw [if_pos eip] at z
            rw [hF3, up2_eq]; exact z
          · have hne : ¬ gp G (el G (gp G a0 4) k) 0 = eo G a0 3 q := fun w => c (by
              have e1 := (v2.2.2.2.1 q (by rw [y3]; exact hq)).1
              have w2 : gp G (eo G a0 4 k) 0 = eo G a0 3 q := w
              rw [← w2, en] at e1
              exact ((nI_eq (by omega) (by omega)).mp e1).symm)
            rw [if_neg hne] at z
            rw [hF3, up2_k _ _ c]; exact z
        have hm3 : f_X7_marks K1 F2 G (eo G a0 4 k) = f_X7_marks K1 F3 G (eo G a0 4 k) := by
          have e1 : F3 (eo G a0 4 k) = F2 (eo G a0 4 k) := by rw [h3 _ (ne_kind (show (K1 n).1 = 20 by rw [kn]) (by rw [ts.1]; decide)), h2 _ (ne_kind (show (K1 n).1 = 20 by rw [kn]) (by rw [ts.1]; decide))]
          rw [marks_mk, marks_mk, e1]
        have v3 := vF F3 h3
        have vs3 := v3.2.2.2.2.1 k hk4
        rw [← hF3]
        clear vs v2
        have KN : V X 10 p l e ({ frames := 8, cells := 1, slots := 3, locals := 176 } : Room) s m args below meth c Q 1 3 (n + 1) K1 F3 G [(4, .int (nI k)), (3, .ref n), (0, .ref a0)] 403 [] := by
          refine v_iinc (lv' := [(4, .int (nI (k + 1))), (3, .ref n), (0, .ref a0)]) (v := nI (k + 1)) hC dL_isSo_403 0 rfl (nI_inc k) (by decide) rfl ?_
          refine v_goto (tgt := 120) hC dL_isSo_406 (by decide) ?_
          exact ih (k + 1) F3 (by omega) h3 hc3
        obtain ⟨⟨g1, g2, g3, g4⟩, ⟨g5, g6⟩, -, -, g8⟩ := id vs3
        refine v_aload_n hC dL_isSo_154 rfl 3 rfl ?_
        refine v_iload hC dL_isSo_155 1 rfl ?_
        refine v_iconst (v := nI 5) hC dL_isSo_157 (by decide) ?_
        refine v_callV (c2 := 1) (s2 := 3) (As := [.int (nI k), .int (nI 5)]) hC (m_X8_ofShipment l (x1 := k) (x2 := 5) tm1 hk4 (by decide)) q_L_116 (by rw [tm1.1]; decide) (ce_1 tm1.1) (ci := 0) rfl hdV_X8_ofShipment rfl rfl (Nat.le_of_ble_eq_true rfl) (Nat.le_of_ble_eq_true rfl) (Nat.le_of_ble_eq_true rfl) (Nat.le_of_ble_eq_true rfl) (Nat.le_of_ble_eq_true rfl) (Nat.le_of_ble_eq_true rfl) (Nat.le_of_ble_eq_true rfl) dL_isSo_158 ?_
        rw [sh5]
        obtain ⟨le, hle⟩ : ∃ w, w = F3 (eo G a0 4 k) 10 := ⟨_, rfl⟩
        rw [← hle] at g1 g2 g8 ⊢
        refine v_istore (i := 6) (lv' := [(6, .int le), (5, .int mk), (4, .int (nI k)), (3, .ref n), (0, .ref a0)]) hC dL_isSo_161 (by decide) rfl ?_
        refine v_iload hC dL_isSo_163 0 rfl ?_
        refine v_if_lt (tgt := 252) hC dL_isSo_165 (by decide) (fun q => absurd q (by rw [Int32.lt_iff_toInt_lt, Int32.toInt_zero]; omega)) (fun _ => ?_)
        refine v_iload hC dL_isSo_168 0 rfl ?_
        refine v_aload_n hC dL_isSo_170 rfl 4 rfl ?_
        refine v_iload hC dL_isSo_171 2 rfl ?_
        refine v_iconst (v := nI 2) hC dL_isSo_173 (by decide) ?_
        refine v_callV (c2 := 1) (s2 := 3) (As := [.int (nI k), .int (nI 2)]) hC (m_X8_ofShipment l (x1 := k) (x2 := 2) tm1 hk4 (by decide)) q_L_116 (by rw [tm1.1]; decide) (ce_1 tm1.1) (ci := 0) rfl hdV_X8_ofShipment rfl rfl (Nat.le_of_ble_eq_true rfl) (Nat.le_of_ble_eq_true rfl) (Nat.le_of_ble_eq_true rfl) (Nat.le_of_ble_eq_true rfl) (Nat.le_of_ble_eq_true rfl) (Nat.le_of_ble_eq_true rfl) (Nat.le_of_ble_eq_true rfl) dL_isSo_174 ?_
        rw [sh2]
        refine v_icmp_gt (tgt := 252) hC dL_isSo_177 (by decide) (fun q => absurd q (by rw [Int32.lt_iff_toInt_lt]; omega)) (fun _ => ?_)
        refine v_aload_n hC dL_isSo_180 rfl 4 rfl ?_
        refine v_iload hC dL_isSo_181 2 rfl ?_
        refine v_bipush (v := nI 6) hC dL_isSo_183 (by decide) ?_
        refine v_callV (c2 := 1) (s2 := 3) (As := [.int (nI k), .int (nI 6)]) hC (m_X8_ofShipment l (x1 := k) (x2 := 6) tm1 hk4 (by decide)) q_L_116 (by rw [tm1.1]; decide) (ce_1 tm1.1) (ci := 0) rfl hdV_X8_ofShipment rfl rfl (Nat.le_of_ble_eq_true rfl) (Nat.le_of_ble_eq_true rfl) (Nat.le_of_ble_eq_true rfl) (Nat.le_of_ble_eq_true rfl) (Nat.le_of_ble_eq_true rfl) (Nat.le_of_ble_eq_true rfl) (Nat.le_of_ble_eq_true rfl) dL_isSo_185 ?_
        rw [sh6]
        refine v_aload_n hC dL_isSo_188 rfl 4 rfl ?_
        refine v_iload hC dL_isSo_189 2 rfl ?_
        refine v_iconst (v := nI 2) hC dL_isSo_191 (by decide) ?_
        refine v_callV (c2 := 1) (s2 := 3) (As := [.int (nI k), .int (nI 2)]) hC (m_X8_ofShipment l (x1 := k) (x2 := 2) tm1 hk4 (by decide)) q_L_116 (by rw [tm1.1]; decide) (ce_1 tm1.1) (ci := 0) rfl hdV_X8_ofShipment rfl rfl (Nat.le_of_ble_eq_true rfl) (Nat.le_of_ble_eq_true rfl) (Nat.le_of_ble_eq_true rfl) (Nat.le_of_ble_eq_true rfl) (Nat.le_of_ble_eq_true rfl) (Nat.le_of_ble_eq_true rfl) (Nat.le_of_ble_eq_true rfl) dL_isSo_192 ?_
        rw [sh2]
        refine v_icmp_gt (tgt := 252) hC dL_isSo_195 (by decide) (fun q => absurd q (by rw [Int32.lt_iff_toInt_lt]; omega)) (fun _ => ?_)
        refine v_iload hC dL_isSo_198 1 rfl ?_
        refine v_bipush (v := 16) hC dL_isSo_200 (by decide) ?_
        refine v_iand hC dL_isSo_202 ?_
        have KC : V X 10 p l e ({ frames := 8, cells := 1, slots := 3, locals := 176 } : Room) s m args below meth c Q 1 3 (n + 1) K1 F3 G [(6, .int le), (5, .int mk), (4, .int (nI k)), (3, .ref n), (0, .ref a0)] 214 [] := by
          refine v_aload_n hC dL_isSo_214 rfl 4 rfl ?_
          refine v_iload hC dL_isSo_215 2 rfl ?_
          refine v_bipush (v := nI 10) hC dL_isSo_217 (by decide) ?_
          refine v_callV (c2 := 1) (s2 := 3) (As := [.int (nI k), .int (nI 10)]) hC (m_X8_ofShipment l (x1 := k) (x2 := 10) tm1 hk4 (by decide)) q_L_116 (by rw [tm1.1]; decide) (ce_1 tm1.1) (ci := 0) rfl hdV_X8_ofShipment rfl rfl (Nat.le_of_ble_eq_true rfl) (Nat.le_of_ble_eq_true rfl) (Nat.le_of_ble_eq_true rfl) (Nat.le_of_ble_eq_true rfl) (Nat.le_of_ble_eq_true rfl) (Nat.le_of_ble_eq_true rfl) (Nat.le_of_ble_eq_true rfl) dL_isSo_219 ?_
          rw [sh10]
          obtain ⟨ca, hca⟩ : ∃ w, w = f_X7_causeOn K1 F3 G (eo G a0 4 k) (F3 a0 9) := ⟨_, rfl⟩
          have hc12 : ca = 0 ∨ ca = 1 ∨ ca = 2 := by rw [hca]; exact cause_012
          rw [← hca]
          refine v_if_lt (tgt := 252) hC dL_isSo_222 (by decide) (fun q => absurd q (by rcases hc12 with rfl | rfl | rfl <;> decide)) (fun _ => ?_)
          refine v_aload_n hC dL_isSo_225 rfl 4 rfl ?_
          refine v_iload hC dL_isSo_226 2 rfl ?_
          refine v_bipush (v := nI 10) hC dL_isSo_228 (by decide) ?_
          refine v_callV (c2 := 1) (s2 := 3) (As := [.int (nI k), .int (nI 10)]) hC (m_X8_ofShipment l (x1 := k) (x2 := 10) tm1 hk4 (by decide)) q_L_116 (by rw [tm1.1]; decide) (ce_1 tm1.1) (ci := 0) rfl hdV_X8_ofShipment rfl rfl (Nat.le_of_ble_eq_true rfl) (Nat.le_of_ble_eq_true rfl) (Nat.le_of_ble_eq_true rfl) (Nat.le_of_ble_eq_true rfl) (Nat.le_of_ble_eq_true rfl) (Nat.le_of_ble_eq_true rfl) (Nat.le_of_ble_eq_true rfl) dL_isSo_230 ?_
          rw [sh10, ← hca]
          refine v_iconst (v := 2) hC dL_isSo_233 (by decide) ?_
          refine v_icmp_gt (tgt := 252) hC dL_isSo_234 (by decide) (fun q => absurd q (by rcases hc12 with rfl | rfl | rfl <;> decide)) (fun _ => ?_)
          refine v_aload_n hC dL_isSo_237 rfl 4 rfl ?_
          refine v_iload hC dL_isSo_238 2 rfl ?_
          refine v_iconst (v := nI 3) hC dL_isSo_240 (by decide) ?_
          refine v_callV (c2 := 1) (s2 := 3) (As := [.int (nI k), .int (nI 3)]) hC (m_X8_ofShipment l (x1 := k) (x2 := 3) tm1 hk4 (by decide)) q_L_116 (by rw [tm1.1]; decide) (ce_1 tm1.1) (ci := 0) rfl hdV_X8_ofShipment rfl rfl (Nat.le_of_ble_eq_true rfl) (Nat.le_of_ble_eq_true rfl) (Nat.le_of_ble_eq_true rfl) (Nat.le_of_ble_eq_true rfl) (Nat.le_of_ble_eq_true rfl) (Nat.le_of_ble_eq_true rfl) (Nat.le_of_ble_eq_true rfl) dL_isSo_241 ?_
          rw [sh3]
          refine v_aload_n hC dL_isSo_244 rfl 4 rfl ?_
          refine v_iconst (v := nI 0) hC dL_isSo_245 (by decide) ?_
          refine v_callV (c2 := 1) (s2 := 3) (As := [.int (nI 0)]) hC (m_X8_books l (x1 := 0) tm1 (by decide)) q_L_47 (by rw [tm1.1]; decide) (ce_1 tm1.1) (ci := 0) rfl hdV_X8_books rfl rfl (Nat.le_of_ble_eq_true rfl) (Nat.le_of_ble_eq_true rfl) (Nat.le_of_ble_eq_true rfl) (Nat.le_of_ble_eq_true rfl) (Nat.le_of_ble_eq_true rfl) (Nat.le_of_ble_eq_true rfl) (Nat.le_of_ble_eq_true rfl) dL_isSo_246 ?_
          rw [bk0]
          refine v_icmp_le (tgt := 254) hC dL_isSo_249 (by decide) (fun _ => ?_) (fun q => absurd (by rw [Int32.le_iff_toInt_le]; omega) q)
          refine v_iload hC dL_isSo_254 1 rfl ?_
          refine v_iconst (v := 4) hC dL_isSo_256 (by decide) ?_
          refine v_iand hC dL_isSo_257 ?_
          refine v_if_ne (tgt := 264) hC dL_isSo_258 (by decide) (fun c4 => ?_) (fun c4 => ?_)
          rotate_left
          · refine v_goto (tgt := 403) hC dL_isSo_261 (by decide) ?_
            refine v_sub [2, 3, 4] rfl ?_
            exact KN
          have hd14 : ¬ G (eo G a0 4 k) 14 = none := fun w => c4 (by
            have z := hms
            rw [hmk, hm3, marks_mk]
            obtain ⟨y1, y2, y5⟩ := mk6_n (!decide (F3 (eo G a0 4 k) 11 = 0)) (!decide (F3 (eo G a0 4 k) 12 = 0)) (!decide (G (eo G a0 4 k) 14 = none)) (!decide (G (eo G a0 4 k) 15 = none)) (!decide (F3 (eo G a0 4 k) 13 = 0)) (!decide (F3 (eo G a0 4 k) 5 = 0))
            exact y1 (by rw [w]; rfl))
          obtain ⟨w11, dm, wl⟩ := g8 hd14
          obtain ⟨had4, had5, had6, hadS⟩ := dam_had dm
          obtain ⟨dm1, dm2, dm3, dm4, dm5, dm6, dm7, -⟩ := id dm
          generalize hdd : gp G (eo G a0 4 k) 14 = dd at *
          refine v_iconst (v := 0) hC dL_isSo_264 (by decide) ?_
          refine v_istore (i := 7) (lv' := [(7, .int 0), (6, .int le), (5, .int mk), (4, .int (nI k)), (3, .ref n), (0, .ref a0)]) hC dL_isSo_265 (by decide) rfl ?_
          refine v_iconst (v := 0) hC dL_isSo_267 (by decide) ?_
          refine v_istore (i := 8) (lv' := [(8, .int 0), (7, .int 0), (6, .int le), (5, .int mk), (4, .int (nI k)), (3, .ref n), (0, .ref a0)]) hC dL_isSo_268 (by decide) rfl ?_
          refine v_iconst (v := nI 0) hC dL_isSo_270 (by decide) ?_
          refine v_istore (i := 9) (lv' := [(9, .int (nI 0)), (8, .int 0), (7, .int 0), (6, .int le), (5, .int mk), (4, .int (nI k)), (3, .ref n), (0, .ref a0)]) hC dL_isSo_271 (by decide) rfl ?_
          have p0 : 0 ≤ (F3 dd 0 - F3 dd 1).toInt := by rw [fb_subI (by omega) (by omega)]; omega
          have p1 : 0 ≤ (F3 dd 1 - F3 dd 2).toInt := by rw [fb_subI (by omega) (by omega)]; omega
          have p2 : 0 ≤ (F3 dd 2).toInt := dm3
          refine v_iload hC dL_isSo_273 0 rfl ?_
          refine v_iconst (v := nI 3) hC dL_isSo_275 (by decide) ?_
          refine v_icmp_ge (tgt := 339) hC dL_isSo_276 (by decide) (fun q => absurd q (by decide)) (fun _ => ?_)
          refine v_iload hC dL_isSo_279 2 rfl ?_
          refine v_aload_n hC dL_isSo_281 rfl 7 rfl ?_
          refine v_iload hC dL_isSo_282 5 rfl ?_
          refine v_iload hC dL_isSo_284 0 rfl ?_
          refine v_iconst (v := 0) hC dL_isSo_286 (by decide) ?_
          refine v_callV (c2 := 1) (s2 := 3) (As := [.int (nI k), .int (nI 0), .int 0]) hC (m_X8_part l (x1 := k) (x2 := 0) (x3 := 0) tm1 hk4 (by decide)) q_L_143 (by rw [tm1.1]; decide) (ce_1 tm1.1) (ci := 0) rfl hdV_X8_part rfl rfl (Nat.le_of_ble_eq_true rfl) (Nat.le_of_ble_eq_true rfl) (Nat.le_of_ble_eq_true rfl) (Nat.le_of_ble_eq_true rfl) (Nat.le_of_ble_eq_true rfl) (Nat.le_of_ble_eq_true rfl) (Nat.le_of_ble_eq_true rfl) dL_isSo_287 ?_
          rw [pa_f hd14, hdd, show f_X2_partOf K1 F3 G dd (nI 0) = (F3 dd 0 - F3 dd 1) from rfl]
          refine v_iadd hC dL_isSo_290 ?_
          refine v_istore (i := 7) (lv' := [(7, .int (0 + (F3 dd 0 - F3 dd 1))), (9, .int (nI 0)), (8, .int 0), (6, .int le), (5, .int mk), (4, .int (nI k)), (3, .ref n), (0, .ref a0)]) hC dL_isSo_291 (by decide) rfl ?_
          refine v_iload hC dL_isSo_293 2 rfl ?_
          refine v_aload_n hC dL_isSo_295 rfl 7 rfl ?_
          refine v_iload hC dL_isSo_296 5 rfl ?_
          refine v_iload hC dL_isSo_298 1 rfl ?_
          refine v_iconst (v := 1) hC dL_isSo_300 (by decide) ?_
          refine v_callV (c2 := 1) (s2 := 3) (As := [.int (nI k), .int (nI 0), .int 1]) hC (m_X8_part l (x1 := k) (x2 := 0) (x3 := 1) tm1 hk4 (by decide)) q_L_143 (by rw [tm1.1]; decide) (ce_1 tm1.1) (ci := 0) rfl hdV_X8_part rfl rfl (Nat.le_of_ble_eq_true rfl) (Nat.le_of_ble_eq_true rfl) (Nat.le_of_ble_eq_true rfl) (Nat.le_of_ble_eq_true rfl) (Nat.le_of_ble_eq_true rfl) (Nat.le_of_ble_eq_true rfl) (Nat.le_of_ble_eq_true rfl) dL_isSo_301 ?_
          rw [pa_t hd14, hdd, show f_X2_hadBy K1 F3 G dd (nI 0) = (F3 dd 4) from rfl]
          refine v_iadd hC dL_isSo_304 ?_
          refine v_istore (i := 8) (lv' := [(8, .int (0 + (F3 dd 4))), (7, .int (0 + (F3 dd 0 - F3 dd 1))), (9, .int (nI 0)), (6, .int le), (5, .int mk), (4, .int (nI k)), (3, .ref n), (0, .ref a0)]) hC dL_isSo_305 (by decide) rfl ?_
          refine v_aload_n hC dL_isSo_307 rfl 7 rfl ?_
          refine v_iload hC dL_isSo_308 5 rfl ?_
          refine v_iload hC dL_isSo_310 2 rfl ?_
          refine v_iconst (v := 1) hC dL_isSo_312 (by decide) ?_
          refine v_callV (c2 := 1) (s2 := 3) (As := [.int (nI k), .int (nI 0), .int 1]) hC (m_X8_part l (x1 := k) (x2 := 0) (x3 := 1) tm1 hk4 (by decide)) q_L_143 (by rw [tm1.1]; decide) (ce_1 tm1.1) (ci := 0) rfl hdV_X8_part rfl rfl (Nat.le_of_ble_eq_true rfl) (Nat.le_of_ble_eq_true rfl) (Nat.le_of_ble_eq_true rfl) (Nat.le_of_ble_eq_true rfl) (Nat.le_of_ble_eq_true rfl) (Nat.le_of_ble_eq_true rfl) (Nat.le_of_ble_eq_true rfl) dL_isSo_313 ?_
          rw [pa_t hd14, hdd, show f_X2_hadBy K1 F3 G dd (nI 0) = (F3 dd 4) from rfl]
          refine v_if_lt (tgt := 331) hC dL_isSo_316 (by decide) (fun q => absurd q (by rw [Int32.lt_iff_toInt_lt, Int32.toInt_zero]; omega)) (fun _ => ?_)
          refine v_aload_n hC dL_isSo_319 rfl 7 rfl ?_
          refine v_iload hC dL_isSo_320 5 rfl ?_
          refine v_iload hC dL_isSo_322 2 rfl ?_
          refine v_iconst (v := 0) hC dL_isSo_324 (by decide) ?_
          refine v_callV (c2 := 1) (s2 := 3) (As := [.int (nI k), .int (nI 0), .int 0]) hC (m_X8_part l (x1 := k) (x2 := 0) (x3 := 0) tm1 hk4 (by decide)) q_L_143 (by rw [tm1.1]; decide) (ce_1 tm1.1) (ci := 0) rfl hdV_X8_part rfl rfl (Nat.le_of_ble_eq_true rfl) (Nat.le_of_ble_eq_true rfl) (Nat.le_of_ble_eq_true rfl) (Nat.le_of_ble_eq_true rfl) (Nat.le_of_ble_eq_true rfl) (Nat.le_of_ble_eq_true rfl) (Nat.le_of_ble_eq_true rfl) dL_isSo_325 ?_
          rw [pa_f hd14, hdd, show f_X2_partOf K1 F3 G dd (nI 0) = (F3 dd 0 - F3 dd 1) from rfl]
          refine v_if_ge (tgt := 333) hC dL_isSo_328 (by decide) (fun _ => ?_) (fun q => absurd (by rw [Int32.le_iff_toInt_le, Int32.toInt_zero]; omega) q)
          refine v_iinc (lv' := [(9, .int (nI 1)), (8, .int (0 + (F3 dd 4))), (7, .int (0 + (F3 dd 0 - F3 dd 1))), (6, .int le), (5, .int mk), (4, .int (nI k)), (3, .ref n), (0, .ref a0)]) (v := nI 1) hC dL_isSo_333 2 rfl (nI_inc 0) (by decide) rfl ?_
          refine v_goto (tgt := 273) hC dL_isSo_336 (by decide) ?_
          refine v_iload hC dL_isSo_273 0 rfl ?_
          refine v_iconst (v := nI 3) hC dL_isSo_275 (by decide) ?_
          refine v_icmp_ge (tgt := 339) hC dL_isSo_276 (by decide) (fun q => absurd q (by decide)) (fun _ => ?_)
          refine v_iload hC dL_isSo_279 2 rfl ?_
          refine v_aload_n hC dL_isSo_281 rfl 7 rfl ?_
          refine v_iload hC dL_isSo_282 5 rfl ?_
          refine v_iload hC dL_isSo_284 0 rfl ?_
          refine v_iconst (v := 0) hC dL_isSo_286 (by decide) ?_
          refine v_callV (c2 := 1) (s2 := 3) (As := [.int (nI k), .int (nI 1), .int 0]) hC (m_X8_part l (x1 := k) (x2 := 1) (x3 := 0) tm1 hk4 (by decide)) q_L_143 (by rw [tm1.1]; decide) (ce_1 tm1.1) (ci := 0) rfl hdV_X8_part rfl rfl (Nat.le_of_ble_eq_true rfl) (Nat.le_of_ble_eq_true rfl) (Nat.le_of_ble_eq_true rfl) (Nat.le_of_ble_eq_true rfl) (Nat.le_of_ble_eq_true rfl) (Nat.le_of_ble_eq_true rfl) (Nat.le_of_ble_eq_true rfl) dL_isSo_287 ?_
          rw [pa_f hd14, hdd, show f_X2_partOf K1 F3 G dd (nI 1) = (F3 dd 1 - F3 dd 2) from rfl]
          refine v_iadd hC dL_isSo_290 ?_
          refine v_istore (i := 7) (lv' := [(7, .int ((0 + (F3 dd 0 - F3 dd 1)) + (F3 dd 1 - F3 dd 2))), (9, .int (nI 1)), (8, .int (0 + (F3 dd 4))), (6, .int le), (5, .int mk), (4, .int (nI k)), (3, .ref n), (0, .ref a0)]) hC dL_isSo_291 (by decide) rfl ?_
          refine v_iload hC dL_isSo_293 2 rfl ?_
          refine v_aload_n hC dL_isSo_295 rfl 7 rfl ?_
          refine v_iload hC dL_isSo_296 5 rfl ?_
          refine v_iload hC dL_isSo_298 1 rfl ?_
          refine v_iconst (v := 1) hC dL_isSo_300 (by decide) ?_
          refine v_callV (c2 := 1) (s2 := 3) (As := [.int (nI k), .int (nI 1), .int 1]) hC (m_X8_part l (x1 := k) (x2 := 1) (x3 := 1) tm1 hk4 (by decide)) q_L_143 (by rw [tm1.1]; decide) (ce_1 tm1.1) (ci := 0) rfl hdV_X8_part rfl rfl (Nat.le_of_ble_eq_true rfl) (Nat.le_of_ble_eq_true rfl) (Nat.le_of_ble_eq_true rfl) (Nat.le_of_ble_eq_true rfl) (Nat.le_of_ble_eq_true rfl) (Nat.le_of_ble_eq_true rfl) (Nat.le_of_ble_eq_true rfl) dL_isSo_301 ?_
          rw [pa_t hd14, hdd, show f_X2_hadBy K1 F3 G dd (nI 1) = (F3 dd 5) from rfl]
          refine v_iadd hC dL_isSo_304 ?_
          refine v_istore (i := 8) (lv' := [(8, .int ((0 + (F3 dd 4)) + (F3 dd 5))), (7, .int ((0 + (F3 dd 0 - F3 dd 1)) + (F3 dd 1 - F3 dd 2))), (9, .int (nI 1)), (6, .int le), (5, .int mk), (4, .int (nI k)), (3, .ref n), (0, .ref a0)]) hC dL_isSo_305 (by decide) rfl ?_
          refine v_aload_n hC dL_isSo_307 rfl 7 rfl ?_
          refine v_iload hC dL_isSo_308 5 rfl ?_
          refine v_iload hC dL_isSo_310 2 rfl ?_
          refine v_iconst (v := 1) hC dL_isSo_312 (by decide) ?_
          refine v_callV (c2 := 1) (s2 := 3) (As := [.int (nI k), .int (nI 1), .int 1]) hC (m_X8_part l (x1 := k) (x2 := 1) (x3 := 1) tm1 hk4 (by decide)) q_L_143 (by rw [tm1.1]; decide) (ce_1 tm1.1) (ci := 0) rfl hdV_X8_part rfl rfl (Nat.le_of_ble_eq_true rfl) (Nat.le_of_ble_eq_true rfl) (Nat.le_of_ble_eq_true rfl) (Nat.le_of_ble_eq_true rfl) (Nat.le_of_ble_eq_true rfl) (Nat.le_of_ble_eq_true rfl) (Nat.le_of_ble_eq_true rfl) dL_isSo_313 ?_
          rw [pa_t hd14, hdd, show f_X2_hadBy K1 F3 G dd (nI 1) = (F3 dd 5) from rfl]
          refine v_if_lt (tgt := 331) hC dL_isSo_316 (by decide) (fun q => absurd q (by rw [Int32.lt_iff_toInt_lt, Int32.toInt_zero]; omega)) (fun _ => ?_)
          refine v_aload_n hC dL_isSo_319 rfl 7 rfl ?_
          refine v_iload hC dL_isSo_320 5 rfl ?_
          refine v_iload hC dL_isSo_322 2 rfl ?_
          refine v_iconst (v := 0) hC dL_isSo_324 (by decide) ?_
          refine v_callV (c2 := 1) (s2 := 3) (As := [.int (nI k), .int (nI 1), .int 0]) hC (m_X8_part l (x1 := k) (x2 := 1) (x3 := 0) tm1 hk4 (by decide)) q_L_143 (by rw [tm1.1]; decide) (ce_1 tm1.1) (ci := 0) rfl hdV_X8_part rfl rfl (Nat.le_of_ble_eq_true rfl) (Nat.le_of_ble_eq_true rfl) (Nat.le_of_ble_eq_true rfl) (Nat.le_of_ble_eq_true rfl) (Nat.le_of_ble_eq_true rfl) (Nat.le_of_ble_eq_true rfl) (Nat.le_of_ble_eq_true rfl) dL_isSo_325 ?_
          rw [pa_f hd14, hdd, show f_X2_partOf K1 F3 G dd (nI 1) = (F3 dd 1 - F3 dd 2) from rfl]
          refine v_if_ge (tgt := 333) hC dL_isSo_328 (by decide) (fun _ => ?_) (fun q => absurd (by rw [Int32.le_iff_toInt_le, Int32.toInt_zero]; omega) q)
          refine v_iinc (lv' := [(9, .int (nI 2)), (8, .int ((0 + (F3 dd 4)) + (F3 dd 5))), (7, .int ((0 + (F3 dd 0 - F3 dd 1)) + (F3 dd 1 - F3 dd 2))), (6, .int le), (5, .int mk), (4, .int (nI k)), (3, .ref n), (0, .ref a0)]) (v := nI 2) hC dL_isSo_333 2 rfl (nI_inc 1) (by decide) rfl ?_
          refine v_goto (tgt := 273) hC dL_isSo_336 (by decide) ?_
          refine v_iload hC dL_isSo_273 0 rfl ?_
          refine v_iconst (v := nI 3) hC dL_isSo_275 (by decide) ?_
          refine v_icmp_ge (tgt := 339) hC dL_isSo_276 (by decide) (fun q => absurd q (by decide)) (fun _ => ?_)
          refine v_iload hC dL_isSo_279 2 rfl ?_
          refine v_aload_n hC dL_isSo_281 rfl 7 rfl ?_
          refine v_iload hC dL_isSo_282 5 rfl ?_
          refine v_iload hC dL_isSo_284 0 rfl ?_
          refine v_iconst (v := 0) hC dL_isSo_286 (by decide) ?_
          refine v_callV (c2 := 1) (s2 := 3) (As := [.int (nI k), .int (nI 2), .int 0]) hC (m_X8_part l (x1 := k) (x2 := 2) (x3 := 0) tm1 hk4 (by decide)) q_L_143 (by rw [tm1.1]; decide) (ce_1 tm1.1) (ci := 0) rfl hdV_X8_part rfl rfl (Nat.le_of_ble_eq_true rfl) (Nat.le_of_ble_eq_true rfl) (Nat.le_of_ble_eq_true rfl) (Nat.le_of_ble_eq_true rfl) (Nat.le_of_ble_eq_true rfl) (Nat.le_of_ble_eq_true rfl) (Nat.le_of_ble_eq_true rfl) dL_isSo_287 ?_
          rw [pa_f hd14, hdd, show f_X2_partOf K1 F3 G dd (nI 2) = (F3 dd 2) from rfl]
          refine v_iadd hC dL_isSo_290 ?_
          refine v_istore (i := 7) (lv' := [(7, .int (((0 + (F3 dd 0 - F3 dd 1)) + (F3 dd 1 - F3 dd 2)) + (F3 dd 2))), (9, .int (nI 2)), (8, .int ((0 + (F3 dd 4)) + (F3 dd 5))), (6, .int le), (5, .int mk), (4, .int (nI k)), (3, .ref n), (0, .ref a0)]) hC dL_isSo_291 (by decide) rfl ?_
          refine v_iload hC dL_isSo_293 2 rfl ?_
          refine v_aload_n hC dL_isSo_295 rfl 7 rfl ?_
          refine v_iload hC dL_isSo_296 5 rfl ?_
          refine v_iload hC dL_isSo_298 1 rfl ?_
          refine v_iconst (v := 1) hC dL_isSo_300 (by decide) ?_
          refine v_callV (c2 := 1) (s2 := 3) (As := [.int (nI k), .int (nI 2), .int 1]) hC (m_X8_part l (x1 := k) (x2 := 2) (x3 := 1) tm1 hk4 (by decide)) q_L_143 (by rw [tm1.1]; decide) (ce_1 tm1.1) (ci := 0) rfl hdV_X8_part rfl rfl (Nat.le_of_ble_eq_true rfl) (Nat.le_of_ble_eq_true rfl) (Nat.le_of_ble_eq_true rfl) (Nat.le_of_ble_eq_true rfl) (Nat.le_of_ble_eq_true rfl) (Nat.le_of_ble_eq_true rfl) (Nat.le_of_ble_eq_true rfl) dL_isSo_301 ?_
          rw [pa_t hd14, hdd, show f_X2_hadBy K1 F3 G dd (nI 2) = (F3 dd 6) from rfl]
          refine v_iadd hC dL_isSo_304 ?_
          refine v_istore (i := 8) (lv' := [(8, .int (((0 + (F3 dd 4)) + (F3 dd 5)) + (F3 dd 6))), (7, .int (((0 + (F3 dd 0 - F3 dd 1)) + (F3 dd 1 - F3 dd 2)) + (F3 dd 2))), (9, .int (nI 2)), (6, .int le), (5, .int mk), (4, .int (nI k)), (3, .ref n), (0, .ref a0)]) hC dL_isSo_305 (by decide) rfl ?_
          refine v_aload_n hC dL_isSo_307 rfl 7 rfl ?_
          refine v_iload hC dL_isSo_308 5 rfl ?_
          refine v_iload hC dL_isSo_310 2 rfl ?_
          refine v_iconst (v := 1) hC dL_isSo_312 (by decide) ?_
          refine v_callV (c2 := 1) (s2 := 3) (As := [.int (nI k), .int (nI 2), .int 1]) hC (m_X8_part l (x1 := k) (x2 := 2) (x3 := 1) tm1 hk4 (by decide)) q_L_143 (by rw [tm1.1]; decide) (ce_1 tm1.1) (ci := 0) rfl hdV_X8_part rfl rfl (Nat.le_of_ble_eq_true rfl) (Nat.le_of_ble_eq_true rfl) (Nat.le_of_ble_eq_true rfl) (Nat.le_of_ble_eq_true rfl) (Nat.le_of_ble_eq_true rfl) (Nat.le_of_ble_eq_true rfl) (Nat.le_of_ble_eq_true rfl) dL_isSo_313 ?_
          rw [pa_t hd14, hdd, show f_X2_hadBy K1 F3 G dd (nI 2) = (F3 dd 6) from rfl]
          refine v_if_lt (tgt := 331) hC dL_isSo_316 (by decide) (fun q => absurd q (by rw [Int32.lt_iff_toInt_lt, Int32.toInt_zero]; omega)) (fun _ => ?_)
          refine v_aload_n hC dL_isSo_319 rfl 7 rfl ?_
          refine v_iload hC dL_isSo_320 5 rfl ?_
          refine v_iload hC dL_isSo_322 2 rfl ?_
          refine v_iconst (v := 0) hC dL_isSo_324 (by decide) ?_
          refine v_callV (c2 := 1) (s2 := 3) (As := [.int (nI k), .int (nI 2), .int 0]) hC (m_X8_part l (x1 := k) (x2 := 2) (x3 := 0) tm1 hk4 (by decide)) q_L_143 (by rw [tm1.1]; decide) (ce_1 tm1.1) (ci := 0) rfl hdV_X8_part rfl rfl (Nat.le_of_ble_eq_true rfl) (Nat.le_of_ble_eq_true rfl) (Nat.le_of_ble_eq_true rfl) (Nat.le_of_ble_eq_true rfl) (Nat.le_of_ble_eq_true rfl) (Nat.le_of_ble_eq_true rfl) (Nat.le_of_ble_eq_true rfl) dL_isSo_325 ?_
          rw [pa_f hd14, hdd, show f_X2_partOf K1 F3 G dd (nI 2) = (F3 dd 2) from rfl]
          refine v_if_ge (tgt := 333) hC dL_isSo_328 (by decide) (fun _ => ?_) (fun q => absurd (by rw [Int32.le_iff_toInt_le, Int32.toInt_zero]; omega) q)
          refine v_iinc (lv' := [(9, .int (nI 3)), (8, .int (((0 + (F3 dd 4)) + (F3 dd 5)) + (F3 dd 6))), (7, .int (((0 + (F3 dd 0 - F3 dd 1)) + (F3 dd 1 - F3 dd 2)) + (F3 dd 2))), (6, .int le), (5, .int mk), (4, .int (nI k)), (3, .ref n), (0, .ref a0)]) (v := nI 3) hC dL_isSo_333 2 rfl (nI_inc 2) (by decide) rfl ?_
          refine v_goto (tgt := 273) hC dL_isSo_336 (by decide) ?_
          refine v_iload hC dL_isSo_273 0 rfl ?_
          refine v_iconst (v := nI 3) hC dL_isSo_275 (by decide) ?_
          refine v_icmp_ge (tgt := 339) hC dL_isSo_276 (by decide) (fun _ => ?_) (fun q => absurd (by decide) q)
          refine v_iload hC dL_isSo_339 2 rfl ?_
          refine v_aload_n hC dL_isSo_341 rfl 7 rfl ?_
          refine v_iload hC dL_isSo_342 5 rfl ?_
          refine v_bipush (v := nI 12) hC dL_isSo_344 (by decide) ?_
          refine v_callV (c2 := 1) (s2 := 3) (As := [.int (nI k), .int (nI 12)]) hC (m_X8_ofShipment l (x1 := k) (x2 := 12) tm1 hk4 (by decide)) q_L_116 (by rw [tm1.1]; decide) (ce_1 tm1.1) (ci := 0) rfl hdV_X8_ofShipment rfl rfl (Nat.le_of_ble_eq_true rfl) (Nat.le_of_ble_eq_true rfl) (Nat.le_of_ble_eq_true rfl) (Nat.le_of_ble_eq_true rfl) (Nat.le_of_ble_eq_true rfl) (Nat.le_of_ble_eq_true rfl) (Nat.le_of_ble_eq_true rfl) dL_isSo_346 ?_
          rw [sh12 hd14, hdd]
          refine v_icmp_ne (tgt := 401) hC dL_isSo_349 (by decide) (fun q => absurd (by rw [i_zadd]; exact i_parts _ _ _) q) (fun _ => ?_)
          refine v_iload hC dL_isSo_352 1 rfl ?_
          refine v_aload_n hC dL_isSo_354 rfl 7 rfl ?_
          refine v_iload hC dL_isSo_355 5 rfl ?_
          refine v_bipush (v := nI 14) hC dL_isSo_357 (by decide) ?_
          refine v_callV (c2 := 1) (s2 := 3) (As := [.int (nI k), .int (nI 14)]) hC (m_X8_ofShipment l (x1 := k) (x2 := 14) tm1 hk4 (by decide)) q_L_116 (by rw [tm1.1]; decide) (ce_1 tm1.1) (ci := 0) rfl hdV_X8_ofShipment rfl rfl (Nat.le_of_ble_eq_true rfl) (Nat.le_of_ble_eq_true rfl) (Nat.le_of_ble_eq_true rfl) (Nat.le_of_ble_eq_true rfl) (Nat.le_of_ble_eq_true rfl) (Nat.le_of_ble_eq_true rfl) (Nat.le_of_ble_eq_true rfl) dL_isSo_359 ?_
          rw [sh14 hd14, hdd]
          refine v_icmp_ne (tgt := 401) hC dL_isSo_362 (by decide) (fun q => absurd (by rw [i_zadd]; exact hadS) q) (fun _ => ?_)
          refine v_iload hC dL_isSo_365 4 rfl ?_
          refine v_iconst (v := 1) hC dL_isSo_367 (by decide) ?_
          refine v_iand hC dL_isSo_368 ?_
          refine v_if_eq (tgt := 401) hC dL_isSo_369 (by decide) (fun q => absurd q (hms.2.1 hd14)) (fun _ => ?_)
          refine v_aload_n hC dL_isSo_372 rfl 7 rfl ?_
          refine v_iload hC dL_isSo_373 5 rfl ?_
          refine v_bipush (v := nI 13) hC dL_isSo_375 (by decide) ?_
          refine v_callV (c2 := 1) (s2 := 3) (As := [.int (nI k), .int (nI 13)]) hC (m_X8_ofShipment l (x1 := k) (x2 := 13) tm1 hk4 (by decide)) q_L_116 (by rw [tm1.1]; decide) (ce_1 tm1.1) (ci := 0) rfl hdV_X8_ofShipment rfl rfl (Nat.le_of_ble_eq_true rfl) (Nat.le_of_ble_eq_true rfl) (Nat.le_of_ble_eq_true rfl) (Nat.le_of_ble_eq_true rfl) (Nat.le_of_ble_eq_true rfl) (Nat.le_of_ble_eq_true rfl) (Nat.le_of_ble_eq_true rfl) dL_isSo_377 ?_
          rw [sh13 hd14, hdd]
          refine v_iload hC dL_isSo_380 2 rfl ?_
          have ep : (0 + (F3 dd 0 - F3 dd 1) + (F3 dd 1 - F3 dd 2) + F3 dd 2) = F3 dd 0 := by rw [i_zadd]; exact i_parts _ _ _
          rw [ep]
          refine v_icmp_gt (tgt := 401) hC dL_isSo_382 (by decide) (fun q => absurd q (by rw [Int32.lt_iff_toInt_lt]; omega)) (fun _ => ?_)
          refine v_iload hC dL_isSo_385 3 rfl ?_
          refine v_aload_n hC dL_isSo_387 rfl 7 rfl ?_
          refine v_iload hC dL_isSo_388 5 rfl ?_
          refine v_bipush (v := nI 14) hC dL_isSo_390 (by decide) ?_
          refine v_callV (c2 := 1) (s2 := 3) (As := [.int (nI k), .int (nI 14)]) hC (m_X8_ofShipment l (x1 := k) (x2 := 14) tm1 hk4 (by decide)) q_L_116 (by rw [tm1.1]; decide) (ce_1 tm1.1) (ci := 0) rfl hdV_X8_ofShipment rfl rfl (Nat.le_of_ble_eq_true rfl) (Nat.le_of_ble_eq_true rfl) (Nat.le_of_ble_eq_true rfl) (Nat.le_of_ble_eq_true rfl) (Nat.le_of_ble_eq_true rfl) (Nat.le_of_ble_eq_true rfl) (Nat.le_of_ble_eq_true rfl) dL_isSo_392 ?_
          rw [sh14 hd14, hdd]
          refine v_iadd hC dL_isSo_395 ?_
          refine v_iload hC dL_isSo_396 2 rfl ?_
          have zf : 0 ≤ (if G (eo G a0 4 k) 15 = none then 0 else (F3 (gp G (eo G a0 4 k) 15) 1).toInt) := by
            by_cases w : G (eo G a0 4 k) 15 = none
            · rw [if_pos w]; decide
            · rw [if_neg w]; exact (vs3.2.2.2.1 w).1
          have es : (le + F3 dd 3).toInt = le.toInt + (F3 dd 3).toInt := fb_addI (by omega) (by omega)
          refine v_icmp_le (tgt := 403) hC dL_isSo_398 (by decide) (fun _ => ?_) (fun q => absurd (by rw [Int32.le_iff_toInt_le, es]; omega) q)
          refine v_sub [5, 6, 7] rfl ?_
          exact KN
        refine v_if_le (tgt := 214) hC dL_isSo_203 (by decide) (fun _ => KC) (fun c16 => ?_)
        refine v_iload hC dL_isSo_206 1 rfl ?_
        refine v_bipush (v := 32) hC dL_isSo_208 (by decide) ?_
        refine v_iand hC dL_isSo_210 ?_
        refine v_if_eq (tgt := 252) hC dL_isSo_211 (by decide) (fun q => absurd q (hms.2.2 (Int32.not_le.mp c16))) (fun _ => KC)
    refine v_iconst (v := nI 0) hC dL_isSo_117 (by decide) ?_
    refine v_istore (i := 4) (lv' := [(4, .int (nI 0)), (3, .ref n), (0, .ref a0)]) hC dL_isSo_118 (by decide) rfl ?_
    refine KM (sz K1 G a0 4) 0 _ (by omega) (fun x hx => va_up_ne _ _ hx) (fun q hq => ?_)
    rw [show va_up F n (fun _ => (0 : Int32)) n q = 0 by rw [kat]]
    rfl
  have KB : ∀ (k i : Nat) (z : Int), i + k = 6 → z + sm (fun i => (F (gp G (eo G a0 1 i) 3) 0).toInt) k i = 0 → V X 10 p l e ({ frames := 8, cells := 1, slots := 3, locals := 176 } : Room) s m args below meth c Q 0 0 n K F G [(3, .int (nI i)), (1, .long (Int64.ofInt z)), (0, .ref a0)] 57 [] := by
    intro k
    induction k with
    | zero =>
      intro i z hj hz
      refine v_iload_n hC dL_isSo_57 rfl 0 rfl ?_
      refine v_bipush (v := nI 6) hC dL_isSo_58 (by decide) ?_
      refine v_icmp_ge (tgt := 90) hC dL_isSo_60 (by decide) (fun _ => ?_) (fun q => absurd (lp_z hj) q)
      rw [sm, Int.add_zero] at hz
      subst hz
      refine v_lload_n hC dL_isSo_90 rfl 1 rfl ?_
      refine v_lconst (v := 0) hC dL_isSo_91 (by decide) ?_
      refine v_lcmp hC dL_isSo_92 ?_
      refine v_if_ne (tgt := 111) hC dL_isSo_93 (by decide) (fun q => absurd (by decide) q) (fun _ => ?_)
      refine v_aload_n hC dL_isSo_96 rfl 2 rfl ?_
      refine v_bipush (v := nI 14) hC dL_isSo_97 (by decide) ?_
      refine v_callV (c2 := 0) (s2 := 0) (As := [.int (nI 14)]) hC (m_X8_books l (x1 := 14) tm (by decide)) q_L_47 (by rw [tm.1]; decide) (ce_1 tm.1) (ci := 0) rfl hdV_X8_books rfl rfl (Nat.le_of_ble_eq_true rfl) (Nat.le_of_ble_eq_true rfl) (Nat.le_of_ble_eq_true rfl) (Nat.le_of_ble_eq_true rfl) (Nat.le_of_ble_eq_true rfl) (Nat.le_of_ble_eq_true rfl) (Nat.le_of_ble_eq_true rfl) dL_isSo_99 ?_
      rw [bk14]
      refine v_aload_n hC dL_isSo_102 rfl 2 rfl ?_
      refine v_bipush (v := nI 7) hC dL_isSo_103 (by decide) ?_
      refine v_callV (c2 := 0) (s2 := 0) (As := [.int (nI 7)]) hC (m_X8_books l (x1 := 7) tm (by decide)) q_L_47 (by rw [tm.1]; decide) (ce_1 tm.1) (ci := 0) rfl hdV_X8_books rfl rfl (Nat.le_of_ble_eq_true rfl) (Nat.le_of_ble_eq_true rfl) (Nat.le_of_ble_eq_true rfl) (Nat.le_of_ble_eq_true rfl) (Nat.le_of_ble_eq_true rfl) (Nat.le_of_ble_eq_true rfl) (Nat.le_of_ble_eq_true rfl) dL_isSo_105 ?_
      rw [bk7]
      refine v_icmp_eq (tgt := 113) hC dL_isSo_108 (by decide) (fun _ => ?_) (fun q => absurd h.2.2.1.symm q)
      refine v_sub [2] rfl ?_
      exact KT
    | succ k ih =>
      intro i z hj hz
      refine v_iload_n hC dL_isSo_57 rfl 0 rfl ?_
      refine v_bipush (v := nI 6) hC dL_isSo_58 (by decide) ?_
      refine v_icmp_ge (tgt := 90) hC dL_isSo_60 (by decide) (fun q => absurd q (lp_s hj (by decide))) (fun _ => ?_)
      have hi6 : i < sz K G a0 1 := by rw [z1]; omega
      refine v_lload_n hC dL_isSo_63 rfl 1 rfl ?_
      refine v_aload_n hC dL_isSo_64 rfl 2 rfl ?_
      refine v_iload_n hC dL_isSo_65 rfl 0 rfl ?_
      refine v_iconst (v := nI 3) hC dL_isSo_66 (by decide) ?_
      refine v_callV (c2 := 0) (s2 := 0) (As := [.int (nI i), .int (nI 3)]) hC (m_X8_ofBuyer l (x1 := i) (x2 := 3) tm hi6 (by decide)) q_L_140 (by rw [tm.1]; decide) (ce_1 tm.1) (ci := 0) rfl hdV_X8_ofBuyer rfl rfl (Nat.le_of_ble_eq_true rfl) (Nat.le_of_ble_eq_true rfl) (Nat.le_of_ble_eq_true rfl) (Nat.le_of_ble_eq_true rfl) (Nat.le_of_ble_eq_true rfl) (Nat.le_of_ble_eq_true rfl) (Nat.le_of_ble_eq_true rfl) dL_isSo_67 ?_
      rw [bu3]
      refine v_i2l hC dL_isSo_70 ?_
      refine v_ladd hC dL_isSo_71 ?_
      rw [i64_of, ← Int64.ofInt_add]
      refine v_lstore_n (i := 1) (lv' := [(1, .long (Int64.ofInt (z + (F (gp G (eo G a0 1 i) 3) 0).toInt))), (3, .int (nI i)), (0, .ref a0)]) hC dL_isSo_72 rfl (by decide) rfl ?_
      refine v_aload_n hC dL_isSo_73 rfl 2 rfl ?_
      refine v_iload_n hC dL_isSo_74 rfl 1 rfl ?_
      refine v_iconst (v := nI 3) hC dL_isSo_75 (by decide) ?_
      refine v_callV (c2 := 0) (s2 := 0) (As := [.int (nI i), .int (nI 3)]) hC (m_X8_ofBuyer l (x1 := i) (x2 := 3) tm hi6 (by decide)) q_L_140 (by rw [tm.1]; decide) (ce_1 tm.1) (ci := 0) rfl hdV_X8_ofBuyer rfl rfl (Nat.le_of_ble_eq_true rfl) (Nat.le_of_ble_eq_true rfl) (Nat.le_of_ble_eq_true rfl) (Nat.le_of_ble_eq_true rfl) (Nat.le_of_ble_eq_true rfl) (Nat.le_of_ble_eq_true rfl) (Nat.le_of_ble_eq_true rfl) dL_isSo_76 ?_
      rw [bu3]
      refine v_if_ge (tgt := 84) hC dL_isSo_79 (by decide) (fun _ => ?_) (fun q => absurd (by rw [Int32.le_iff_toInt_le, Int32.toInt_zero]; exact h.2.1 i hi6) q)
      refine v_iinc (lv' := [(3, .int (nI (i + 1))), (1, .long (Int64.ofInt (z + (F (gp G (eo G a0 1 i) 3) 0).toInt))), (0, .ref a0)]) (v := nI (i + 1)) hC dL_isSo_84 1 rfl (nI_inc i) (by decide) rfl ?_
      refine v_goto (tgt := 57) hC dL_isSo_87 (by decide) ?_
      refine ih (i + 1) _ (by omega) ?_
      rw [sm] at hz; omega
  have KX : ∀ (k i : Nat) (z : Int), i + k = 3 → z + sm (fun i => (F (gp G (eo G a0 2 i) 1) 0).toInt) k i + sm (fun i => (F (gp G (eo G a0 1 i) 3) 0).toInt) 6 0 = 0 → V X 10 p l e ({ frames := 8, cells := 1, slots := 3, locals := 176 } : Room) s m args below meth c Q 0 0 n K F G [(3, .int (nI i)), (1, .long (Int64.ofInt z)), (0, .ref a0)] 34 [] := by
    intro k
    induction k with
    | zero =>
      intro i z hj hz
      refine v_iload_n hC dL_isSo_34 rfl 0 rfl ?_
      refine v_iconst (v := nI 3) hC dL_isSo_35 (by decide) ?_
      refine v_icmp_ge (tgt := 55) hC dL_isSo_36 (by decide) (fun _ => ?_) (fun q => absurd (lp_z hj) q)
      refine v_iconst (v := nI 0) hC dL_isSo_55 (by decide) ?_
      refine v_istore_n (i := 3) (lv' := [(3, .int (nI 0)), (1, .long (Int64.ofInt z)), (0, .ref a0)]) hC dL_isSo_56 rfl (by decide) rfl ?_
      refine KB 6 0 z (by omega) ?_
      rw [sm, Int.add_zero] at hz; exact hz
    | succ k ih =>
      intro i z hj hz
      refine v_iload_n hC dL_isSo_34 rfl 0 rfl ?_
      refine v_iconst (v := nI 3) hC dL_isSo_35 (by decide) ?_
      refine v_icmp_ge (tgt := 55) hC dL_isSo_36 (by decide) (fun q => absurd q (lp_s hj (by decide))) (fun _ => ?_)
      have hi3 : i < sz K G a0 2 := by rw [z2]; omega
      refine v_lload_n hC dL_isSo_39 rfl 1 rfl ?_
      refine v_aload_n hC dL_isSo_40 rfl 2 rfl ?_
      refine v_iload_n hC dL_isSo_41 rfl 0 rfl ?_
      refine v_iconst (v := nI 0) hC dL_isSo_42 (by decide) ?_
      refine v_callV (c2 := 0) (s2 := 0) (As := [.int (nI i), .int (nI 0)]) hC (m_X8_ofExporter l (x1 := i) (x2 := 0) tm hi3 (by decide)) q_L_137 (by rw [tm.1]; decide) (ce_1 tm.1) (ci := 0) rfl hdV_X8_ofExporter rfl rfl (Nat.le_of_ble_eq_true rfl) (Nat.le_of_ble_eq_true rfl) (Nat.le_of_ble_eq_true rfl) (Nat.le_of_ble_eq_true rfl) (Nat.le_of_ble_eq_true rfl) (Nat.le_of_ble_eq_true rfl) (Nat.le_of_ble_eq_true rfl) dL_isSo_43 ?_
      rw [ex0]
      refine v_i2l hC dL_isSo_46 ?_
      refine v_ladd hC dL_isSo_47 ?_
      rw [i64_of, ← Int64.ofInt_add]
      refine v_lstore_n (i := 1) (lv' := [(1, .long (Int64.ofInt (z + (F (gp G (eo G a0 2 i) 1) 0).toInt))), (3, .int (nI i)), (0, .ref a0)]) hC dL_isSo_48 rfl (by decide) rfl ?_
      refine v_iinc (lv' := [(3, .int (nI (i + 1))), (1, .long (Int64.ofInt (z + (F (gp G (eo G a0 2 i) 1) 0).toInt))), (0, .ref a0)]) (v := nI (i + 1)) hC dL_isSo_49 1 rfl (nI_inc i) (by decide) rfl ?_
      refine v_goto (tgt := 34) hC dL_isSo_52 (by decide) ?_
      refine v_sub [0, 1, 2] rfl ?_
      refine ih (i + 1) _ (by omega) ?_
      rw [sm] at hz; omega
  exact KX 3 0 z (by omega) ht
end PNK
