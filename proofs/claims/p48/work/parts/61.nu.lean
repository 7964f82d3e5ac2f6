/-! the digest -/
section PNU
variable {X : Xt}
def dgB (K : Kt) (F : Ft) (G : Gt) (a0 : Nat) : Nat → Nat → Int64 → Int64
  | 0, _, h => h
  | k + 1, j, h => dgB K F G a0 k (j + 1) (h * 31 + (f_X8_figureOfBooks K F G a0 (nI j)).toInt64)
def dg1 (K : Kt) (F : Ft) (G : Gt) (a0 : Nat) : Int64 := f_X8_digestOfPolicies K F G a0 (f_X8_digestOfExporters K F G a0 (f_X8_digestOfBuyers K F G a0 (f_X8_digestOfLands K F G a0 (dgB K F G a0 20 0 58265))))
def dg2 (K : Kt) (F : Ft) (G : Gt) (a0 : Nat) : Int64 := dshL K F G a0 (K (gp G a0 4)).2 0 (dg1 K F G a0)
def dg3 (K : Kt) (F : Ft) (G : Gt) (a0 : Nat) : Int64 := dg2 K F G a0 * 31 + (f_X8_circles K F G a0).toInt64
def dg4 (K : Kt) (F : Ft) (G : Gt) (a0 : Nat) : Int64 := dg3 K F G a0 * 31 + FP.d2l (FP.dmul 4652218415073722368 (exL K F G a0 3 0 0))
def dg5 (K : Kt) (F : Ft) (G : Gt) (a0 : Nat) : Int64 := dg4 K F G a0 * 31 + FP.d2l (FP.dmul 4652218415073722368 (prL K F G a0 1000 8 0 0))
def dg6 (K : Kt) (F : Ft) (G : Gt) (a0 : Nat) : Int64 := dg5 K F G a0 * 31 + (if f_X8_isSound K F G a0 = 0 then (0 : Int32) else 1).toInt64
theorem k24_m : mg 1034 4652218415073722368 := by
  show (4652218415073722368 : UInt64).toNat % 9223372036854775808 < 1034 * 4503599627370496
  decide
theorem hdS_X8_digest : yX8_digest.cls ≠ "java/lang/invoke/MethodHandle" ∧ yX8_digest.cls ≠ "java/lang/invoke/VarHandle" ∧ (parseMethodDescriptor yX8_digest.desc).map (fun d => d.parameters.length) = some 0 := by decide +kernel
theorem hdV_X8_digest : yX8_digest.cls = RX8 ∧ yX8_digest.cls ≠ "java/lang/invoke/MethodHandle" ∧ yX8_digest.cls ≠ "java/lang/invoke/VarHandle" ∧ (parseMethodDescriptor yX8_digest.desc).map (fun d => d.parameters.length) = some 0 := by decide +kernel
set_option maxRecDepth 100000 in
set_option maxHeartbeats 4000000 in
theorem m_X8_digest (l : Launch) {n : Nat} {K : Kt} {F : Ft} {G : Gt} {a0 : Nat} (t0 : TMain K G a0) (h3 : (K (gp G a0 0)).2 = 3) : Mr X l yX8_digest cX8_digest 4 (some .long) 16 700 600 4000 [.ref a0] n K F G (fun o n' K' F' G' => o = some (.long (dg6 K F G a0)) ∧ K' = K ∧ F' = F ∧ G' = G) := by
  refine Mr.of (lv := [(0, .ref a0)]) (by decide) (Nat.le_of_ble_eq_true rfl) rfl ?_
  intro p e s m args below meth c Q hC hin hQ
  have hC : Cx X p s m args meth c RX8 cX8_digest 4 (some .long) := hC
  have me : mg 1092 (exL K F G a0 3 0 0) := (exL_m 3 0 0 (by omega) (zero_m (by omega))).mono (by omega)
  have mp : mg 1134 (prL K F G a0 1000 8 0 0) := (prL_m (by omega) 8 0 0 (by omega) (zero_m (by omega))).mono (by omega)
  have END : V X 4 p l e ({ frames := 16, cells := 600, slots := 4000, locals := 700 } : Room) s m args below meth c Q 0 0 n K F G [(0, .ref a0), (1, .long (dgB K F G a0 20 0 58265))] 31 [] := by
    refine v_aload_n hC dX8_digest_31 rfl 0 rfl ?_
    refine v_lload_n hC dX8_digest_32 rfl 1 rfl ?_
    refine v_callV (c2 := 0) (s2 := 0) (As := [.long (dgB K F G a0 20 0 58265)]) hC (m_X8_digestOfLands l t0) q_X8_410 (by rw [t0.1]; decide) (ce_1 t0.1) (ci := 0) rfl hdV_X8_digestOfLands rfl rfl (Nat.le_of_ble_eq_true rfl) (Nat.le_of_ble_eq_true rfl) (Nat.le_of_ble_eq_true rfl) (Nat.le_of_ble_eq_true rfl) (Nat.le_of_ble_eq_true rfl) (Nat.le_of_ble_eq_true rfl) (Nat.le_of_ble_eq_true rfl) dX8_digest_33 ?_
    refine v_lstore_n (i := 1) (lv' := [(1, .long (f_X8_digestOfLands K F G a0 (dgB K F G a0 20 0 58265))), (0, .ref a0)]) hC dX8_digest_36 rfl (by decide) rfl ?_
    refine v_aload_n hC dX8_digest_37 rfl 1 rfl ?_
    refine v_lload_n hC dX8_digest_38 rfl 0 rfl ?_
    refine v_callV (c2 := 0) (s2 := 0) (As := [.long (f_X8_digestOfLands K F G a0 (dgB K F G a0 20 0 58265))]) hC (m_X8_digestOfBuyers l t0) q_X8_414 (by rw [t0.1]; decide) (ce_1 t0.1) (ci := 0) rfl hdV_X8_digestOfBuyers rfl rfl (Nat.le_of_ble_eq_true rfl) (Nat.le_of_ble_eq_true rfl) (Nat.le_of_ble_eq_true rfl) (Nat.le_of_ble_eq_true rfl) (Nat.le_of_ble_eq_true rfl) (Nat.le_of_ble_eq_true rfl) (Nat.le_of_ble_eq_true rfl) dX8_digest_39 ?_
    refine v_lstore_n (i := 1) (lv' := [(1, .long (f_X8_digestOfBuyers K F G a0 (f_X8_digestOfLands K F G a0 (dgB K F G a0 20 0 58265)))), (0, .ref a0)]) hC dX8_digest_42 rfl (by decide) rfl ?_
    refine v_aload_n hC dX8_digest_43 rfl 1 rfl ?_
    refine v_lload_n hC dX8_digest_44 rfl 0 rfl ?_
    refine v_callV (c2 := 0) (s2 := 0) (As := [.long (f_X8_digestOfBuyers K F G a0 (f_X8_digestOfLands K F G a0 (dgB K F G a0 20 0 58265)))]) hC (m_X8_digestOfExporters l t0) q_X8_417 (by rw [t0.1]; decide) (ce_1 t0.1) (ci := 0) rfl hdV_X8_digestOfExporters rfl rfl (Nat.le_of_ble_eq_true rfl) (Nat.le_of_ble_eq_true rfl) (Nat.le_of_ble_eq_true rfl) (Nat.le_of_ble_eq_true rfl) (Nat.le_of_ble_eq_true rfl) (Nat.le_of_ble_eq_true rfl) (Nat.le_of_ble_eq_true rfl) dX8_digest_45 ?_
    refine v_lstore_n (i := 1) (lv' := [(1, .long (f_X8_digestOfExporters K F G a0 (f_X8_digestOfBuyers K F G a0 (f_X8_digestOfLands K F G a0 (dgB K F G a0 20 0 58265))))), (0, .ref a0)]) hC dX8_digest_48 rfl (by decide) rfl ?_
    refine v_aload_n hC dX8_digest_49 rfl 1 rfl ?_
    refine v_lload_n hC dX8_digest_50 rfl 0 rfl ?_
    refine v_callV (c2 := 0) (s2 := 0) (As := [.long (f_X8_digestOfExporters K F G a0 (f_X8_digestOfBuyers K F G a0 (f_X8_digestOfLands K F G a0 (dgB K F G a0 20 0 58265))))]) hC (m_X8_digestOfPolicies l t0) q_X8_420 (by rw [t0.1]; decide) (ce_1 t0.1) (ci := 0) rfl hdV_X8_digestOfPolicies rfl rfl (Nat.le_of_ble_eq_true rfl) (Nat.le_of_ble_eq_true rfl) (Nat.le_of_ble_eq_true rfl) (Nat.le_of_ble_eq_true rfl) (Nat.le_of_ble_eq_true rfl) (Nat.le_of_ble_eq_true rfl) (Nat.le_of_ble_eq_true rfl) dX8_digest_51 ?_
    refine v_cst (y := .long (dg1 K F G a0)) rfl ?_
    refine v_lstore_n (i := 1) (lv' := [(1, .long (dg1 K F G a0)), (0, .ref a0)]) hC dX8_digest_54 rfl (by decide) rfl ?_
    refine v_aload_n hC dX8_digest_55 rfl 1 rfl ?_
    refine v_lload_n hC dX8_digest_56 rfl 0 rfl ?_
    refine v_rcallV (c2 := 6) (s2 := 552) (As := [.long (dg1 K F G a0)]) hC (m_X8_digestOfShipments l t0) q_X8_423 (by rw [t0.1]; decide) (ce_1 t0.1) (ci := 0) rfl hdV_X8_digestOfShipments rfl rfl (Nat.le_of_ble_eq_true rfl) (Nat.le_of_ble_eq_true rfl) (Nat.le_of_ble_eq_true rfl) (Nat.le_of_ble_eq_true rfl) (Nat.le_of_ble_eq_true rfl) (Nat.le_of_ble_eq_true rfl) (Nat.le_of_ble_eq_true rfl) dX8_digest_57 (fun o1 n1 K1 F1 G1 hP => ?_)
    obtain ⟨rfl, eK, eF, eG⟩ := hP
    rw [eK, eF, eG]
    clear eK eF eG
    refine v_cst (y := .long (dg2 K F G a0)) rfl ?_
    refine v_lstore_n (i := 1) (lv' := [(1, .long (dg2 K F G a0)), (0, .ref a0)]) hC dX8_digest_60 rfl (by decide) rfl ?_
    refine v_lload_n hC dX8_digest_61 rfl 0 rfl ?_
    refine v_ldc2 (v := 31) hC aw_399 dX8_digest_62 ?_
    refine v_lmul hC dX8_digest_65 ?_
    refine v_aload_n hC dX8_digest_66 rfl 1 rfl ?_
    refine v_callV (c2 := 6) (s2 := 552) (As := []) hC (m_X8_circles l t0) q_X8_426 (by rw [t0.1]; decide) (ce_1 t0.1) (ci := 0) rfl hdV_X8_circles rfl rfl (Nat.le_of_ble_eq_true rfl) (Nat.le_of_ble_eq_true rfl) (Nat.le_of_ble_eq_true rfl) (Nat.le_of_ble_eq_true rfl) (Nat.le_of_ble_eq_true rfl) (Nat.le_of_ble_eq_true rfl) (Nat.le_of_ble_eq_true rfl) dX8_digest_67 ?_
    refine v_i2l hC dX8_digest_70 ?_
    refine v_ladd hC dX8_digest_71 ?_
    refine v_cst (y := .long (dg3 K F G a0)) rfl ?_
    refine v_lstore_n (i := 1) (lv' := [(1, .long (dg3 K F G a0)), (0, .ref a0)]) hC dX8_digest_72 rfl (by decide) rfl ?_
    refine v_lload_n hC dX8_digest_73 rfl 0 rfl ?_
    refine v_ldc2 (v := 31) hC aw_399 dX8_digest_74 ?_
    refine v_lmul hC dX8_digest_77 ?_
    refine v_ldc2d (v := 4652218415073722368) hC aw_826 dX8_digest_78 ?_
    refine v_aload_n hC dX8_digest_81 rfl 1 rfl ?_
    refine v_callV (c2 := 6) (s2 := 552) (As := []) hC (m_X8_expected l t0 h3) q_X8_431 (by rw [t0.1]; decide) (ce_1 t0.1) (ci := 0) rfl hdV_X8_expected rfl rfl (Nat.le_of_ble_eq_true rfl) (Nat.le_of_ble_eq_true rfl) (Nat.le_of_ble_eq_true rfl) (Nat.le_of_ble_eq_true rfl) (Nat.le_of_ble_eq_true rfl) (Nat.le_of_ble_eq_true rfl) (Nat.le_of_ble_eq_true rfl) dX8_digest_82 ?_
    refine v_dmul hC dX8_digest_85 (mg_n (Jvm.Free.Fl.dmul_mag k24_m me (by omega) (by omega)) (by omega)) ?_
    refine v_d2l hC dX8_digest_86 ?_
    refine v_ladd hC dX8_digest_87 ?_
    refine v_cst (y := .long (dg4 K F G a0)) rfl ?_
    refine v_lstore_n (i := 1) (lv' := [(1, .long (dg4 K F G a0)), (0, .ref a0)]) hC dX8_digest_88 rfl (by decide) rfl ?_
    refine v_lload_n hC dX8_digest_89 rfl 0 rfl ?_
    refine v_ldc2 (v := 31) hC aw_399 dX8_digest_90 ?_
    refine v_lmul hC dX8_digest_93 ?_
    refine v_ldc2d (v := 4652218415073722368) hC aw_826 dX8_digest_94 ?_
    refine v_aload_n hC dX8_digest_97 rfl 1 rfl ?_
    refine v_sipush (v := 1000) hC dX8_digest_98 (by decide) ?_
    refine v_rcallV (c2 := 7) (s2 := 557) (As := [.int 1000]) hC (m_X8_probable l (y := 1000) t0 h3 (by decide)) q_X8_434 (by rw [t0.1]; decide) (ce_1 t0.1) (ci := 0) rfl hdV_X8_probable rfl rfl (Nat.le_of_ble_eq_true rfl) (Nat.le_of_ble_eq_true rfl) (Nat.le_of_ble_eq_true rfl) (Nat.le_of_ble_eq_true rfl) (Nat.le_of_ble_eq_true rfl) (Nat.le_of_ble_eq_true rfl) (Nat.le_of_ble_eq_true rfl) dX8_digest_101 (fun o2 n2 K2 F2 G2 hP => ?_)
    obtain ⟨rfl, eK, eF, eG⟩ := hP
    rw [eK, eF, eG]
    clear eK eF eG
    refine v_dmul hC dX8_digest_104 (mg_n (Jvm.Free.Fl.dmul_mag k24_m mp (by omega) (by omega)) (by omega)) ?_
    refine v_d2l hC dX8_digest_105 ?_
    refine v_ladd hC dX8_digest_106 ?_
    refine v_cst (y := .long (dg5 K F G a0)) rfl ?_
    refine v_lstore_n (i := 1) (lv' := [(1, .long (dg5 K F G a0)), (0, .ref a0)]) hC dX8_digest_107 rfl (by decide) rfl ?_
    refine v_lload_n hC dX8_digest_108 rfl 0 rfl ?_
    refine v_ldc2 (v := 31) hC aw_399 dX8_digest_109 ?_
    refine v_lmul hC dX8_digest_112 ?_
    refine v_aload_n hC dX8_digest_113 rfl 1 rfl ?_
    refine v_callV (c2 := 7) (s2 := 557) (As := []) hC (m_X8_isSound l t0) q_X8_437 (by rw [t0.1]; decide) (ce_1 t0.1) (ci := 0) rfl hdV_X8_isSound rfl rfl (Nat.le_of_ble_eq_true rfl) (Nat.le_of_ble_eq_true rfl) (Nat.le_of_ble_eq_true rfl) (Nat.le_of_ble_eq_true rfl) (Nat.le_of_ble_eq_true rfl) (Nat.le_of_ble_eq_true rfl) (Nat.le_of_ble_eq_true rfl) dX8_digest_114 ?_
    have FIN : ∀ z : Int32, z = (if f_X8_isSound K F G a0 = 0 then 0 else 1) → V X 4 p l e ({ frames := 16, cells := 600, slots := 4000, locals := 700 } : Room) s m args below meth c Q 7 557 n2 K F G [(1, .long (dg5 K F G a0)), (0, .ref a0)] 125 [.int z, .long (dg5 K F G a0 * 31)] := by
      intro z hz
      refine v_i2l hC dX8_digest_125 ?_
      refine v_ladd hC dX8_digest_126 ?_
      refine v_widen (k2 := 600) (n2 := 4000) (by omega) (by omega) ?_
      refine v_toC (o := some (.long (dg6 K F G a0))) hQ ⟨rfl, rfl, rfl, rfl⟩ ?_
      exact v_lret hC rfl rfl dX8_digest_127 (by rw [hz]; rfl) rfl rfl rfl rfl
    refine v_if_eq (tgt := 124) hC dX8_digest_117 (by decide) (fun w => ?_) (fun w => ?_)
    · refine v_iconst (v := 0) hC dX8_digest_124 (by decide) ?_
      exact FIN _ (by rw [if_pos w])
    · refine v_iconst (v := 1) hC dX8_digest_120 (by decide) ?_
      refine v_goto (tgt := 125) hC dX8_digest_121 (by decide) ?_
      exact FIN _ (by rw [if_neg w])
  have L : ∀ (k j : Nat) (h : Int64), j + k = 20 → dgB K F G a0 k j h = dgB K F G a0 20 0 58265 → V X 4 p l e ({ frames := 16, cells := 600, slots := 4000, locals := 700 } : Room) s m args below meth c Q 0 0 n K F G [(0, .ref a0), (1, .long h), (3, .int (nI j))] 6 [] := by
    intro k
    induction k with
    | zero =>
      intro j h hj hr
      rw [dgB] at hr
      refine v_iload_n hC dX8_digest_6 rfl 2 rfl ?_
      refine v_bipush (v := nI 20) hC dX8_digest_7 (by decide) ?_
      refine v_icmp_ge (tgt := 31) hC dX8_digest_9 (by decide) (fun _ => ?_) (fun w => absurd (lp_z hj) w)
      refine v_sub (lv' := [(0, .ref a0), (1, .long h)]) [0, 1] rfl ?_
      rw [hr]
      exact END
    | succ k ih =>
      intro j h hj hr
      rw [dgB] at hr
      refine v_iload_n hC dX8_digest_6 rfl 2 rfl ?_
      refine v_bipush (v := nI 20) hC dX8_digest_7 (by decide) ?_
      refine v_icmp_ge (tgt := 31) hC dX8_digest_9 (by decide) (fun w => absurd w (lp_s hj (by decide))) (fun _ => ?_)
      refine v_lload_n hC dX8_digest_12 rfl 1 rfl ?_
      refine v_ldc2 (v := 31) hC aw_399 dX8_digest_13 ?_
      refine v_lmul hC dX8_digest_16 ?_
      refine v_aload_n hC dX8_digest_17 rfl 0 rfl ?_
      refine v_iload_n hC dX8_digest_18 rfl 2 rfl ?_
      refine v_callV (c2 := 0) (s2 := 0) (As := [.int (nI j)]) hC (m_X8_figureOfBooks l (x1 := nI j) t0) q_X8_363 (by rw [t0.1]; decide) (ce_1 t0.1) (ci := 0) rfl hdV_X8_figureOfBooks rfl rfl (Nat.le_of_ble_eq_true rfl) (Nat.le_of_ble_eq_true rfl) (Nat.le_of_ble_eq_true rfl) (Nat.le_of_ble_eq_true rfl) (Nat.le_of_ble_eq_true rfl) (Nat.le_of_ble_eq_true rfl) (Nat.le_of_ble_eq_true rfl) dX8_digest_19 ?_
      refine v_i2l hC dX8_digest_22 ?_
      refine v_ladd hC dX8_digest_23 ?_
      refine v_lstore_n (i := 1) (lv' := [(1, .long ((h * 31) + (f_X8_figureOfBooks K F G a0 (nI j)).toInt64)), (0, .ref a0), (3, .int (nI j))]) hC dX8_digest_24 rfl (by decide) rfl ?_
      refine v_iinc (v := nI (j + 1)) (lv' := [(3, .int (nI (j + 1))), (1, .long ((h * 31) + (f_X8_figureOfBooks K F G a0 (nI j)).toInt64)), (0, .ref a0)]) hC dX8_digest_25 2 rfl (nI_inc j) (by decide) rfl ?_
      refine v_goto (tgt := 6) hC dX8_digest_28 (by decide) ?_
      refine v_sub (lv' := [(0, .ref a0), (1, .long ((h * 31) + (f_X8_figureOfBooks K F G a0 (nI j)).toInt64)), (3, .int (nI (j + 1)))]) [2, 1, 0] rfl ?_
      exact ih (j + 1) _ (by omega) hr
  refine v_ldc2 (v := 58265) hC aw_398 dX8_digest_0 ?_
  refine v_lstore_n (i := 1) (lv' := [(1, .long 58265), (0, .ref a0)]) hC dX8_digest_3 rfl (by decide) rfl ?_
  refine v_iconst (v := nI 0) hC dX8_digest_4 (by decide) ?_
  refine v_istore_n (i := 3) (lv' := [(3, .int (nI 0)), (1, .long 58265), (0, .ref a0)]) hC dX8_digest_5 rfl (by decide) rfl ?_
  refine v_sub (lv' := [(0, .ref a0), (1, .long 58265), (3, .int (nI 0))]) [2, 1, 0] rfl ?_
  exact L 20 0 _ (by omega) rfl
end PNU
