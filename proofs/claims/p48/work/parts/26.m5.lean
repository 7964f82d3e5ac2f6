section Pm5
variable {X : Xt}
theorem hdS_X1_init : yX1_init.cls ≠ "java/lang/invoke/MethodHandle" ∧ yX1_init.cls ≠ "java/lang/invoke/VarHandle" ∧ (parseMethodDescriptor yX1_init.desc).map (fun d => d.parameters.length) = some 0 := by decide +kernel
theorem hdV_X1_init : yX1_init.cls = RX1 ∧ yX1_init.cls ≠ "java/lang/invoke/MethodHandle" ∧ yX1_init.cls ≠ "java/lang/invoke/VarHandle" ∧ (parseMethodDescriptor yX1_init.desc).map (fun d => d.parameters.length) = some 0 := by decide +kernel
set_option maxHeartbeats 4000000 in
set_option maxRecDepth 100000 in
theorem m_X1_init (l : Launch) {n : Nat} {K : Kt} {F : Ft} {G : Gt} {a0 : Nat} (t0 : (K a0).1 = 2) : Mw X l yX1_init cX1_init 1 none 1 21 0 0 [.ref a0] n K F G none n K F G := by
  refine Mw.of (lv := [(0, .ref a0)]) (by decide) (Nat.le_of_ble_eq_true rfl) rfl ?_
  intro p e s m args below meth c Q hC hin hQ
  have hC : Cx X p s m args meth c RX1 cX1_init 1 none := hC
  refine v_aload_n hC dX1_init_0 rfl 0 rfl ?_
  refine v_objInit hC aw_896 (Nat.le_of_ble_eq_true rfl) (Nat.le_of_ble_eq_true rfl) (Nat.le_of_ble_eq_true rfl) dX1_init_1 ?_
  exact v_vret hC rfl hQ dX1_init_4 rfl rfl rfl rfl rfl
theorem hdS_Jxa1e45_init_da8c8 : yJxa1e45_init_da8c8.cls ≠ "java/lang/invoke/MethodHandle" ∧ yJxa1e45_init_da8c8.cls ≠ "java/lang/invoke/VarHandle" ∧ (parseMethodDescriptor yJxa1e45_init_da8c8.desc).map (fun d => d.parameters.length) = some 0 := by decide +kernel
theorem hdV_Jxa1e45_init_da8c8 : yJxa1e45_init_da8c8.cls = RJxa1e45 ∧ yJxa1e45_init_da8c8.cls ≠ "java/lang/invoke/MethodHandle" ∧ yJxa1e45_init_da8c8.cls ≠ "java/lang/invoke/VarHandle" ∧ (parseMethodDescriptor yJxa1e45_init_da8c8.desc).map (fun d => d.parameters.length) = some 0 := by decide +kernel
set_option maxHeartbeats 4000000 in
set_option maxRecDepth 100000 in
theorem m_Jxa1e45_init_da8c8 (l : Launch) {n : Nat} {K : Kt} {F : Ft} {G : Gt} {a0 : Nat} (t0 : (K a0).1 = 10) : Mw X l yJxa1e45_init_da8c8 cJxa1e45_init_da8c8 1 none 1 21 0 0 [.ref a0] n K F G none n K F G := by
  refine Mw.of (lv := [(0, .ref a0)]) (by decide) (Nat.le_of_ble_eq_true rfl) rfl ?_
  intro p e s m args below meth c Q hC hin hQ
  have hC : Cx X p s m args meth c RJxa1e45 cJxa1e45_init_da8c8 1 none := hC
  refine v_aload_n hC dJxa1e45_init_da8c8_0 rfl 0 rfl ?_
  refine v_objInit hC aw_876 (Nat.le_of_ble_eq_true rfl) (Nat.le_of_ble_eq_true rfl) (Nat.le_of_ble_eq_true rfl) dJxa1e45_init_da8c8_1 ?_
  exact v_vret hC rfl hQ dJxa1e45_init_da8c8_4 rfl rfl rfl rfl rfl
theorem hdS_Jxc12de_init_da8c8 : yJxc12de_init_da8c8.cls ≠ "java/lang/invoke/MethodHandle" ∧ yJxc12de_init_da8c8.cls ≠ "java/lang/invoke/VarHandle" ∧ (parseMethodDescriptor yJxc12de_init_da8c8.desc).map (fun d => d.parameters.length) = some 0 := by decide +kernel
theorem hdV_Jxc12de_init_da8c8 : yJxc12de_init_da8c8.cls = RJxc12de ∧ yJxc12de_init_da8c8.cls ≠ "java/lang/invoke/MethodHandle" ∧ yJxc12de_init_da8c8.cls ≠ "java/lang/invoke/VarHandle" ∧ (parseMethodDescriptor yJxc12de_init_da8c8.desc).map (fun d => d.parameters.length) = some 0 := by decide +kernel
set_option maxHeartbeats 4000000 in
set_option maxRecDepth 100000 in
theorem m_Jxc12de_init_da8c8 (l : Launch) {n : Nat} {K : Kt} {F : Ft} {G : Gt} {a0 : Nat} (t0 : (K a0).1 = 10) : Mw X l yJxc12de_init_da8c8 cJxc12de_init_da8c8 1 none 2 41 0 0 [.ref a0] n K F G none n K (up2 F a0 0 0) G := by
  refine Mw.of (lv := [(0, .ref a0)]) (by decide) (Nat.le_of_ble_eq_true rfl) rfl ?_
  intro p e s m args below meth c Q hC hin hQ
  have hC : Cx X p s m args meth c RJxc12de cJxc12de_init_da8c8 1 none := hC
  refine v_aload_n hC dJxc12de_init_da8c8_0 rfl 0 rfl ?_
  refine v_callI (c2 := 0) (s2 := 0) (As := []) hC (m_Jxa1e45_init_da8c8 l (n := n) (K := K) (F := F) (G := G) (a0 := a0) t0) q_Jxc12de_1 rfl hdS_Jxa1e45_init_da8c8 rfl rfl (Nat.le_of_ble_eq_true rfl) (Nat.le_of_ble_eq_true rfl) (Nat.le_of_ble_eq_true rfl) (Nat.le_of_ble_eq_true rfl) (Nat.le_of_ble_eq_true rfl) (Nat.le_of_ble_eq_true rfl) (Nat.le_of_ble_eq_true rfl) dJxc12de_init_da8c8_1 ?_
  refine v_aload_n hC dJxc12de_init_da8c8_4 rfl 0 rfl ?_
  refine v_iconst (v := 0) hC dJxc12de_init_da8c8_5 (by decide) ?_
  refine pf_Jxc12de_7 hC t0 dJxc12de_init_da8c8_6 ?_
  exact v_vret hC rfl hQ dJxc12de_init_da8c8_9 rfl rfl rfl rfl rfl
theorem hdS_Jx4a65c_init_da8c8 : yJx4a65c_init_da8c8.cls ≠ "java/lang/invoke/MethodHandle" ∧ yJx4a65c_init_da8c8.cls ≠ "java/lang/invoke/VarHandle" ∧ (parseMethodDescriptor yJx4a65c_init_da8c8.desc).map (fun d => d.parameters.length) = some 0 := by decide +kernel
theorem hdV_Jx4a65c_init_da8c8 : yJx4a65c_init_da8c8.cls = RJx4a65c ∧ yJx4a65c_init_da8c8.cls ≠ "java/lang/invoke/MethodHandle" ∧ yJx4a65c_init_da8c8.cls ≠ "java/lang/invoke/VarHandle" ∧ (parseMethodDescriptor yJx4a65c_init_da8c8.desc).map (fun d => d.parameters.length) = some 0 := by decide +kernel
set_option maxHeartbeats 4000000 in
set_option maxRecDepth 100000 in
theorem m_Jx4a65c_init_da8c8 (l : Launch) {n : Nat} {K : Kt} {F : Ft} {G : Gt} {a0 : Nat} (t0 : (K a0).1 = 10) : Mw X l yJx4a65c_init_da8c8 cJx4a65c_init_da8c8 1 none 3 61 0 0 [.ref a0] n K F G none n K (up2 F a0 0 0) (up2 G a0 1 (some (xz X))) := by
  refine Mw.of (lv := [(0, .ref a0)]) (by decide) (Nat.le_of_ble_eq_true rfl) rfl ?_
  intro p e s m args below meth c Q hC hin hQ
  have hC : Cx X p s m args meth c RJx4a65c cJx4a65c_init_da8c8 1 none := hC
  refine v_aload_n hC dJx4a65c_init_da8c8_0 rfl 0 rfl ?_
  refine v_callI (c2 := 0) (s2 := 0) (As := []) hC (m_Jxc12de_init_da8c8 l (n := n) (K := K) (F := F) (G := G) (a0 := a0) t0) q_Jx4a65c_1 rfl hdS_Jxc12de_init_da8c8 rfl rfl (Nat.le_of_ble_eq_true rfl) (Nat.le_of_ble_eq_true rfl) (Nat.le_of_ble_eq_true rfl) (Nat.le_of_ble_eq_true rfl) (Nat.le_of_ble_eq_true rfl) (Nat.le_of_ble_eq_true rfl) (Nat.le_of_ble_eq_true rfl) dJx4a65c_init_da8c8_1 ?_
  refine v_aload_n hC dJx4a65c_init_da8c8_4 rfl 0 rfl ?_
  refine v_getsD hC al_s39 dJx4a65c_init_da8c8_5 ?_
  refine pf_Jx4a65c_9 hC t0 dJx4a65c_init_da8c8_8 ?_
  exact v_vret hC rfl hQ dJx4a65c_init_da8c8_11 rfl rfl rfl rfl rfl
def f_Jx4a65c_isEmpty_aae02_J12 (K : Kt) (F : Ft) (G : Gt) (u1 : Int32) : Int32 := u1
def f_Jx4a65c_isEmpty_aae02 (K : Kt) (F : Ft) (G : Gt) (a0 : Nat) : Int32 := if (nI (K a0).2) = 0 then f_Jx4a65c_isEmpty_aae02_J12 K F G 1 else f_Jx4a65c_isEmpty_aae02_J12 K F G 0
theorem hdS_Jx4a65c_isEmpty_aae02 : yJx4a65c_isEmpty_aae02.cls ≠ "java/lang/invoke/MethodHandle" ∧ yJx4a65c_isEmpty_aae02.cls ≠ "java/lang/invoke/VarHandle" ∧ (parseMethodDescriptor yJx4a65c_isEmpty_aae02.desc).map (fun d => d.parameters.length) = some 0 := by decide +kernel
theorem hdV_Jx4a65c_isEmpty_aae02 : yJx4a65c_isEmpty_aae02.cls = RJx4a65c ∧ yJx4a65c_isEmpty_aae02.cls ≠ "java/lang/invoke/MethodHandle" ∧ yJx4a65c_isEmpty_aae02.cls ≠ "java/lang/invoke/VarHandle" ∧ (parseMethodDescriptor yJx4a65c_isEmpty_aae02.desc).map (fun d => d.parameters.length) = some 0 := by decide +kernel
set_option maxHeartbeats 4000000 in
set_option maxRecDepth 100000 in
theorem m_Jx4a65c_isEmpty_aae02 (l : Launch) {n : Nat} {K : Kt} {F : Ft} {G : Gt} {a0 : Nat} (t0 : (K a0).1 = 10) : Mw X l yJx4a65c_isEmpty_aae02 cJx4a65c_isEmpty_aae02 1 (some .boolean) 0 0 0 0 [.ref a0] n K F G (some (.int (f_Jx4a65c_isEmpty_aae02 K F G a0))) n K F G := by
  generalize hf : f_Jx4a65c_isEmpty_aae02 K F G a0 = r
  refine Mw.of (lv := [(0, .ref a0)]) (by decide) (Nat.le_of_ble_eq_true rfl) rfl ?_
  intro p e s m args below meth c Q hC hin hQ
  have hC : Cx X p s m args meth c RJx4a65c cJx4a65c_isEmpty_aae02 1 (some .boolean) := hC
  rw [f_Jx4a65c_isEmpty_aae02] at hf
  refine v_aload_n hC dJx4a65c_isEmpty_aae02_0 rfl 0 rfl ?_
  refine gf_Jx4a65c_48 hC t0 dJx4a65c_isEmpty_aae02_1 ?_
  have KJ12 : ∀ (u1 : Int32) (tu1 : u1 = 0 ∨ u1 = 1), f_Jx4a65c_isEmpty_aae02_J12 K F G u1 = r → V X 1 p l e ({ frames := 0, cells := 0, slots := 0, locals := 0 } : Room) s m args below meth c Q 0 0 n K F G [] 12 [.int u1] := by
    intro u1 tu1 hf
    rw [f_Jx4a65c_isEmpty_aae02_J12] at hf
    exact v_zret (ty := .boolean) hC rfl (zz_of tu1) hQ dJx4a65c_isEmpty_aae02_12 (congrArg (fun z => some (Value.int z)) hf) rfl rfl rfl rfl
  refine v_if_ne (tgt := 11) hC dJx4a65c_isEmpty_aae02_4 (by decide) (fun c2 => ?_) (fun c2 => ?_)
  · rw [if_neg c2] at hf
    refine v_iconst (v := 0) hC dJx4a65c_isEmpty_aae02_11 (by decide) ?_
    refine v_sub [] rfl ?_
    exact KJ12 0 (Or.inl rfl) hf
  · rw [if_pos c2] at hf
    refine v_iconst (v := 1) hC dJx4a65c_isEmpty_aae02_7 (by decide) ?_
    refine v_goto (tgt := 12) hC dJx4a65c_isEmpty_aae02_8 (by decide) ?_
    refine v_sub [] rfl ?_
    exact KJ12 1 (Or.inr rfl) hf
def f_J8_newLength_cabcc (K : Kt) (F : Ft) (G : Gt) (x0 : Int32) (x1 : Int32) (x2 : Int32) : Int32 := x0 + (if x1 < x2 then x2 else x1)
theorem hdS_J8_newLength_cabcc : yJ8_newLength_cabcc.cls ≠ "java/lang/invoke/MethodHandle" ∧ yJ8_newLength_cabcc.cls ≠ "java/lang/invoke/VarHandle" ∧ (parseMethodDescriptor yJ8_newLength_cabcc.desc).map (fun d => d.parameters.length) = some 3 := by decide +kernel
theorem hdV_J8_newLength_cabcc : yJ8_newLength_cabcc.cls = RJ8 ∧ yJ8_newLength_cabcc.cls ≠ "java/lang/invoke/MethodHandle" ∧ yJ8_newLength_cabcc.cls ≠ "java/lang/invoke/VarHandle" ∧ (parseMethodDescriptor yJ8_newLength_cabcc.desc).map (fun d => d.parameters.length) = some 3 := by decide +kernel
set_option maxHeartbeats 4000000 in
set_option maxRecDepth 100000 in
theorem m_J8_newLength_cabcc (l : Launch) {n : Nat} {K : Kt} {F : Ft} {G : Gt} {x0 : Int32} {x1 : Int32} {x2 : Int32} (h1 : ¬ x0 + (if x1 < x2 then x2 else x1) ≤ 0) (h2 : ¬ 2147483639 < x0 + (if x1 < x2 then x2 else x1)) : Mw X l yJ8_newLength_cabcc cJ8_newLength_cabcc 4 (some .int) 1 21 0 0 [.int x0, .int x1, .int x2] n K F G (some (.int (f_J8_newLength_cabcc K F G x0 x1 x2))) n K F G := by
  generalize hf : f_J8_newLength_cabcc K F G x0 x1 x2 = r
  refine Mw.of (lv := [(0, .int x0), (1, .int x1), (2, .int x2)]) (by decide) (Nat.le_of_ble_eq_true rfl) rfl ?_
  intro p e s m args below meth c Q hC hin hQ
  have hC : Cx X p s m args meth c RJ8 cJ8_newLength_cabcc 4 (some .int) := hC
  rw [f_J8_newLength_cabcc] at hf
  refine v_iload_n hC dJ8_newLength_cabcc_0 rfl 0 rfl ?_
  refine v_iload_n hC dJ8_newLength_cabcc_1 rfl 1 rfl ?_
  refine v_iload_n hC dJ8_newLength_cabcc_2 rfl 2 rfl ?_
  refine v_mmax hC aw_562 (Nat.le_of_ble_eq_true rfl) (Nat.le_of_ble_eq_true rfl) (Nat.le_of_ble_eq_true rfl) (Nat.le_of_ble_eq_true rfl) (Nat.le_of_ble_eq_true rfl) dJ8_newLength_cabcc_3 ?_
  refine v_iadd hC dJ8_newLength_cabcc_6 ?_
  refine v_istore_n (i := 3) (lv' := [(3, .int (x0 + (if x1 < x2 then x2 else x1))), (0, .int x0), (1, .int x1), (2, .int x2)]) hC dJ8_newLength_cabcc_7 rfl (by decide) rfl ?_
  refine v_iconst (v := 0) hC dJ8_newLength_cabcc_8 (by decide) ?_
  refine v_iload_n hC dJ8_newLength_cabcc_9 rfl 0 rfl ?_
  refine v_icmp_ge (tgt := 21) hC dJ8_newLength_cabcc_10 (by decide) (fun c1 => absurd c1 h1) (fun c1 => ?_)
  refine v_iload_n hC dJ8_newLength_cabcc_13 rfl 0 rfl ?_
  refine v_ldc (v := 2147483639) hC aw_565 dJ8_newLength_cabcc_14 ?_
  refine v_icmp_gt (tgt := 21) hC dJ8_newLength_cabcc_16 (by decide) (fun c2 => absurd c2 h2) (fun c2 => ?_)
  refine v_iload_n hC dJ8_newLength_cabcc_19 rfl 0 rfl ?_
  exact v_iret hC rfl hQ dJ8_newLength_cabcc_20 (congrArg (fun z => some (Value.int z)) hf) rfl rfl rfl rfl
theorem hdS_X2_init : yX2_init.cls ≠ "java/lang/invoke/MethodHandle" ∧ yX2_init.cls ≠ "java/lang/invoke/VarHandle" ∧ (parseMethodDescriptor yX2_init.desc).map (fun d => d.parameters.length) = some 3 := by decide +kernel
theorem hdV_X2_init : yX2_init.cls = RX2 ∧ yX2_init.cls ≠ "java/lang/invoke/MethodHandle" ∧ yX2_init.cls ≠ "java/lang/invoke/VarHandle" ∧ (parseMethodDescriptor yX2_init.desc).map (fun d => d.parameters.length) = some 3 := by decide +kernel
set_option maxHeartbeats 4000000 in
set_option maxRecDepth 100000 in
theorem m_X2_init (l : Launch) {n : Nat} {K : Kt} {F : Ft} {G : Gt} {a0 : Nat} {x1 : Int32} {x2 : Int32} {x3 : Int32} (t0 : (K a0).1 = 8) : Mw X l yX2_init cX2_init 4 none 1 21 0 0 [.ref a0, .int x1, .int x2, .int x3] n K F G none n K (up2 (up2 (up2 F a0 0 x1) a0 1 x2) a0 2 x3) G := by
  refine Mw.of (lv := [(0, .ref a0), (1, .int x1), (2, .int x2), (3, .int x3)]) (by decide) (Nat.le_of_ble_eq_true rfl) rfl ?_
  intro p e s m args below meth c Q hC hin hQ
  have hC : Cx X p s m args meth c RX2 cX2_init 4 none := hC
  refine v_aload_n hC dX2_init_0 rfl 0 rfl ?_
  refine v_objInit hC aw_1346 (Nat.le_of_ble_eq_true rfl) (Nat.le_of_ble_eq_true rfl) (Nat.le_of_ble_eq_true rfl) dX2_init_1 ?_
  refine v_aload_n hC dX2_init_4 rfl 0 rfl ?_
  refine v_iload_n hC dX2_init_5 rfl 1 rfl ?_
  refine pf_X2_7 hC hin t0 dX2_init_6 ?_
  refine v_aload_n hC dX2_init_9 rfl 0 rfl ?_
  refine v_iload_n hC dX2_init_10 rfl 2 rfl ?_
  refine pf_X2_13 hC hin t0 dX2_init_11 ?_
  refine v_aload_n hC dX2_init_14 rfl 0 rfl ?_
  refine v_iload_n hC dX2_init_15 rfl 3 rfl ?_
  refine pf_X2_16 hC hin t0 dX2_init_16 ?_
  exact v_vret hC rfl hQ dX2_init_19 rfl rfl rfl rfl rfl
theorem hdS_X3_init : yX3_init.cls ≠ "java/lang/invoke/MethodHandle" ∧ yX3_init.cls ≠ "java/lang/invoke/VarHandle" ∧ (parseMethodDescriptor yX3_init.desc).map (fun d => d.parameters.length) = some 3 := by decide +kernel
theorem hdV_X3_init : yX3_init.cls = RX3 ∧ yX3_init.cls ≠ "java/lang/invoke/MethodHandle" ∧ yX3_init.cls ≠ "java/lang/invoke/VarHandle" ∧ (parseMethodDescriptor yX3_init.desc).map (fun d => d.parameters.length) = some 3 := by decide +kernel
set_option maxHeartbeats 4000000 in
set_option maxRecDepth 100000 in
theorem m_X3_init (l : Launch) {n : Nat} {K : Kt} {F : Ft} {G : Gt} {a0 : Nat} {x1 : Int32} {x2 : Int32} {x3 : Int32} (t0 : (K a0).1 = 9) : Mw X l yX3_init cX3_init 4 none 1 21 0 0 [.ref a0, .int x1, .int x2, .int x3] n K F G none n K (up2 (up2 (up2 F a0 0 x1) a0 1 x2) a0 2 x3) G := by
  refine Mw.of (lv := [(0, .ref a0), (1, .int x1), (2, .int x2), (3, .int x3)]) (by decide) (Nat.le_of_ble_eq_true rfl) rfl ?_
  intro p e s m args below meth c Q hC hin hQ
  have hC : Cx X p s m args meth c RX3 cX3_init 4 none := hC
  refine v_aload_n hC dX3_init_0 rfl 0 rfl ?_
  refine v_objInit hC aw_1394 (Nat.le_of_ble_eq_true rfl) (Nat.le_of_ble_eq_true rfl) (Nat.le_of_ble_eq_true rfl) dX3_init_1 ?_
  refine v_aload_n hC dX3_init_4 rfl 0 rfl ?_
  refine v_iload_n hC dX3_init_5 rfl 1 rfl ?_
  refine pf_X3_7 hC hin t0 dX3_init_6 ?_
  refine v_aload_n hC dX3_init_9 rfl 0 rfl ?_
  refine v_iload_n hC dX3_init_10 rfl 2 rfl ?_
  refine pf_X3_13 hC hin t0 dX3_init_11 ?_
  refine v_aload_n hC dX3_init_14 rfl 0 rfl ?_
  refine v_iload_n hC dX3_init_15 rfl 3 rfl ?_
  refine pf_X3_16 hC hin t0 dX3_init_16 ?_
  exact v_vret hC rfl hQ dX3_init_19 rfl rfl rfl rfl rfl
theorem hdS_X5_init : yX5_init.cls ≠ "java/lang/invoke/MethodHandle" ∧ yX5_init.cls ≠ "java/lang/invoke/VarHandle" ∧ (parseMethodDescriptor yX5_init.desc).map (fun d => d.parameters.length) = some 3 := by decide +kernel
theorem hdV_X5_init : yX5_init.cls = RX5 ∧ yX5_init.cls ≠ "java/lang/invoke/MethodHandle" ∧ yX5_init.cls ≠ "java/lang/invoke/VarHandle" ∧ (parseMethodDescriptor yX5_init.desc).map (fun d => d.parameters.length) = some 3 := by decide +kernel
set_option maxHeartbeats 4000000 in
set_option maxRecDepth 100000 in
theorem m_X5_init (l : Launch) {n : Nat} {K : Kt} {F : Ft} {G : Gt} {a0 : Nat} {x1 : Int32} {x2 : Int32} {x3 : Int32} (t0 : (K a0).1 = 3) : Mw X l yX5_init cX5_init 4 none 1 21 0 0 [.ref a0, .int x1, .int x2, .int x3] n K F G none n K (up2 (up2 (up2 (up2 (up2 (up2 F a0 4 (-1)) a0 5 (-1)) a0 7 (-1)) a0 0 x1) a0 1 x2) a0 2 x3) G := by
  refine Mw.of (lv := [(0, .ref a0), (1, .int x1), (2, .int x2), (3, .int x3)]) (by decide) (Nat.le_of_ble_eq_true rfl) rfl ?_
  intro p e s m args below meth c Q hC hin hQ
  have hC : Cx X p s m args meth c RX5 cX5_init 4 none := hC
  refine v_aload_n hC dX5_init_0 rfl 0 rfl ?_
  refine v_objInit hC aw_964 (Nat.le_of_ble_eq_true rfl) (Nat.le_of_ble_eq_true rfl) (Nat.le_of_ble_eq_true rfl) dX5_init_1 ?_
  refine v_aload_n hC dX5_init_4 rfl 0 rfl ?_
  refine v_iconst (v := (-1)) hC dX5_init_5 (by decide) ?_
  refine pf_X5_9 hC t0 dX5_init_6 ?_
  refine v_aload_n hC dX5_init_9 rfl 0 rfl ?_
  refine v_iconst (v := (-1)) hC dX5_init_10 (by decide) ?_
  refine pf_X5_15 hC t0 dX5_init_11 ?_
  refine v_aload_n hC dX5_init_14 rfl 0 rfl ?_
  refine v_iconst (v := (-1)) hC dX5_init_15 (by decide) ?_
  refine pf_X5_18 hC t0 dX5_init_16 ?_
  refine v_aload_n hC dX5_init_19 rfl 0 rfl ?_
  refine v_iload_n hC dX5_init_20 rfl 1 rfl ?_
  refine pf_X5_21 hC hin t0 dX5_init_21 ?_
  refine v_aload_n hC dX5_init_24 rfl 0 rfl ?_
  refine v_iload_n hC dX5_init_25 rfl 2 rfl ?_
  refine pf_X5_24 hC t0 dX5_init_26 ?_
  refine v_aload_n hC dX5_init_29 rfl 0 rfl ?_
  refine v_iload_n hC dX5_init_30 rfl 3 rfl ?_
  refine pf_X5_27 hC t0 dX5_init_31 ?_
  exact v_vret hC rfl hQ dX5_init_34 rfl rfl rfl rfl rfl
theorem hdS_X0_init : yX0_init.cls ≠ "java/lang/invoke/MethodHandle" ∧ yX0_init.cls ≠ "java/lang/invoke/VarHandle" ∧ (parseMethodDescriptor yX0_init.desc).map (fun d => d.parameters.length) = some 3 := by decide +kernel
theorem hdV_X0_init : yX0_init.cls = RX0 ∧ yX0_init.cls ≠ "java/lang/invoke/MethodHandle" ∧ yX0_init.cls ≠ "java/lang/invoke/VarHandle" ∧ (parseMethodDescriptor yX0_init.desc).map (fun d => d.parameters.length) = some 3 := by decide +kernel
set_option maxHeartbeats 4000000 in
set_option maxRecDepth 100000 in
theorem m_X0_init (l : Launch) {n : Nat} {K : Kt} {F : Ft} {G : Gt} {a0 : Nat} {x1 : Int32} {a2 : Nat} {x3 : Int32} (t0 : (K a0).1 = 4) (t2 : (K a2).1 = 3) : Mw X l yX0_init cX0_init 4 none 2 41 1 1 [.ref a0, .int x1, .ref a2, .int x3] n K F G none (n + 1) (va_up K n (2, 0)) (up2 (up2 (up2 (va_up F n (fun _ => 0)) a0 4 (-1)) a0 0 x1) a0 2 x3) (up2 (up2 (va_up G n (fun _ => none)) a0 3 (some n)) a0 1 (some a2)) := by
  refine Mw.of (lv := [(0, .ref a0), (1, .int x1), (2, .ref a2), (3, .int x3)]) (by decide) (Nat.le_of_ble_eq_true rfl) rfl ?_
  intro p e s m args below meth c Q hC hin hQ
  have hC : Cx X p s m args meth c RX0 cX0_init 4 none := hC
  refine v_aload_n hC dX0_init_0 rfl 0 rfl ?_
  refine v_objInit hC aw_1090 (Nat.le_of_ble_eq_true rfl) (Nat.le_of_ble_eq_true rfl) (Nat.le_of_ble_eq_true rfl) dX0_init_1 ?_
  refine v_aload_n hC dX0_init_4 rfl 0 rfl ?_
  refine v_fresh (fun hfr1 => ?_)
  refine nw_X0_9 hC (Nat.le_of_ble_eq_true rfl) (Nat.le_of_ble_eq_true rfl) dX0_init_5 ?_
  have tk2 : (va_up K n (2, 0) a0).1 = 4 := kup hfr1 t0 (by decide)
  have tk3 : (va_up K n (2, 0) a2).1 = 3 := kup hfr1 t2 (by decide)
  have tk4 : (va_up K n (2, 0) n).1 = 2 := congrArg Prod.fst kat
  refine v_dup hC dX0_init_8 rfl ?_
  refine v_callIN (c2 := 1) (s2 := 1) (As := []) hC (m_X1_init l (n := (n + 1)) (K := (va_up K n (2, 0))) (F := (va_up F n (fun _ => 0))) (G := (va_up G n (fun _ => none))) (a0 := n) tk4) q_X0_11 rfl hdS_X1_init rfl rfl (Nat.le_of_ble_eq_true rfl) (Nat.le_of_ble_eq_true rfl) (Nat.le_of_ble_eq_true rfl) (Nat.le_of_ble_eq_true rfl) (Nat.le_of_ble_eq_true rfl) (Nat.le_of_ble_eq_true rfl) (Nat.le_of_ble_eq_true rfl) dX0_init_9 ?_
  refine pf_X0_12 hC hin tk2 dX0_init_12 ?_
  refine v_aload_n hC dX0_init_15 rfl 0 rfl ?_
  refine v_iconst (v := (-1)) hC dX0_init_16 (by decide) ?_
  refine pf_X0_18 hC tk2 dX0_init_17 ?_
  refine v_aload_n hC dX0_init_20 rfl 0 rfl ?_
  refine v_iload_n hC dX0_init_21 rfl 1 rfl ?_
  refine pf_X0_22 hC hin tk2 dX0_init_22 ?_
  refine v_aload_n hC dX0_init_25 rfl 0 rfl ?_
  refine v_aload_n hC dX0_init_26 rfl 2 rfl ?_
  refine pf_X0_25 hC hin tk2 dX0_init_27 ?_
  refine v_aload_n hC dX0_init_30 rfl 0 rfl ?_
  refine v_iload_n hC dX0_init_31 rfl 3 rfl ?_
  refine pf_X0_29 hC hin tk2 dX0_init_32 ?_
  exact v_vret hC rfl hQ dX0_init_35 rfl rfl rfl rfl rfl
theorem hdS_X4_init : yX4_init.cls ≠ "java/lang/invoke/MethodHandle" ∧ yX4_init.cls ≠ "java/lang/invoke/VarHandle" ∧ (parseMethodDescriptor yX4_init.desc).map (fun d => d.parameters.length) = some 1 := by decide +kernel
theorem hdV_X4_init : yX4_init.cls = RX4 ∧ yX4_init.cls ≠ "java/lang/invoke/MethodHandle" ∧ yX4_init.cls ≠ "java/lang/invoke/VarHandle" ∧ (parseMethodDescriptor yX4_init.desc).map (fun d => d.parameters.length) = some 1 := by decide +kernel
set_option maxHeartbeats 4000000 in
set_option maxRecDepth 100000 in
theorem m_X4_init (l : Launch) {n : Nat} {K : Kt} {F : Ft} {G : Gt} {a0 : Nat} {x1 : Int32} (t0 : (K a0).1 = 5) : Mw X l yX4_init cX4_init 2 none 2 41 1 1 [.ref a0, .int x1] n K F G none (n + 1) (va_up K n (2, 0)) (up2 (va_up F n (fun _ => 0)) a0 0 x1) (up2 (va_up G n (fun _ => none)) a0 1 (some n)) := by
  refine Mw.of (lv := [(0, .ref a0), (1, .int x1)]) (by decide) (Nat.le_of_ble_eq_true rfl) rfl ?_
  intro p e s m args below meth c Q hC hin hQ
  have hC : Cx X p s m args meth c RX4 cX4_init 2 none := hC
  refine v_aload_n hC dX4_init_0 rfl 0 rfl ?_
  refine v_objInit hC aw_1054 (Nat.le_of_ble_eq_true rfl) (Nat.le_of_ble_eq_true rfl) (Nat.le_of_ble_eq_true rfl) dX4_init_1 ?_
  refine v_aload_n hC dX4_init_4 rfl 0 rfl ?_
  refine v_fresh (fun hfr1 => ?_)
  refine nw_X4_7 hC (Nat.le_of_ble_eq_true rfl) (Nat.le_of_ble_eq_true rfl) dX4_init_5 ?_
  have tk2 : (va_up K n (2, 0) a0).1 = 5 := kup hfr1 t0 (by decide)
  have tk3 : (va_up K n (2, 0) n).1 = 2 := congrArg Prod.fst kat
  refine v_dup hC dX4_init_8 rfl ?_
  refine v_callIN (c2 := 1) (s2 := 1) (As := []) hC (m_X1_init l (n := (n + 1)) (K := (va_up K n (2, 0))) (F := (va_up F n (fun _ => 0))) (G := (va_up G n (fun _ => none))) (a0 := n) tk3) q_X4_9 rfl hdS_X1_init rfl rfl (Nat.le_of_ble_eq_true rfl) (Nat.le_of_ble_eq_true rfl) (Nat.le_of_ble_eq_true rfl) (Nat.le_of_ble_eq_true rfl) (Nat.le_of_ble_eq_true rfl) (Nat.le_of_ble_eq_true rfl) (Nat.le_of_ble_eq_true rfl) dX4_init_9 ?_
  refine pf_X4_10 hC hin tk2 dX4_init_12 ?_
  refine v_aload_n hC dX4_init_15 rfl 0 rfl ?_
  refine v_iload_n hC dX4_init_16 rfl 1 rfl ?_
  refine pf_X4_16 hC hin tk2 dX4_init_17 ?_
  exact v_vret hC rfl hQ dX4_init_20 rfl rfl rfl rfl rfl
theorem hdS_X6_init : yX6_init.cls ≠ "java/lang/invoke/MethodHandle" ∧ yX6_init.cls ≠ "java/lang/invoke/VarHandle" ∧ (parseMethodDescriptor yX6_init.desc).map (fun d => d.parameters.length) = some 5 := by decide +kernel
theorem hdV_X6_init : yX6_init.cls = RX6 ∧ yX6_init.cls ≠ "java/lang/invoke/MethodHandle" ∧ yX6_init.cls ≠ "java/lang/invoke/VarHandle" ∧ (parseMethodDescriptor yX6_init.desc).map (fun d => d.parameters.length) = some 5 := by decide +kernel
set_option maxHeartbeats 4000000 in
set_option maxRecDepth 100000 in
theorem m_X6_init (l : Launch) {n : Nat} {K : Kt} {F : Ft} {G : Gt} {a0 : Nat} {x1 : Int32} {a2 : Nat} {x3 : Int32} {x4 : Int32} {x5 : Int32} (t0 : (K a0).1 = 6) (t2 : TExp K G a2) : Mw X l yX6_init cX6_init 6 none 1 21 1 12 [.ref a0, .int x1, .ref a2, .int x3, .int x4, .int x5] n K F G none (n + 1) (va_up K n (20, 12)) (up2 (up2 (up2 (up2 (va_up F n (fun _ => 0)) a0 0 x1) a0 2 x3) a0 3 x4) a0 4 x5) (up2 (up2 G a0 5 (some n)) a0 1 (some a2)) := by
  refine Mw.of (lv := [(0, .ref a0), (1, .int x1), (2, .ref a2), (3, .int x3), (4, .int x4), (5, .int x5)]) (by decide) (Nat.le_of_ble_eq_true rfl) rfl ?_
  intro p e s m args below meth c Q hC hin hQ
  have hC : Cx X p s m args meth c RX6 cX6_init 6 none := hC
  refine v_aload_n hC dX6_init_0 rfl 0 rfl ?_
  refine v_objInit hC aw_1156 (Nat.le_of_ble_eq_true rfl) (Nat.le_of_ble_eq_true rfl) (Nat.le_of_ble_eq_true rfl) dX6_init_1 ?_
  refine v_aload_n hC dX6_init_4 rfl 0 rfl ?_
  refine v_bipush (v := 12) hC dX6_init_5 (by decide) ?_
  refine v_fresh (fun hfr1 => ?_)
  refine v_newi (N := 12) hC (by decide) rfl (Nat.le_of_ble_eq_true rfl) (Nat.le_of_ble_eq_true rfl) (Nat.le_of_ble_eq_true rfl) dX6_init_7 ?_
  have tk2 : (va_up K n (20, 12) a0).1 = 6 := kup hfr1 t0 (by decide)
  have tk3 : (va_up K n (20, 12) a2).1 = 5 := kup hfr1 t2.1 (by decide)
  have tk4 : (va_up K n (20, 12) n).1 = 20 := congrArg Prod.fst kat
  refine pf_X6_9 hC hin tk2 dX6_init_9 ?_
  refine v_aload_n hC dX6_init_12 rfl 0 rfl ?_
  refine v_iload_n hC dX6_init_13 rfl 1 rfl ?_
  refine pf_X6_15 hC hin tk2 dX6_init_14 ?_
  refine v_aload_n hC dX6_init_17 rfl 0 rfl ?_
  refine v_aload_n hC dX6_init_18 rfl 2 rfl ?_
  refine pf_X6_19 hC hin tk2 dX6_init_19 ?_
  refine v_aload_n hC dX6_init_22 rfl 0 rfl ?_
  refine v_iload_n hC dX6_init_23 rfl 3 rfl ?_
  refine pf_X6_23 hC hin tk2 dX6_init_24 ?_
  refine v_aload_n hC dX6_init_27 rfl 0 rfl ?_
  refine v_iload hC dX6_init_28 4 rfl ?_
  refine pf_X6_26 hC hin tk2 dX6_init_30 ?_
  refine v_aload_n hC dX6_init_33 rfl 0 rfl ?_
  refine v_iload hC dX6_init_34 5 rfl ?_
  refine pf_X6_29 hC hin tk2 dX6_init_36 ?_
  exact v_vret hC rfl hQ dX6_init_39 rfl rfl rfl rfl rfl
theorem hdS_X7_init : yX7_init.cls ≠ "java/lang/invoke/MethodHandle" ∧ yX7_init.cls ≠ "java/lang/invoke/VarHandle" ∧ (parseMethodDescriptor yX7_init.desc).map (fun d => d.parameters.length) = some 6 := by decide +kernel
theorem hdV_X7_init : yX7_init.cls = RX7 ∧ yX7_init.cls ≠ "java/lang/invoke/MethodHandle" ∧ yX7_init.cls ≠ "java/lang/invoke/VarHandle" ∧ (parseMethodDescriptor yX7_init.desc).map (fun d => d.parameters.length) = some 6 := by decide +kernel
set_option maxHeartbeats 4000000 in
set_option maxRecDepth 100000 in
theorem m_X7_init (l : Launch) {n : Nat} {K : Kt} {F : Ft} {G : Gt} {a0 : Nat} {a1 : Nat} {a2 : Nat} {x3 : Int32} {x4 : Int32} {x5 : Int32} {x6 : Int32} (t0 : (K a0).1 = 7) (t1 : TPol K G a1) (t2 : TBuyer K G a2) (t6 : x6 = 0 ∨ x6 = 1) : Mw X l yX7_init cX7_init 7 none 1 21 0 0 [.ref a0, .ref a1, .ref a2, .int x3, .int x4, .int x5, .int x6] n K F G none n K (up2 (up2 (up2 (up2 (up2 F a0 2 x3) a0 3 x4) a0 4 (x4 + x5)) a0 5 x6) a0 10 x3) (up2 (up2 G a0 0 (some a1)) a0 1 (some a2)) := by
  refine Mw.of (lv := [(0, .ref a0), (1, .ref a1), (2, .ref a2), (3, .int x3), (4, .int x4), (5, .int x5), (6, .int x6)]) (by decide) (Nat.le_of_ble_eq_true rfl) rfl ?_
  intro p e s m args below meth c Q hC hin hQ
  have hC : Cx X p s m args meth c RX7 cX7_init 7 none := hC
  refine v_aload_n hC dX7_init_0 rfl 0 rfl ?_
  refine v_objInit hC aw_1208 (Nat.le_of_ble_eq_true rfl) (Nat.le_of_ble_eq_true rfl) (Nat.le_of_ble_eq_true rfl) dX7_init_1 ?_
  refine v_aload_n hC dX7_init_4 rfl 0 rfl ?_
  refine v_aload_n hC dX7_init_5 rfl 1 rfl ?_
  refine pf_X7_9 hC hin t0 dX7_init_6 ?_
  refine v_aload_n hC dX7_init_9 rfl 0 rfl ?_
  refine v_aload_n hC dX7_init_10 rfl 2 rfl ?_
  refine pf_X7_15 hC hin t0 dX7_init_11 ?_
  refine v_aload_n hC dX7_init_14 rfl 0 rfl ?_
  refine v_iload_n hC dX7_init_15 rfl 3 rfl ?_
  refine pf_X7_19 hC hin t0 dX7_init_16 ?_
  refine v_aload_n hC dX7_init_19 rfl 0 rfl ?_
  refine v_iload hC dX7_init_20 4 rfl ?_
  refine pf_X7_23 hC hin t0 dX7_init_22 ?_
  refine v_aload_n hC dX7_init_25 rfl 0 rfl ?_
  refine v_iload hC dX7_init_26 4 rfl ?_
  refine v_iload hC dX7_init_28 5 rfl ?_
  refine v_iadd hC dX7_init_30 ?_
  refine pf_X7_26 hC hin t0 dX7_init_31 ?_
  refine v_aload_n hC dX7_init_34 rfl 0 rfl ?_
  refine v_iload hC dX7_init_35 6 rfl ?_
  refine pf_X7_29 hC hin (zz_of t6) (fz_of t6) t0 dX7_init_37 ?_
  refine v_aload_n hC dX7_init_40 rfl 0 rfl ?_
  refine v_iload_n hC dX7_init_41 rfl 3 rfl ?_
  refine pf_X7_33 hC t0 dX7_init_42 ?_
  exact v_vret hC rfl hQ dX7_init_45 rfl rfl rfl rfl rfl
theorem hdS_X8_init : yX8_init.cls ≠ "java/lang/invoke/MethodHandle" ∧ yX8_init.cls ≠ "java/lang/invoke/VarHandle" ∧ (parseMethodDescriptor yX8_init.desc).map (fun d => d.parameters.length) = some 0 := by decide +kernel
theorem hdV_X8_init : yX8_init.cls = RX8 ∧ yX8_init.cls ≠ "java/lang/invoke/MethodHandle" ∧ yX8_init.cls ≠ "java/lang/invoke/VarHandle" ∧ (parseMethodDescriptor yX8_init.desc).map (fun d => d.parameters.length) = some 0 := by decide +kernel
set_option maxHeartbeats 4000000 in
set_option maxRecDepth 100000 in
theorem m_X8_init (l : Launch) {n : Nat} {K : Kt} {F : Ft} {G : Gt} {a0 : Nat} (t0 : (K a0).1 = 1) : Mw X l yX8_init cX8_init 1 none 4 81 9 19 [.ref a0] n K F G none (((((((((n + 1) + 1) + 1) + 1) + 1) + 1) + 1) + 1) + 1) (va_up (va_up (va_up (va_up (va_up (va_up (va_up (va_up (va_up K n (10, 0)) (n + 1) (10, 0)) ((n + 1) + 1) (10, 0)) (((n + 1) + 1) + 1) (10, 0)) ((((n + 1) + 1) + 1) + 1) (10, 0)) (((((n + 1) + 1) + 1) + 1) + 1) (2, 0)) ((((((n + 1) + 1) + 1) + 1) + 1) + 1) (2, 0)) (((((((n + 1) + 1) + 1) + 1) + 1) + 1) + 1) (2, 0)) ((((((((n + 1) + 1) + 1) + 1) + 1) + 1) + 1) + 1) (2, 0)) (va_up (va_up (va_up (va_up (up2 (va_up (up2 (va_up (up2 (va_up (up2 (va_up (up2 (va_up F n (fun _ => 0)) n 0 0) (n + 1) (fun _ => 0)) (n + 1) 0 0) ((n + 1) + 1) (fun _ => 0)) ((n + 1) + 1) 0 0) (((n + 1) + 1) + 1) (fun _ => 0)) (((n + 1) + 1) + 1) 0 0) ((((n + 1) + 1) + 1) + 1) (fun _ => 0)) ((((n + 1) + 1) + 1) + 1) 0 0) (((((n + 1) + 1) + 1) + 1) + 1) (fun _ => 0)) ((((((n + 1) + 1) + 1) + 1) + 1) + 1) (fun _ => 0)) (((((((n + 1) + 1) + 1) + 1) + 1) + 1) + 1) (fun _ => 0)) ((((((((n + 1) + 1) + 1) + 1) + 1) + 1) + 1) + 1) (fun _ => 0)) (up2 (va_up (up2 (va_up (up2 (va_up (up2 (va_up (up2 (up2 (va_up (up2 (up2 (va_up (up2 (up2 (va_up (up2 (up2 (va_up (up2 (up2 (va_up G n (fun _ => none)) n 1 (some (xz X))) a0 0 (some n)) (n + 1) (fun _ => none)) (n + 1) 1 (some (xz X))) a0 1 (some (n + 1))) ((n + 1) + 1) (fun _ => none)) ((n + 1) + 1) 1 (some (xz X))) a0 2 (some ((n + 1) + 1))) (((n + 1) + 1) + 1) (fun _ => none)) (((n + 1) + 1) + 1) 1 (some (xz X))) a0 3 (some (((n + 1) + 1) + 1))) ((((n + 1) + 1) + 1) + 1) (fun _ => none)) ((((n + 1) + 1) + 1) + 1) 1 (some (xz X))) a0 4 (some ((((n + 1) + 1) + 1) + 1))) (((((n + 1) + 1) + 1) + 1) + 1) (fun _ => none)) a0 5 (some (((((n + 1) + 1) + 1) + 1) + 1))) ((((((n + 1) + 1) + 1) + 1) + 1) + 1) (fun _ => none)) a0 6 (some ((((((n + 1) + 1) + 1) + 1) + 1) + 1))) (((((((n + 1) + 1) + 1) + 1) + 1) + 1) + 1) (fun _ => none)) a0 7 (some (((((((n + 1) + 1) + 1) + 1) + 1) + 1) + 1))) ((((((((n + 1) + 1) + 1) + 1) + 1) + 1) + 1) + 1) (fun _ => none)) a0 8 (some ((((((((n + 1) + 1) + 1) + 1) + 1) + 1) + 1) + 1))) := by
  refine Mw.of (lv := [(0, .ref a0)]) (by decide) (Nat.le_of_ble_eq_true rfl) rfl ?_
  intro p e s m args below meth c Q hC hin hQ
  have hC : Cx X p s m args meth c RX8 cX8_init 1 none := hC
  refine v_aload_n hC dX8_init_0 rfl 0 rfl ?_
  refine v_objInit hC aw_864 (Nat.le_of_ble_eq_true rfl) (Nat.le_of_ble_eq_true rfl) (Nat.le_of_ble_eq_true rfl) dX8_init_1 ?_
  refine v_aload_n hC dX8_init_4 rfl 0 rfl ?_
  refine v_fresh (fun hfr1 => ?_)
  refine nw_X8_7 hC (Nat.le_of_ble_eq_true rfl) (Nat.le_of_ble_eq_true rfl) dX8_init_5 ?_
  have tk2 : (va_up K n (10, 0) a0).1 = 1 := kup hfr1 t0 (by decide)
  have tk3 : (va_up K n (10, 0) n).1 = 10 := congrArg Prod.fst kat
  refine v_dup hC dX8_init_8 rfl ?_
  refine v_callI (c2 := 1) (s2 := 3) (As := []) hC (m_Jx4a65c_init_da8c8 l (n := (n + 1)) (K := (va_up K n (10, 0))) (F := (va_up F n (fun _ => 0))) (G := (va_up G n (fun _ => none))) (a0 := n) tk3) q_X8_9 rfl hdS_Jx4a65c_init_da8c8 rfl rfl (Nat.le_of_ble_eq_true rfl) (Nat.le_of_ble_eq_true rfl) (Nat.le_of_ble_eq_true rfl) (Nat.le_of_ble_eq_true rfl) (Nat.le_of_ble_eq_true rfl) (Nat.le_of_ble_eq_true rfl) (Nat.le_of_ble_eq_true rfl) dX8_init_9 ?_
  refine pf_X8_10 hC hin tk2 dX8_init_12 ?_
  refine v_aload_n hC dX8_init_15 rfl 0 rfl ?_
  refine v_fresh (fun hfr4 => ?_)
  refine nw_X8_7 hC (Nat.le_of_ble_eq_true rfl) (Nat.le_of_ble_eq_true rfl) dX8_init_16 ?_
  have tk5 : (va_up (va_up K n (10, 0)) (n + 1) (10, 0) a0).1 = 1 := kup hfr4 tk2 (by decide)
  have tk6 : (va_up (va_up K n (10, 0)) (n + 1) (10, 0) (n + 1)).1 = 10 := congrArg Prod.fst kat
  refine v_dup hC dX8_init_19 rfl ?_
  refine v_callI (c2 := 2) (s2 := 6) (As := []) hC (m_Jx4a65c_init_da8c8 l (n := ((n + 1) + 1)) (K := (va_up (va_up K n (10, 0)) (n + 1) (10, 0))) (F := (va_up (up2 (va_up F n (fun _ => 0)) n 0 0) (n + 1) (fun _ => 0))) (G := (va_up (up2 (up2 (va_up G n (fun _ => none)) n 1 (some (xz X))) a0 0 (some n)) (n + 1) (fun _ => none))) (a0 := (n + 1)) tk6) q_X8_9 rfl hdS_Jx4a65c_init_da8c8 rfl rfl (Nat.le_of_ble_eq_true rfl) (Nat.le_of_ble_eq_true rfl) (Nat.le_of_ble_eq_true rfl) (Nat.le_of_ble_eq_true rfl) (Nat.le_of_ble_eq_true rfl) (Nat.le_of_ble_eq_true rfl) (Nat.le_of_ble_eq_true rfl) dX8_init_20 ?_
  refine pf_X8_16 hC hin tk5 dX8_init_23 ?_
  refine v_aload_n hC dX8_init_26 rfl 0 rfl ?_
  refine v_fresh (fun hfr7 => ?_)
  refine nw_X8_7 hC (Nat.le_of_ble_eq_true rfl) (Nat.le_of_ble_eq_true rfl) dX8_init_27 ?_
  have tk8 : (va_up (va_up (va_up K n (10, 0)) (n + 1) (10, 0)) ((n + 1) + 1) (10, 0) a0).1 = 1 := kup hfr7 tk5 (by decide)
  have tk9 : (va_up (va_up (va_up K n (10, 0)) (n + 1) (10, 0)) ((n + 1) + 1) (10, 0) ((n + 1) + 1)).1 = 10 := congrArg Prod.fst kat
  refine v_dup hC dX8_init_30 rfl ?_
  refine v_callI (c2 := 3) (s2 := 9) (As := []) hC (m_Jx4a65c_init_da8c8 l (n := (((n + 1) + 1) + 1)) (K := (va_up (va_up (va_up K n (10, 0)) (n + 1) (10, 0)) ((n + 1) + 1) (10, 0))) (F := (va_up (up2 (va_up (up2 (va_up F n (fun _ => 0)) n 0 0) (n + 1) (fun _ => 0)) (n + 1) 0 0) ((n + 1) + 1) (fun _ => 0))) (G := (va_up (up2 (up2 (va_up (up2 (up2 (va_up G n (fun _ => none)) n 1 (some (xz X))) a0 0 (some n)) (n + 1) (fun _ => none)) (n + 1) 1 (some (xz X))) a0 1 (some (n + 1))) ((n + 1) + 1) (fun _ => none))) (a0 := ((n + 1) + 1)) tk9) q_X8_9 rfl hdS_Jx4a65c_init_da8c8 rfl rfl (Nat.le_of_ble_eq_true rfl) (Nat.le_of_ble_eq_true rfl) (Nat.le_of_ble_eq_true rfl) (Nat.le_of_ble_eq_true rfl) (Nat.le_of_ble_eq_true rfl) (Nat.le_of_ble_eq_true rfl) (Nat.le_of_ble_eq_true rfl) dX8_init_31 ?_
  refine pf_X8_19 hC hin tk8 dX8_init_34 ?_
  refine v_aload_n hC dX8_init_37 rfl 0 rfl ?_
  refine v_fresh (fun hfr10 => ?_)
  refine nw_X8_7 hC (Nat.le_of_ble_eq_true rfl) (Nat.le_of_ble_eq_true rfl) dX8_init_38 ?_
  have tk11 : (va_up (va_up (va_up (va_up K n (10, 0)) (n + 1) (10, 0)) ((n + 1) + 1) (10, 0)) (((n + 1) + 1) + 1) (10, 0) a0).1 = 1 := kup hfr10 tk8 (by decide)
  have tk12 : (va_up (va_up (va_up (va_up K n (10, 0)) (n + 1) (10, 0)) ((n + 1) + 1) (10, 0)) (((n + 1) + 1) + 1) (10, 0) (((n + 1) + 1) + 1)).1 = 10 := congrArg Prod.fst kat
  refine v_dup hC dX8_init_41 rfl ?_
  refine v_callI (c2 := 4) (s2 := 12) (As := []) hC (m_Jx4a65c_init_da8c8 l (n := ((((n + 1) + 1) + 1) + 1)) (K := (va_up (va_up (va_up (va_up K n (10, 0)) (n + 1) (10, 0)) ((n + 1) + 1) (10, 0)) (((n + 1) + 1) + 1) (10, 0))) (F := (va_up (up2 (va_up (up2 (va_up (up2 (va_up F n (fun _ => 0)) n 0 0) (n + 1) (fun _ => 0)) (n + 1) 0 0) ((n + 1) + 1) (fun _ => 0)) ((n + 1) + 1) 0 0) (((n + 1) + 1) + 1) (fun _ => 0))) (G := (va_up (up2 (up2 (va_up (up2 (up2 (va_up (up2 (up2 (va_up G n (fun _ => none)) n 1 (some (xz X))) a0 0 (some n)) (n + 1) (fun _ => none)) (n + 1) 1 (some (xz X))) a0 1 (some (n + 1))) ((n + 1) + 1) (fun _ => none)) ((n + 1) + 1) 1 (some (xz X))) a0 2 (some ((n + 1) + 1))) (((n + 1) + 1) + 1) (fun _ => none))) (a0 := (((n + 1) + 1) + 1)) tk12) q_X8_9 rfl hdS_Jx4a65c_init_da8c8 rfl rfl (Nat.le_of_ble_eq_true rfl) (Nat.le_of_ble_eq_true rfl) (Nat.le_of_ble_eq_true rfl) (Nat.le_of_ble_eq_true rfl) (Nat.le_of_ble_eq_true rfl) (Nat.le_of_ble_eq_true rfl) (Nat.le_of_ble_eq_true rfl) dX8_init_42 ?_
  refine pf_X8_22 hC hin tk11 dX8_init_45 ?_
  refine v_aload_n hC dX8_init_48 rfl 0 rfl ?_
  refine v_fresh (fun hfr13 => ?_)
  refine nw_X8_7 hC (Nat.le_of_ble_eq_true rfl) (Nat.le_of_ble_eq_true rfl) dX8_init_49 ?_
  have tk14 : (va_up (va_up (va_up (va_up (va_up K n (10, 0)) (n + 1) (10, 0)) ((n + 1) + 1) (10, 0)) (((n + 1) + 1) + 1) (10, 0)) ((((n + 1) + 1) + 1) + 1) (10, 0) a0).1 = 1 := kup hfr13 tk11 (by decide)
  have tk15 : (va_up (va_up (va_up (va_up (va_up K n (10, 0)) (n + 1) (10, 0)) ((n + 1) + 1) (10, 0)) (((n + 1) + 1) + 1) (10, 0)) ((((n + 1) + 1) + 1) + 1) (10, 0) ((((n + 1) + 1) + 1) + 1)).1 = 10 := congrArg Prod.fst kat
  refine v_dup hC dX8_init_52 rfl ?_
  refine v_callI (c2 := 5) (s2 := 15) (As := []) hC (m_Jx4a65c_init_da8c8 l (n := (((((n + 1) + 1) + 1) + 1) + 1)) (K := (va_up (va_up (va_up (va_up (va_up K n (10, 0)) (n + 1) (10, 0)) ((n + 1) + 1) (10, 0)) (((n + 1) + 1) + 1) (10, 0)) ((((n + 1) + 1) + 1) + 1) (10, 0))) (F := (va_up (up2 (va_up (up2 (va_up (up2 (va_up (up2 (va_up F n (fun _ => 0)) n 0 0) (n + 1) (fun _ => 0)) (n + 1) 0 0) ((n + 1) + 1) (fun _ => 0)) ((n + 1) + 1) 0 0) (((n + 1) + 1) + 1) (fun _ => 0)) (((n + 1) + 1) + 1) 0 0) ((((n + 1) + 1) + 1) + 1) (fun _ => 0))) (G := (va_up (up2 (up2 (va_up (up2 (up2 (va_up (up2 (up2 (va_up (up2 (up2 (va_up G n (fun _ => none)) n 1 (some (xz X))) a0 0 (some n)) (n + 1) (fun _ => none)) (n + 1) 1 (some (xz X))) a0 1 (some (n + 1))) ((n + 1) + 1) (fun _ => none)) ((n + 1) + 1) 1 (some (xz X))) a0 2 (some ((n + 1) + 1))) (((n + 1) + 1) + 1) (fun _ => none)) (((n + 1) + 1) + 1) 1 (some (xz X))) a0 3 (some (((n + 1) + 1) + 1))) ((((n + 1) + 1) + 1) + 1) (fun _ => none))) (a0 := ((((n + 1) + 1) + 1) + 1)) tk15) q_X8_9 rfl hdS_Jx4a65c_init_da8c8 rfl rfl (Nat.le_of_ble_eq_true rfl) (Nat.le_of_ble_eq_true rfl) (Nat.le_of_ble_eq_true rfl) (Nat.le_of_ble_eq_true rfl) (Nat.le_of_ble_eq_true rfl) (Nat.le_of_ble_eq_true rfl) (Nat.le_of_ble_eq_true rfl) dX8_init_53 ?_
  refine pf_X8_25 hC hin tk14 dX8_init_56 ?_
  refine v_aload_n hC dX8_init_59 rfl 0 rfl ?_
  refine v_fresh (fun hfr16 => ?_)
  refine nw_X8_28 hC (Nat.le_of_ble_eq_true rfl) (Nat.le_of_ble_eq_true rfl) dX8_init_60 ?_
  have tk17 : (va_up (va_up (va_up (va_up (va_up (va_up K n (10, 0)) (n + 1) (10, 0)) ((n + 1) + 1) (10, 0)) (((n + 1) + 1) + 1) (10, 0)) ((((n + 1) + 1) + 1) + 1) (10, 0)) (((((n + 1) + 1) + 1) + 1) + 1) (2, 0) a0).1 = 1 := kup hfr16 tk14 (by decide)
  have tk18 : (va_up (va_up (va_up (va_up (va_up (va_up K n (10, 0)) (n + 1) (10, 0)) ((n + 1) + 1) (10, 0)) (((n + 1) + 1) + 1) (10, 0)) ((((n + 1) + 1) + 1) + 1) (10, 0)) (((((n + 1) + 1) + 1) + 1) + 1) (2, 0) (((((n + 1) + 1) + 1) + 1) + 1)).1 = 2 := congrArg Prod.fst kat
  refine v_dup hC dX8_init_63 rfl ?_
  refine v_callIN (c2 := 6) (s2 := 16) (As := []) hC (m_X1_init l (n := ((((((n + 1) + 1) + 1) + 1) + 1) + 1)) (K := (va_up (va_up (va_up (va_up (va_up (va_up K n (10, 0)) (n + 1) (10, 0)) ((n + 1) + 1) (10, 0)) (((n + 1) + 1) + 1) (10, 0)) ((((n + 1) + 1) + 1) + 1) (10, 0)) (((((n + 1) + 1) + 1) + 1) + 1) (2, 0))) (F := (va_up (up2 (va_up (up2 (va_up (up2 (va_up (up2 (va_up (up2 (va_up F n (fun _ => 0)) n 0 0) (n + 1) (fun _ => 0)) (n + 1) 0 0) ((n + 1) + 1) (fun _ => 0)) ((n + 1) + 1) 0 0) (((n + 1) + 1) + 1) (fun _ => 0)) (((n + 1) + 1) + 1) 0 0) ((((n + 1) + 1) + 1) + 1) (fun _ => 0)) ((((n + 1) + 1) + 1) + 1) 0 0) (((((n + 1) + 1) + 1) + 1) + 1) (fun _ => 0))) (G := (va_up (up2 (up2 (va_up (up2 (up2 (va_up (up2 (up2 (va_up (up2 (up2 (va_up (up2 (up2 (va_up G n (fun _ => none)) n 1 (some (xz X))) a0 0 (some n)) (n + 1) (fun _ => none)) (n + 1) 1 (some (xz X))) a0 1 (some (n + 1))) ((n + 1) + 1) (fun _ => none)) ((n + 1) + 1) 1 (some (xz X))) a0 2 (some ((n + 1) + 1))) (((n + 1) + 1) + 1) (fun _ => none)) (((n + 1) + 1) + 1) 1 (some (xz X))) a0 3 (some (((n + 1) + 1) + 1))) ((((n + 1) + 1) + 1) + 1) (fun _ => none)) ((((n + 1) + 1) + 1) + 1) 1 (some (xz X))) a0 4 (some ((((n + 1) + 1) + 1) + 1))) (((((n + 1) + 1) + 1) + 1) + 1) (fun _ => none))) (a0 := (((((n + 1) + 1) + 1) + 1) + 1)) tk18) q_X8_30 rfl hdS_X1_init rfl rfl (Nat.le_of_ble_eq_true rfl) (Nat.le_of_ble_eq_true rfl) (Nat.le_of_ble_eq_true rfl) (Nat.le_of_ble_eq_true rfl) (Nat.le_of_ble_eq_true rfl) (Nat.le_of_ble_eq_true rfl) (Nat.le_of_ble_eq_true rfl) dX8_init_64 ?_
  refine pf_X8_31 hC hin tk17 dX8_init_67 ?_
  refine v_aload_n hC dX8_init_70 rfl 0 rfl ?_
  refine v_fresh (fun hfr19 => ?_)
  refine nw_X8_28 hC (Nat.le_of_ble_eq_true rfl) (Nat.le_of_ble_eq_true rfl) dX8_init_71 ?_
  have tk20 : (va_up (va_up (va_up (va_up (va_up (va_up (va_up K n (10, 0)) (n + 1) (10, 0)) ((n + 1) + 1) (10, 0)) (((n + 1) + 1) + 1) (10, 0)) ((((n + 1) + 1) + 1) + 1) (10, 0)) (((((n + 1) + 1) + 1) + 1) + 1) (2, 0)) ((((((n + 1) + 1) + 1) + 1) + 1) + 1) (2, 0) a0).1 = 1 := kup hfr19 tk17 (by decide)
  have tk21 : (va_up (va_up (va_up (va_up (va_up (va_up (va_up K n (10, 0)) (n + 1) (10, 0)) ((n + 1) + 1) (10, 0)) (((n + 1) + 1) + 1) (10, 0)) ((((n + 1) + 1) + 1) + 1) (10, 0)) (((((n + 1) + 1) + 1) + 1) + 1) (2, 0)) ((((((n + 1) + 1) + 1) + 1) + 1) + 1) (2, 0) ((((((n + 1) + 1) + 1) + 1) + 1) + 1)).1 = 2 := congrArg Prod.fst kat
  refine v_dup hC dX8_init_74 rfl ?_
  refine v_callIN (c2 := 7) (s2 := 17) (As := []) hC (m_X1_init l (n := (((((((n + 1) + 1) + 1) + 1) + 1) + 1) + 1)) (K := (va_up (va_up (va_up (va_up (va_up (va_up (va_up K n (10, 0)) (n + 1) (10, 0)) ((n + 1) + 1) (10, 0)) (((n + 1) + 1) + 1) (10, 0)) ((((n + 1) + 1) + 1) + 1) (10, 0)) (((((n + 1) + 1) + 1) + 1) + 1) (2, 0)) ((((((n + 1) + 1) + 1) + 1) + 1) + 1) (2, 0))) (F := (va_up (va_up (up2 (va_up (up2 (va_up (up2 (va_up (up2 (va_up (up2 (va_up F n (fun _ => 0)) n 0 0) (n + 1) (fun _ => 0)) (n + 1) 0 0) ((n + 1) + 1) (fun _ => 0)) ((n + 1) + 1) 0 0) (((n + 1) + 1) + 1) (fun _ => 0)) (((n + 1) + 1) + 1) 0 0) ((((n + 1) + 1) + 1) + 1) (fun _ => 0)) ((((n + 1) + 1) + 1) + 1) 0 0) (((((n + 1) + 1) + 1) + 1) + 1) (fun _ => 0)) ((((((n + 1) + 1) + 1) + 1) + 1) + 1) (fun _ => 0))) (G := (va_up (up2 (va_up (up2 (up2 (va_up (up2 (up2 (va_up (up2 (up2 (va_up (up2 (up2 (va_up (up2 (up2 (va_up G n (fun _ => none)) n 1 (some (xz X))) a0 0 (some n)) (n + 1) (fun _ => none)) (n + 1) 1 (some (xz X))) a0 1 (some (n + 1))) ((n + 1) + 1) (fun _ => none)) ((n + 1) + 1) 1 (some (xz X))) a0 2 (some ((n + 1) + 1))) (((n + 1) + 1) + 1) (fun _ => none)) (((n + 1) + 1) + 1) 1 (some (xz X))) a0 3 (some (((n + 1) + 1) + 1))) ((((n + 1) + 1) + 1) + 1) (fun _ => none)) ((((n + 1) + 1) + 1) + 1) 1 (some (xz X))) a0 4 (some ((((n + 1) + 1) + 1) + 1))) (((((n + 1) + 1) + 1) + 1) + 1) (fun _ => none)) a0 5 (some (((((n + 1) + 1) + 1) + 1) + 1))) ((((((n + 1) + 1) + 1) + 1) + 1) + 1) (fun _ => none))) (a0 := ((((((n + 1) + 1) + 1) + 1) + 1) + 1)) tk21) q_X8_30 rfl hdS_X1_init rfl rfl (Nat.le_of_ble_eq_true rfl) (Nat.le_of_ble_eq_true rfl) (Nat.le_of_ble_eq_true rfl) (Nat.le_of_ble_eq_true rfl) (Nat.le_of_ble_eq_true rfl) (Nat.le_of_ble_eq_true rfl) (Nat.le_of_ble_eq_true rfl) dX8_init_75 ?_
  refine pf_X8_35 hC hin tk20 dX8_init_78 ?_
  refine v_aload_n hC dX8_init_81 rfl 0 rfl ?_
  refine v_fresh (fun hfr22 => ?_)
  refine nw_X8_28 hC (Nat.le_of_ble_eq_true rfl) (Nat.le_of_ble_eq_true rfl) dX8_init_82 ?_
  have tk23 : (va_up (va_up (va_up (va_up (va_up (va_up (va_up (va_up K n (10, 0)) (n + 1) (10, 0)) ((n + 1) + 1) (10, 0)) (((n + 1) + 1) + 1) (10, 0)) ((((n + 1) + 1) + 1) + 1) (10, 0)) (((((n + 1) + 1) + 1) + 1) + 1) (2, 0)) ((((((n + 1) + 1) + 1) + 1) + 1) + 1) (2, 0)) (((((((n + 1) + 1) + 1) + 1) + 1) + 1) + 1) (2, 0) a0).1 = 1 := kup hfr22 tk20 (by decide)
  have tk24 : (va_up (va_up (va_up (va_up (va_up (va_up (va_up (va_up K n (10, 0)) (n + 1) (10, 0)) ((n + 1) + 1) (10, 0)) (((n + 1) + 1) + 1) (10, 0)) ((((n + 1) + 1) + 1) + 1) (10, 0)) (((((n + 1) + 1) + 1) + 1) + 1) (2, 0)) ((((((n + 1) + 1) + 1) + 1) + 1) + 1) (2, 0)) (((((((n + 1) + 1) + 1) + 1) + 1) + 1) + 1) (2, 0) (((((((n + 1) + 1) + 1) + 1) + 1) + 1) + 1)).1 = 2 := congrArg Prod.fst kat
  refine v_dup hC dX8_init_85 rfl ?_
  refine v_callIN (c2 := 8) (s2 := 18) (As := []) hC (m_X1_init l (n := ((((((((n + 1) + 1) + 1) + 1) + 1) + 1) + 1) + 1)) (K := (va_up (va_up (va_up (va_up (va_up (va_up (va_up (va_up K n (10, 0)) (n + 1) (10, 0)) ((n + 1) + 1) (10, 0)) (((n + 1) + 1) + 1) (10, 0)) ((((n + 1) + 1) + 1) + 1) (10, 0)) (((((n + 1) + 1) + 1) + 1) + 1) (2, 0)) ((((((n + 1) + 1) + 1) + 1) + 1) + 1) (2, 0)) (((((((n + 1) + 1) + 1) + 1) + 1) + 1) + 1) (2, 0))) (F := (va_up (va_up (va_up (up2 (va_up (up2 (va_up (up2 (va_up (up2 (va_up (up2 (va_up F n (fun _ => 0)) n 0 0) (n + 1) (fun _ => 0)) (n + 1) 0 0) ((n + 1) + 1) (fun _ => 0)) ((n + 1) + 1) 0 0) (((n + 1) + 1) + 1) (fun _ => 0)) (((n + 1) + 1) + 1) 0 0) ((((n + 1) + 1) + 1) + 1) (fun _ => 0)) ((((n + 1) + 1) + 1) + 1) 0 0) (((((n + 1) + 1) + 1) + 1) + 1) (fun _ => 0)) ((((((n + 1) + 1) + 1) + 1) + 1) + 1) (fun _ => 0)) (((((((n + 1) + 1) + 1) + 1) + 1) + 1) + 1) (fun _ => 0))) (G := (va_up (up2 (va_up (up2 (va_up (up2 (up2 (va_up (up2 (up2 (va_up (up2 (up2 (va_up (up2 (up2 (va_up (up2 (up2 (va_up G n (fun _ => none)) n 1 (some (xz X))) a0 0 (some n)) (n + 1) (fun _ => none)) (n + 1) 1 (some (xz X))) a0 1 (some (n + 1))) ((n + 1) + 1) (fun _ => none)) ((n + 1) + 1) 1 (some (xz X))) a0 2 (some ((n + 1) + 1))) (((n + 1) + 1) + 1) (fun _ => none)) (((n + 1) + 1) + 1) 1 (some (xz X))) a0 3 (some (((n + 1) + 1) + 1))) ((((n + 1) + 1) + 1) + 1) (fun _ => none)) ((((n + 1) + 1) + 1) + 1) 1 (some (xz X))) a0 4 (some ((((n + 1) + 1) + 1) + 1))) (((((n + 1) + 1) + 1) + 1) + 1) (fun _ => none)) a0 5 (some (((((n + 1) + 1) + 1) + 1) + 1))) ((((((n + 1) + 1) + 1) + 1) + 1) + 1) (fun _ => none)) a0 6 (some ((((((n + 1) + 1) + 1) + 1) + 1) + 1))) (((((((n + 1) + 1) + 1) + 1) + 1) + 1) + 1) (fun _ => none))) (a0 := (((((((n + 1) + 1) + 1) + 1) + 1) + 1) + 1)) tk24) q_X8_30 rfl hdS_X1_init rfl rfl (Nat.le_of_ble_eq_true rfl) (Nat.le_of_ble_eq_true rfl) (Nat.le_of_ble_eq_true rfl) (Nat.le_of_ble_eq_true rfl) (Nat.le_of_ble_eq_true rfl) (Nat.le_of_ble_eq_true rfl) (Nat.le_of_ble_eq_true rfl) dX8_init_86 ?_
  refine pf_X8_38 hC hin tk23 dX8_init_89 ?_
  refine v_aload_n hC dX8_init_92 rfl 0 rfl ?_
  refine v_fresh (fun hfr25 => ?_)
  refine nw_X8_28 hC (Nat.le_of_ble_eq_true rfl) (Nat.le_of_ble_eq_true rfl) dX8_init_93 ?_
  have tk26 : (va_up (va_up (va_up (va_up (va_up (va_up (va_up (va_up (va_up K n (10, 0)) (n + 1) (10, 0)) ((n + 1) + 1) (10, 0)) (((n + 1) + 1) + 1) (10, 0)) ((((n + 1) + 1) + 1) + 1) (10, 0)) (((((n + 1) + 1) + 1) + 1) + 1) (2, 0)) ((((((n + 1) + 1) + 1) + 1) + 1) + 1) (2, 0)) (((((((n + 1) + 1) + 1) + 1) + 1) + 1) + 1) (2, 0)) ((((((((n + 1) + 1) + 1) + 1) + 1) + 1) + 1) + 1) (2, 0) a0).1 = 1 := kup hfr25 tk23 (by decide)
  have tk27 : (va_up (va_up (va_up (va_up (va_up (va_up (va_up (va_up (va_up K n (10, 0)) (n + 1) (10, 0)) ((n + 1) + 1) (10, 0)) (((n + 1) + 1) + 1) (10, 0)) ((((n + 1) + 1) + 1) + 1) (10, 0)) (((((n + 1) + 1) + 1) + 1) + 1) (2, 0)) ((((((n + 1) + 1) + 1) + 1) + 1) + 1) (2, 0)) (((((((n + 1) + 1) + 1) + 1) + 1) + 1) + 1) (2, 0)) ((((((((n + 1) + 1) + 1) + 1) + 1) + 1) + 1) + 1) (2, 0) ((((((((n + 1) + 1) + 1) + 1) + 1) + 1) + 1) + 1)).1 = 2 := congrArg Prod.fst kat
  refine v_dup hC dX8_init_96 rfl ?_
  refine v_callIN (c2 := 9) (s2 := 19) (As := []) hC (m_X1_init l (n := (((((((((n + 1) + 1) + 1) + 1) + 1) + 1) + 1) + 1) + 1)) (K := (va_up (va_up (va_up (va_up (va_up (va_up (va_up (va_up (va_up K n (10, 0)) (n + 1) (10, 0)) ((n + 1) + 1) (10, 0)) (((n + 1) + 1) + 1) (10, 0)) ((((n + 1) + 1) + 1) + 1) (10, 0)) (((((n + 1) + 1) + 1) + 1) + 1) (2, 0)) ((((((n + 1) + 1) + 1) + 1) + 1) + 1) (2, 0)) (((((((n + 1) + 1) + 1) + 1) + 1) + 1) + 1) (2, 0)) ((((((((n + 1) + 1) + 1) + 1) + 1) + 1) + 1) + 1) (2, 0))) (F := (va_up (va_up (va_up (va_up (up2 (va_up (up2 (va_up (up2 (va_up (up2 (va_up (up2 (va_up F n (fun _ => 0)) n 0 0) (n + 1) (fun _ => 0)) (n + 1) 0 0) ((n + 1) + 1) (fun _ => 0)) ((n + 1) + 1) 0 0) (((n + 1) + 1) + 1) (fun _ => 0)) (((n + 1) + 1) + 1) 0 0) ((((n + 1) + 1) + 1) + 1) (fun _ => 0)) ((((n + 1) + 1) + 1) + 1) 0 0) (((((n + 1) + 1) + 1) + 1) + 1) (fun _ => 0)) ((((((n + 1) + 1) + 1) + 1) + 1) + 1) (fun _ => 0)) (((((((n + 1) + 1) + 1) + 1) + 1) + 1) + 1) (fun _ => 0)) ((((((((n + 1) + 1) + 1) + 1) + 1) + 1) + 1) + 1) (fun _ => 0))) (G := (va_up (up2 (va_up (up2 (va_up (up2 (va_up (up2 (up2 (va_up (up2 (up2 (va_up (up2 (up2 (va_up (up2 (up2 (va_up (up2 (up2 (va_up G n (fun _ => none)) n 1 (some (xz X))) a0 0 (some n)) (n + 1) (fun _ => none)) (n + 1) 1 (some (xz X))) a0 1 (some (n + 1))) ((n + 1) + 1) (fun _ => none)) ((n + 1) + 1) 1 (some (xz X))) a0 2 (some ((n + 1) + 1))) (((n + 1) + 1) + 1) (fun _ => none)) (((n + 1) + 1) + 1) 1 (some (xz X))) a0 3 (some (((n + 1) + 1) + 1))) ((((n + 1) + 1) + 1) + 1) (fun _ => none)) ((((n + 1) + 1) + 1) + 1) 1 (some (xz X))) a0 4 (some ((((n + 1) + 1) + 1) + 1))) (((((n + 1) + 1) + 1) + 1) + 1) (fun _ => none)) a0 5 (some (((((n + 1) + 1) + 1) + 1) + 1))) ((((((n + 1) + 1) + 1) + 1) + 1) + 1) (fun _ => none)) a0 6 (some ((((((n + 1) + 1) + 1) + 1) + 1) + 1))) (((((((n + 1) + 1) + 1) + 1) + 1) + 1) + 1) (fun _ => none)) a0 7 (some (((((((n + 1) + 1) + 1) + 1) + 1) + 1) + 1))) ((((((((n + 1) + 1) + 1) + 1) + 1) + 1) + 1) + 1) (fun _ => none))) (a0 := ((((((((n + 1) + 1) + 1) + 1) + 1) + 1) + 1) + 1)) tk27) q_X8_30 rfl hdS_X1_init rfl rfl (Nat.le_of_ble_eq_true rfl) (Nat.le_of_ble_eq_true rfl) (Nat.le_of_ble_eq_true rfl) (Nat.le_of_ble_eq_true rfl) (Nat.le_of_ble_eq_true rfl) (Nat.le_of_ble_eq_true rfl) (Nat.le_of_ble_eq_true rfl) dX8_init_97 ?_
  refine pf_X8_41 hC hin tk26 dX8_init_100 ?_
  exact v_vret hC rfl hQ dX8_init_103 rfl rfl rfl rfl rfl
theorem hdS_X7_putOff : yX7_putOff.cls ≠ "java/lang/invoke/MethodHandle" ∧ yX7_putOff.cls ≠ "java/lang/invoke/VarHandle" ∧ (parseMethodDescriptor yX7_putOff.desc).map (fun d => d.parameters.length) = some 2 := by decide +kernel
theorem hdV_X7_putOff : yX7_putOff.cls = RX7 ∧ yX7_putOff.cls ≠ "java/lang/invoke/MethodHandle" ∧ yX7_putOff.cls ≠ "java/lang/invoke/VarHandle" ∧ (parseMethodDescriptor yX7_putOff.desc).map (fun d => d.parameters.length) = some 2 := by decide +kernel
set_option maxHeartbeats 4000000 in
set_option maxRecDepth 100000 in
theorem m_X7_putOff (l : Launch) {n : Nat} {K : Kt} {F : Ft} {G : Gt} {a0 : Nat} {x1 : Int32} {x2 : Int32} (t0 : (K a0).1 = 7) : Mw X l yX7_putOff cX7_putOff 4 none 2 44 1 4 [.ref a0, .int x1, .int x2] n K F G none (n + 1) (va_up K n (9, 0)) (up2 (up2 (up2 (up2 (va_up F n (fun _ => 0)) n 0 (((F a0 10) * x1) / 100)) n 1 (((va_up F n (fun _ => 0)) a0 10) - (((F a0 10) * x1) / 100))) n 2 x2) a0 10 (((F a0 10) * x1) / 100)) (up2 (va_up G n (fun _ => none)) a0 15 (some n)) := by
  refine Mw.of (lv := [(0, .ref a0), (1, .int x1), (2, .int x2)]) (by decide) (Nat.le_of_ble_eq_true rfl) rfl ?_
  intro p e s m args below meth c Q hC hin hQ
  have hC : Cx X p s m args meth c RX7 cX7_putOff 4 none := hC
  refine v_aload_n hC dX7_putOff_0 rfl 0 rfl ?_
  refine gf_X7_33 hC t0 dX7_putOff_1 ?_
  refine v_iload_n hC dX7_putOff_4 rfl 1 rfl ?_
  refine v_imul hC dX7_putOff_5 ?_
  refine v_bipush (v := 100) hC dX7_putOff_6 (by decide) ?_
  refine v_idiv hC dX7_putOff_8 (by decide) ?_
  refine v_istore_n (i := 3) (lv' := [(3, .int (((F a0 10) * x1) / 100)), (0, .ref a0), (1, .int x1), (2, .int x2)]) hC dX7_putOff_9 rfl (by decide) rfl ?_
  refine v_aload_n hC dX7_putOff_10 rfl 1 rfl ?_
  refine v_fresh (fun hfr1 => ?_)
  refine nw_X7_96 hC (Nat.le_of_ble_eq_true rfl) (Nat.le_of_ble_eq_true rfl) dX7_putOff_11 ?_
  have tk2 : (va_up K n (9, 0) a0).1 = 7 := kup hfr1 t0 (by decide)
  have tk3 : (va_up K n (9, 0) n).1 = 9 := congrArg Prod.fst kat
  refine v_dup hC dX7_putOff_14 rfl ?_
  refine v_iload_n hC dX7_putOff_15 rfl 0 rfl ?_
  refine v_aload_n hC dX7_putOff_16 rfl 1 rfl ?_
  refine gf_X7_33 hC tk2 dX7_putOff_17 ?_
  refine v_iload_n hC dX7_putOff_20 rfl 0 rfl ?_
  refine v_isub hC dX7_putOff_21 ?_
  refine v_iload_n hC dX7_putOff_22 rfl 3 rfl ?_
  refine v_callI (c2 := 1) (s2 := 4) (As := [.int (((F a0 10) * x1) / 100), .int (((va_up F n (fun _ => 0)) a0 10) - (((F a0 10) * x1) / 100)), .int x2]) hC (m_X3_init l (n := (n + 1)) (K := (va_up K n (9, 0))) (F := (va_up F n (fun _ => 0))) (G := (va_up G n (fun _ => none))) (a0 := n) (x1 := (((F a0 10) * x1) / 100)) (x2 := (((va_up F n (fun _ => 0)) a0 10) - (((F a0 10) * x1) / 100))) (x3 := x2) tk3) q_X7_98 rfl hdS_X3_init rfl rfl (Nat.le_of_ble_eq_true rfl) (Nat.le_of_ble_eq_true rfl) (Nat.le_of_ble_eq_true rfl) (Nat.le_of_ble_eq_true rfl) (Nat.le_of_ble_eq_true rfl) (Nat.le_of_ble_eq_true rfl) (Nat.le_of_ble_eq_true rfl) dX7_putOff_23 ?_
  refine pf_X7_52 hC tk2 dX7_putOff_26 ?_
  refine v_aload_n hC dX7_putOff_29 rfl 1 rfl ?_
  refine v_iload_n hC dX7_putOff_30 rfl 0 rfl ?_
  refine pf_X7_33 hC tk2 dX7_putOff_31 ?_
  exact v_vret hC rfl hQ dX7_putOff_34 rfl rfl rfl rfl rfl
end Pm5
