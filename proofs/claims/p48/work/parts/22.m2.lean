section PM2
variable {X : Xt}
theorem hdS_X8_landAt : yX8_landAt.cls ≠ "java/lang/invoke/MethodHandle" ∧ yX8_landAt.cls ≠ "java/lang/invoke/VarHandle" ∧ (parseMethodDescriptor yX8_landAt.desc).map (fun d => d.parameters.length) = some 1 := by decide +kernel
theorem hdV_X8_landAt : yX8_landAt.cls = RX8 ∧ yX8_landAt.cls ≠ "java/lang/invoke/MethodHandle" ∧ yX8_landAt.cls ≠ "java/lang/invoke/VarHandle" ∧ (parseMethodDescriptor yX8_landAt.desc).map (fun d => d.parameters.length) = some 1 := by decide +kernel
set_option maxHeartbeats 4000000 in
set_option maxRecDepth 100000 in
theorem m_X8_landAt (l : Launch) {n : Nat} {K : Kt} {F : Ft} {G : Gt} {a0 : Nat} {x1 : Nat} (t0 : TMain K G a0) (hi : x1 < (K (gp G a0 0)).2) : Mw X l yX8_landAt cX8_landAt 2 (some (.object "Exportcover$Land")) 3 64 0 0 [.ref a0, .int (nI x1)] n K F G (some (.ref (el G (gp G a0 0) x1))) n K F G := by
  generalize hf : (el G (gp G a0 0) x1) = r
  refine Mw.of (lv := [(0, .ref a0), (1, .int (nI x1))]) (by decide) (Nat.le_of_ble_eq_true rfl) rfl ?_
  intro p e s m args below meth c Q hC hin hQ
  have hC : Cx X p s m args meth c RX8 cX8_landAt 2 (some (.object "Exportcover$Land")) := hC
  refine v_iload_n hC dX8_landAt_0 rfl 1 rfl ?_
  refine v_if_lt (tgt := 15) hC dX8_landAt_1 (by decide) (fun c1 => absurd c1 (ix_pos hi t0.2.1.2.lt)) (fun c1 => ?_)
  refine v_iload_n hC dX8_landAt_4 rfl 1 rfl ?_
  refine v_aload_n hC dX8_landAt_5 rfl 0 rfl ?_
  refine gf_X8_10 hC t0.1 t0.2.1.1 dX8_landAt_6 ?_
  refine v_callV (c2 := 0) (s2 := 0) (As := []) hC (m_Jx4a65c_size_8abf5 l t0.2.1.2.1) q_X8_89 (by rw [t0.2.1.2.1]; decide) (ce_10 t0.2.1.2.1) (ci := 9) rfl hdV_Jx4a65c_size_8abf5 rfl rfl (Nat.le_of_ble_eq_true rfl) (Nat.le_of_ble_eq_true rfl) (Nat.le_of_ble_eq_true rfl) (Nat.le_of_ble_eq_true rfl) (Nat.le_of_ble_eq_true rfl) (Nat.le_of_ble_eq_true rfl) (Nat.le_of_ble_eq_true rfl) dX8_landAt_9 ?_
  refine v_icmp_lt (tgt := 26) hC dX8_landAt_12 (by decide) (fun c2 => ?_) (fun c2 => absurd (nI_lt hi t0.2.1.2.lt) c2)
  refine v_aload_n hC dX8_landAt_26 rfl 0 rfl ?_
  refine gf_X8_10 hC t0.1 t0.2.1.1 dX8_landAt_27 ?_
  refine v_iload_n hC dX8_landAt_30 rfl 1 rfl ?_
  refine v_callV (c2 := 0) (s2 := 0) (As := [.int (nI x1)]) hC (m_Jx4a65c_get_915e3 l t0.2.1.2 (i := x1) (by omega)) q_X8_306 (by rw [t0.2.1.2.1]; decide) (ce_10 t0.2.1.2.1) (ci := 9) rfl hdV_Jx4a65c_get_915e3 rfl rfl (Nat.le_of_ble_eq_true rfl) (Nat.le_of_ble_eq_true rfl) (Nat.le_of_ble_eq_true rfl) (Nat.le_of_ble_eq_true rfl) (Nat.le_of_ble_eq_true rfl) (Nat.le_of_ble_eq_true rfl) (Nat.le_of_ble_eq_true rfl) dX8_landAt_31 ?_
  have ht3 : (K (el G (gp G a0 0) x1)).1 = 3 := t0.2.1.2.el (i := x1) (by omega)
  refine v_cast hC (by rw [ht3]; decide) (ce_3 ht3) (ci := 2) rfl aw_404 dX8_landAt_34 ?_
  exact v_aret hC rfl (Or.inl ⟨_, rfl⟩) hQ dX8_landAt_37 (congrArg (fun z => some (Value.ref z)) hf) rfl rfl rfl rfl
theorem hdS_X8_buyerAt : yX8_buyerAt.cls ≠ "java/lang/invoke/MethodHandle" ∧ yX8_buyerAt.cls ≠ "java/lang/invoke/VarHandle" ∧ (parseMethodDescriptor yX8_buyerAt.desc).map (fun d => d.parameters.length) = some 1 := by decide +kernel
theorem hdV_X8_buyerAt : yX8_buyerAt.cls = RX8 ∧ yX8_buyerAt.cls ≠ "java/lang/invoke/MethodHandle" ∧ yX8_buyerAt.cls ≠ "java/lang/invoke/VarHandle" ∧ (parseMethodDescriptor yX8_buyerAt.desc).map (fun d => d.parameters.length) = some 1 := by decide +kernel
set_option maxHeartbeats 4000000 in
set_option maxRecDepth 100000 in
theorem m_X8_buyerAt (l : Launch) {n : Nat} {K : Kt} {F : Ft} {G : Gt} {a0 : Nat} {x1 : Nat} (t0 : TMain K G a0) (hi : x1 < (K (gp G a0 1)).2) : Mw X l yX8_buyerAt cX8_buyerAt 2 (some (.object "Exportcover$Buyer")) 3 64 0 0 [.ref a0, .int (nI x1)] n K F G (some (.ref (el G (gp G a0 1) x1))) n K F G := by
  generalize hf : (el G (gp G a0 1) x1) = r
  refine Mw.of (lv := [(0, .ref a0), (1, .int (nI x1))]) (by decide) (Nat.le_of_ble_eq_true rfl) rfl ?_
  intro p e s m args below meth c Q hC hin hQ
  have hC : Cx X p s m args meth c RX8 cX8_buyerAt 2 (some (.object "Exportcover$Buyer")) := hC
  refine v_iload_n hC dX8_buyerAt_0 rfl 1 rfl ?_
  refine v_if_lt (tgt := 15) hC dX8_buyerAt_1 (by decide) (fun c1 => absurd c1 (ix_pos hi t0.2.2.1.2.lt)) (fun c1 => ?_)
  refine v_iload_n hC dX8_buyerAt_4 rfl 1 rfl ?_
  refine v_aload_n hC dX8_buyerAt_5 rfl 0 rfl ?_
  refine gf_X8_16 hC t0.1 t0.2.2.1.1 dX8_buyerAt_6 ?_
  refine v_callV (c2 := 0) (s2 := 0) (As := []) hC (m_Jx4a65c_size_8abf5 l t0.2.2.1.2.1) q_X8_89 (by rw [t0.2.2.1.2.1]; decide) (ce_10 t0.2.2.1.2.1) (ci := 9) rfl hdV_Jx4a65c_size_8abf5 rfl rfl (Nat.le_of_ble_eq_true rfl) (Nat.le_of_ble_eq_true rfl) (Nat.le_of_ble_eq_true rfl) (Nat.le_of_ble_eq_true rfl) (Nat.le_of_ble_eq_true rfl) (Nat.le_of_ble_eq_true rfl) (Nat.le_of_ble_eq_true rfl) dX8_buyerAt_9 ?_
  refine v_icmp_lt (tgt := 26) hC dX8_buyerAt_12 (by decide) (fun c2 => ?_) (fun c2 => absurd (nI_lt hi t0.2.2.1.2.lt) c2)
  refine v_aload_n hC dX8_buyerAt_26 rfl 0 rfl ?_
  refine gf_X8_16 hC t0.1 t0.2.2.1.1 dX8_buyerAt_27 ?_
  refine v_iload_n hC dX8_buyerAt_30 rfl 1 rfl ?_
  refine v_callV (c2 := 0) (s2 := 0) (As := [.int (nI x1)]) hC (m_Jx4a65c_get_915e3 l t0.2.2.1.2 (i := x1) (by omega)) q_X8_306 (by rw [t0.2.2.1.2.1]; decide) (ce_10 t0.2.2.1.2.1) (ci := 9) rfl hdV_Jx4a65c_get_915e3 rfl rfl (Nat.le_of_ble_eq_true rfl) (Nat.le_of_ble_eq_true rfl) (Nat.le_of_ble_eq_true rfl) (Nat.le_of_ble_eq_true rfl) (Nat.le_of_ble_eq_true rfl) (Nat.le_of_ble_eq_true rfl) (Nat.le_of_ble_eq_true rfl) dX8_buyerAt_31 ?_
  have ht3 : TBuyer K G (el G (gp G a0 1) x1) := t0.2.2.1.2.el (i := x1) (by omega)
  refine v_cast hC (by rw [ht3.1]; decide) (ce_4 ht3.1) (ci := 3) rfl aw_376 dX8_buyerAt_34 ?_
  exact v_aret hC rfl (Or.inl ⟨_, rfl⟩) hQ dX8_buyerAt_37 (congrArg (fun z => some (Value.ref z)) hf) rfl rfl rfl rfl
theorem hdS_X8_exporterAt : yX8_exporterAt.cls ≠ "java/lang/invoke/MethodHandle" ∧ yX8_exporterAt.cls ≠ "java/lang/invoke/VarHandle" ∧ (parseMethodDescriptor yX8_exporterAt.desc).map (fun d => d.parameters.length) = some 1 := by decide +kernel
theorem hdV_X8_exporterAt : yX8_exporterAt.cls = RX8 ∧ yX8_exporterAt.cls ≠ "java/lang/invoke/MethodHandle" ∧ yX8_exporterAt.cls ≠ "java/lang/invoke/VarHandle" ∧ (parseMethodDescriptor yX8_exporterAt.desc).map (fun d => d.parameters.length) = some 1 := by decide +kernel
set_option maxHeartbeats 4000000 in
set_option maxRecDepth 100000 in
theorem m_X8_exporterAt (l : Launch) {n : Nat} {K : Kt} {F : Ft} {G : Gt} {a0 : Nat} {x1 : Nat} (t0 : TMain K G a0) (hi : x1 < (K (gp G a0 2)).2) : Mw X l yX8_exporterAt cX8_exporterAt 2 (some (.object "Exportcover$Exporter")) 3 64 0 0 [.ref a0, .int (nI x1)] n K F G (some (.ref (el G (gp G a0 2) x1))) n K F G := by
  generalize hf : (el G (gp G a0 2) x1) = r
  refine Mw.of (lv := [(0, .ref a0), (1, .int (nI x1))]) (by decide) (Nat.le_of_ble_eq_true rfl) rfl ?_
  intro p e s m args below meth c Q hC hin hQ
  have hC : Cx X p s m args meth c RX8 cX8_exporterAt 2 (some (.object "Exportcover$Exporter")) := hC
  refine v_iload_n hC dX8_exporterAt_0 rfl 1 rfl ?_
  refine v_if_lt (tgt := 15) hC dX8_exporterAt_1 (by decide) (fun c1 => absurd c1 (ix_pos hi t0.2.2.2.1.2.lt)) (fun c1 => ?_)
  refine v_iload_n hC dX8_exporterAt_4 rfl 1 rfl ?_
  refine v_aload_n hC dX8_exporterAt_5 rfl 0 rfl ?_
  refine gf_X8_19 hC t0.1 t0.2.2.2.1.1 dX8_exporterAt_6 ?_
  refine v_callV (c2 := 0) (s2 := 0) (As := []) hC (m_Jx4a65c_size_8abf5 l t0.2.2.2.1.2.1) q_X8_89 (by rw [t0.2.2.2.1.2.1]; decide) (ce_10 t0.2.2.2.1.2.1) (ci := 9) rfl hdV_Jx4a65c_size_8abf5 rfl rfl (Nat.le_of_ble_eq_true rfl) (Nat.le_of_ble_eq_true rfl) (Nat.le_of_ble_eq_true rfl) (Nat.le_of_ble_eq_true rfl) (Nat.le_of_ble_eq_true rfl) (Nat.le_of_ble_eq_true rfl) (Nat.le_of_ble_eq_true rfl) dX8_exporterAt_9 ?_
  refine v_icmp_lt (tgt := 26) hC dX8_exporterAt_12 (by decide) (fun c2 => ?_) (fun c2 => absurd (nI_lt hi t0.2.2.2.1.2.lt) c2)
  refine v_aload_n hC dX8_exporterAt_26 rfl 0 rfl ?_
  refine gf_X8_19 hC t0.1 t0.2.2.2.1.1 dX8_exporterAt_27 ?_
  refine v_iload_n hC dX8_exporterAt_30 rfl 1 rfl ?_
  refine v_callV (c2 := 0) (s2 := 0) (As := [.int (nI x1)]) hC (m_Jx4a65c_get_915e3 l t0.2.2.2.1.2 (i := x1) (by omega)) q_X8_306 (by rw [t0.2.2.2.1.2.1]; decide) (ce_10 t0.2.2.2.1.2.1) (ci := 9) rfl hdV_Jx4a65c_get_915e3 rfl rfl (Nat.le_of_ble_eq_true rfl) (Nat.le_of_ble_eq_true rfl) (Nat.le_of_ble_eq_true rfl) (Nat.le_of_ble_eq_true rfl) (Nat.le_of_ble_eq_true rfl) (Nat.le_of_ble_eq_true rfl) (Nat.le_of_ble_eq_true rfl) dX8_exporterAt_31 ?_
  have ht3 : TExp K G (el G (gp G a0 2) x1) := t0.2.2.2.1.2.el (i := x1) (by omega)
  refine v_cast hC (by rw [ht3.1]; decide) (ce_5 ht3.1) (ci := 4) rfl aw_363 dX8_exporterAt_34 ?_
  exact v_aret hC rfl (Or.inl ⟨_, rfl⟩) hQ dX8_exporterAt_37 (congrArg (fun z => some (Value.ref z)) hf) rfl rfl rfl rfl
theorem hdS_X8_policyAt : yX8_policyAt.cls ≠ "java/lang/invoke/MethodHandle" ∧ yX8_policyAt.cls ≠ "java/lang/invoke/VarHandle" ∧ (parseMethodDescriptor yX8_policyAt.desc).map (fun d => d.parameters.length) = some 1 := by decide +kernel
theorem hdV_X8_policyAt : yX8_policyAt.cls = RX8 ∧ yX8_policyAt.cls ≠ "java/lang/invoke/MethodHandle" ∧ yX8_policyAt.cls ≠ "java/lang/invoke/VarHandle" ∧ (parseMethodDescriptor yX8_policyAt.desc).map (fun d => d.parameters.length) = some 1 := by decide +kernel
set_option maxHeartbeats 4000000 in
set_option maxRecDepth 100000 in
theorem m_X8_policyAt (l : Launch) {n : Nat} {K : Kt} {F : Ft} {G : Gt} {a0 : Nat} {x1 : Nat} (t0 : TMain K G a0) (hi : x1 < (K (gp G a0 3)).2) : Mw X l yX8_policyAt cX8_policyAt 2 (some (.object "Exportcover$Policy")) 3 64 0 0 [.ref a0, .int (nI x1)] n K F G (some (.ref (el G (gp G a0 3) x1))) n K F G := by
  generalize hf : (el G (gp G a0 3) x1) = r
  refine Mw.of (lv := [(0, .ref a0), (1, .int (nI x1))]) (by decide) (Nat.le_of_ble_eq_true rfl) rfl ?_
  intro p e s m args below meth c Q hC hin hQ
  have hC : Cx X p s m args meth c RX8 cX8_policyAt 2 (some (.object "Exportcover$Policy")) := hC
  refine v_iload_n hC dX8_policyAt_0 rfl 1 rfl ?_
  refine v_if_lt (tgt := 15) hC dX8_policyAt_1 (by decide) (fun c1 => absurd c1 (ix_pos hi t0.2.2.2.2.1.2.lt)) (fun c1 => ?_)
  refine v_iload_n hC dX8_policyAt_4 rfl 1 rfl ?_
  refine v_aload_n hC dX8_policyAt_5 rfl 0 rfl ?_
  refine gf_X8_22 hC t0.1 t0.2.2.2.2.1.1 dX8_policyAt_6 ?_
  refine v_callV (c2 := 0) (s2 := 0) (As := []) hC (m_Jx4a65c_size_8abf5 l t0.2.2.2.2.1.2.1) q_X8_89 (by rw [t0.2.2.2.2.1.2.1]; decide) (ce_10 t0.2.2.2.2.1.2.1) (ci := 9) rfl hdV_Jx4a65c_size_8abf5 rfl rfl (Nat.le_of_ble_eq_true rfl) (Nat.le_of_ble_eq_true rfl) (Nat.le_of_ble_eq_true rfl) (Nat.le_of_ble_eq_true rfl) (Nat.le_of_ble_eq_true rfl) (Nat.le_of_ble_eq_true rfl) (Nat.le_of_ble_eq_true rfl) dX8_policyAt_9 ?_
  refine v_icmp_lt (tgt := 26) hC dX8_policyAt_12 (by decide) (fun c2 => ?_) (fun c2 => absurd (nI_lt hi t0.2.2.2.2.1.2.lt) c2)
  refine v_aload_n hC dX8_policyAt_26 rfl 0 rfl ?_
  refine gf_X8_22 hC t0.1 t0.2.2.2.2.1.1 dX8_policyAt_27 ?_
  refine v_iload_n hC dX8_policyAt_30 rfl 1 rfl ?_
  refine v_callV (c2 := 0) (s2 := 0) (As := [.int (nI x1)]) hC (m_Jx4a65c_get_915e3 l t0.2.2.2.2.1.2 (i := x1) (by omega)) q_X8_306 (by rw [t0.2.2.2.2.1.2.1]; decide) (ce_10 t0.2.2.2.2.1.2.1) (ci := 9) rfl hdV_Jx4a65c_get_915e3 rfl rfl (Nat.le_of_ble_eq_true rfl) (Nat.le_of_ble_eq_true rfl) (Nat.le_of_ble_eq_true rfl) (Nat.le_of_ble_eq_true rfl) (Nat.le_of_ble_eq_true rfl) (Nat.le_of_ble_eq_true rfl) (Nat.le_of_ble_eq_true rfl) dX8_policyAt_31 ?_
  have ht3 : TPol K G (el G (gp G a0 3) x1) := t0.2.2.2.2.1.2.el (i := x1) (by omega)
  refine v_cast hC (by rw [ht3.1]; decide) (ce_6 ht3.1) (ci := 5) rfl aw_295 dX8_policyAt_34 ?_
  exact v_aret hC rfl (Or.inl ⟨_, rfl⟩) hQ dX8_policyAt_37 (congrArg (fun z => some (Value.ref z)) hf) rfl rfl rfl rfl
theorem hdS_X8_shipmentAt : yX8_shipmentAt.cls ≠ "java/lang/invoke/MethodHandle" ∧ yX8_shipmentAt.cls ≠ "java/lang/invoke/VarHandle" ∧ (parseMethodDescriptor yX8_shipmentAt.desc).map (fun d => d.parameters.length) = some 1 := by decide +kernel
theorem hdV_X8_shipmentAt : yX8_shipmentAt.cls = RX8 ∧ yX8_shipmentAt.cls ≠ "java/lang/invoke/MethodHandle" ∧ yX8_shipmentAt.cls ≠ "java/lang/invoke/VarHandle" ∧ (parseMethodDescriptor yX8_shipmentAt.desc).map (fun d => d.parameters.length) = some 1 := by decide +kernel
set_option maxHeartbeats 4000000 in
set_option maxRecDepth 100000 in
theorem m_X8_shipmentAt (l : Launch) {n : Nat} {K : Kt} {F : Ft} {G : Gt} {a0 : Nat} {x1 : Nat} (t0 : TMain K G a0) (hi : x1 < (K (gp G a0 4)).2) : Mw X l yX8_shipmentAt cX8_shipmentAt 2 (some (.object "Exportcover$Shipment")) 3 64 0 0 [.ref a0, .int (nI x1)] n K F G (some (.ref (el G (gp G a0 4) x1))) n K F G := by
  generalize hf : (el G (gp G a0 4) x1) = r
  refine Mw.of (lv := [(0, .ref a0), (1, .int (nI x1))]) (by decide) (Nat.le_of_ble_eq_true rfl) rfl ?_
  intro p e s m args below meth c Q hC hin hQ
  have hC : Cx X p s m args meth c RX8 cX8_shipmentAt 2 (some (.object "Exportcover$Shipment")) := hC
  refine v_iload_n hC dX8_shipmentAt_0 rfl 1 rfl ?_
  refine v_if_lt (tgt := 15) hC dX8_shipmentAt_1 (by decide) (fun c1 => absurd c1 (ix_pos hi t0.2.2.2.2.2.1.2.lt)) (fun c1 => ?_)
  refine v_iload_n hC dX8_shipmentAt_4 rfl 1 rfl ?_
  refine v_aload_n hC dX8_shipmentAt_5 rfl 0 rfl ?_
  refine gf_X8_25 hC t0.1 t0.2.2.2.2.2.1.1 dX8_shipmentAt_6 ?_
  refine v_callV (c2 := 0) (s2 := 0) (As := []) hC (m_Jx4a65c_size_8abf5 l t0.2.2.2.2.2.1.2.1) q_X8_89 (by rw [t0.2.2.2.2.2.1.2.1]; decide) (ce_10 t0.2.2.2.2.2.1.2.1) (ci := 9) rfl hdV_Jx4a65c_size_8abf5 rfl rfl (Nat.le_of_ble_eq_true rfl) (Nat.le_of_ble_eq_true rfl) (Nat.le_of_ble_eq_true rfl) (Nat.le_of_ble_eq_true rfl) (Nat.le_of_ble_eq_true rfl) (Nat.le_of_ble_eq_true rfl) (Nat.le_of_ble_eq_true rfl) dX8_shipmentAt_9 ?_
  refine v_icmp_lt (tgt := 26) hC dX8_shipmentAt_12 (by decide) (fun c2 => ?_) (fun c2 => absurd (nI_lt hi t0.2.2.2.2.2.1.2.lt) c2)
  refine v_aload_n hC dX8_shipmentAt_26 rfl 0 rfl ?_
  refine gf_X8_25 hC t0.1 t0.2.2.2.2.2.1.1 dX8_shipmentAt_27 ?_
  refine v_iload_n hC dX8_shipmentAt_30 rfl 1 rfl ?_
  refine v_callV (c2 := 0) (s2 := 0) (As := [.int (nI x1)]) hC (m_Jx4a65c_get_915e3 l t0.2.2.2.2.2.1.2 (i := x1) (by omega)) q_X8_306 (by rw [t0.2.2.2.2.2.1.2.1]; decide) (ce_10 t0.2.2.2.2.2.1.2.1) (ci := 9) rfl hdV_Jx4a65c_get_915e3 rfl rfl (Nat.le_of_ble_eq_true rfl) (Nat.le_of_ble_eq_true rfl) (Nat.le_of_ble_eq_true rfl) (Nat.le_of_ble_eq_true rfl) (Nat.le_of_ble_eq_true rfl) (Nat.le_of_ble_eq_true rfl) (Nat.le_of_ble_eq_true rfl) dX8_shipmentAt_31 ?_
  have ht3 : TShip K G (el G (gp G a0 4) x1) := t0.2.2.2.2.2.1.2.el (i := x1) (by omega)
  refine v_cast hC (by rw [ht3.1]; decide) (ce_7 ht3.1) (ci := 6) rfl aw_212 dX8_shipmentAt_34 ?_
  exact v_aret hC rfl (Or.inl ⟨_, rfl⟩) hQ dX8_shipmentAt_37 (congrArg (fun z => some (Value.ref z)) hf) rfl rfl rfl rfl
def f_X8_isWithin_J15 (K : Kt) (F : Ft) (G : Gt) (u1 : Int32) : Int32 := u1
def f_X8_isWithin_J14 (K : Kt) (F : Ft) (G : Gt) : Int32 := f_X8_isWithin_J15 K F G 0
def f_X8_isWithin (K : Kt) (F : Ft) (G : Gt) (x0 : Int32) (x1 : Int32) (x2 : Int32) : Int32 := if x0 < x1 then f_X8_isWithin_J14 K F G else if x2 < x0 then f_X8_isWithin_J14 K F G else f_X8_isWithin_J15 K F G 1
theorem hdS_X8_isWithin : yX8_isWithin.cls ≠ "java/lang/invoke/MethodHandle" ∧ yX8_isWithin.cls ≠ "java/lang/invoke/VarHandle" ∧ (parseMethodDescriptor yX8_isWithin.desc).map (fun d => d.parameters.length) = some 3 := by decide +kernel
theorem hdV_X8_isWithin : yX8_isWithin.cls = RX8 ∧ yX8_isWithin.cls ≠ "java/lang/invoke/MethodHandle" ∧ yX8_isWithin.cls ≠ "java/lang/invoke/VarHandle" ∧ (parseMethodDescriptor yX8_isWithin.desc).map (fun d => d.parameters.length) = some 3 := by decide +kernel
set_option maxHeartbeats 4000000 in
set_option maxRecDepth 100000 in
theorem m_X8_isWithin (l : Launch) {n : Nat} {K : Kt} {F : Ft} {G : Gt} {x0 : Int32} {x1 : Int32} {x2 : Int32}  : Mw X l yX8_isWithin cX8_isWithin 3 (some .boolean) 0 0 0 0 [.int x0, .int x1, .int x2] n K F G (some (.int (f_X8_isWithin K F G x0 x1 x2))) n K F G := by
  generalize hf : f_X8_isWithin K F G x0 x1 x2 = r
  refine Mw.of (lv := [(0, .int x0), (1, .int x1), (2, .int x2)]) (by decide) (Nat.le_of_ble_eq_true rfl) rfl ?_
  intro p e s m args below meth c Q hC hin hQ
  have hC : Cx X p s m args meth c RX8 cX8_isWithin 3 (some .boolean) := hC
  rw [f_X8_isWithin] at hf
  refine v_iload_n hC dX8_isWithin_0 rfl 0 rfl ?_
  refine v_iload_n hC dX8_isWithin_1 rfl 1 rfl ?_
  have KJ15 : ∀ (u1 : Int32) (tu1 : u1 = 0 ∨ u1 = 1), f_X8_isWithin_J15 K F G u1 = r → V X 3 p l e ({ frames := 0, cells := 0, slots := 0, locals := 0 } : Room) s m args below meth c Q 0 0 n K F G [] 15 [.int u1] := by
    intro u1 tu1 hf
    rw [f_X8_isWithin_J15] at hf
    exact v_zret (ty := .boolean) hC rfl (zz_of tu1) hQ dX8_isWithin_15 (congrArg (fun z => some (Value.int z)) hf) rfl rfl rfl rfl
  have KJ14 : f_X8_isWithin_J14 K F G = r → V X 3 p l e ({ frames := 0, cells := 0, slots := 0, locals := 0 } : Room) s m args below meth c Q 0 0 n K F G [] 14 [] := by
    intro hf
    rw [f_X8_isWithin_J14] at hf
    refine v_iconst (v := 0) hC dX8_isWithin_14 (by decide) ?_
    exact KJ15 0 (Or.inl rfl) hf
  refine v_icmp_lt (tgt := 14) hC dX8_isWithin_2 (by decide) (fun c2 => ?_) (fun c2 => ?_)
  · rw [if_pos c2] at hf
    refine v_sub [] rfl ?_
    exact KJ14 hf
  · rw [if_neg c2] at hf
    refine v_iload_n hC dX8_isWithin_5 rfl 0 rfl ?_
    refine v_iload_n hC dX8_isWithin_6 rfl 2 rfl ?_
    refine v_icmp_gt (tgt := 14) hC dX8_isWithin_7 (by decide) (fun c3 => ?_) (fun c3 => ?_)
    · rw [if_pos c3] at hf
      refine v_sub [] rfl ?_
      exact KJ14 hf
    · rw [if_neg c3] at hf
      refine v_iconst (v := 1) hC dX8_isWithin_10 (by decide) ?_
      refine v_goto (tgt := 15) hC dX8_isWithin_11 (by decide) ?_
      refine v_sub [] rfl ?_
      exact KJ15 1 (Or.inr rfl) hf
def f_X8_nextInRow (K : Kt) (F : Ft) (G : Gt) (x0 : Int32) : Int32 := ((27 * x0) + 29) - ((27 * x0) + 29) / 101 * 101
theorem hdS_X8_nextInRow : yX8_nextInRow.cls ≠ "java/lang/invoke/MethodHandle" ∧ yX8_nextInRow.cls ≠ "java/lang/invoke/VarHandle" ∧ (parseMethodDescriptor yX8_nextInRow.desc).map (fun d => d.parameters.length) = some 1 := by decide +kernel
theorem hdV_X8_nextInRow : yX8_nextInRow.cls = RX8 ∧ yX8_nextInRow.cls ≠ "java/lang/invoke/MethodHandle" ∧ yX8_nextInRow.cls ≠ "java/lang/invoke/VarHandle" ∧ (parseMethodDescriptor yX8_nextInRow.desc).map (fun d => d.parameters.length) = some 1 := by decide +kernel
set_option maxHeartbeats 4000000 in
set_option maxRecDepth 100000 in
theorem m_X8_nextInRow (l : Launch) {n : Nat} {K : Kt} {F : Ft} {G : Gt} {x0 : Int32}  : Mw X l yX8_nextInRow cX8_nextInRow 1 (some .int) 0 0 0 0 [.int x0] n K F G (some (.int (f_X8_nextInRow K F G x0))) n K F G := by
  generalize hf : f_X8_nextInRow K F G x0 = r
  refine Mw.of (lv := [(0, .int x0)]) (by decide) (Nat.le_of_ble_eq_true rfl) rfl ?_
  intro p e s m args below meth c Q hC hin hQ
  have hC : Cx X p s m args meth c RX8 cX8_nextInRow 1 (some .int) := hC
  rw [f_X8_nextInRow] at hf
  refine v_bipush (v := 27) hC dX8_nextInRow_0 (by decide) ?_
  refine v_iload_n hC dX8_nextInRow_2 rfl 0 rfl ?_
  refine v_imul hC dX8_nextInRow_3 ?_
  refine v_bipush (v := 29) hC dX8_nextInRow_4 (by decide) ?_
  refine v_iadd hC dX8_nextInRow_6 ?_
  refine v_bipush (v := 101) hC dX8_nextInRow_7 (by decide) ?_
  refine v_irem hC dX8_nextInRow_9 (by decide) ?_
  exact v_iret hC rfl hQ dX8_nextInRow_10 (congrArg (fun z => some (Value.int z)) hf) rfl rfl rfl rfl
def f_X8_since_J19 (K : Kt) (F : Ft) (G : Gt) (u2 : Int32) : Int32 := u2
def f_X8_since (K : Kt) (F : Ft) (G : Gt) (a0 : Nat) (x1 : Int32) (x2 : Int32) : Int32 := if x2 = 0 then (-1) else if x1 = (-1) then f_X8_since_J19 K F G (F a0 9) else f_X8_since_J19 K F G x1
theorem hdS_X8_since : yX8_since.cls ≠ "java/lang/invoke/MethodHandle" ∧ yX8_since.cls ≠ "java/lang/invoke/VarHandle" ∧ (parseMethodDescriptor yX8_since.desc).map (fun d => d.parameters.length) = some 2 := by decide +kernel
theorem hdV_X8_since : yX8_since.cls = RX8 ∧ yX8_since.cls ≠ "java/lang/invoke/MethodHandle" ∧ yX8_since.cls ≠ "java/lang/invoke/VarHandle" ∧ (parseMethodDescriptor yX8_since.desc).map (fun d => d.parameters.length) = some 2 := by decide +kernel
set_option maxHeartbeats 4000000 in
set_option maxRecDepth 100000 in
theorem m_X8_since (l : Launch) {n : Nat} {K : Kt} {F : Ft} {G : Gt} {a0 : Nat} {x1 : Int32} {x2 : Int32} (t0 : TMain K G a0) : Mw X l yX8_since cX8_since 3 (some .int) 0 0 0 0 [.ref a0, .int x1, .int x2] n K F G (some (.int (f_X8_since K F G a0 x1 x2))) n K F G := by
  generalize hf : f_X8_since K F G a0 x1 x2 = r
  refine Mw.of (lv := [(0, .ref a0), (1, .int x1), (2, .int x2)]) (by decide) (Nat.le_of_ble_eq_true rfl) rfl ?_
  intro p e s m args below meth c Q hC hin hQ
  have hC : Cx X p s m args meth c RX8 cX8_since 3 (some .int) := hC
  rw [f_X8_since] at hf
  refine v_iload_n hC dX8_since_0 rfl 2 rfl ?_
  refine v_if_ne (tgt := 6) hC dX8_since_1 (by decide) (fun c1 => ?_) (fun c1 => ?_)
  · rw [if_neg c1] at hf
    refine v_iload_n hC dX8_since_6 rfl 1 rfl ?_
    refine v_iconst (v := (-1)) hC dX8_since_7 (by decide) ?_
    have KJ19 : ∀ (u2 : Int32), f_X8_since_J19 K F G u2 = r → V X 3 p l e ({ frames := 0, cells := 0, slots := 0, locals := 0 } : Room) s m args below meth c Q 0 0 n K F G [] 19 [.int u2] := by
      intro u2 hf
      rw [f_X8_since_J19] at hf
      exact v_iret hC rfl hQ dX8_since_19 (congrArg (fun z => some (Value.int z)) hf) rfl rfl rfl rfl
    refine v_icmp_ne (tgt := 18) hC dX8_since_8 (by decide) (fun c3 => ?_) (fun c3 => ?_)
    · rw [if_neg c3] at hf
      refine v_iload_n hC dX8_since_18 rfl 1 rfl ?_
      refine v_sub [] rfl ?_
      exact KJ19 x1 hf
    · rw [if_pos c3] at hf
      refine v_aload_n hC dX8_since_11 rfl 0 rfl ?_
      refine gf_X8_151 hC t0.1 dX8_since_12 ?_
      refine v_goto (tgt := 19) hC dX8_since_15 (by decide) ?_
      refine v_sub [] rfl ?_
      exact KJ19 (F a0 9) hf
  · rw [if_pos c1] at hf
    refine v_iconst (v := (-1)) hC dX8_since_4 (by decide) ?_
    exact v_iret hC rfl hQ dX8_since_5 (congrArg (fun z => some (Value.int z)) hf) rfl rfl rfl rfl
def f_X8_riskUnder_J57 (K : Kt) (F : Ft) (G : Gt) (j5 : Nat) (rec5 : (Nat → Int32 → Int32)) (u5 : Int32) : Int32 := rec5 (j5 + 1) u5
def f_X8_riskUnder_L5 (K : Kt) (F : Ft) (G : Gt) (a0 : Nat) (a1 : Nat) (a2 : Nat) : Nat → Nat → Int32 → Int32
  | 0, j5, w3_5 => w3_5
  | k1 + 1, j5, w3_5 => if (gp G (el G (gp G a0 4) j5) 0) = a1 then if (gp G (el G (gp G a0 4) j5) 1) = a2 then f_X8_riskUnder_J57 K F G j5 (f_X8_riskUnder_L5 K F G a0 a1 a2 k1) (w3_5 + (f_X7_atRisk K F G (el G (gp G a0 4) j5))) else f_X8_riskUnder_J57 K F G j5 (f_X8_riskUnder_L5 K F G a0 a1 a2 k1) w3_5 else f_X8_riskUnder_J57 K F G j5 (f_X8_riskUnder_L5 K F G a0 a1 a2 k1) w3_5
def f_X8_riskUnder (K : Kt) (F : Ft) (G : Gt) (a0 : Nat) (a1 : Nat) (a2 : Nat) : Int32 := f_X8_riskUnder_L5 K F G a0 a1 a2 ((K (gp G a0 4)).2) 0 0
theorem hdS_X8_riskUnder : yX8_riskUnder.cls ≠ "java/lang/invoke/MethodHandle" ∧ yX8_riskUnder.cls ≠ "java/lang/invoke/VarHandle" ∧ (parseMethodDescriptor yX8_riskUnder.desc).map (fun d => d.parameters.length) = some 2 := by decide +kernel
theorem hdV_X8_riskUnder : yX8_riskUnder.cls = RX8 ∧ yX8_riskUnder.cls ≠ "java/lang/invoke/MethodHandle" ∧ yX8_riskUnder.cls ≠ "java/lang/invoke/VarHandle" ∧ (parseMethodDescriptor yX8_riskUnder.desc).map (fun d => d.parameters.length) = some 2 := by decide +kernel
set_option maxHeartbeats 4000000 in
set_option maxRecDepth 100000 in
theorem m_X8_riskUnder (l : Launch) {n : Nat} {K : Kt} {F : Ft} {G : Gt} {a0 : Nat} {a1 : Nat} {a2 : Nat} (t0 : TMain K G a0) (t1 : TPol K G a1) (t2 : TBuyer K G a2) : Mw X l yX8_riskUnder cX8_riskUnder 6 (some .int) 3 64 0 0 [.ref a0, .ref a1, .ref a2] n K F G (some (.int (f_X8_riskUnder K F G a0 a1 a2))) n K F G := by
  generalize hf : f_X8_riskUnder K F G a0 a1 a2 = r
  refine Mw.of (lv := [(0, .ref a0), (1, .ref a1), (2, .ref a2)]) (by decide) (Nat.le_of_ble_eq_true rfl) rfl ?_
  intro p e s m args below meth c Q hC hin hQ
  have hC : Cx X p s m args meth c RX8 cX8_riskUnder 6 (some .int) := hC
  rw [f_X8_riskUnder] at hf
  refine v_iconst (v := 0) hC dX8_riskUnder_0 (by decide) ?_
  refine v_istore_n (i := 3) (lv' := [(3, .int 0), (0, .ref a0), (1, .ref a1), (2, .ref a2)]) hC dX8_riskUnder_1 rfl (by decide) rfl ?_
  refine v_iconst (v := 0) hC dX8_riskUnder_2 (by decide) ?_
  refine v_istore (i := 4) (lv' := [(4, .int 0), (3, .int 0), (0, .ref a0), (1, .ref a1), (2, .ref a2)]) hC dX8_riskUnder_3 (by decide) rfl ?_
  refine v_sub [2, 3, 4, 1, 0] rfl ?_
  have KL5 : ∀ (k1 j5 : Nat) (w3_5 : Int32), j5 + k1 = (K (gp G a0 4)).2 → f_X8_riskUnder_L5 K F G a0 a1 a2 k1 j5 w3_5 = r → V X 6 p l e ({ frames := 3, cells := 0, slots := 0, locals := 64 } : Room) s m args below meth c Q 0 0 n K F G [(0, .ref a0), (1, .ref a1), (2, .ref a2), (3, .int w3_5), (4, .int (nI j5))] 5 [] := by
    intro k1
    induction k1 with
    | zero =>
      intro j5 w3_5 hj5 hf
      rw [f_X8_riskUnder_L5] at hf
      refine v_iload hC dX8_riskUnder_5 4 rfl ?_
      refine v_aload_n hC dX8_riskUnder_7 rfl 0 rfl ?_
      refine gf_X8_25 hC t0.1 t0.2.2.2.2.2.1.1 dX8_riskUnder_8 ?_
      refine v_callV (c2 := 0) (s2 := 0) (As := []) hC (m_Jx4a65c_size_8abf5 l t0.2.2.2.2.2.1.2.1) q_X8_89 (by rw [t0.2.2.2.2.2.1.2.1]; decide) (ce_10 t0.2.2.2.2.2.1.2.1) (ci := 9) rfl hdV_Jx4a65c_size_8abf5 rfl rfl (Nat.le_of_ble_eq_true rfl) (Nat.le_of_ble_eq_true rfl) (Nat.le_of_ble_eq_true rfl) (Nat.le_of_ble_eq_true rfl) (Nat.le_of_ble_eq_true rfl) (Nat.le_of_ble_eq_true rfl) (Nat.le_of_ble_eq_true rfl) dX8_riskUnder_11 ?_
      refine v_icmp_ge (tgt := 63) hC dX8_riskUnder_14 (by decide) (fun c2 => ?_) (fun c2 => absurd (lp_z hj5) c2)
      refine v_iload_n hC dX8_riskUnder_63 rfl 3 rfl ?_
      exact v_iret hC rfl hQ dX8_riskUnder_64 (congrArg (fun z => some (Value.int z)) hf) rfl rfl rfl rfl
    | succ k1 ihj5 =>
      intro j5 w3_5 hj5 hf
      rw [f_X8_riskUnder_L5] at hf
      refine v_iload hC dX8_riskUnder_5 4 rfl ?_
      refine v_aload_n hC dX8_riskUnder_7 rfl 0 rfl ?_
      refine gf_X8_25 hC t0.1 t0.2.2.2.2.2.1.1 dX8_riskUnder_8 ?_
      refine v_callV (c2 := 0) (s2 := 0) (As := []) hC (m_Jx4a65c_size_8abf5 l t0.2.2.2.2.2.1.2.1) q_X8_89 (by rw [t0.2.2.2.2.2.1.2.1]; decide) (ce_10 t0.2.2.2.2.2.1.2.1) (ci := 9) rfl hdV_Jx4a65c_size_8abf5 rfl rfl (Nat.le_of_ble_eq_true rfl) (Nat.le_of_ble_eq_true rfl) (Nat.le_of_ble_eq_true rfl) (Nat.le_of_ble_eq_true rfl) (Nat.le_of_ble_eq_true rfl) (Nat.le_of_ble_eq_true rfl) (Nat.le_of_ble_eq_true rfl) dX8_riskUnder_11 ?_
      refine v_icmp_ge (tgt := 63) hC dX8_riskUnder_14 (by decide) (fun c3 => absurd c3 (lp_s hj5 t0.2.2.2.2.2.1.2.lt)) (fun c3 => ?_)
      refine v_aload_n hC dX8_riskUnder_17 rfl 0 rfl ?_
      refine gf_X8_25 hC t0.1 t0.2.2.2.2.2.1.1 dX8_riskUnder_18 ?_
      refine v_iload hC dX8_riskUnder_21 4 rfl ?_
      refine v_callV (c2 := 0) (s2 := 0) (As := [.int (nI j5)]) hC (m_Jx4a65c_get_915e3 l t0.2.2.2.2.2.1.2 (i := j5) (by omega)) q_X8_306 (by rw [t0.2.2.2.2.2.1.2.1]; decide) (ce_10 t0.2.2.2.2.2.1.2.1) (ci := 9) rfl hdV_Jx4a65c_get_915e3 rfl rfl (Nat.le_of_ble_eq_true rfl) (Nat.le_of_ble_eq_true rfl) (Nat.le_of_ble_eq_true rfl) (Nat.le_of_ble_eq_true rfl) (Nat.le_of_ble_eq_true rfl) (Nat.le_of_ble_eq_true rfl) (Nat.le_of_ble_eq_true rfl) dX8_riskUnder_23 ?_
      have ht4 : TShip K G (el G (gp G a0 4) j5) := t0.2.2.2.2.2.1.2.el (i := j5) (by omega)
      refine v_cast hC (by rw [ht4.1]; decide) (ce_7 ht4.1) (ci := 6) rfl aw_212 dX8_riskUnder_26 ?_
      refine v_astore (i := 5) (lv' := [(5, .ref (el G (gp G a0 4) j5)), (0, .ref a0), (1, .ref a1), (2, .ref a2), (3, .int w3_5), (4, .int (nI j5))]) hC dX8_riskUnder_29 (by decide) rfl ?_
      refine v_aload hC dX8_riskUnder_31 0 rfl ?_
      refine gf_X8_274 hC ht4.1 ht4.2.1.1 dX8_riskUnder_33 ?_
      refine v_aload_n hC dX8_riskUnder_36 rfl 2 rfl ?_
      have KJ57 : ∀ (u5 : Int32), f_X8_riskUnder_J57 K F G j5 (f_X8_riskUnder_L5 K F G a0 a1 a2 k1) u5 = r → V X 6 p l e ({ frames := 3, cells := 0, slots := 0, locals := 64 } : Room) s m args below meth c Q 0 0 n K F G [(0, .ref a0), (1, .ref a1), (2, .ref a2), (3, .int u5), (4, .int (nI j5))] 57 [] := by
        intro u5 hf
        rw [f_X8_riskUnder_J57] at hf
        refine v_iinc (lv' := [(4, .int (nI (j5 + 1))), (0, .ref a0), (1, .ref a1), (2, .ref a2), (3, .int u5)]) (v := nI (j5 + 1)) hC dX8_riskUnder_57 4 rfl (nI_inc j5) (by decide) rfl ?_
        refine v_goto (tgt := 5) hC dX8_riskUnder_60 (by decide) ?_
        refine v_sub [1, 2, 3, 4, 0] rfl ?_
        exact ihj5 (j5 + 1) u5 (by omega) hf
      refine v_acmp_ne (tgt := 57) hC dX8_riskUnder_37 (by decide) (fun c6 => ?_) (fun c6 => ?_)
      · rw [if_neg c6] at hf
        refine v_sub [1, 2, 3, 4, 5] rfl ?_
        exact KJ57 w3_5 hf
      · rw [if_pos c6] at hf
        refine v_aload hC dX8_riskUnder_40 0 rfl ?_
        refine gf_X8_310 hC ht4.1 ht4.2.2.1.1 dX8_riskUnder_42 ?_
        refine v_aload_n hC dX8_riskUnder_45 rfl 3 rfl ?_
        refine v_acmp_ne (tgt := 57) hC dX8_riskUnder_46 (by decide) (fun c7 => ?_) (fun c7 => ?_)
        · rw [if_neg c7] at hf
          refine v_sub [1, 2, 3, 4, 5] rfl ?_
          exact KJ57 w3_5 hf
        · rw [if_pos c7] at hf
          refine v_iload_n hC dX8_riskUnder_49 rfl 4 rfl ?_
          refine v_aload hC dX8_riskUnder_50 0 rfl ?_
          refine v_callV (c2 := 0) (s2 := 0) (As := []) hC (m_X7_atRisk l (n := n) (K := K) (F := F) (G := G) (a0 := (el G (gp G a0 4) j5)) ht4) q_X8_476 (by rw [ht4.1]; decide) (ce_7 ht4.1) (ci := 6) rfl hdV_X7_atRisk rfl rfl (Nat.le_of_ble_eq_true rfl) (Nat.le_of_ble_eq_true rfl) (Nat.le_of_ble_eq_true rfl) (Nat.le_of_ble_eq_true rfl) (Nat.le_of_ble_eq_true rfl) (Nat.le_of_ble_eq_true rfl) (Nat.le_of_ble_eq_true rfl) dX8_riskUnder_52 ?_
          refine v_iadd hC dX8_riskUnder_55 ?_
          refine v_istore_n (i := 3) (lv' := [(3, .int (w3_5 + (f_X7_atRisk K F G (el G (gp G a0 4) j5)))), (5, .ref (el G (gp G a0 4) j5)), (0, .ref a0), (1, .ref a1), (2, .ref a2), (4, .int (nI j5))]) hC dX8_riskUnder_56 rfl (by decide) rfl ?_
          refine v_sub [2, 3, 4, 0, 5] rfl ?_
          exact KJ57 (w3_5 + (f_X7_atRisk K F G (el G (gp G a0 4) j5))) hf
  exact KL5 ((K (gp G a0 4)).2) 0 0 (by omega) hf
def f_X8_riskIn_J48 (K : Kt) (F : Ft) (G : Gt) (j4 : Nat) (rec4 : (Nat → Int32 → Int32)) (u5 : Int32) : Int32 := rec4 (j4 + 1) u5
def f_X8_riskIn_L4 (K : Kt) (F : Ft) (G : Gt) (a0 : Nat) (a1 : Nat) : Nat → Nat → Int32 → Int32
  | 0, j4, w2_4 => w2_4
  | k1 + 1, j4, w2_4 => if (gp G (gp G (el G (gp G a0 4) j4) 1) 1) = a1 then f_X8_riskIn_J48 K F G j4 (f_X8_riskIn_L4 K F G a0 a1 k1) (w2_4 + (f_X7_atRisk K F G (el G (gp G a0 4) j4))) else f_X8_riskIn_J48 K F G j4 (f_X8_riskIn_L4 K F G a0 a1 k1) w2_4
def f_X8_riskIn (K : Kt) (F : Ft) (G : Gt) (a0 : Nat) (a1 : Nat) : Int32 := f_X8_riskIn_L4 K F G a0 a1 ((K (gp G a0 4)).2) 0 0
theorem hdS_X8_riskIn : yX8_riskIn.cls ≠ "java/lang/invoke/MethodHandle" ∧ yX8_riskIn.cls ≠ "java/lang/invoke/VarHandle" ∧ (parseMethodDescriptor yX8_riskIn.desc).map (fun d => d.parameters.length) = some 1 := by decide +kernel
theorem hdV_X8_riskIn : yX8_riskIn.cls = RX8 ∧ yX8_riskIn.cls ≠ "java/lang/invoke/MethodHandle" ∧ yX8_riskIn.cls ≠ "java/lang/invoke/VarHandle" ∧ (parseMethodDescriptor yX8_riskIn.desc).map (fun d => d.parameters.length) = some 1 := by decide +kernel
set_option maxHeartbeats 4000000 in
set_option maxRecDepth 100000 in
theorem m_X8_riskIn (l : Launch) {n : Nat} {K : Kt} {F : Ft} {G : Gt} {a0 : Nat} {a1 : Nat} (t0 : TMain K G a0) (t1 : (K a1).1 = 3) : Mw X l yX8_riskIn cX8_riskIn 5 (some .int) 3 64 0 0 [.ref a0, .ref a1] n K F G (some (.int (f_X8_riskIn K F G a0 a1))) n K F G := by
  generalize hf : f_X8_riskIn K F G a0 a1 = r
  refine Mw.of (lv := [(0, .ref a0), (1, .ref a1)]) (by decide) (Nat.le_of_ble_eq_true rfl) rfl ?_
  intro p e s m args below meth c Q hC hin hQ
  have hC : Cx X p s m args meth c RX8 cX8_riskIn 5 (some .int) := hC
  rw [f_X8_riskIn] at hf
  refine v_iconst (v := 0) hC dX8_riskIn_0 (by decide) ?_
  refine v_istore_n (i := 2) (lv' := [(2, .int 0), (0, .ref a0), (1, .ref a1)]) hC dX8_riskIn_1 rfl (by decide) rfl ?_
  refine v_iconst (v := 0) hC dX8_riskIn_2 (by decide) ?_
  refine v_istore_n (i := 3) (lv' := [(3, .int 0), (2, .int 0), (0, .ref a0), (1, .ref a1)]) hC dX8_riskIn_3 rfl (by decide) rfl ?_
  refine v_sub [2, 3, 1, 0] rfl ?_
  have KL4 : ∀ (k1 j4 : Nat) (w2_4 : Int32), j4 + k1 = (K (gp G a0 4)).2 → f_X8_riskIn_L4 K F G a0 a1 k1 j4 w2_4 = r → V X 5 p l e ({ frames := 3, cells := 0, slots := 0, locals := 64 } : Room) s m args below meth c Q 0 0 n K F G [(0, .ref a0), (1, .ref a1), (2, .int w2_4), (3, .int (nI j4))] 4 [] := by
    intro k1
    induction k1 with
    | zero =>
      intro j4 w2_4 hj4 hf
      rw [f_X8_riskIn_L4] at hf
      refine v_iload_n hC dX8_riskIn_4 rfl 3 rfl ?_
      refine v_aload_n hC dX8_riskIn_5 rfl 0 rfl ?_
      refine gf_X8_25 hC t0.1 t0.2.2.2.2.2.1.1 dX8_riskIn_6 ?_
      refine v_callV (c2 := 0) (s2 := 0) (As := []) hC (m_Jx4a65c_size_8abf5 l t0.2.2.2.2.2.1.2.1) q_X8_89 (by rw [t0.2.2.2.2.2.1.2.1]; decide) (ce_10 t0.2.2.2.2.2.1.2.1) (ci := 9) rfl hdV_Jx4a65c_size_8abf5 rfl rfl (Nat.le_of_ble_eq_true rfl) (Nat.le_of_ble_eq_true rfl) (Nat.le_of_ble_eq_true rfl) (Nat.le_of_ble_eq_true rfl) (Nat.le_of_ble_eq_true rfl) (Nat.le_of_ble_eq_true rfl) (Nat.le_of_ble_eq_true rfl) dX8_riskIn_9 ?_
      refine v_icmp_ge (tgt := 54) hC dX8_riskIn_12 (by decide) (fun c2 => ?_) (fun c2 => absurd (lp_z hj4) c2)
      refine v_iload_n hC dX8_riskIn_54 rfl 2 rfl ?_
      exact v_iret hC rfl hQ dX8_riskIn_55 (congrArg (fun z => some (Value.int z)) hf) rfl rfl rfl rfl
    | succ k1 ihj4 =>
      intro j4 w2_4 hj4 hf
      rw [f_X8_riskIn_L4] at hf
      refine v_iload_n hC dX8_riskIn_4 rfl 3 rfl ?_
      refine v_aload_n hC dX8_riskIn_5 rfl 0 rfl ?_
      refine gf_X8_25 hC t0.1 t0.2.2.2.2.2.1.1 dX8_riskIn_6 ?_
      refine v_callV (c2 := 0) (s2 := 0) (As := []) hC (m_Jx4a65c_size_8abf5 l t0.2.2.2.2.2.1.2.1) q_X8_89 (by rw [t0.2.2.2.2.2.1.2.1]; decide) (ce_10 t0.2.2.2.2.2.1.2.1) (ci := 9) rfl hdV_Jx4a65c_size_8abf5 rfl rfl (Nat.le_of_ble_eq_true rfl) (Nat.le_of_ble_eq_true rfl) (Nat.le_of_ble_eq_true rfl) (Nat.le_of_ble_eq_true rfl) (Nat.le_of_ble_eq_true rfl) (Nat.le_of_ble_eq_true rfl) (Nat.le_of_ble_eq_true rfl) dX8_riskIn_9 ?_
      refine v_icmp_ge (tgt := 54) hC dX8_riskIn_12 (by decide) (fun c3 => absurd c3 (lp_s hj4 t0.2.2.2.2.2.1.2.lt)) (fun c3 => ?_)
      refine v_aload_n hC dX8_riskIn_15 rfl 0 rfl ?_
      refine gf_X8_25 hC t0.1 t0.2.2.2.2.2.1.1 dX8_riskIn_16 ?_
      refine v_iload_n hC dX8_riskIn_19 rfl 3 rfl ?_
      refine v_callV (c2 := 0) (s2 := 0) (As := [.int (nI j4)]) hC (m_Jx4a65c_get_915e3 l t0.2.2.2.2.2.1.2 (i := j4) (by omega)) q_X8_306 (by rw [t0.2.2.2.2.2.1.2.1]; decide) (ce_10 t0.2.2.2.2.2.1.2.1) (ci := 9) rfl hdV_Jx4a65c_get_915e3 rfl rfl (Nat.le_of_ble_eq_true rfl) (Nat.le_of_ble_eq_true rfl) (Nat.le_of_ble_eq_true rfl) (Nat.le_of_ble_eq_true rfl) (Nat.le_of_ble_eq_true rfl) (Nat.le_of_ble_eq_true rfl) (Nat.le_of_ble_eq_true rfl) dX8_riskIn_20 ?_
      have ht4 : TShip K G (el G (gp G a0 4) j4) := t0.2.2.2.2.2.1.2.el (i := j4) (by omega)
      refine v_cast hC (by rw [ht4.1]; decide) (ce_7 ht4.1) (ci := 6) rfl aw_212 dX8_riskIn_23 ?_
      refine v_astore (i := 4) (lv' := [(4, .ref (el G (gp G a0 4) j4)), (0, .ref a0), (1, .ref a1), (2, .int w2_4), (3, .int (nI j4))]) hC dX8_riskIn_26 (by decide) rfl ?_
      refine v_aload hC dX8_riskIn_28 0 rfl ?_
      refine gf_X8_310 hC ht4.1 ht4.2.2.1.1 dX8_riskIn_30 ?_
      refine gf_X8_206 hC ht4.2.2.1.2.1 ht4.2.2.1.2.2.1.1 dX8_riskIn_33 ?_
      refine v_aload_n hC dX8_riskIn_36 rfl 2 rfl ?_
      have KJ48 : ∀ (u5 : Int32), f_X8_riskIn_J48 K F G j4 (f_X8_riskIn_L4 K F G a0 a1 k1) u5 = r → V X 5 p l e ({ frames := 3, cells := 0, slots := 0, locals := 64 } : Room) s m args below meth c Q 0 0 n K F G [(0, .ref a0), (1, .ref a1), (2, .int u5), (3, .int (nI j4))] 48 [] := by
        intro u5 hf
        rw [f_X8_riskIn_J48] at hf
        refine v_iinc (lv' := [(3, .int (nI (j4 + 1))), (0, .ref a0), (1, .ref a1), (2, .int u5)]) (v := nI (j4 + 1)) hC dX8_riskIn_48 3 rfl (nI_inc j4) (by decide) rfl ?_
        refine v_goto (tgt := 4) hC dX8_riskIn_51 (by decide) ?_
        refine v_sub [1, 2, 3, 0] rfl ?_
        exact ihj4 (j4 + 1) u5 (by omega) hf
      refine v_acmp_ne (tgt := 48) hC dX8_riskIn_37 (by decide) (fun c6 => ?_) (fun c6 => ?_)
      · rw [if_neg c6] at hf
        refine v_sub [1, 2, 3, 4] rfl ?_
        exact KJ48 w2_4 hf
      · rw [if_pos c6] at hf
        refine v_iload_n hC dX8_riskIn_40 rfl 3 rfl ?_
        refine v_aload hC dX8_riskIn_41 0 rfl ?_
        refine v_callV (c2 := 0) (s2 := 0) (As := []) hC (m_X7_atRisk l (n := n) (K := K) (F := F) (G := G) (a0 := (el G (gp G a0 4) j4)) ht4) q_X8_476 (by rw [ht4.1]; decide) (ce_7 ht4.1) (ci := 6) rfl hdV_X7_atRisk rfl rfl (Nat.le_of_ble_eq_true rfl) (Nat.le_of_ble_eq_true rfl) (Nat.le_of_ble_eq_true rfl) (Nat.le_of_ble_eq_true rfl) (Nat.le_of_ble_eq_true rfl) (Nat.le_of_ble_eq_true rfl) (Nat.le_of_ble_eq_true rfl) dX8_riskIn_43 ?_
        refine v_iadd hC dX8_riskIn_46 ?_
        refine v_istore_n (i := 2) (lv' := [(2, .int (w2_4 + (f_X7_atRisk K F G (el G (gp G a0 4) j4)))), (4, .ref (el G (gp G a0 4) j4)), (0, .ref a0), (1, .ref a1), (3, .int (nI j4))]) hC dX8_riskIn_47 rfl (by decide) rfl ?_
        refine v_sub [2, 3, 0, 4] rfl ?_
        exact KJ48 (w2_4 + (f_X7_atRisk K F G (el G (gp G a0 4) j4))) hf
  exact KL4 ((K (gp G a0 4)).2) 0 0 (by omega) hf
def f_X8_isCoverStopped_J78 (K : Kt) (F : Ft) (G : Gt) (j2 : Nat) (rec2 : (Nat → Int32)) : Int32 := rec2 (j2 + 1)
def f_X8_isCoverStopped_J49 (K : Kt) (F : Ft) (G : Gt) (a0 : Nat) (j2 : Nat) (rec2 : (Nat → Int32)) (u5 : Int32) : Int32 := if u5 = 0 then f_X8_isCoverStopped_J78 K F G j2 rec2 else if (f_X7_isOverdue K F G (el G (gp G a0 4) j2) (F a0 9)) = 0 then f_X8_isCoverStopped_J78 K F G j2 rec2 else if (F (el G (gp G a0 4) j2) 11) = 0 then 1 else f_X8_isCoverStopped_J78 K F G j2 rec2
def f_X8_isCoverStopped_J48 (K : Kt) (F : Ft) (G : Gt) (a0 : Nat) (j2 : Nat) (rec2 : (Nat → Int32)) : Int32 := f_X8_isCoverStopped_J49 K F G a0 j2 rec2 0
def f_X8_isCoverStopped_L2 (K : Kt) (F : Ft) (G : Gt) (a0 : Nat) (a1 : Nat) (a2 : Nat) : Nat → Nat → Int32
  | 0, j2 => 0
  | k1 + 1, j2 => if (gp G (el G (gp G a0 4) j2) 0) = a1 then if (gp G (el G (gp G a0 4) j2) 1) = a2 then f_X8_isCoverStopped_J49 K F G a0 j2 (f_X8_isCoverStopped_L2 K F G a0 a1 a2 k1) 1 else f_X8_isCoverStopped_J48 K F G a0 j2 (f_X8_isCoverStopped_L2 K F G a0 a1 a2 k1) else f_X8_isCoverStopped_J48 K F G a0 j2 (f_X8_isCoverStopped_L2 K F G a0 a1 a2 k1)
def f_X8_isCoverStopped (K : Kt) (F : Ft) (G : Gt) (a0 : Nat) (a1 : Nat) (a2 : Nat) : Int32 := f_X8_isCoverStopped_L2 K F G a0 a1 a2 ((K (gp G a0 4)).2) 0
theorem hdS_X8_isCoverStopped : yX8_isCoverStopped.cls ≠ "java/lang/invoke/MethodHandle" ∧ yX8_isCoverStopped.cls ≠ "java/lang/invoke/VarHandle" ∧ (parseMethodDescriptor yX8_isCoverStopped.desc).map (fun d => d.parameters.length) = some 2 := by decide +kernel
theorem hdV_X8_isCoverStopped : yX8_isCoverStopped.cls = RX8 ∧ yX8_isCoverStopped.cls ≠ "java/lang/invoke/MethodHandle" ∧ yX8_isCoverStopped.cls ≠ "java/lang/invoke/VarHandle" ∧ (parseMethodDescriptor yX8_isCoverStopped.desc).map (fun d => d.parameters.length) = some 2 := by decide +kernel
set_option maxHeartbeats 4000000 in
set_option maxRecDepth 100000 in
theorem m_X8_isCoverStopped (l : Launch) {n : Nat} {K : Kt} {F : Ft} {G : Gt} {a0 : Nat} {a1 : Nat} {a2 : Nat} (t0 : TMain K G a0) (t1 : TPol K G a1) (t2 : TBuyer K G a2) : Mw X l yX8_isCoverStopped cX8_isCoverStopped 6 (some .boolean) 3 64 0 0 [.ref a0, .ref a1, .ref a2] n K F G (some (.int (f_X8_isCoverStopped K F G a0 a1 a2))) n K F G := by
  generalize hf : f_X8_isCoverStopped K F G a0 a1 a2 = r
  refine Mw.of (lv := [(0, .ref a0), (1, .ref a1), (2, .ref a2)]) (by decide) (Nat.le_of_ble_eq_true rfl) rfl ?_
  intro p e s m args below meth c Q hC hin hQ
  have hC : Cx X p s m args meth c RX8 cX8_isCoverStopped 6 (some .boolean) := hC
  rw [f_X8_isCoverStopped] at hf
  refine v_iconst (v := 0) hC dX8_isCoverStopped_0 (by decide) ?_
  refine v_istore_n (i := 3) (lv' := [(3, .int 0), (0, .ref a0), (1, .ref a1), (2, .ref a2)]) hC dX8_isCoverStopped_1 rfl (by decide) rfl ?_
  refine v_sub [1, 2, 3, 0] rfl ?_
  have KL2 : ∀ (k1 j2 : Nat) , j2 + k1 = (K (gp G a0 4)).2 → f_X8_isCoverStopped_L2 K F G a0 a1 a2 k1 j2 = r → V X 6 p l e ({ frames := 3, cells := 0, slots := 0, locals := 64 } : Room) s m args below meth c Q 0 0 n K F G [(0, .ref a0), (1, .ref a1), (2, .ref a2), (3, .int (nI j2))] 2 [] := by
    intro k1
    induction k1 with
    | zero =>
      intro j2 hj2 hf
      rw [f_X8_isCoverStopped_L2] at hf
      refine v_iload_n hC dX8_isCoverStopped_2 rfl 3 rfl ?_
      refine v_aload_n hC dX8_isCoverStopped_3 rfl 0 rfl ?_
      refine gf_X8_25 hC t0.1 t0.2.2.2.2.2.1.1 dX8_isCoverStopped_4 ?_
      refine v_callV (c2 := 0) (s2 := 0) (As := []) hC (m_Jx4a65c_size_8abf5 l t0.2.2.2.2.2.1.2.1) q_X8_89 (by rw [t0.2.2.2.2.2.1.2.1]; decide) (ce_10 t0.2.2.2.2.2.1.2.1) (ci := 9) rfl hdV_Jx4a65c_size_8abf5 rfl rfl (Nat.le_of_ble_eq_true rfl) (Nat.le_of_ble_eq_true rfl) (Nat.le_of_ble_eq_true rfl) (Nat.le_of_ble_eq_true rfl) (Nat.le_of_ble_eq_true rfl) (Nat.le_of_ble_eq_true rfl) (Nat.le_of_ble_eq_true rfl) dX8_isCoverStopped_7 ?_
      refine v_icmp_ge (tgt := 84) hC dX8_isCoverStopped_10 (by decide) (fun c2 => ?_) (fun c2 => absurd (lp_z hj2) c2)
      refine v_iconst (v := 0) hC dX8_isCoverStopped_84 (by decide) ?_
      exact v_zret (ty := .boolean) hC rfl rfl hQ dX8_isCoverStopped_85 (congrArg (fun z => some (Value.int z)) hf) rfl rfl rfl rfl
    | succ k1 ihj2 =>
      intro j2 hj2 hf
      rw [f_X8_isCoverStopped_L2] at hf
      refine v_iload_n hC dX8_isCoverStopped_2 rfl 3 rfl ?_
      refine v_aload_n hC dX8_isCoverStopped_3 rfl 0 rfl ?_
      refine gf_X8_25 hC t0.1 t0.2.2.2.2.2.1.1 dX8_isCoverStopped_4 ?_
      refine v_callV (c2 := 0) (s2 := 0) (As := []) hC (m_Jx4a65c_size_8abf5 l t0.2.2.2.2.2.1.2.1) q_X8_89 (by rw [t0.2.2.2.2.2.1.2.1]; decide) (ce_10 t0.2.2.2.2.2.1.2.1) (ci := 9) rfl hdV_Jx4a65c_size_8abf5 rfl rfl (Nat.le_of_ble_eq_true rfl) (Nat.le_of_ble_eq_true rfl) (Nat.le_of_ble_eq_true rfl) (Nat.le_of_ble_eq_true rfl) (Nat.le_of_ble_eq_true rfl) (Nat.le_of_ble_eq_true rfl) (Nat.le_of_ble_eq_true rfl) dX8_isCoverStopped_7 ?_
      refine v_icmp_ge (tgt := 84) hC dX8_isCoverStopped_10 (by decide) (fun c3 => absurd c3 (lp_s hj2 t0.2.2.2.2.2.1.2.lt)) (fun c3 => ?_)
      refine v_aload_n hC dX8_isCoverStopped_13 rfl 0 rfl ?_
      refine gf_X8_25 hC t0.1 t0.2.2.2.2.2.1.1 dX8_isCoverStopped_14 ?_
      refine v_iload_n hC dX8_isCoverStopped_17 rfl 3 rfl ?_
      refine v_callV (c2 := 0) (s2 := 0) (As := [.int (nI j2)]) hC (m_Jx4a65c_get_915e3 l t0.2.2.2.2.2.1.2 (i := j2) (by omega)) q_X8_306 (by rw [t0.2.2.2.2.2.1.2.1]; decide) (ce_10 t0.2.2.2.2.2.1.2.1) (ci := 9) rfl hdV_Jx4a65c_get_915e3 rfl rfl (Nat.le_of_ble_eq_true rfl) (Nat.le_of_ble_eq_true rfl) (Nat.le_of_ble_eq_true rfl) (Nat.le_of_ble_eq_true rfl) (Nat.le_of_ble_eq_true rfl) (Nat.le_of_ble_eq_true rfl) (Nat.le_of_ble_eq_true rfl) dX8_isCoverStopped_18 ?_
      have ht4 : TShip K G (el G (gp G a0 4) j2) := t0.2.2.2.2.2.1.2.el (i := j2) (by omega)
      refine v_cast hC (by rw [ht4.1]; decide) (ce_7 ht4.1) (ci := 6) rfl aw_212 dX8_isCoverStopped_21 ?_
      refine v_astore (i := 4) (lv' := [(4, .ref (el G (gp G a0 4) j2)), (0, .ref a0), (1, .ref a1), (2, .ref a2), (3, .int (nI j2))]) hC dX8_isCoverStopped_24 (by decide) rfl ?_
      refine v_aload hC dX8_isCoverStopped_26 0 rfl ?_
      refine gf_X8_274 hC ht4.1 ht4.2.1.1 dX8_isCoverStopped_28 ?_
      refine v_aload_n hC dX8_isCoverStopped_31 rfl 2 rfl ?_
      have KJ49 : ∀ (u5 : Int32) (tu5 : u5 = 0 ∨ u5 = 1), f_X8_isCoverStopped_J49 K F G a0 j2 (f_X8_isCoverStopped_L2 K F G a0 a1 a2 k1) u5 = r → V X 6 p l e ({ frames := 3, cells := 0, slots := 0, locals := 64 } : Room) s m args below meth c Q 0 0 n K F G [(0, .ref a0), (1, .ref a1), (2, .ref a2), (3, .int (nI j2)), (4, .ref (el G (gp G a0 4) j2))] 49 [.int u5] := by
        intro u5 tu5 hf
        rw [f_X8_isCoverStopped_J49] at hf
        refine v_istore (i := 5) (lv' := [(5, .int u5), (0, .ref a0), (1, .ref a1), (2, .ref a2), (3, .int (nI j2)), (4, .ref (el G (gp G a0 4) j2))]) hC dX8_isCoverStopped_49 (by decide) rfl ?_
        refine v_iload hC dX8_isCoverStopped_51 0 rfl ?_
        have KJ78 : f_X8_isCoverStopped_J78 K F G j2 (f_X8_isCoverStopped_L2 K F G a0 a1 a2 k1) = r → V X 6 p l e ({ frames := 3, cells := 0, slots := 0, locals := 64 } : Room) s m args below meth c Q 0 0 n K F G [(0, .ref a0), (1, .ref a1), (2, .ref a2), (3, .int (nI j2))] 78 [] := by
          intro hf
          rw [f_X8_isCoverStopped_J78] at hf
          refine v_iinc (lv' := [(3, .int (nI (j2 + 1))), (0, .ref a0), (1, .ref a1), (2, .ref a2)]) (v := nI (j2 + 1)) hC dX8_isCoverStopped_78 3 rfl (nI_inc j2) (by decide) rfl ?_
          refine v_goto (tgt := 2) hC dX8_isCoverStopped_81 (by decide) ?_
          refine v_sub [1, 2, 3, 0] rfl ?_
          exact ihj2 (j2 + 1) (by omega) hf
        refine v_if_eq (tgt := 78) hC dX8_isCoverStopped_53 (by decide) (fun c6 => ?_) (fun c6 => ?_)
        · rw [if_pos c6] at hf
          refine v_sub [1, 2, 3, 4] rfl ?_
          exact KJ78 hf
        · rw [if_neg c6] at hf
          refine v_aload hC dX8_isCoverStopped_56 5 rfl ?_
          refine v_aload_n hC dX8_isCoverStopped_58 rfl 1 rfl ?_
          refine gf_X8_151 hC t0.1 dX8_isCoverStopped_59 ?_
          refine v_callV (c2 := 0) (s2 := 0) (As := [.int (F a0 9)]) hC (m_X7_isOverdue l (n := n) (K := K) (F := F) (G := G) (a0 := (el G (gp G a0 4) j2)) (x1 := (F a0 9)) ht4) q_X8_479 (by rw [ht4.1]; decide) (ce_7 ht4.1) (ci := 6) rfl hdV_X7_isOverdue rfl rfl (Nat.le_of_ble_eq_true rfl) (Nat.le_of_ble_eq_true rfl) (Nat.le_of_ble_eq_true rfl) (Nat.le_of_ble_eq_true rfl) (Nat.le_of_ble_eq_true rfl) (Nat.le_of_ble_eq_true rfl) (Nat.le_of_ble_eq_true rfl) dX8_isCoverStopped_62 ?_
          refine v_if_eq (tgt := 78) hC dX8_isCoverStopped_65 (by decide) (fun c7 => ?_) (fun c7 => ?_)
          · rw [if_pos c7] at hf
            refine v_sub [1, 2, 3, 4] rfl ?_
            exact KJ78 hf
          · rw [if_neg c7] at hf
            refine v_aload hC dX8_isCoverStopped_68 5 rfl ?_
            refine gf_X8_256 hC ht4.1 dX8_isCoverStopped_70 ?_
            refine v_if_ne (tgt := 78) hC dX8_isCoverStopped_73 (by decide) (fun c8 => ?_) (fun c8 => ?_)
            · rw [if_neg c8] at hf
              refine v_sub [1, 2, 3, 4] rfl ?_
              exact KJ78 hf
            · rw [if_pos c8] at hf
              refine v_iconst (v := 1) hC dX8_isCoverStopped_76 (by decide) ?_
              exact v_zret (ty := .boolean) hC rfl rfl hQ dX8_isCoverStopped_77 (congrArg (fun z => some (Value.int z)) hf) rfl rfl rfl rfl
      have KJ48 : f_X8_isCoverStopped_J48 K F G a0 j2 (f_X8_isCoverStopped_L2 K F G a0 a1 a2 k1) = r → V X 6 p l e ({ frames := 3, cells := 0, slots := 0, locals := 64 } : Room) s m args below meth c Q 0 0 n K F G [(0, .ref a0), (1, .ref a1), (2, .ref a2), (3, .int (nI j2)), (4, .ref (el G (gp G a0 4) j2))] 48 [] := by
        intro hf
        rw [f_X8_isCoverStopped_J48] at hf
        refine v_iconst (v := 0) hC dX8_isCoverStopped_48 (by decide) ?_
        exact KJ49 0 (Or.inl rfl) hf
      refine v_acmp_ne (tgt := 48) hC dX8_isCoverStopped_32 (by decide) (fun c9 => ?_) (fun c9 => ?_)
      · rw [if_neg c9] at hf
        refine v_sub [1, 2, 3, 4, 0] rfl ?_
        exact KJ48 hf
      · rw [if_pos c9] at hf
        refine v_aload hC dX8_isCoverStopped_35 0 rfl ?_
        refine gf_X8_310 hC ht4.1 ht4.2.2.1.1 dX8_isCoverStopped_37 ?_
        refine v_aload_n hC dX8_isCoverStopped_40 rfl 3 rfl ?_
        refine v_acmp_ne (tgt := 48) hC dX8_isCoverStopped_41 (by decide) (fun c10 => ?_) (fun c10 => ?_)
        · rw [if_neg c10] at hf
          refine v_sub [1, 2, 3, 4, 0] rfl ?_
          exact KJ48 hf
        · rw [if_pos c10] at hf
          refine v_iconst (v := 1) hC dX8_isCoverStopped_44 (by decide) ?_
          refine v_goto (tgt := 49) hC dX8_isCoverStopped_45 (by decide) ?_
          refine v_sub [1, 2, 3, 4, 0] rfl ?_
          exact KJ49 1 (Or.inr rfl) hf
  exact KL2 ((K (gp G a0 4)).2) 0 (by omega) hf
def f_X8_refusalOf_J74 (K : Kt) (F : Ft) (G : Gt) (u6 : Int32) : Int32 := u6
def f_X8_refusalOf (K : Kt) (F : Ft) (G : Gt) (a0 : Nat) (a1 : Nat) (a2 : Nat) (x3 : Int32) : Int32 := if (F a1 6) = 0 then if (F (gp G a2 1) 3) = 0 then if (f_X5_isTroubled K F G (gp G a2 1)) = 0 then if (f_X0_isBroke K F G a2) = 0 then if (f_X8_isCoverStopped K F G a0 a1 a2) = 0 then if x3 ≤ (f_X5_longestTermOn K F G (gp G a2 1) (F a0 9)) then f_X8_refusalOf_J74 K F G 0 else f_X8_refusalOf_J74 K F G 6 else 5 else 4 else 3 else 2 else 1
theorem hdS_X8_refusalOf : yX8_refusalOf.cls ≠ "java/lang/invoke/MethodHandle" ∧ yX8_refusalOf.cls ≠ "java/lang/invoke/VarHandle" ∧ (parseMethodDescriptor yX8_refusalOf.desc).map (fun d => d.parameters.length) = some 3 := by decide +kernel
theorem hdV_X8_refusalOf : yX8_refusalOf.cls = RX8 ∧ yX8_refusalOf.cls ≠ "java/lang/invoke/MethodHandle" ∧ yX8_refusalOf.cls ≠ "java/lang/invoke/VarHandle" ∧ (parseMethodDescriptor yX8_refusalOf.desc).map (fun d => d.parameters.length) = some 3 := by decide +kernel
set_option maxHeartbeats 4000000 in
set_option maxRecDepth 100000 in
theorem m_X8_refusalOf (l : Launch) {n : Nat} {K : Kt} {F : Ft} {G : Gt} {a0 : Nat} {a1 : Nat} {a2 : Nat} {x3 : Int32} (t0 : TMain K G a0) (t1 : TPol K G a1) (t2 : TBuyer K G a2) : Mw X l yX8_refusalOf cX8_refusalOf 4 (some .int) 4 89 0 0 [.ref a0, .ref a1, .ref a2, .int x3] n K F G (some (.int (f_X8_refusalOf K F G a0 a1 a2 x3))) n K F G := by
  generalize hf : f_X8_refusalOf K F G a0 a1 a2 x3 = r
  refine Mw.of (lv := [(0, .ref a0), (1, .ref a1), (2, .ref a2), (3, .int x3)]) (by decide) (Nat.le_of_ble_eq_true rfl) rfl ?_
  intro p e s m args below meth c Q hC hin hQ
  have hC : Cx X p s m args meth c RX8 cX8_refusalOf 4 (some .int) := hC
  rw [f_X8_refusalOf] at hf
  refine v_aload_n hC dX8_refusalOf_0 rfl 1 rfl ?_
  refine gf_X8_181 hC t1.1 dX8_refusalOf_1 ?_
  refine v_if_eq (tgt := 9) hC dX8_refusalOf_4 (by decide) (fun c1 => ?_) (fun c1 => ?_)
  · rw [if_pos c1] at hf
    refine v_aload_n hC dX8_refusalOf_9 rfl 2 rfl ?_
    refine gf_X8_206 hC t2.1 t2.2.1.1 dX8_refusalOf_10 ?_
    refine gf_X8_109 hC t2.2.1.2 dX8_refusalOf_13 ?_
    refine v_if_eq (tgt := 21) hC dX8_refusalOf_16 (by decide) (fun c2 => ?_) (fun c2 => ?_)
    · rw [if_pos c2] at hf
      refine v_aload_n hC dX8_refusalOf_21 rfl 2 rfl ?_
      refine gf_X8_206 hC t2.1 t2.2.1.1 dX8_refusalOf_22 ?_
      refine v_callV (c2 := 0) (s2 := 0) (As := []) hC (m_X5_isTroubled l (n := n) (K := K) (F := F) (G := G) (a0 := (gp G a2 1)) t2.2.1.2) q_X8_483 (by rw [t2.2.1.2]; decide) (ce_3 t2.2.1.2) (ci := 2) rfl hdV_X5_isTroubled rfl rfl (Nat.le_of_ble_eq_true rfl) (Nat.le_of_ble_eq_true rfl) (Nat.le_of_ble_eq_true rfl) (Nat.le_of_ble_eq_true rfl) (Nat.le_of_ble_eq_true rfl) (Nat.le_of_ble_eq_true rfl) (Nat.le_of_ble_eq_true rfl) dX8_refusalOf_25 ?_
      refine v_if_eq (tgt := 33) hC dX8_refusalOf_28 (by decide) (fun c3 => ?_) (fun c3 => ?_)
      · rw [if_pos c3] at hf
        refine v_aload_n hC dX8_refusalOf_33 rfl 2 rfl ?_
        refine v_callV (c2 := 0) (s2 := 0) (As := []) hC (m_X0_isBroke l (n := n) (K := K) (F := F) (G := G) (a0 := a2) t2) q_X8_132 (by rw [t2.1]; decide) (ce_4 t2.1) (ci := 3) rfl hdV_X0_isBroke rfl rfl (Nat.le_of_ble_eq_true rfl) (Nat.le_of_ble_eq_true rfl) (Nat.le_of_ble_eq_true rfl) (Nat.le_of_ble_eq_true rfl) (Nat.le_of_ble_eq_true rfl) (Nat.le_of_ble_eq_true rfl) (Nat.le_of_ble_eq_true rfl) dX8_refusalOf_34 ?_
        refine v_if_eq (tgt := 42) hC dX8_refusalOf_37 (by decide) (fun c4 => ?_) (fun c4 => ?_)
        · rw [if_pos c4] at hf
          refine v_aload_n hC dX8_refusalOf_42 rfl 0 rfl ?_
          refine v_aload_n hC dX8_refusalOf_43 rfl 1 rfl ?_
          refine v_aload_n hC dX8_refusalOf_44 rfl 2 rfl ?_
          refine v_callV (c2 := 0) (s2 := 0) (As := [.ref a1, .ref a2]) hC (m_X8_isCoverStopped l (n := n) (K := K) (F := F) (G := G) (a0 := a0) (a1 := a1) (a2 := a2) t0 t1 t2) q_X8_486 (by rw [t0.1]; decide) (ce_1 t0.1) (ci := 0) rfl hdV_X8_isCoverStopped rfl rfl (Nat.le_of_ble_eq_true rfl) (Nat.le_of_ble_eq_true rfl) (Nat.le_of_ble_eq_true rfl) (Nat.le_of_ble_eq_true rfl) (Nat.le_of_ble_eq_true rfl) (Nat.le_of_ble_eq_true rfl) (Nat.le_of_ble_eq_true rfl) dX8_refusalOf_45 ?_
          refine v_if_eq (tgt := 53) hC dX8_refusalOf_48 (by decide) (fun c5 => ?_) (fun c5 => ?_)
          · rw [if_pos c5] at hf
            refine v_iload_n hC dX8_refusalOf_53 rfl 3 rfl ?_
            refine v_aload_n hC dX8_refusalOf_54 rfl 2 rfl ?_
            refine gf_X8_206 hC t2.1 t2.2.1.1 dX8_refusalOf_55 ?_
            refine v_aload_n hC dX8_refusalOf_58 rfl 0 rfl ?_
            refine gf_X8_151 hC t0.1 dX8_refusalOf_59 ?_
            refine v_callV (c2 := 0) (s2 := 0) (As := [.int (F a0 9)]) hC (m_X5_longestTermOn l (n := n) (K := K) (F := F) (G := G) (a0 := (gp G a2 1)) (x1 := (F a0 9)) t2.2.1.2) q_X8_490 (by rw [t2.2.1.2]; decide) (ce_3 t2.2.1.2) (ci := 2) rfl hdV_X5_longestTermOn rfl rfl (Nat.le_of_ble_eq_true rfl) (Nat.le_of_ble_eq_true rfl) (Nat.le_of_ble_eq_true rfl) (Nat.le_of_ble_eq_true rfl) (Nat.le_of_ble_eq_true rfl) (Nat.le_of_ble_eq_true rfl) (Nat.le_of_ble_eq_true rfl) dX8_refusalOf_62 ?_
            have KJ74 : ∀ (u6 : Int32), f_X8_refusalOf_J74 K F G u6 = r → V X 4 p l e ({ frames := 4, cells := 0, slots := 0, locals := 89 } : Room) s m args below meth c Q 0 0 n K F G [] 74 [.int u6] := by
              intro u6 hf
              rw [f_X8_refusalOf_J74] at hf
              exact v_iret hC rfl hQ dX8_refusalOf_74 (congrArg (fun z => some (Value.int z)) hf) rfl rfl rfl rfl
            refine v_icmp_le (tgt := 73) hC dX8_refusalOf_65 (by decide) (fun c7 => ?_) (fun c7 => ?_)
            · rw [if_pos c7] at hf
              refine v_iconst (v := 0) hC dX8_refusalOf_73 (by decide) ?_
              refine v_sub [] rfl ?_
              exact KJ74 0 hf
            · rw [if_neg c7] at hf
              refine v_bipush (v := 6) hC dX8_refusalOf_68 (by decide) ?_
              refine v_goto (tgt := 74) hC dX8_refusalOf_70 (by decide) ?_
              refine v_sub [] rfl ?_
              exact KJ74 6 hf
          · rw [if_neg c5] at hf
            refine v_iconst (v := 5) hC dX8_refusalOf_51 (by decide) ?_
            exact v_iret hC rfl hQ dX8_refusalOf_52 (congrArg (fun z => some (Value.int z)) hf) rfl rfl rfl rfl
        · rw [if_neg c4] at hf
          refine v_iconst (v := 4) hC dX8_refusalOf_40 (by decide) ?_
          exact v_iret hC rfl hQ dX8_refusalOf_41 (congrArg (fun z => some (Value.int z)) hf) rfl rfl rfl rfl
      · rw [if_neg c3] at hf
        refine v_iconst (v := 3) hC dX8_refusalOf_31 (by decide) ?_
        exact v_iret hC rfl hQ dX8_refusalOf_32 (congrArg (fun z => some (Value.int z)) hf) rfl rfl rfl rfl
    · rw [if_neg c2] at hf
      refine v_iconst (v := 2) hC dX8_refusalOf_19 (by decide) ?_
      exact v_iret hC rfl hQ dX8_refusalOf_20 (congrArg (fun z => some (Value.int z)) hf) rfl rfl rfl rfl
  · rw [if_neg c1] at hf
    refine v_iconst (v := 1) hC dX8_refusalOf_7 (by decide) ?_
    exact v_iret hC rfl hQ dX8_refusalOf_8 (congrArg (fun z => some (Value.int z)) hf) rfl rfl rfl rfl
def f_X8_roomFor (K : Kt) (F : Ft) (G : Gt) (a0 : Nat) (a1 : Nat) (a2 : Nat) : Int32 := (if 0 < ((f_X6_grantedFor K F G a1 (F a2 0)) - (f_X8_riskUnder K F G a0 a1 a2)) then ((f_X6_grantedFor K F G a1 (F a2 0)) - (f_X8_riskUnder K F G a0 a1 a2)) else 0)
theorem hdS_X8_roomFor : yX8_roomFor.cls ≠ "java/lang/invoke/MethodHandle" ∧ yX8_roomFor.cls ≠ "java/lang/invoke/VarHandle" ∧ (parseMethodDescriptor yX8_roomFor.desc).map (fun d => d.parameters.length) = some 2 := by decide +kernel
theorem hdV_X8_roomFor : yX8_roomFor.cls = RX8 ∧ yX8_roomFor.cls ≠ "java/lang/invoke/MethodHandle" ∧ yX8_roomFor.cls ≠ "java/lang/invoke/VarHandle" ∧ (parseMethodDescriptor yX8_roomFor.desc).map (fun d => d.parameters.length) = some 2 := by decide +kernel
set_option maxHeartbeats 4000000 in
set_option maxRecDepth 100000 in
theorem m_X8_roomFor (l : Launch) {n : Nat} {K : Kt} {F : Ft} {G : Gt} {a0 : Nat} {a1 : Nat} {a2 : Nat} (t0 : TMain K G a0) (t1 : TPol K G a1) (t2 : TBuyer K G a2) : Mw X l yX8_roomFor cX8_roomFor 3 (some .int) 4 89 0 0 [.ref a0, .ref a1, .ref a2] n K F G (some (.int (f_X8_roomFor K F G a0 a1 a2))) n K F G := by
  generalize hf : f_X8_roomFor K F G a0 a1 a2 = r
  refine Mw.of (lv := [(0, .ref a0), (1, .ref a1), (2, .ref a2)]) (by decide) (Nat.le_of_ble_eq_true rfl) rfl ?_
  intro p e s m args below meth c Q hC hin hQ
  have hC : Cx X p s m args meth c RX8 cX8_roomFor 3 (some .int) := hC
  rw [f_X8_roomFor] at hf
  refine v_iconst (v := 0) hC dX8_roomFor_0 (by decide) ?_
  refine v_aload_n hC dX8_roomFor_1 rfl 1 rfl ?_
  refine v_aload_n hC dX8_roomFor_2 rfl 2 rfl ?_
  refine gf_X8_123 hC t2.1 dX8_roomFor_3 ?_
  refine v_callV (c2 := 0) (s2 := 0) (As := [.int (F a2 0)]) hC (m_X6_grantedFor l (n := n) (K := K) (F := F) (G := G) (a0 := a1) (x1 := (F a2 0)) t1) q_X8_195 (by rw [t1.1]; decide) (ce_6 t1.1) (ci := 5) rfl hdV_X6_grantedFor rfl rfl (Nat.le_of_ble_eq_true rfl) (Nat.le_of_ble_eq_true rfl) (Nat.le_of_ble_eq_true rfl) (Nat.le_of_ble_eq_true rfl) (Nat.le_of_ble_eq_true rfl) (Nat.le_of_ble_eq_true rfl) (Nat.le_of_ble_eq_true rfl) dX8_roomFor_6 ?_
  refine v_aload_n hC dX8_roomFor_9 rfl 0 rfl ?_
  refine v_aload_n hC dX8_roomFor_10 rfl 1 rfl ?_
  refine v_aload_n hC dX8_roomFor_11 rfl 2 rfl ?_
  refine v_callV (c2 := 0) (s2 := 0) (As := [.ref a1, .ref a2]) hC (m_X8_riskUnder l (n := n) (K := K) (F := F) (G := G) (a0 := a0) (a1 := a1) (a2 := a2) t0 t1 t2) q_X8_351 (by rw [t0.1]; decide) (ce_1 t0.1) (ci := 0) rfl hdV_X8_riskUnder rfl rfl (Nat.le_of_ble_eq_true rfl) (Nat.le_of_ble_eq_true rfl) (Nat.le_of_ble_eq_true rfl) (Nat.le_of_ble_eq_true rfl) (Nat.le_of_ble_eq_true rfl) (Nat.le_of_ble_eq_true rfl) (Nat.le_of_ble_eq_true rfl) dX8_roomFor_12 ?_
  refine v_isub hC dX8_roomFor_15 ?_
  refine v_mmax hC aw_1300 (Nat.le_of_ble_eq_true rfl) (Nat.le_of_ble_eq_true rfl) (Nat.le_of_ble_eq_true rfl) (Nat.le_of_ble_eq_true rfl) (Nat.le_of_ble_eq_true rfl) dX8_roomFor_16 ?_
  exact v_iret hC rfl hQ dX8_roomFor_19 (congrArg (fun z => some (Value.int z)) hf) rfl rfl rfl rfl
def f_X8_spaceIn (K : Kt) (F : Ft) (G : Gt) (a0 : Nat) (a1 : Nat) : Int32 := (if 0 < ((F a1 2) - (f_X8_riskIn K F G a0 a1)) then ((F a1 2) - (f_X8_riskIn K F G a0 a1)) else 0)
theorem hdS_X8_spaceIn : yX8_spaceIn.cls ≠ "java/lang/invoke/MethodHandle" ∧ yX8_spaceIn.cls ≠ "java/lang/invoke/VarHandle" ∧ (parseMethodDescriptor yX8_spaceIn.desc).map (fun d => d.parameters.length) = some 1 := by decide +kernel
theorem hdV_X8_spaceIn : yX8_spaceIn.cls = RX8 ∧ yX8_spaceIn.cls ≠ "java/lang/invoke/MethodHandle" ∧ yX8_spaceIn.cls ≠ "java/lang/invoke/VarHandle" ∧ (parseMethodDescriptor yX8_spaceIn.desc).map (fun d => d.parameters.length) = some 1 := by decide +kernel
set_option maxHeartbeats 4000000 in
set_option maxRecDepth 100000 in
theorem m_X8_spaceIn (l : Launch) {n : Nat} {K : Kt} {F : Ft} {G : Gt} {a0 : Nat} {a1 : Nat} (t0 : TMain K G a0) (t1 : (K a1).1 = 3) : Mw X l yX8_spaceIn cX8_spaceIn 2 (some .int) 4 88 0 0 [.ref a0, .ref a1] n K F G (some (.int (f_X8_spaceIn K F G a0 a1))) n K F G := by
  generalize hf : f_X8_spaceIn K F G a0 a1 = r
  refine Mw.of (lv := [(0, .ref a0), (1, .ref a1)]) (by decide) (Nat.le_of_ble_eq_true rfl) rfl ?_
  intro p e s m args below meth c Q hC hin hQ
  have hC : Cx X p s m args meth c RX8 cX8_spaceIn 2 (some .int) := hC
  rw [f_X8_spaceIn] at hf
  refine v_iconst (v := 0) hC dX8_spaceIn_0 (by decide) ?_
  refine v_aload_n hC dX8_spaceIn_1 rfl 1 rfl ?_
  refine gf_X8_106 hC t1 dX8_spaceIn_2 ?_
  refine v_aload_n hC dX8_spaceIn_5 rfl 0 rfl ?_
  refine v_aload_n hC dX8_spaceIn_6 rfl 1 rfl ?_
  refine v_callV (c2 := 0) (s2 := 0) (As := [.ref a1]) hC (m_X8_riskIn l (n := n) (K := K) (F := F) (G := G) (a0 := a0) (a1 := a1) t0 t1) q_X8_385 (by rw [t0.1]; decide) (ce_1 t0.1) (ci := 0) rfl hdV_X8_riskIn rfl rfl (Nat.le_of_ble_eq_true rfl) (Nat.le_of_ble_eq_true rfl) (Nat.le_of_ble_eq_true rfl) (Nat.le_of_ble_eq_true rfl) (Nat.le_of_ble_eq_true rfl) (Nat.le_of_ble_eq_true rfl) (Nat.le_of_ble_eq_true rfl) dX8_spaceIn_7 ?_
  refine v_isub hC dX8_spaceIn_10 ?_
  refine v_mmax hC aw_1300 (Nat.le_of_ble_eq_true rfl) (Nat.le_of_ble_eq_true rfl) (Nat.le_of_ble_eq_true rfl) (Nat.le_of_ble_eq_true rfl) (Nat.le_of_ble_eq_true rfl) dX8_spaceIn_11 ?_
  exact v_iret hC rfl hQ dX8_spaceIn_14 (congrArg (fun z => some (Value.int z)) hf) rfl rfl rfl rfl
def f_X8_insuredOf (K : Kt) (F : Ft) (G : Gt) (a0 : Nat) (a1 : Nat) (a2 : Nat) (x3 : Int32) (x4 : Int32) : Int32 := if (f_X8_refusalOf K F G a0 a1 a2 x4) = 0 then (if (if (f_X8_spaceIn K F G a0 (gp G a2 1)) < (f_X8_roomFor K F G a0 a1 a2) then (f_X8_spaceIn K F G a0 (gp G a2 1)) else (f_X8_roomFor K F G a0 a1 a2)) < x3 then (if (f_X8_spaceIn K F G a0 (gp G a2 1)) < (f_X8_roomFor K F G a0 a1 a2) then (f_X8_spaceIn K F G a0 (gp G a2 1)) else (f_X8_roomFor K F G a0 a1 a2)) else x3) else 0
theorem hdS_X8_insuredOf : yX8_insuredOf.cls ≠ "java/lang/invoke/MethodHandle" ∧ yX8_insuredOf.cls ≠ "java/lang/invoke/VarHandle" ∧ (parseMethodDescriptor yX8_insuredOf.desc).map (fun d => d.parameters.length) = some 4 := by decide +kernel
theorem hdV_X8_insuredOf : yX8_insuredOf.cls = RX8 ∧ yX8_insuredOf.cls ≠ "java/lang/invoke/MethodHandle" ∧ yX8_insuredOf.cls ≠ "java/lang/invoke/VarHandle" ∧ (parseMethodDescriptor yX8_insuredOf.desc).map (fun d => d.parameters.length) = some 4 := by decide +kernel
set_option maxHeartbeats 4000000 in
set_option maxRecDepth 100000 in
theorem m_X8_insuredOf (l : Launch) {n : Nat} {K : Kt} {F : Ft} {G : Gt} {a0 : Nat} {a1 : Nat} {a2 : Nat} {x3 : Int32} {x4 : Int32} (t0 : TMain K G a0) (t1 : TPol K G a1) (t2 : TBuyer K G a2) : Mw X l yX8_insuredOf cX8_insuredOf 5 (some .int) 5 112 0 0 [.ref a0, .ref a1, .ref a2, .int x3, .int x4] n K F G (some (.int (f_X8_insuredOf K F G a0 a1 a2 x3 x4))) n K F G := by
  generalize hf : f_X8_insuredOf K F G a0 a1 a2 x3 x4 = r
  refine Mw.of (lv := [(0, .ref a0), (1, .ref a1), (2, .ref a2), (3, .int x3), (4, .int x4)]) (by decide) (Nat.le_of_ble_eq_true rfl) rfl ?_
  intro p e s m args below meth c Q hC hin hQ
  have hC : Cx X p s m args meth c RX8 cX8_insuredOf 5 (some .int) := hC
  rw [f_X8_insuredOf] at hf
  refine v_aload_n hC dX8_insuredOf_0 rfl 0 rfl ?_
  refine v_aload_n hC dX8_insuredOf_1 rfl 1 rfl ?_
  refine v_aload_n hC dX8_insuredOf_2 rfl 2 rfl ?_
  refine v_iload hC dX8_insuredOf_3 4 rfl ?_
  refine v_callV (c2 := 0) (s2 := 0) (As := [.ref a1, .ref a2, .int x4]) hC (m_X8_refusalOf l (n := n) (K := K) (F := F) (G := G) (a0 := a0) (a1 := a1) (a2 := a2) (x3 := x4) t0 t1 t2) q_X8_493 (by rw [t0.1]; decide) (ce_1 t0.1) (ci := 0) rfl hdV_X8_refusalOf rfl rfl (Nat.le_of_ble_eq_true rfl) (Nat.le_of_ble_eq_true rfl) (Nat.le_of_ble_eq_true rfl) (Nat.le_of_ble_eq_true rfl) (Nat.le_of_ble_eq_true rfl) (Nat.le_of_ble_eq_true rfl) (Nat.le_of_ble_eq_true rfl) dX8_insuredOf_5 ?_
  refine v_if_eq (tgt := 13) hC dX8_insuredOf_8 (by decide) (fun c1 => ?_) (fun c1 => ?_)
  · rw [if_pos c1] at hf
    refine v_iload_n hC dX8_insuredOf_13 rfl 3 rfl ?_
    refine v_aload_n hC dX8_insuredOf_14 rfl 0 rfl ?_
    refine v_aload_n hC dX8_insuredOf_15 rfl 1 rfl ?_
    refine v_aload_n hC dX8_insuredOf_16 rfl 2 rfl ?_
    refine v_callV (c2 := 0) (s2 := 0) (As := [.ref a1, .ref a2]) hC (m_X8_roomFor l (n := n) (K := K) (F := F) (G := G) (a0 := a0) (a1 := a1) (a2 := a2) t0 t1 t2) q_X8_497 (by rw [t0.1]; decide) (ce_1 t0.1) (ci := 0) rfl hdV_X8_roomFor rfl rfl (Nat.le_of_ble_eq_true rfl) (Nat.le_of_ble_eq_true rfl) (Nat.le_of_ble_eq_true rfl) (Nat.le_of_ble_eq_true rfl) (Nat.le_of_ble_eq_true rfl) (Nat.le_of_ble_eq_true rfl) (Nat.le_of_ble_eq_true rfl) dX8_insuredOf_17 ?_
    refine v_aload_n hC dX8_insuredOf_20 rfl 0 rfl ?_
    refine v_aload_n hC dX8_insuredOf_21 rfl 2 rfl ?_
    refine gf_X8_206 hC t2.1 t2.2.1.1 dX8_insuredOf_22 ?_
    refine v_callV (c2 := 0) (s2 := 0) (As := [.ref (gp G a2 1)]) hC (m_X8_spaceIn l (n := n) (K := K) (F := F) (G := G) (a0 := a0) (a1 := (gp G a2 1)) t0 t2.2.1.2) q_X8_500 (by rw [t0.1]; decide) (ce_1 t0.1) (ci := 0) rfl hdV_X8_spaceIn rfl rfl (Nat.le_of_ble_eq_true rfl) (Nat.le_of_ble_eq_true rfl) (Nat.le_of_ble_eq_true rfl) (Nat.le_of_ble_eq_true rfl) (Nat.le_of_ble_eq_true rfl) (Nat.le_of_ble_eq_true rfl) (Nat.le_of_ble_eq_true rfl) dX8_insuredOf_25 ?_
    refine v_mmin hC aw_236 (Nat.le_of_ble_eq_true rfl) (Nat.le_of_ble_eq_true rfl) (Nat.le_of_ble_eq_true rfl) (Nat.le_of_ble_eq_true rfl) (Nat.le_of_ble_eq_true rfl) dX8_insuredOf_28 ?_
    refine v_mmin hC aw_236 (Nat.le_of_ble_eq_true rfl) (Nat.le_of_ble_eq_true rfl) (Nat.le_of_ble_eq_true rfl) (Nat.le_of_ble_eq_true rfl) (Nat.le_of_ble_eq_true rfl) dX8_insuredOf_31 ?_
    exact v_iret hC rfl hQ dX8_insuredOf_34 (congrArg (fun z => some (Value.int z)) hf) rfl rfl rfl rfl
  · rw [if_neg c1] at hf
    refine v_iconst (v := 0) hC dX8_insuredOf_11 (by decide) ?_
    exact v_iret hC rfl hQ dX8_insuredOf_12 (congrArg (fun z => some (Value.int z)) hf) rfl rfl rfl rfl
def f_X8_reasonOf_J64 (K : Kt) (F : Ft) (G : Gt) (u2 : Int32) : Int32 := u2
def f_X8_reasonOf_J50 (K : Kt) (F : Ft) (G : Gt) (a0 : Nat) (a1 : Nat) (a2 : Nat) : Int32 := if (f_X8_spaceIn K F G a0 (gp G a2 1)) < (f_X8_roomFor K F G a0 a1 a2) then f_X8_reasonOf_J64 K F G 8 else f_X8_reasonOf_J64 K F G 7
def f_X8_reasonOf (K : Kt) (F : Ft) (G : Gt) (a0 : Nat) (a1 : Nat) (a2 : Nat) (x3 : Int32) (x4 : Int32) : Int32 := if (f_X8_refusalOf K F G a0 a1 a2 x4) = 0 then if (f_X8_roomFor K F G a0 a1 a2) < x3 then f_X8_reasonOf_J50 K F G a0 a1 a2 else if (f_X8_spaceIn K F G a0 (gp G a2 1)) < x3 then f_X8_reasonOf_J50 K F G a0 a1 a2 else 0 else f_X8_refusalOf K F G a0 a1 a2 x4
theorem hdS_X8_reasonOf : yX8_reasonOf.cls ≠ "java/lang/invoke/MethodHandle" ∧ yX8_reasonOf.cls ≠ "java/lang/invoke/VarHandle" ∧ (parseMethodDescriptor yX8_reasonOf.desc).map (fun d => d.parameters.length) = some 4 := by decide +kernel
theorem hdV_X8_reasonOf : yX8_reasonOf.cls = RX8 ∧ yX8_reasonOf.cls ≠ "java/lang/invoke/MethodHandle" ∧ yX8_reasonOf.cls ≠ "java/lang/invoke/VarHandle" ∧ (parseMethodDescriptor yX8_reasonOf.desc).map (fun d => d.parameters.length) = some 4 := by decide +kernel
set_option maxHeartbeats 4000000 in
set_option maxRecDepth 100000 in
theorem m_X8_reasonOf (l : Launch) {n : Nat} {K : Kt} {F : Ft} {G : Gt} {a0 : Nat} {a1 : Nat} {a2 : Nat} {x3 : Int32} {x4 : Int32} (t0 : TMain K G a0) (t1 : TPol K G a1) (t2 : TBuyer K G a2) : Mw X l yX8_reasonOf cX8_reasonOf 8 (some .int) 5 112 0 0 [.ref a0, .ref a1, .ref a2, .int x3, .int x4] n K F G (some (.int (f_X8_reasonOf K F G a0 a1 a2 x3 x4))) n K F G := by
  generalize hf : f_X8_reasonOf K F G a0 a1 a2 x3 x4 = r
  refine Mw.of (lv := [(0, .ref a0), (1, .ref a1), (2, .ref a2), (3, .int x3), (4, .int x4)]) (by decide) (Nat.le_of_ble_eq_true rfl) rfl ?_
  intro p e s m args below meth c Q hC hin hQ
  have hC : Cx X p s m args meth c RX8 cX8_reasonOf 8 (some .int) := hC
  rw [f_X8_reasonOf] at hf
  refine v_aload_n hC dX8_reasonOf_0 rfl 0 rfl ?_
  refine v_aload_n hC dX8_reasonOf_1 rfl 1 rfl ?_
  refine v_aload_n hC dX8_reasonOf_2 rfl 2 rfl ?_
  refine v_iload hC dX8_reasonOf_3 4 rfl ?_
  refine v_callV (c2 := 0) (s2 := 0) (As := [.ref a1, .ref a2, .int x4]) hC (m_X8_refusalOf l (n := n) (K := K) (F := F) (G := G) (a0 := a0) (a1 := a1) (a2 := a2) (x3 := x4) t0 t1 t2) q_X8_493 (by rw [t0.1]; decide) (ce_1 t0.1) (ci := 0) rfl hdV_X8_refusalOf rfl rfl (Nat.le_of_ble_eq_true rfl) (Nat.le_of_ble_eq_true rfl) (Nat.le_of_ble_eq_true rfl) (Nat.le_of_ble_eq_true rfl) (Nat.le_of_ble_eq_true rfl) (Nat.le_of_ble_eq_true rfl) (Nat.le_of_ble_eq_true rfl) dX8_reasonOf_5 ?_
  refine v_istore (i := 5) (lv' := [(5, .int (f_X8_refusalOf K F G a0 a1 a2 x4)), (0, .ref a0), (1, .ref a1), (2, .ref a2), (3, .int x3), (4, .int x4)]) hC dX8_reasonOf_8 (by decide) rfl ?_
  refine v_iload hC dX8_reasonOf_10 0 rfl ?_
  refine v_if_eq (tgt := 18) hC dX8_reasonOf_12 (by decide) (fun c1 => ?_) (fun c1 => ?_)
  · rw [if_pos c1] at hf
    refine v_aload_n hC dX8_reasonOf_18 rfl 1 rfl ?_
    refine v_aload_n hC dX8_reasonOf_19 rfl 2 rfl ?_
    refine v_aload_n hC dX8_reasonOf_20 rfl 3 rfl ?_
    refine v_callV (c2 := 0) (s2 := 0) (As := [.ref a1, .ref a2]) hC (m_X8_roomFor l (n := n) (K := K) (F := F) (G := G) (a0 := a0) (a1 := a1) (a2 := a2) t0 t1 t2) q_X8_497 (by rw [t0.1]; decide) (ce_1 t0.1) (ci := 0) rfl hdV_X8_roomFor rfl rfl (Nat.le_of_ble_eq_true rfl) (Nat.le_of_ble_eq_true rfl) (Nat.le_of_ble_eq_true rfl) (Nat.le_of_ble_eq_true rfl) (Nat.le_of_ble_eq_true rfl) (Nat.le_of_ble_eq_true rfl) (Nat.le_of_ble_eq_true rfl) dX8_reasonOf_21 ?_
    refine v_istore (i := 6) (lv' := [(6, .int (f_X8_roomFor K F G a0 a1 a2)), (5, .int (f_X8_refusalOf K F G a0 a1 a2 x4)), (0, .ref a0), (1, .ref a1), (2, .ref a2), (3, .int x3), (4, .int x4)]) hC dX8_reasonOf_24 (by decide) rfl ?_
    refine v_aload_n hC dX8_reasonOf_26 rfl 2 rfl ?_
    refine v_aload_n hC dX8_reasonOf_27 rfl 4 rfl ?_
    refine gf_X8_206 hC t2.1 t2.2.1.1 dX8_reasonOf_28 ?_
    refine v_callV (c2 := 0) (s2 := 0) (As := [.ref (gp G a2 1)]) hC (m_X8_spaceIn l (n := n) (K := K) (F := F) (G := G) (a0 := a0) (a1 := (gp G a2 1)) t0 t2.2.1.2) q_X8_500 (by rw [t0.1]; decide) (ce_1 t0.1) (ci := 0) rfl hdV_X8_spaceIn rfl rfl (Nat.le_of_ble_eq_true rfl) (Nat.le_of_ble_eq_true rfl) (Nat.le_of_ble_eq_true rfl) (Nat.le_of_ble_eq_true rfl) (Nat.le_of_ble_eq_true rfl) (Nat.le_of_ble_eq_true rfl) (Nat.le_of_ble_eq_true rfl) dX8_reasonOf_31 ?_
    refine v_istore (i := 7) (lv' := [(7, .int (f_X8_spaceIn K F G a0 (gp G a2 1))), (6, .int (f_X8_roomFor K F G a0 a1 a2)), (5, .int (f_X8_refusalOf K F G a0 a1 a2 x4)), (0, .ref a0), (1, .ref a1), (2, .ref a2), (3, .int x3), (4, .int x4)]) hC dX8_reasonOf_34 (by decide) rfl ?_
    refine v_iload_n hC dX8_reasonOf_36 rfl 6 rfl ?_
    refine v_iload hC dX8_reasonOf_37 1 rfl ?_
    have KJ50 : f_X8_reasonOf_J50 K F G a0 a1 a2 = r → V X 8 p l e ({ frames := 5, cells := 0, slots := 0, locals := 112 } : Room) s m args below meth c Q 0 0 n K F G [(6, .int (f_X8_roomFor K F G a0 a1 a2)), (7, .int (f_X8_spaceIn K F G a0 (gp G a2 1)))] 50 [] := by
      intro hf
      rw [f_X8_reasonOf_J50] at hf
      refine v_iload hC dX8_reasonOf_50 0 rfl ?_
      refine v_iload hC dX8_reasonOf_52 1 rfl ?_
      have KJ64 : ∀ (u2 : Int32), f_X8_reasonOf_J64 K F G u2 = r → V X 8 p l e ({ frames := 5, cells := 0, slots := 0, locals := 112 } : Room) s m args below meth c Q 0 0 n K F G [] 64 [.int u2] := by
        intro u2 hf
        rw [f_X8_reasonOf_J64] at hf
        exact v_iret hC rfl hQ dX8_reasonOf_64 (congrArg (fun z => some (Value.int z)) hf) rfl rfl rfl rfl
      refine v_icmp_gt (tgt := 62) hC dX8_reasonOf_54 (by decide) (fun c3 => ?_) (fun c3 => ?_)
      · rw [if_pos c3] at hf
        refine v_bipush (v := 8) hC dX8_reasonOf_62 (by decide) ?_
        refine v_sub [] rfl ?_
        exact KJ64 8 hf
      · rw [if_neg c3] at hf
        refine v_bipush (v := 7) hC dX8_reasonOf_57 (by decide) ?_
        refine v_goto (tgt := 64) hC dX8_reasonOf_59 (by decide) ?_
        refine v_sub [] rfl ?_
        exact KJ64 7 hf
    refine v_icmp_gt (tgt := 50) hC dX8_reasonOf_39 (by decide) (fun c4 => ?_) (fun c4 => ?_)
    · rw [if_pos c4] at hf
      refine v_sub [1, 0] rfl ?_
      exact KJ50 hf
    · rw [if_neg c4] at hf
      refine v_iload_n hC dX8_reasonOf_42 rfl 6 rfl ?_
      refine v_iload hC dX8_reasonOf_43 0 rfl ?_
      refine v_icmp_gt (tgt := 50) hC dX8_reasonOf_45 (by decide) (fun c5 => ?_) (fun c5 => ?_)
      · rw [if_pos c5] at hf
        refine v_sub [1, 0] rfl ?_
        exact KJ50 hf
      · rw [if_neg c5] at hf
        refine v_iconst (v := 0) hC dX8_reasonOf_48 (by decide) ?_
        exact v_iret hC rfl hQ dX8_reasonOf_49 (congrArg (fun z => some (Value.int z)) hf) rfl rfl rfl rfl
  · rw [if_neg c1] at hf
    refine v_iload hC dX8_reasonOf_15 0 rfl ?_
    exact v_iret hC rfl hQ dX8_reasonOf_17 (congrArg (fun z => some (Value.int z)) hf) rfl rfl rfl rfl
def f_X8_chestOfRival_J16 (K : Kt) (F : Ft) (G : Gt) (u1 : Nat) : Nat := u1
def f_X8_chestOfRival (K : Kt) (F : Ft) (G : Gt) (a0 : Nat) (x1 : Int32) : Nat := if x1 = 1 then f_X8_chestOfRival_J16 K F G (gp G a0 7) else f_X8_chestOfRival_J16 K F G (gp G a0 6)
theorem hdS_X8_chestOfRival : yX8_chestOfRival.cls ≠ "java/lang/invoke/MethodHandle" ∧ yX8_chestOfRival.cls ≠ "java/lang/invoke/VarHandle" ∧ (parseMethodDescriptor yX8_chestOfRival.desc).map (fun d => d.parameters.length) = some 1 := by decide +kernel
theorem hdV_X8_chestOfRival : yX8_chestOfRival.cls = RX8 ∧ yX8_chestOfRival.cls ≠ "java/lang/invoke/MethodHandle" ∧ yX8_chestOfRival.cls ≠ "java/lang/invoke/VarHandle" ∧ (parseMethodDescriptor yX8_chestOfRival.desc).map (fun d => d.parameters.length) = some 1 := by decide +kernel
set_option maxHeartbeats 4000000 in
set_option maxRecDepth 100000 in
theorem m_X8_chestOfRival (l : Launch) {n : Nat} {K : Kt} {F : Ft} {G : Gt} {a0 : Nat} {x1 : Int32} (t0 : TMain K G a0) : Mw X l yX8_chestOfRival cX8_chestOfRival 2 (some (.object "Exportcover$Chest")) 0 0 0 0 [.ref a0, .int x1] n K F G (some (.ref (f_X8_chestOfRival K F G a0 x1))) n K F G := by
  generalize hf : f_X8_chestOfRival K F G a0 x1 = r
  refine Mw.of (lv := [(0, .ref a0), (1, .int x1)]) (by decide) (Nat.le_of_ble_eq_true rfl) rfl ?_
  intro p e s m args below meth c Q hC hin hQ
  have hC : Cx X p s m args meth c RX8 cX8_chestOfRival 2 (some (.object "Exportcover$Chest")) := hC
  rw [f_X8_chestOfRival] at hf
  refine v_iload_n hC dX8_chestOfRival_0 rfl 1 rfl ?_
  refine v_iconst (v := 1) hC dX8_chestOfRival_1 (by decide) ?_
  have KJ16 : ∀ (u1 : Nat) (tu1 : (K u1).1 = 2), f_X8_chestOfRival_J16 K F G u1 = r → V X 2 p l e ({ frames := 0, cells := 0, slots := 0, locals := 0 } : Room) s m args below meth c Q 0 0 n K F G [] 16 [.ref u1] := by
    intro u1 tu1 hf
    rw [f_X8_chestOfRival_J16] at hf
    exact v_aret hC rfl (Or.inl ⟨_, rfl⟩) hQ dX8_chestOfRival_16 (congrArg (fun z => some (Value.ref z)) hf) rfl rfl rfl rfl
  refine v_icmp_ne (tgt := 12) hC dX8_chestOfRival_2 (by decide) (fun c2 => ?_) (fun c2 => ?_)
  · rw [if_neg c2] at hf
    refine v_aload_n hC dX8_chestOfRival_12 rfl 0 rfl ?_
    refine gf_X8_35 hC t0.1 t0.2.2.2.2.2.2.2.1.1 dX8_chestOfRival_13 ?_
    refine v_sub [] rfl ?_
    exact KJ16 (gp G a0 6) t0.2.2.2.2.2.2.2.1.2 hf
  · rw [if_pos c2] at hf
    refine v_aload_n hC dX8_chestOfRival_5 rfl 0 rfl ?_
    refine gf_X8_38 hC t0.1 t0.2.2.2.2.2.2.2.2.1.1 dX8_chestOfRival_6 ?_
    refine v_goto (tgt := 16) hC dX8_chestOfRival_9 (by decide) ?_
    refine v_sub [] rfl ?_
    exact KJ16 (gp G a0 7) t0.2.2.2.2.2.2.2.2.1.2 hf
theorem tr_X8_chestOfRival {K : Kt} {F : Ft} {G : Gt} {a0 : Nat} {x1 : Int32} (t0 : TMain K G a0) : (K (f_X8_chestOfRival K F G a0 x1)).1 = 2 := by
  unfold f_X8_chestOfRival
  split
  · exact t0.2.2.2.2.2.2.2.2.1.2
  · exact t0.2.2.2.2.2.2.2.1.2
def f_X8_takePremium_C52 (K : Kt) (F : Ft) (G : Gt) (a0 : Nat) (a1 : Nat) (F3 : Ft) : Ft := up2 F3 a0 10 ((F3 a0 10) + ((F3 a1 9) - (((F a1 9) * (F (gp G a1 0) 4)) / 100)))
def f_X8_takePremium_C36 (K : Kt) (F : Ft) (G : Gt) (a0 : Nat) (a1 : Nat) (F1 : Ft) : Ft := f_X8_takePremium_C52 K F G a0 a1 (f_X1_giveTo K F1 G (gp G a0 5) (f_X8_chestOfRival K F1 G a0 (F1 (gp G a1 0) 3)) (((F a1 9) * (F (gp G a1 0) 4)) / 100))
def f_X8_takePremium (K : Kt) (F : Ft) (G : Gt) (a0 : Nat) (a1 : Nat) : Ft := f_X8_takePremium_C36 K F G a0 a1 (f_X1_giveTo K F G (gp G (gp G (gp G a1 0) 1) 1) (gp G a0 5) (F a1 9))
theorem hdS_X8_takePremium : yX8_takePremium.cls ≠ "java/lang/invoke/MethodHandle" ∧ yX8_takePremium.cls ≠ "java/lang/invoke/VarHandle" ∧ (parseMethodDescriptor yX8_takePremium.desc).map (fun d => d.parameters.length) = some 1 := by decide +kernel
theorem hdV_X8_takePremium : yX8_takePremium.cls = RX8 ∧ yX8_takePremium.cls ≠ "java/lang/invoke/MethodHandle" ∧ yX8_takePremium.cls ≠ "java/lang/invoke/VarHandle" ∧ (parseMethodDescriptor yX8_takePremium.desc).map (fun d => d.parameters.length) = some 1 := by decide +kernel
set_option maxHeartbeats 4000000 in
set_option maxRecDepth 100000 in
theorem m_X8_takePremium (l : Launch) {n : Nat} {K : Kt} {F : Ft} {G : Gt} {a0 : Nat} {a1 : Nat} (t0 : TMain K G a0) (t1 : TShip K G a1) : Mw X l yX8_takePremium cX8_takePremium 4 none 1 22 0 0 [.ref a0, .ref a1] n K F G none n K (f_X8_takePremium K F G a0 a1) G := by
  generalize hf : f_X8_takePremium K F G a0 a1 = r
  refine Mw.of (lv := [(0, .ref a0), (1, .ref a1)]) (by decide) (Nat.le_of_ble_eq_true rfl) rfl ?_
  intro p e s m args below meth c Q hC hin hQ
  have hC : Cx X p s m args meth c RX8 cX8_takePremium 4 none := hC
  rw [f_X8_takePremium] at hf
  refine v_aload_n hC dX8_takePremium_0 rfl 1 rfl ?_
  refine gf_X8_274 hC t1.1 t1.2.1.1 dX8_takePremium_1 ?_
  refine v_astore_n (i := 2) (lv' := [(2, .ref (gp G a1 0)), (0, .ref a0), (1, .ref a1)]) hC dX8_takePremium_4 rfl (by decide) rfl ?_
  refine v_aload_n hC dX8_takePremium_5 rfl 2 rfl ?_
  refine gf_X8_503 hC t1.1 dX8_takePremium_6 ?_
  refine v_aload_n hC dX8_takePremium_9 rfl 0 rfl ?_
  refine gf_X8_281 hC t1.2.1.2.1 dX8_takePremium_10 ?_
  refine v_imul hC dX8_takePremium_13 ?_
  refine v_bipush (v := 100) hC dX8_takePremium_14 (by decide) ?_
  refine v_idiv hC dX8_takePremium_16 (by decide) ?_
  refine v_istore_n (i := 3) (lv' := [(3, .int (((F a1 9) * (F (gp G a1 0) 4)) / 100)), (2, .ref (gp G a1 0)), (0, .ref a0), (1, .ref a1)]) hC dX8_takePremium_17 rfl (by decide) rfl ?_
  refine v_aload_n hC dX8_takePremium_18 rfl 1 rfl ?_
  refine gf_X8_224 hC t1.2.1.2.1 t1.2.1.2.2.1.1 dX8_takePremium_19 ?_
  refine gf_X8_292 hC t1.2.1.2.2.1.2.1 t1.2.1.2.2.1.2.2.1 dX8_takePremium_22 ?_
  refine v_aload_n hC dX8_takePremium_25 rfl 2 rfl ?_
  refine gf_X8_31 hC t0.1 t0.2.2.2.2.2.2.1.1 dX8_takePremium_26 ?_
  refine v_aload_n hC dX8_takePremium_29 rfl 3 rfl ?_
  refine gf_X8_503 hC t1.1 dX8_takePremium_30 ?_
  refine v_callV (c2 := 0) (s2 := 0) (As := [.ref (gp G a0 5), .int (F a1 9)]) hC (m_X1_giveTo l (n := n) (K := K) (F := F) (G := G) (a0 := (gp G (gp G (gp G a1 0) 1) 1)) (a1 := (gp G a0 5)) (x2 := (F a1 9)) t1.2.1.2.2.1.2.2.2 t0.2.2.2.2.2.2.1.2) q_X8_84 (by rw [t1.2.1.2.2.1.2.2.2]; decide) (ce_2 t1.2.1.2.2.1.2.2.2) (ci := 1) rfl hdV_X1_giveTo rfl rfl (Nat.le_of_ble_eq_true rfl) (Nat.le_of_ble_eq_true rfl) (Nat.le_of_ble_eq_true rfl) (Nat.le_of_ble_eq_true rfl) (Nat.le_of_ble_eq_true rfl) (Nat.le_of_ble_eq_true rfl) (Nat.le_of_ble_eq_true rfl) dX8_takePremium_33 ?_
  have KC36 : ∀ (F1 : Ft), f_X8_takePremium_C36 K F G a0 a1 F1 = r → V X 4 p l e ({ frames := 1, cells := 0, slots := 0, locals := 22 } : Room) s m args below meth c Q 0 0 n K F1 G [(0, .ref a0), (1, .ref a1), (2, .ref (gp G a1 0)), (3, .int (((F a1 9) * (F (gp G a1 0) 4)) / 100))] 36 [] := by
    intro F1 hf
    rw [f_X8_takePremium_C36] at hf
    refine v_aload_n hC dX8_takePremium_36 rfl 0 rfl ?_
    refine gf_X8_31 hC t0.1 t0.2.2.2.2.2.2.1.1 dX8_takePremium_37 ?_
    refine v_aload_n hC dX8_takePremium_40 rfl 0 rfl ?_
    refine v_aload_n hC dX8_takePremium_41 rfl 2 rfl ?_
    refine gf_X8_293 hC t1.2.1.2.1 dX8_takePremium_42 ?_
    refine v_callV (c2 := 0) (s2 := 0) (As := [.int (F1 (gp G a1 0) 3)]) hC (m_X8_chestOfRival l (n := n) (K := K) (F := F1) (G := G) (a0 := a0) (x1 := (F1 (gp G a1 0) 3)) t0) q_X8_296 (by rw [t0.1]; decide) (ce_1 t0.1) (ci := 0) rfl hdV_X8_chestOfRival rfl rfl (Nat.le_of_ble_eq_true rfl) (Nat.le_of_ble_eq_true rfl) (Nat.le_of_ble_eq_true rfl) (Nat.le_of_ble_eq_true rfl) (Nat.le_of_ble_eq_true rfl) (Nat.le_of_ble_eq_true rfl) (Nat.le_of_ble_eq_true rfl) dX8_takePremium_45 ?_
    have ht2 : (K (f_X8_chestOfRival K F1 G a0 (F1 (gp G a1 0) 3))).1 = 2 := (tr_X8_chestOfRival t0)
    refine v_iload_n hC dX8_takePremium_48 rfl 3 rfl ?_
    refine v_callV (c2 := 0) (s2 := 0) (As := [.ref (f_X8_chestOfRival K F1 G a0 (F1 (gp G a1 0) 3)), .int (((F a1 9) * (F (gp G a1 0) 4)) / 100)]) hC (m_X1_giveTo l (n := n) (K := K) (F := F1) (G := G) (a0 := (gp G a0 5)) (a1 := (f_X8_chestOfRival K F1 G a0 (F1 (gp G a1 0) 3))) (x2 := (((F a1 9) * (F (gp G a1 0) 4)) / 100)) t0.2.2.2.2.2.2.1.2 ht2) q_X8_84 (by rw [t0.2.2.2.2.2.2.1.2]; decide) (ce_2 t0.2.2.2.2.2.2.1.2) (ci := 1) rfl hdV_X1_giveTo rfl rfl (Nat.le_of_ble_eq_true rfl) (Nat.le_of_ble_eq_true rfl) (Nat.le_of_ble_eq_true rfl) (Nat.le_of_ble_eq_true rfl) (Nat.le_of_ble_eq_true rfl) (Nat.le_of_ble_eq_true rfl) (Nat.le_of_ble_eq_true rfl) dX8_takePremium_49 ?_
    have KC52 : ∀ (F3 : Ft), f_X8_takePremium_C52 K F G a0 a1 F3 = r → V X 4 p l e ({ frames := 1, cells := 0, slots := 0, locals := 22 } : Room) s m args below meth c Q 0 0 n K F3 G [(0, .ref a0), (1, .ref a1), (3, .int (((F a1 9) * (F (gp G a1 0) 4)) / 100))] 52 [] := by
      intro F3 hf
      rw [f_X8_takePremium_C52] at hf
      refine v_aload_n hC dX8_takePremium_52 rfl 0 rfl ?_
      refine v_dup hC dX8_takePremium_53 rfl ?_
      refine gf_X8_506 hC t0.1 dX8_takePremium_54 ?_
      refine v_aload_n hC dX8_takePremium_57 rfl 1 rfl ?_
      refine gf_X8_503 hC t1.1 dX8_takePremium_58 ?_
      refine v_iload_n hC dX8_takePremium_61 rfl 2 rfl ?_
      refine v_isub hC dX8_takePremium_62 ?_
      refine v_iadd hC dX8_takePremium_63 ?_
      refine pf_X8_506 hC t0.1 dX8_takePremium_64 ?_
      exact v_vret hC rfl hQ dX8_takePremium_67 rfl rfl rfl hf rfl
    refine v_sub [0, 1, 3] rfl ?_
    exact KC52 (f_X1_giveTo K F1 G (gp G a0 5) (f_X8_chestOfRival K F1 G a0 (F1 (gp G a1 0) 3)) (((F a1 9) * (F (gp G a1 0) 4)) / 100)) hf
  refine v_sub [2, 3, 1, 0] rfl ?_
  exact KC36 (f_X1_giveTo K F G (gp G (gp G (gp G a1 0) 1) 1) (gp G a0 5) (F a1 9)) hf
def f_X8_payBack_C52 (K : Kt) (G : Gt) (a0 : Nat) (a1 : Nat) (F4 : Ft) : Ft := up2 F4 a0 11 ((F4 a0 11) - ((F4 (gp G a1 14) 1) - (F4 (gp G a1 14) 2)))
def f_X8_payBack_C33 (K : Kt) (G : Gt) (a0 : Nat) (a1 : Nat) (F2 : Ft) : Ft := f_X8_payBack_C52 K G a0 a1 (f_X1_giveTo K F2 G (gp G a0 5) (f_X8_chestOfRival K F2 G a0 (F2 (gp G a1 0) 3)) (F2 (gp G a1 14) 2))
def f_X8_payBack (K : Kt) (F : Ft) (G : Gt) (a0 : Nat) (a1 : Nat) : Ft := if G a1 14 = none then F else f_X8_payBack_C33 K G a0 a1 (f_X1_giveTo K F G (gp G (gp G (gp G a1 0) 1) 1) (gp G a0 5) (F (gp G a1 14) 1))
theorem hdS_X8_payBack : yX8_payBack.cls ≠ "java/lang/invoke/MethodHandle" ∧ yX8_payBack.cls ≠ "java/lang/invoke/VarHandle" ∧ (parseMethodDescriptor yX8_payBack.desc).map (fun d => d.parameters.length) = some 1 := by decide +kernel
theorem hdV_X8_payBack : yX8_payBack.cls = RX8 ∧ yX8_payBack.cls ≠ "java/lang/invoke/MethodHandle" ∧ yX8_payBack.cls ≠ "java/lang/invoke/VarHandle" ∧ (parseMethodDescriptor yX8_payBack.desc).map (fun d => d.parameters.length) = some 1 := by decide +kernel
set_option maxHeartbeats 4000000 in
set_option maxRecDepth 100000 in
theorem m_X8_payBack (l : Launch) {n : Nat} {K : Kt} {F : Ft} {G : Gt} {a0 : Nat} {a1 : Nat} (t0 : TMain K G a0) (t1 : TShip K G a1) : Mw X l yX8_payBack cX8_payBack 4 none 1 22 0 0 [.ref a0, .ref a1] n K F G none n K (f_X8_payBack K F G a0 a1) G := by
  generalize hf : f_X8_payBack K F G a0 a1 = r
  refine Mw.of (lv := [(0, .ref a0), (1, .ref a1)]) (by decide) (Nat.le_of_ble_eq_true rfl) rfl ?_
  intro p e s m args below meth c Q hC hin hQ
  have hC : Cx X p s m args meth c RX8 cX8_payBack 4 none := hC
  rw [f_X8_payBack] at hf
  refine v_aload_n hC dX8_payBack_0 rfl 1 rfl ?_
  refine gq_X8_288 hC t1.1 dX8_payBack_1 ?_
  refine v_astore_nq (i := 2) (lv' := [(2, va_rf (G a1 14)), (0, .ref a0), (1, .ref a1)]) hC dX8_payBack_4 rfl (by decide) rfl ?_
  refine v_aload_nq hC dX8_payBack_5 rfl 0 rfl ?_
  refine v_ifnonnull (tgt := 10) hC dX8_payBack_6 (by decide) (fun c1 => ?_) (fun c1 => ?_)
  · rw [if_neg c1] at hf
    refine v_aload_n hC dX8_payBack_10 rfl 2 rfl ?_
    refine gf_X8_274 hC t1.1 t1.2.1.1 dX8_payBack_11 ?_
    refine v_astore_n (i := 3) (lv' := [(3, .ref (gp G a1 0)), (2, va_rf (G a1 14)), (0, .ref a0), (1, .ref a1)]) hC dX8_payBack_14 rfl (by decide) (by simp [List.filter, vr_cat]) ?_
    refine v_aload_n hC dX8_payBack_15 rfl 0 rfl ?_
    refine gf_X8_224 hC t1.2.1.2.1 t1.2.1.2.2.1.1 dX8_payBack_16 ?_
    refine gf_X8_292 hC t1.2.1.2.2.1.2.1 t1.2.1.2.2.1.2.2.1 dX8_payBack_19 ?_
    refine v_aload_n hC dX8_payBack_22 rfl 2 rfl ?_
    refine gf_X8_31 hC t0.1 t0.2.2.2.2.2.2.1.1 dX8_payBack_23 ?_
    refine v_aload_nq hC dX8_payBack_26 rfl 1 rfl ?_
    refine v_deref (gp_some c1) ?_
    refine gf_X8_509 hC ((t1.2.2.2.1) c1) dX8_payBack_27 ?_
    refine v_callV (c2 := 0) (s2 := 0) (As := [.ref (gp G a0 5), .int (F (gp G a1 14) 1)]) hC (m_X1_giveTo l (n := n) (K := K) (F := F) (G := G) (a0 := (gp G (gp G (gp G a1 0) 1) 1)) (a1 := (gp G a0 5)) (x2 := (F (gp G a1 14) 1)) t1.2.1.2.2.1.2.2.2 t0.2.2.2.2.2.2.1.2) q_X8_84 (by rw [t1.2.1.2.2.1.2.2.2]; decide) (ce_2 t1.2.1.2.2.1.2.2.2) (ci := 1) rfl hdV_X1_giveTo rfl rfl (Nat.le_of_ble_eq_true rfl) (Nat.le_of_ble_eq_true rfl) (Nat.le_of_ble_eq_true rfl) (Nat.le_of_ble_eq_true rfl) (Nat.le_of_ble_eq_true rfl) (Nat.le_of_ble_eq_true rfl) (Nat.le_of_ble_eq_true rfl) dX8_payBack_30 ?_
    have KC33 : ∀ (F2 : Ft), f_X8_payBack_C33 K G a0 a1 F2 = r → V X 4 p l e ({ frames := 1, cells := 0, slots := 0, locals := 22 } : Room) s m args below meth c Q 0 0 n K F2 G [(0, .ref a0), (2, va_rf (G a1 14)), (3, .ref (gp G a1 0))] 33 [] := by
      intro F2 hf
      rw [f_X8_payBack_C33] at hf
      refine v_aload_n hC dX8_payBack_33 rfl 0 rfl ?_
      refine gf_X8_31 hC t0.1 t0.2.2.2.2.2.2.1.1 dX8_payBack_34 ?_
      refine v_aload_n hC dX8_payBack_37 rfl 0 rfl ?_
      refine v_aload_n hC dX8_payBack_38 rfl 2 rfl ?_
      refine gf_X8_293 hC t1.2.1.2.1 dX8_payBack_39 ?_
      refine v_callV (c2 := 0) (s2 := 0) (As := [.int (F2 (gp G a1 0) 3)]) hC (m_X8_chestOfRival l (n := n) (K := K) (F := F2) (G := G) (a0 := a0) (x1 := (F2 (gp G a1 0) 3)) t0) q_X8_296 (by rw [t0.1]; decide) (ce_1 t0.1) (ci := 0) rfl hdV_X8_chestOfRival rfl rfl (Nat.le_of_ble_eq_true rfl) (Nat.le_of_ble_eq_true rfl) (Nat.le_of_ble_eq_true rfl) (Nat.le_of_ble_eq_true rfl) (Nat.le_of_ble_eq_true rfl) (Nat.le_of_ble_eq_true rfl) (Nat.le_of_ble_eq_true rfl) dX8_payBack_42 ?_
      have ht3 : (K (f_X8_chestOfRival K F2 G a0 (F2 (gp G a1 0) 3))).1 = 2 := (tr_X8_chestOfRival t0)
      refine v_aload_nq hC dX8_payBack_45 rfl 1 rfl ?_
      refine v_deref (gp_some c1) ?_
      refine gf_X8_512 hC ((t1.2.2.2.1) c1) dX8_payBack_46 ?_
      refine v_callV (c2 := 0) (s2 := 0) (As := [.ref (f_X8_chestOfRival K F2 G a0 (F2 (gp G a1 0) 3)), .int (F2 (gp G a1 14) 2)]) hC (m_X1_giveTo l (n := n) (K := K) (F := F2) (G := G) (a0 := (gp G a0 5)) (a1 := (f_X8_chestOfRival K F2 G a0 (F2 (gp G a1 0) 3))) (x2 := (F2 (gp G a1 14) 2)) t0.2.2.2.2.2.2.1.2 ht3) q_X8_84 (by rw [t0.2.2.2.2.2.2.1.2]; decide) (ce_2 t0.2.2.2.2.2.2.1.2) (ci := 1) rfl hdV_X1_giveTo rfl rfl (Nat.le_of_ble_eq_true rfl) (Nat.le_of_ble_eq_true rfl) (Nat.le_of_ble_eq_true rfl) (Nat.le_of_ble_eq_true rfl) (Nat.le_of_ble_eq_true rfl) (Nat.le_of_ble_eq_true rfl) (Nat.le_of_ble_eq_true rfl) dX8_payBack_49 ?_
      have KC52 : ∀ (F4 : Ft), f_X8_payBack_C52 K G a0 a1 F4 = r → V X 4 p l e ({ frames := 1, cells := 0, slots := 0, locals := 22 } : Room) s m args below meth c Q 0 0 n K F4 G [(0, .ref a0), (2, va_rf (G a1 14))] 52 [] := by
        intro F4 hf
        rw [f_X8_payBack_C52] at hf
        refine v_aload_n hC dX8_payBack_52 rfl 0 rfl ?_
        refine v_dup hC dX8_payBack_53 rfl ?_
        refine gf_X8_300 hC t0.1 dX8_payBack_54 ?_
        refine v_aload_nq hC dX8_payBack_57 rfl 1 rfl ?_
        refine v_deref (gp_some c1) ?_
        refine gf_X8_509 hC ((t1.2.2.2.1) c1) dX8_payBack_58 ?_
        refine v_aload_nq hC dX8_payBack_61 rfl 1 rfl ?_
        refine v_deref (gp_some c1) ?_
        refine gf_X8_512 hC ((t1.2.2.2.1) c1) dX8_payBack_62 ?_
        refine v_isub hC dX8_payBack_65 ?_
        refine v_isub hC dX8_payBack_66 ?_
        refine pf_X8_300 hC t0.1 dX8_payBack_67 ?_
        exact v_vret hC rfl hQ dX8_payBack_70 rfl rfl rfl hf rfl
      refine v_sub [0, 1] rfl ?_
      exact KC52 (f_X1_giveTo K F2 G (gp G a0 5) (f_X8_chestOfRival K F2 G a0 (F2 (gp G a1 0) 3)) (F2 (gp G a1 14) 2)) hf
    refine v_sub [2, 1, 0] rfl ?_
    exact KC33 (f_X1_giveTo K F G (gp G (gp G (gp G a1 0) 1) 1) (gp G a0 5) (F (gp G a1 14) 1)) hf
  · rw [if_pos c1] at hf
    exact v_vret hC rfl hQ dX8_payBack_9 rfl rfl rfl hf rfl
def f_X8_firstToPay_J64 (K : Kt) (F : Ft) (G : Gt) (j4 : Nat) (rec4 : (Nat → Option Nat → Option Nat)) (u5 : Option Nat) : Option Nat := rec4 (j4 + 1) u5
def f_X8_firstToPay_J61 (K : Kt) (F : Ft) (G : Gt) (a0 : Nat) (j4 : Nat) (rec4 : (Nat → Option Nat → Option Nat)) : Option Nat := f_X8_firstToPay_J64 K F G j4 rec4 (some (el G (gp G a0 4) j4))
def f_X8_firstToPay_L4 (K : Kt) (F : Ft) (G : Gt) (a0 : Nat) (a1 : Nat) : Nat → Nat → Option Nat → Option Nat
  | 0, j4, w2_4 => w2_4
  | k1 + 1, j4, w2_4 => if (gp G (el G (gp G a0 4) j4) 1) = a1 then if (f_X7_isToPay K F G (el G (gp G a0 4) j4)) = 0 then f_X8_firstToPay_J64 K F G j4 (f_X8_firstToPay_L4 K F G a0 a1 k1) w2_4 else if w2_4 = none then f_X8_firstToPay_J61 K F G a0 j4 (f_X8_firstToPay_L4 K F G a0 a1 k1) else if (F ((w2_4).getD 0) 4) ≤ (F (el G (gp G a0 4) j4) 4) then f_X8_firstToPay_J64 K F G j4 (f_X8_firstToPay_L4 K F G a0 a1 k1) w2_4 else f_X8_firstToPay_J61 K F G a0 j4 (f_X8_firstToPay_L4 K F G a0 a1 k1) else f_X8_firstToPay_J64 K F G j4 (f_X8_firstToPay_L4 K F G a0 a1 k1) w2_4
def f_X8_firstToPay (K : Kt) (F : Ft) (G : Gt) (a0 : Nat) (a1 : Nat) : Option Nat := f_X8_firstToPay_L4 K F G a0 a1 ((K (gp G a0 4)).2) 0 none
theorem hdS_X8_firstToPay : yX8_firstToPay.cls ≠ "java/lang/invoke/MethodHandle" ∧ yX8_firstToPay.cls ≠ "java/lang/invoke/VarHandle" ∧ (parseMethodDescriptor yX8_firstToPay.desc).map (fun d => d.parameters.length) = some 1 := by decide +kernel
theorem hdV_X8_firstToPay : yX8_firstToPay.cls = RX8 ∧ yX8_firstToPay.cls ≠ "java/lang/invoke/MethodHandle" ∧ yX8_firstToPay.cls ≠ "java/lang/invoke/VarHandle" ∧ (parseMethodDescriptor yX8_firstToPay.desc).map (fun d => d.parameters.length) = some 1 := by decide +kernel
set_option maxHeartbeats 4000000 in
set_option maxRecDepth 100000 in
theorem m_X8_firstToPay (l : Launch) {n : Nat} {K : Kt} {F : Ft} {G : Gt} {a0 : Nat} {a1 : Nat} (t0 : TMain K G a0) (t1 : TBuyer K G a1) : Mw X l yX8_firstToPay cX8_firstToPay 5 (some (.object "Exportcover$Shipment")) 3 64 0 0 [.ref a0, .ref a1] n K F G (some (va_rf (f_X8_firstToPay K F G a0 a1))) n K F G := by
  generalize hf : f_X8_firstToPay K F G a0 a1 = r
  refine Mw.of (lv := [(0, .ref a0), (1, .ref a1)]) (by decide) (Nat.le_of_ble_eq_true rfl) rfl ?_
  intro p e s m args below meth c Q hC hin hQ
  have hC : Cx X p s m args meth c RX8 cX8_firstToPay 5 (some (.object "Exportcover$Shipment")) := hC
  rw [f_X8_firstToPay] at hf
  refine v_null hC dX8_firstToPay_0 ?_
  refine v_astore_nq (i := 2) (lv' := [(2, va_rf none), (0, .ref a0), (1, .ref a1)]) hC dX8_firstToPay_1 rfl (by decide) rfl ?_
  refine v_iconst (v := 0) hC dX8_firstToPay_2 (by decide) ?_
  refine v_istore_n (i := 3) (lv' := [(3, .int 0), (2, va_rf none), (0, .ref a0), (1, .ref a1)]) hC dX8_firstToPay_3 rfl (by decide) (by simp [List.filter, vr_cat]) ?_
  refine v_sub [2, 3, 1, 0] rfl ?_
  have KL4 : ∀ (k1 j4 : Nat) (w2_4 : Option Nat) (tw2_4 : ¬ w2_4 = none → TShip K G (w2_4.getD 0)), j4 + k1 = (K (gp G a0 4)).2 → f_X8_firstToPay_L4 K F G a0 a1 k1 j4 w2_4 = r → V X 5 p l e ({ frames := 3, cells := 0, slots := 0, locals := 64 } : Room) s m args below meth c Q 0 0 n K F G [(0, .ref a0), (1, .ref a1), (2, va_rf w2_4), (3, .int (nI j4))] 4 [] := by
    intro k1
    induction k1 with
    | zero =>
      intro j4 w2_4 tw2_4 hj4 hf
      rw [f_X8_firstToPay_L4] at hf
      refine v_iload_n hC dX8_firstToPay_4 rfl 3 rfl ?_
      refine v_aload_n hC dX8_firstToPay_5 rfl 0 rfl ?_
      refine gf_X8_25 hC t0.1 t0.2.2.2.2.2.1.1 dX8_firstToPay_6 ?_
      refine v_callV (c2 := 0) (s2 := 0) (As := []) hC (m_Jx4a65c_size_8abf5 l t0.2.2.2.2.2.1.2.1) q_X8_89 (by rw [t0.2.2.2.2.2.1.2.1]; decide) (ce_10 t0.2.2.2.2.2.1.2.1) (ci := 9) rfl hdV_Jx4a65c_size_8abf5 rfl rfl (Nat.le_of_ble_eq_true rfl) (Nat.le_of_ble_eq_true rfl) (Nat.le_of_ble_eq_true rfl) (Nat.le_of_ble_eq_true rfl) (Nat.le_of_ble_eq_true rfl) (Nat.le_of_ble_eq_true rfl) (Nat.le_of_ble_eq_true rfl) dX8_firstToPay_9 ?_
      refine v_icmp_ge (tgt := 70) hC dX8_firstToPay_12 (by decide) (fun c2 => ?_) (fun c2 => absurd (lp_z hj4) c2)
      refine v_aload_nq hC dX8_firstToPay_70 rfl 2 rfl ?_
      exact v_aretq (v := w2_4) hC rfl (Or.inl ⟨_, rfl⟩) hQ dX8_firstToPay_71 (congrArg (fun z => some (va_rf z)) hf) rfl rfl rfl rfl
    | succ k1 ihj4 =>
      intro j4 w2_4 tw2_4 hj4 hf
      rw [f_X8_firstToPay_L4] at hf
      refine v_iload_n hC dX8_firstToPay_4 rfl 3 rfl ?_
      refine v_aload_n hC dX8_firstToPay_5 rfl 0 rfl ?_
      refine gf_X8_25 hC t0.1 t0.2.2.2.2.2.1.1 dX8_firstToPay_6 ?_
      refine v_callV (c2 := 0) (s2 := 0) (As := []) hC (m_Jx4a65c_size_8abf5 l t0.2.2.2.2.2.1.2.1) q_X8_89 (by rw [t0.2.2.2.2.2.1.2.1]; decide) (ce_10 t0.2.2.2.2.2.1.2.1) (ci := 9) rfl hdV_Jx4a65c_size_8abf5 rfl rfl (Nat.le_of_ble_eq_true rfl) (Nat.le_of_ble_eq_true rfl) (Nat.le_of_ble_eq_true rfl) (Nat.le_of_ble_eq_true rfl) (Nat.le_of_ble_eq_true rfl) (Nat.le_of_ble_eq_true rfl) (Nat.le_of_ble_eq_true rfl) dX8_firstToPay_9 ?_
      refine v_icmp_ge (tgt := 70) hC dX8_firstToPay_12 (by decide) (fun c3 => absurd c3 (lp_s hj4 t0.2.2.2.2.2.1.2.lt)) (fun c3 => ?_)
      refine v_aload_n hC dX8_firstToPay_15 rfl 0 rfl ?_
      refine gf_X8_25 hC t0.1 t0.2.2.2.2.2.1.1 dX8_firstToPay_16 ?_
      refine v_iload_n hC dX8_firstToPay_19 rfl 3 rfl ?_
      refine v_callV (c2 := 0) (s2 := 0) (As := [.int (nI j4)]) hC (m_Jx4a65c_get_915e3 l t0.2.2.2.2.2.1.2 (i := j4) (by omega)) q_X8_306 (by rw [t0.2.2.2.2.2.1.2.1]; decide) (ce_10 t0.2.2.2.2.2.1.2.1) (ci := 9) rfl hdV_Jx4a65c_get_915e3 rfl rfl (Nat.le_of_ble_eq_true rfl) (Nat.le_of_ble_eq_true rfl) (Nat.le_of_ble_eq_true rfl) (Nat.le_of_ble_eq_true rfl) (Nat.le_of_ble_eq_true rfl) (Nat.le_of_ble_eq_true rfl) (Nat.le_of_ble_eq_true rfl) dX8_firstToPay_20 ?_
      have ht4 : TShip K G (el G (gp G a0 4) j4) := t0.2.2.2.2.2.1.2.el (i := j4) (by omega)
      refine v_cast hC (by rw [ht4.1]; decide) (ce_7 ht4.1) (ci := 6) rfl aw_212 dX8_firstToPay_23 ?_
      refine v_astore (i := 4) (lv' := [(4, .ref (el G (gp G a0 4) j4)), (0, .ref a0), (1, .ref a1), (2, va_rf w2_4), (3, .int (nI j4))]) hC dX8_firstToPay_26 (by decide) rfl ?_
      refine v_aload hC dX8_firstToPay_28 0 rfl ?_
      refine gf_X8_310 hC ht4.1 ht4.2.2.1.1 dX8_firstToPay_30 ?_
      refine v_aload_n hC dX8_firstToPay_33 rfl 2 rfl ?_
      have KJ64 : ∀ (u5 : Option Nat) (tu5 : ¬ u5 = none → TShip K G (u5.getD 0)), f_X8_firstToPay_J64 K F G j4 (f_X8_firstToPay_L4 K F G a0 a1 k1) u5 = r → V X 5 p l e ({ frames := 3, cells := 0, slots := 0, locals := 64 } : Room) s m args below meth c Q 0 0 n K F G [(0, .ref a0), (1, .ref a1), (2, va_rf u5), (3, .int (nI j4))] 64 [] := by
        intro u5 tu5 hf
        rw [f_X8_firstToPay_J64] at hf
        refine v_iinc (lv' := [(3, .int (nI (j4 + 1))), (0, .ref a0), (1, .ref a1), (2, va_rf u5)]) (v := nI (j4 + 1)) hC dX8_firstToPay_64 3 rfl (nI_inc j4) (by decide) (by simp [List.filter, vr_cat]) ?_
        refine v_goto (tgt := 4) hC dX8_firstToPay_67 (by decide) ?_
        refine v_sub [1, 2, 3, 0] rfl ?_
        exact ihj4 (j4 + 1) u5 tu5 (by omega) hf
      refine v_acmp_ne (tgt := 64) hC dX8_firstToPay_34 (by decide) (fun c6 => ?_) (fun c6 => ?_)
      · rw [if_neg c6] at hf
        refine v_sub [1, 2, 3, 4] rfl ?_
        exact KJ64 w2_4 tw2_4 hf
      · rw [if_pos c6] at hf
        refine v_aload hC dX8_firstToPay_37 0 rfl ?_
        refine v_callV (c2 := 0) (s2 := 0) (As := []) hC (m_X7_isToPay l (n := n) (K := K) (F := F) (G := G) (a0 := (el G (gp G a0 4) j4)) ht4) q_X8_314 (by rw [ht4.1]; decide) (ce_7 ht4.1) (ci := 6) rfl hdV_X7_isToPay rfl rfl (Nat.le_of_ble_eq_true rfl) (Nat.le_of_ble_eq_true rfl) (Nat.le_of_ble_eq_true rfl) (Nat.le_of_ble_eq_true rfl) (Nat.le_of_ble_eq_true rfl) (Nat.le_of_ble_eq_true rfl) (Nat.le_of_ble_eq_true rfl) dX8_firstToPay_39 ?_
        refine v_if_eq (tgt := 64) hC dX8_firstToPay_42 (by decide) (fun c7 => ?_) (fun c7 => ?_)
        · rw [if_pos c7] at hf
          refine v_sub [1, 2, 3, 4] rfl ?_
          exact KJ64 w2_4 tw2_4 hf
        · rw [if_neg c7] at hf
          refine v_aload_nq hC dX8_firstToPay_45 rfl 3 rfl ?_
          have KJ61 : f_X8_firstToPay_J61 K F G a0 j4 (f_X8_firstToPay_L4 K F G a0 a1 k1) = r → V X 5 p l e ({ frames := 3, cells := 0, slots := 0, locals := 64 } : Room) s m args below meth c Q 0 0 n K F G [(0, .ref a0), (1, .ref a1), (3, .int (nI j4)), (4, .ref (el G (gp G a0 4) j4))] 61 [] := by
            intro hf
            rw [f_X8_firstToPay_J61] at hf
            refine v_aload hC dX8_firstToPay_61 3 rfl ?_
            refine v_astore_n (i := 2) (lv' := [(2, .ref (el G (gp G a0 4) j4)), (0, .ref a0), (1, .ref a1), (3, .int (nI j4)), (4, .ref (el G (gp G a0 4) j4))]) hC dX8_firstToPay_63 rfl (by decide) rfl ?_
            refine v_sub [1, 2, 0, 3] rfl ?_
            exact KJ64 (some (el G (gp G a0 4) j4)) (fun _ => ht4) hf
          refine v_ifnull (tgt := 61) hC dX8_firstToPay_46 (by decide) (fun c8 => ?_) (fun c8 => ?_)
          · rw [if_pos c8] at hf
            refine v_sub [1, 2, 4, 0] rfl ?_
            exact KJ61 hf
          · rw [if_neg c8] at hf
            refine v_aload hC dX8_firstToPay_49 0 rfl ?_
            refine gf_X8_253 hC ht4.1 dX8_firstToPay_51 ?_
            refine v_aload_nq hC dX8_firstToPay_54 rfl 3 rfl ?_
            refine v_deref (oget (d := 0) c8) ?_
            refine gf_X8_253 hC ((tw2_4 c8).1) dX8_firstToPay_55 ?_
            refine v_icmp_ge (tgt := 64) hC dX8_firstToPay_58 (by decide) (fun c9 => ?_) (fun c9 => ?_)
            · rw [if_pos c9] at hf
              refine v_sub [1, 2, 3, 4] rfl ?_
              exact KJ64 w2_4 tw2_4 hf
            · rw [if_neg c9] at hf
              refine v_sub [1, 2, 4, 0] rfl ?_
              exact KJ61 hf
  exact KL4 ((K (gp G a0 4)).2) 0 none (fun h => absurd rfl h) (by omega) hf
theorem ftp_L {K : Kt} {F : Ft} {G : Gt} {a0 a1 : Nat} {FG : Nat → Prop} (hFG : ∀ i, i < (K (gp G a0 4)).2 → gp G (el G (gp G a0 4) i) 1 = a1 → ¬ f_X7_isToPay K F G (el G (gp G a0 4) i) = 0 → FG (el G (gp G a0 4) i)) : ∀ (k j : Nat) (w : Option Nat), j + k = (K (gp G a0 4)).2 → (∀ x, w = some x → FG x) → ∀ x, f_X8_firstToPay_L4 K F G a0 a1 k j w = some x → FG x := by
  intro k
  induction k with
  | zero =>
    intro j w _ hw x hx
    rw [f_X8_firstToPay_L4] at hx
    exact hw x hx
  | succ k ih =>
    intro j w hj hw x hx
    rw [f_X8_firstToPay_L4] at hx
    have hrec : ∀ w', (∀ x, w' = some x → FG x) → f_X8_firstToPay_L4 K F G a0 a1 k (j + 1) w' = some x → FG x := fun w' h1 h2 => ih (j + 1) w' (by omega) h1 x h2
    split at hx
    · rename_i c1
      split at hx
      · exact hrec w hw hx
      · rename_i c2
        have hnew : ∀ x, some (el G (gp G a0 4) j) = some x → FG x := fun x h => by
          cases h
          exact hFG j (by omega) c1 c2
        split at hx
        · exact hrec _ hnew hx
        · split at hx
          · exact hrec w hw hx
          · exact hrec _ hnew hx
    · exact hrec w hw hx
theorem ftp_good {K : Kt} {F : Ft} {G : Gt} {a0 a1 : Nat} {FG : Nat → Prop} (hFG : ∀ i, i < (K (gp G a0 4)).2 → gp G (el G (gp G a0 4) i) 1 = a1 → ¬ f_X7_isToPay K F G (el G (gp G a0 4) i) = 0 → FG (el G (gp G a0 4) i)) {x : Nat} (h : f_X8_firstToPay K F G a0 a1 = some x) : FG x := ftp_L hFG _ 0 none (by omega) (fun _ h => nomatch h) x h
theorem tr_X8_firstToPay {K : Kt} {F : Ft} {G : Gt} {a0 a1 : Nat} (t0 : TMain K G a0) (t1 : TBuyer K G a1) (h : ¬ f_X8_firstToPay K F G a0 a1 = none) : TShip K G ((f_X8_firstToPay K F G a0 a1).getD 0) := by
  have h1 := oget (d := 0) h
  exact ftp_good (FG := TShip K G) (fun i hi _ _ => t0.2.2.2.2.2.1.2.el hi) h1
def f_X8_settle_C124 (K : Kt) (F : Ft) (G : Gt) (a0 : Nat) (a1 : Nat) (x3 : Int32) (F2 : Ft) (F6 : Ft) : Ft := up2 F6 a0 12 ((F6 a0 12) + ((F2 (gp G a1 14) 5) - ((up2 F a1 10 ((F a1 10) - x3)) (gp G a1 14) 5)))
def f_X8_settle_C108 (K : Kt) (F : Ft) (G : Gt) (a0 : Nat) (a1 : Nat) (a2 : Nat) (x3 : Int32) (F2 : Ft) (F5 : Ft) : Ft := f_X8_settle_C124 K F G a0 a1 x3 F2 (f_X1_giveTo K F5 G a2 (gp G (gp G (gp G a1 0) 1) 1) ((x3 - ((F2 (gp G a1 14) 5) - ((up2 F a1 10 ((F a1 10) - x3)) (gp G a1 14) 5))) - ((F2 (gp G a1 14) 6) - ((up2 F a1 10 ((F a1 10) - x3)) (gp G a1 14) 6))))
def f_X8_settle_C91 (K : Kt) (F : Ft) (G : Gt) (a0 : Nat) (a1 : Nat) (a2 : Nat) (x3 : Int32) (F2 : Ft) (F3 : Ft) : Ft := f_X8_settle_C108 K F G a0 a1 a2 x3 F2 (f_X1_giveTo K F3 G a2 (f_X8_chestOfRival K F3 G a0 (F3 (gp G a1 0) 3)) ((F2 (gp G a1 14) 6) - ((up2 F a1 10 ((F a1 10) - x3)) (gp G a1 14) 6)))
def f_X8_settle_C61 (K : Kt) (F : Ft) (G : Gt) (a0 : Nat) (a1 : Nat) (a2 : Nat) (x3 : Int32) (F2 : Ft) : Ft := f_X8_settle_C91 K F G a0 a1 a2 x3 F2 (f_X1_giveTo K F2 G a2 (gp G a0 5) ((F2 (gp G a1 14) 5) - ((up2 F a1 10 ((F a1 10) - x3)) (gp G a1 14) 5)))
def f_X8_settle (K : Kt) (F : Ft) (G : Gt) (a0 : Nat) (a1 : Nat) (a2 : Nat) (x3 : Int32) : Ft := if G a1 14 = none then f_X1_giveTo K (up2 F a1 10 ((F a1 10) - x3)) G a2 (gp G (gp G (gp G a1 0) 1) 1) x3 else f_X8_settle_C61 K F G a0 a1 a2 x3 (f_X2_recover K (up2 F a1 10 ((F a1 10) - x3)) G (gp G a1 14) x3)
theorem hdS_X8_settle : yX8_settle.cls ≠ "java/lang/invoke/MethodHandle" ∧ yX8_settle.cls ≠ "java/lang/invoke/VarHandle" ∧ (parseMethodDescriptor yX8_settle.desc).map (fun d => d.parameters.length) = some 3 := by decide +kernel
theorem hdV_X8_settle : yX8_settle.cls = RX8 ∧ yX8_settle.cls ≠ "java/lang/invoke/MethodHandle" ∧ yX8_settle.cls ≠ "java/lang/invoke/VarHandle" ∧ (parseMethodDescriptor yX8_settle.desc).map (fun d => d.parameters.length) = some 3 := by decide +kernel
set_option maxHeartbeats 4000000 in
set_option maxRecDepth 100000 in
theorem m_X8_settle (l : Launch) {n : Nat} {K : Kt} {F : Ft} {G : Gt} {a0 : Nat} {a1 : Nat} {a2 : Nat} {x3 : Int32} (t0 : TMain K G a0) (t1 : TShip K G a1) (t2 : (K a2).1 = 2) : Mw X l yX8_settle cX8_settle 10 none 2 44 0 0 [.ref a0, .ref a1, .ref a2, .int x3] n K F G none n K (f_X8_settle K F G a0 a1 a2 x3) G := by
  generalize hf : f_X8_settle K F G a0 a1 a2 x3 = r
  refine Mw.of (lv := [(0, .ref a0), (1, .ref a1), (2, .ref a2), (3, .int x3)]) (by decide) (Nat.le_of_ble_eq_true rfl) rfl ?_
  intro p e s m args below meth c Q hC hin hQ
  have hC : Cx X p s m args meth c RX8 cX8_settle 10 none := hC
  rw [f_X8_settle] at hf
  refine v_aload_n hC dX8_settle_0 rfl 1 rfl ?_
  refine gf_X8_274 hC t1.1 t1.2.1.1 dX8_settle_1 ?_
  refine gf_X8_224 hC t1.2.1.2.1 t1.2.1.2.2.1.1 dX8_settle_4 ?_
  refine v_astore (i := 4) (lv' := [(4, .ref (gp G (gp G a1 0) 1)), (0, .ref a0), (1, .ref a1), (2, .ref a2), (3, .int x3)]) hC dX8_settle_7 (by decide) rfl ?_
  refine v_aload_n hC dX8_settle_9 rfl 2 rfl ?_
  refine gq_X8_288 hC t1.1 dX8_settle_10 ?_
  refine v_astoreq (i := 5) (lv' := [(5, va_rf (G a1 14)), (4, .ref (gp G (gp G a1 0) 1)), (0, .ref a0), (1, .ref a1), (2, .ref a2), (3, .int x3)]) hC dX8_settle_13 (by decide) rfl ?_
  refine v_aload_n hC dX8_settle_15 rfl 3 rfl ?_
  refine v_dup hC dX8_settle_16 rfl ?_
  refine gf_X8_242 hC t1.1 dX8_settle_17 ?_
  refine v_iload_n hC dX8_settle_20 rfl 5 rfl ?_
  refine v_isub hC dX8_settle_21 ?_
  refine pf_X8_242 hC t1.1 dX8_settle_22 ?_
  refine v_aloadq hC dX8_settle_25 0 rfl ?_
  refine v_ifnonnull (tgt := 41) hC dX8_settle_27 (by decide) (fun c1 => ?_) (fun c1 => ?_)
  · rw [if_neg c1] at hf
    refine v_aloadq hC dX8_settle_41 0 rfl ?_
    refine v_deref (gp_some c1) ?_
    refine gf_X8_515 hC ((t1.2.2.2.1) c1) dX8_settle_43 ?_
    refine v_istore (i := 6) (lv' := [(6, .int ((up2 F a1 10 ((F a1 10) - x3)) (gp G a1 14) 5)), (5, va_rf (G a1 14)), (4, .ref (gp G (gp G a1 0) 1)), (0, .ref a0), (1, .ref a1), (2, .ref a2), (3, .int x3)]) hC dX8_settle_46 (by decide) (by simp [List.filter, vr_cat]) ?_
    refine v_aloadq hC dX8_settle_48 1 rfl ?_
    refine v_deref (gp_some c1) ?_
    refine gf_X8_518 hC ((t1.2.2.2.1) c1) dX8_settle_50 ?_
    refine v_istore (i := 7) (lv' := [(7, .int ((up2 F a1 10 ((F a1 10) - x3)) (gp G a1 14) 6)), (6, .int ((up2 F a1 10 ((F a1 10) - x3)) (gp G a1 14) 5)), (5, va_rf (G a1 14)), (4, .ref (gp G (gp G a1 0) 1)), (0, .ref a0), (1, .ref a1), (2, .ref a2), (3, .int x3)]) hC dX8_settle_53 (by decide) rfl ?_
    refine v_aloadq hC dX8_settle_55 2 rfl ?_
    refine v_deref (gp_some c1) ?_
    refine v_iload_n hC dX8_settle_57 rfl 7 rfl ?_
    refine v_callV (c2 := 0) (s2 := 0) (As := [.int x3]) hC (m_X2_recover l (n := n) (K := K) (F := (up2 F a1 10 ((F a1 10) - x3))) (G := G) (a0 := (gp G a1 14)) (x1 := x3) ((t1.2.2.2.1) c1)) q_X8_521 (by rw [((t1.2.2.2.1) c1)]; decide) (ce_8 ((t1.2.2.2.1) c1)) (ci := 7) rfl hdV_X2_recover rfl rfl (Nat.le_of_ble_eq_true rfl) (Nat.le_of_ble_eq_true rfl) (Nat.le_of_ble_eq_true rfl) (Nat.le_of_ble_eq_true rfl) (Nat.le_of_ble_eq_true rfl) (Nat.le_of_ble_eq_true rfl) (Nat.le_of_ble_eq_true rfl) dX8_settle_58 ?_
    have KC61 : ∀ (F2 : Ft), f_X8_settle_C61 K F G a0 a1 a2 x3 F2 = r → V X 10 p l e ({ frames := 2, cells := 0, slots := 0, locals := 44 } : Room) s m args below meth c Q 0 0 n K F2 G [(0, .ref a0), (1, .ref a1), (2, .ref a2), (3, .int x3), (4, .ref (gp G (gp G a1 0) 1)), (5, va_rf (G a1 14)), (6, .int ((up2 F a1 10 ((F a1 10) - x3)) (gp G a1 14) 5)), (7, .int ((up2 F a1 10 ((F a1 10) - x3)) (gp G a1 14) 6))] 61 [] := by
      intro F2 hf
      rw [f_X8_settle_C61] at hf
      refine v_aloadq hC dX8_settle_61 5 rfl ?_
      refine v_deref (gp_some c1) ?_
      refine gf_X8_515 hC ((t1.2.2.2.1) c1) dX8_settle_63 ?_
      refine v_iload hC dX8_settle_66 6 rfl ?_
      refine v_isub hC dX8_settle_68 ?_
      refine v_istore (i := 8) (lv' := [(8, .int ((F2 (gp G a1 14) 5) - ((up2 F a1 10 ((F a1 10) - x3)) (gp G a1 14) 5))), (0, .ref a0), (1, .ref a1), (2, .ref a2), (3, .int x3), (4, .ref (gp G (gp G a1 0) 1)), (5, va_rf (G a1 14)), (6, .int ((up2 F a1 10 ((F a1 10) - x3)) (gp G a1 14) 5)), (7, .int ((up2 F a1 10 ((F a1 10) - x3)) (gp G a1 14) 6))]) hC dX8_settle_69 (by decide) rfl ?_
      refine v_aloadq hC dX8_settle_71 6 rfl ?_
      refine v_deref (gp_some c1) ?_
      refine gf_X8_518 hC ((t1.2.2.2.1) c1) dX8_settle_73 ?_
      refine v_iload hC dX8_settle_76 8 rfl ?_
      refine v_isub hC dX8_settle_78 ?_
      refine v_istore (i := 9) (lv' := [(9, .int ((F2 (gp G a1 14) 6) - ((up2 F a1 10 ((F a1 10) - x3)) (gp G a1 14) 6))), (8, .int ((F2 (gp G a1 14) 5) - ((up2 F a1 10 ((F a1 10) - x3)) (gp G a1 14) 5))), (0, .ref a0), (1, .ref a1), (2, .ref a2), (3, .int x3), (4, .ref (gp G (gp G a1 0) 1)), (5, va_rf (G a1 14)), (6, .int ((up2 F a1 10 ((F a1 10) - x3)) (gp G a1 14) 5)), (7, .int ((up2 F a1 10 ((F a1 10) - x3)) (gp G a1 14) 6))]) hC dX8_settle_79 (by decide) rfl ?_
      refine v_aload_n hC dX8_settle_81 rfl 4 rfl ?_
      refine v_aload_n hC dX8_settle_82 rfl 2 rfl ?_
      refine gf_X8_31 hC t0.1 t0.2.2.2.2.2.2.1.1 dX8_settle_83 ?_
      refine v_iload hC dX8_settle_86 1 rfl ?_
      refine v_callV (c2 := 0) (s2 := 0) (As := [.ref (gp G a0 5), .int ((F2 (gp G a1 14) 5) - ((up2 F a1 10 ((F a1 10) - x3)) (gp G a1 14) 5))]) hC (m_X1_giveTo l (n := n) (K := K) (F := F2) (G := G) (a0 := a2) (a1 := (gp G a0 5)) (x2 := ((F2 (gp G a1 14) 5) - ((up2 F a1 10 ((F a1 10) - x3)) (gp G a1 14) 5))) t2 t0.2.2.2.2.2.2.1.2) q_X8_84 (by rw [t2]; decide) (ce_2 t2) (ci := 1) rfl hdV_X1_giveTo rfl rfl (Nat.le_of_ble_eq_true rfl) (Nat.le_of_ble_eq_true rfl) (Nat.le_of_ble_eq_true rfl) (Nat.le_of_ble_eq_true rfl) (Nat.le_of_ble_eq_true rfl) (Nat.le_of_ble_eq_true rfl) (Nat.le_of_ble_eq_true rfl) dX8_settle_88 ?_
      have KC91 : ∀ (F3 : Ft), f_X8_settle_C91 K F G a0 a1 a2 x3 F2 F3 = r → V X 10 p l e ({ frames := 2, cells := 0, slots := 0, locals := 44 } : Room) s m args below meth c Q 0 0 n K F3 G [(0, .ref a0), (1, .ref a1), (2, .ref a2), (3, .int x3), (4, .ref (gp G (gp G a1 0) 1)), (8, .int ((F2 (gp G a1 14) 5) - ((up2 F a1 10 ((F a1 10) - x3)) (gp G a1 14) 5))), (9, .int ((F2 (gp G a1 14) 6) - ((up2 F a1 10 ((F a1 10) - x3)) (gp G a1 14) 6)))] 91 [] := by
        intro F3 hf
        rw [f_X8_settle_C91] at hf
        refine v_aload_n hC dX8_settle_91 rfl 2 rfl ?_
        refine v_aload_n hC dX8_settle_92 rfl 0 rfl ?_
        refine v_aload_n hC dX8_settle_93 rfl 1 rfl ?_
        refine gf_X8_274 hC t1.1 t1.2.1.1 dX8_settle_94 ?_
        refine gf_X8_293 hC t1.2.1.2.1 dX8_settle_97 ?_
        refine v_callV (c2 := 0) (s2 := 0) (As := [.int (F3 (gp G a1 0) 3)]) hC (m_X8_chestOfRival l (n := n) (K := K) (F := F3) (G := G) (a0 := a0) (x1 := (F3 (gp G a1 0) 3)) t0) q_X8_296 (by rw [t0.1]; decide) (ce_1 t0.1) (ci := 0) rfl hdV_X8_chestOfRival rfl rfl (Nat.le_of_ble_eq_true rfl) (Nat.le_of_ble_eq_true rfl) (Nat.le_of_ble_eq_true rfl) (Nat.le_of_ble_eq_true rfl) (Nat.le_of_ble_eq_true rfl) (Nat.le_of_ble_eq_true rfl) (Nat.le_of_ble_eq_true rfl) dX8_settle_100 ?_
        have ht4 : (K (f_X8_chestOfRival K F3 G a0 (F3 (gp G a1 0) 3))).1 = 2 := (tr_X8_chestOfRival t0)
        refine v_iload hC dX8_settle_103 6 rfl ?_
        refine v_callV (c2 := 0) (s2 := 0) (As := [.ref (f_X8_chestOfRival K F3 G a0 (F3 (gp G a1 0) 3)), .int ((F2 (gp G a1 14) 6) - ((up2 F a1 10 ((F a1 10) - x3)) (gp G a1 14) 6))]) hC (m_X1_giveTo l (n := n) (K := K) (F := F3) (G := G) (a0 := a2) (a1 := (f_X8_chestOfRival K F3 G a0 (F3 (gp G a1 0) 3))) (x2 := ((F2 (gp G a1 14) 6) - ((up2 F a1 10 ((F a1 10) - x3)) (gp G a1 14) 6))) t2 ht4) q_X8_84 (by rw [t2]; decide) (ce_2 t2) (ci := 1) rfl hdV_X1_giveTo rfl rfl (Nat.le_of_ble_eq_true rfl) (Nat.le_of_ble_eq_true rfl) (Nat.le_of_ble_eq_true rfl) (Nat.le_of_ble_eq_true rfl) (Nat.le_of_ble_eq_true rfl) (Nat.le_of_ble_eq_true rfl) (Nat.le_of_ble_eq_true rfl) dX8_settle_105 ?_
        have KC108 : ∀ (F5 : Ft), f_X8_settle_C108 K F G a0 a1 a2 x3 F2 F5 = r → V X 10 p l e ({ frames := 2, cells := 0, slots := 0, locals := 44 } : Room) s m args below meth c Q 0 0 n K F5 G [(0, .ref a0), (2, .ref a2), (3, .int x3), (4, .ref (gp G (gp G a1 0) 1)), (8, .int ((F2 (gp G a1 14) 5) - ((up2 F a1 10 ((F a1 10) - x3)) (gp G a1 14) 5))), (9, .int ((F2 (gp G a1 14) 6) - ((up2 F a1 10 ((F a1 10) - x3)) (gp G a1 14) 6)))] 108 [] := by
          intro F5 hf
          rw [f_X8_settle_C108] at hf
          refine v_aload_n hC dX8_settle_108 rfl 1 rfl ?_
          refine v_aload hC dX8_settle_109 3 rfl ?_
          refine gf_X8_292 hC t1.2.1.2.2.1.2.1 t1.2.1.2.2.1.2.2.1 dX8_settle_111 ?_
          refine v_iload_n hC dX8_settle_114 rfl 2 rfl ?_
          refine v_iload hC dX8_settle_115 4 rfl ?_
          refine v_isub hC dX8_settle_117 ?_
          refine v_iload hC dX8_settle_118 5 rfl ?_
          refine v_isub hC dX8_settle_120 ?_
          refine v_callV (c2 := 0) (s2 := 0) (As := [.ref (gp G (gp G (gp G a1 0) 1) 1), .int ((x3 - ((F2 (gp G a1 14) 5) - ((up2 F a1 10 ((F a1 10) - x3)) (gp G a1 14) 5))) - ((F2 (gp G a1 14) 6) - ((up2 F a1 10 ((F a1 10) - x3)) (gp G a1 14) 6)))]) hC (m_X1_giveTo l (n := n) (K := K) (F := F5) (G := G) (a0 := a2) (a1 := (gp G (gp G (gp G a1 0) 1) 1)) (x2 := ((x3 - ((F2 (gp G a1 14) 5) - ((up2 F a1 10 ((F a1 10) - x3)) (gp G a1 14) 5))) - ((F2 (gp G a1 14) 6) - ((up2 F a1 10 ((F a1 10) - x3)) (gp G a1 14) 6)))) t2 t1.2.1.2.2.1.2.2.2) q_X8_84 (by rw [t2]; decide) (ce_2 t2) (ci := 1) rfl hdV_X1_giveTo rfl rfl (Nat.le_of_ble_eq_true rfl) (Nat.le_of_ble_eq_true rfl) (Nat.le_of_ble_eq_true rfl) (Nat.le_of_ble_eq_true rfl) (Nat.le_of_ble_eq_true rfl) (Nat.le_of_ble_eq_true rfl) (Nat.le_of_ble_eq_true rfl) dX8_settle_121 ?_
          have KC124 : ∀ (F6 : Ft), f_X8_settle_C124 K F G a0 a1 x3 F2 F6 = r → V X 10 p l e ({ frames := 2, cells := 0, slots := 0, locals := 44 } : Room) s m args below meth c Q 0 0 n K F6 G [(0, .ref a0), (8, .int ((F2 (gp G a1 14) 5) - ((up2 F a1 10 ((F a1 10) - x3)) (gp G a1 14) 5)))] 124 [] := by
            intro F6 hf
            rw [f_X8_settle_C124] at hf
            refine v_aload_n hC dX8_settle_124 rfl 0 rfl ?_
            refine v_dup hC dX8_settle_125 rfl ?_
            refine gf_X8_524 hC t0.1 dX8_settle_126 ?_
            refine v_iload hC dX8_settle_129 1 rfl ?_
            refine v_iadd hC dX8_settle_131 ?_
            refine pf_X8_524 hC t0.1 dX8_settle_132 ?_
            exact v_vret hC rfl hQ dX8_settle_135 rfl rfl rfl hf rfl
          refine v_sub [0, 4] rfl ?_
          exact KC124 (f_X1_giveTo K F5 G a2 (gp G (gp G (gp G a1 0) 1) 1) ((x3 - ((F2 (gp G a1 14) 5) - ((up2 F a1 10 ((F a1 10) - x3)) (gp G a1 14) 5))) - ((F2 (gp G a1 14) 6) - ((up2 F a1 10 ((F a1 10) - x3)) (gp G a1 14) 6)))) hf
        refine v_sub [0, 2, 3, 4, 5, 6] rfl ?_
        exact KC108 (f_X1_giveTo K F3 G a2 (f_X8_chestOfRival K F3 G a0 (F3 (gp G a1 0) 3)) ((F2 (gp G a1 14) 6) - ((up2 F a1 10 ((F a1 10) - x3)) (gp G a1 14) 6))) hf
      refine v_sub [2, 3, 4, 5, 6, 1, 0] rfl ?_
      exact KC91 (f_X1_giveTo K F2 G a2 (gp G a0 5) ((F2 (gp G a1 14) 5) - ((up2 F a1 10 ((F a1 10) - x3)) (gp G a1 14) 5))) hf
    refine v_sub [4, 5, 6, 7, 3, 2, 1, 0] rfl ?_
    exact KC61 (f_X2_recover K (up2 F a1 10 ((F a1 10) - x3)) G (gp G a1 14) x3) hf
  · rw [if_pos c1] at hf
    refine v_aload_n hC dX8_settle_30 rfl 4 rfl ?_
    refine v_aload hC dX8_settle_31 1 rfl ?_
    refine gf_X8_292 hC t1.2.1.2.2.1.2.1 t1.2.1.2.2.1.2.2.1 dX8_settle_33 ?_
    refine v_iload_n hC dX8_settle_36 rfl 5 rfl ?_
    refine v_callV (c2 := 0) (s2 := 0) (As := [.ref (gp G (gp G (gp G a1 0) 1) 1), .int x3]) hC (m_X1_giveTo l (n := n) (K := K) (F := (up2 F a1 10 ((F a1 10) - x3))) (G := G) (a0 := a2) (a1 := (gp G (gp G (gp G a1 0) 1) 1)) (x2 := x3) t2 t1.2.1.2.2.1.2.2.2) q_X8_84 (by rw [t2]; decide) (ce_2 t2) (ci := 1) rfl hdV_X1_giveTo rfl rfl (Nat.le_of_ble_eq_true rfl) (Nat.le_of_ble_eq_true rfl) (Nat.le_of_ble_eq_true rfl) (Nat.le_of_ble_eq_true rfl) (Nat.le_of_ble_eq_true rfl) (Nat.le_of_ble_eq_true rfl) (Nat.le_of_ble_eq_true rfl) dX8_settle_37 ?_
    exact v_vret hC rfl hQ dX8_settle_40 rfl rfl rfl hf rfl
def f_X8_payWhatIsDue_J78 (K : Kt) (G : Gt) (j2 : Nat) (F_2 : Ft) (rec2 : (Nat → Ft → Ft)) : Ft := rec2 (j2 + 1) F_2
def f_X8_payWhatIsDue_C78 (K : Kt) (G : Gt) (j2 : Nat) (rec2 : (Nat → Ft → Ft)) (F8 : Ft) : Ft := rec2 (j2 + 1) F8
def f_X8_payWhatIsDue_L2 (K : Kt) (G : Gt) (a0 : Nat) : Nat → Nat → Ft → Ft
  | 0, j2, F_2 => F_2
  | k1 + 1, j2, F_2 => if (F_2 (el G (gp G a0 4) j2) 4) = (F_2 a0 9) then if (f_X7_isToPay K F_2 G (el G (gp G a0 4) j2)) = 0 then f_X8_payWhatIsDue_J78 K G j2 F_2 (f_X8_payWhatIsDue_L2 K G a0 k1) else if (f_X0_canPay K F_2 G (gp G (el G (gp G a0 4) j2) 1)) = 0 then f_X8_payWhatIsDue_J78 K G j2 F_2 (f_X8_payWhatIsDue_L2 K G a0 k1) else f_X8_payWhatIsDue_C78 K G j2 (f_X8_payWhatIsDue_L2 K G a0 k1) (f_X8_settle K F_2 G a0 (el G (gp G a0 4) j2) (gp G (gp G (el G (gp G a0 4) j2) 1) 3) (if (F_2 (gp G (gp G (el G (gp G a0 4) j2) 1) 3) 0) < (F_2 (el G (gp G a0 4) j2) 10) then (F_2 (gp G (gp G (el G (gp G a0 4) j2) 1) 3) 0) else (F_2 (el G (gp G a0 4) j2) 10))) else f_X8_payWhatIsDue_J78 K G j2 F_2 (f_X8_payWhatIsDue_L2 K G a0 k1)
def f_X8_payWhatIsDue (K : Kt) (F : Ft) (G : Gt) (a0 : Nat) : Ft := f_X8_payWhatIsDue_L2 K G a0 ((K (gp G a0 4)).2) 0 F
theorem hdS_X8_payWhatIsDue : yX8_payWhatIsDue.cls ≠ "java/lang/invoke/MethodHandle" ∧ yX8_payWhatIsDue.cls ≠ "java/lang/invoke/VarHandle" ∧ (parseMethodDescriptor yX8_payWhatIsDue.desc).map (fun d => d.parameters.length) = some 0 := by decide +kernel
theorem hdV_X8_payWhatIsDue : yX8_payWhatIsDue.cls = RX8 ∧ yX8_payWhatIsDue.cls ≠ "java/lang/invoke/MethodHandle" ∧ yX8_payWhatIsDue.cls ≠ "java/lang/invoke/VarHandle" ∧ (parseMethodDescriptor yX8_payWhatIsDue.desc).map (fun d => d.parameters.length) = some 0 := by decide +kernel
set_option maxHeartbeats 4000000 in
set_option maxRecDepth 100000 in
theorem m_X8_payWhatIsDue (l : Launch) {n : Nat} {K : Kt} {F : Ft} {G : Gt} {a0 : Nat} (t0 : TMain K G a0) : Mw X l yX8_payWhatIsDue cX8_payWhatIsDue 4 none 4 81 0 0 [.ref a0] n K F G none n K (f_X8_payWhatIsDue K F G a0) G := by
  generalize hf : f_X8_payWhatIsDue K F G a0 = r
  refine Mw.of (lv := [(0, .ref a0)]) (by decide) (Nat.le_of_ble_eq_true rfl) rfl ?_
  intro p e s m args below meth c Q hC hin hQ
  have hC : Cx X p s m args meth c RX8 cX8_payWhatIsDue 4 none := hC
  rw [f_X8_payWhatIsDue] at hf
  refine v_iconst (v := 0) hC dX8_payWhatIsDue_0 (by decide) ?_
  refine v_istore_n (i := 1) (lv' := [(1, .int 0), (0, .ref a0)]) hC dX8_payWhatIsDue_1 rfl (by decide) rfl ?_
  refine v_sub [1, 0] rfl ?_
  have KL2 : ∀ (k1 j2 : Nat) (F_2 : Ft), j2 + k1 = (K (gp G a0 4)).2 → f_X8_payWhatIsDue_L2 K G a0 k1 j2 F_2 = r → V X 4 p l e ({ frames := 4, cells := 0, slots := 0, locals := 81 } : Room) s m args below meth c Q 0 0 n K F_2 G [(0, .ref a0), (1, .int (nI j2))] 2 [] := by
    intro k1
    induction k1 with
    | zero =>
      intro j2 F_2 hj2 hf
      rw [f_X8_payWhatIsDue_L2] at hf
      refine v_iload_n hC dX8_payWhatIsDue_2 rfl 1 rfl ?_
      refine v_aload_n hC dX8_payWhatIsDue_3 rfl 0 rfl ?_
      refine gf_X8_25 hC t0.1 t0.2.2.2.2.2.1.1 dX8_payWhatIsDue_4 ?_
      refine v_callV (c2 := 0) (s2 := 0) (As := []) hC (m_Jx4a65c_size_8abf5 l t0.2.2.2.2.2.1.2.1) q_X8_89 (by rw [t0.2.2.2.2.2.1.2.1]; decide) (ce_10 t0.2.2.2.2.2.1.2.1) (ci := 9) rfl hdV_Jx4a65c_size_8abf5 rfl rfl (Nat.le_of_ble_eq_true rfl) (Nat.le_of_ble_eq_true rfl) (Nat.le_of_ble_eq_true rfl) (Nat.le_of_ble_eq_true rfl) (Nat.le_of_ble_eq_true rfl) (Nat.le_of_ble_eq_true rfl) (Nat.le_of_ble_eq_true rfl) dX8_payWhatIsDue_7 ?_
      refine v_icmp_ge (tgt := 84) hC dX8_payWhatIsDue_10 (by decide) (fun c2 => ?_) (fun c2 => absurd (lp_z hj2) c2)
      exact v_vret hC rfl hQ dX8_payWhatIsDue_84 rfl rfl rfl hf rfl
    | succ k1 ihj2 =>
      intro j2 F_2 hj2 hf
      rw [f_X8_payWhatIsDue_L2] at hf
      refine v_iload_n hC dX8_payWhatIsDue_2 rfl 1 rfl ?_
      refine v_aload_n hC dX8_payWhatIsDue_3 rfl 0 rfl ?_
      refine gf_X8_25 hC t0.1 t0.2.2.2.2.2.1.1 dX8_payWhatIsDue_4 ?_
      refine v_callV (c2 := 0) (s2 := 0) (As := []) hC (m_Jx4a65c_size_8abf5 l t0.2.2.2.2.2.1.2.1) q_X8_89 (by rw [t0.2.2.2.2.2.1.2.1]; decide) (ce_10 t0.2.2.2.2.2.1.2.1) (ci := 9) rfl hdV_Jx4a65c_size_8abf5 rfl rfl (Nat.le_of_ble_eq_true rfl) (Nat.le_of_ble_eq_true rfl) (Nat.le_of_ble_eq_true rfl) (Nat.le_of_ble_eq_true rfl) (Nat.le_of_ble_eq_true rfl) (Nat.le_of_ble_eq_true rfl) (Nat.le_of_ble_eq_true rfl) dX8_payWhatIsDue_7 ?_
      refine v_icmp_ge (tgt := 84) hC dX8_payWhatIsDue_10 (by decide) (fun c3 => absurd c3 (lp_s hj2 t0.2.2.2.2.2.1.2.lt)) (fun c3 => ?_)
      refine v_aload_n hC dX8_payWhatIsDue_13 rfl 0 rfl ?_
      refine gf_X8_25 hC t0.1 t0.2.2.2.2.2.1.1 dX8_payWhatIsDue_14 ?_
      refine v_iload_n hC dX8_payWhatIsDue_17 rfl 1 rfl ?_
      refine v_callV (c2 := 0) (s2 := 0) (As := [.int (nI j2)]) hC (m_Jx4a65c_get_915e3 l t0.2.2.2.2.2.1.2 (i := j2) (by omega)) q_X8_306 (by rw [t0.2.2.2.2.2.1.2.1]; decide) (ce_10 t0.2.2.2.2.2.1.2.1) (ci := 9) rfl hdV_Jx4a65c_get_915e3 rfl rfl (Nat.le_of_ble_eq_true rfl) (Nat.le_of_ble_eq_true rfl) (Nat.le_of_ble_eq_true rfl) (Nat.le_of_ble_eq_true rfl) (Nat.le_of_ble_eq_true rfl) (Nat.le_of_ble_eq_true rfl) (Nat.le_of_ble_eq_true rfl) dX8_payWhatIsDue_18 ?_
      have ht4 : TShip K G (el G (gp G a0 4) j2) := t0.2.2.2.2.2.1.2.el (i := j2) (by omega)
      refine v_cast hC (by rw [ht4.1]; decide) (ce_7 ht4.1) (ci := 6) rfl aw_212 dX8_payWhatIsDue_21 ?_
      refine v_astore_n (i := 2) (lv' := [(2, .ref (el G (gp G a0 4) j2)), (0, .ref a0), (1, .int (nI j2))]) hC dX8_payWhatIsDue_24 rfl (by decide) rfl ?_
      refine v_aload_n hC dX8_payWhatIsDue_25 rfl 0 rfl ?_
      refine gf_X8_253 hC ht4.1 dX8_payWhatIsDue_26 ?_
      refine v_aload_n hC dX8_payWhatIsDue_29 rfl 1 rfl ?_
      refine gf_X8_151 hC t0.1 dX8_payWhatIsDue_30 ?_
      have KJ78 : f_X8_payWhatIsDue_J78 K G j2 F_2 (f_X8_payWhatIsDue_L2 K G a0 k1) = r → V X 4 p l e ({ frames := 4, cells := 0, slots := 0, locals := 81 } : Room) s m args below meth c Q 0 0 n K F_2 G [(0, .ref a0), (1, .int (nI j2))] 78 [] := by
        intro hf
        rw [f_X8_payWhatIsDue_J78] at hf
        refine v_iinc (lv' := [(1, .int (nI (j2 + 1))), (0, .ref a0)]) (v := nI (j2 + 1)) hC dX8_payWhatIsDue_78 1 rfl (nI_inc j2) (by decide) rfl ?_
        refine v_goto (tgt := 2) hC dX8_payWhatIsDue_81 (by decide) ?_
        refine v_sub [1, 0] rfl ?_
        exact ihj2 (j2 + 1) F_2 (by omega) hf
      refine v_icmp_ne (tgt := 78) hC dX8_payWhatIsDue_33 (by decide) (fun c5 => ?_) (fun c5 => ?_)
      · rw [if_neg c5] at hf
        refine v_sub [1, 2] rfl ?_
        exact KJ78 hf
      · rw [if_pos c5] at hf
        refine v_aload_n hC dX8_payWhatIsDue_36 rfl 0 rfl ?_
        refine v_callV (c2 := 0) (s2 := 0) (As := []) hC (m_X7_isToPay l (n := n) (K := K) (F := F_2) (G := G) (a0 := (el G (gp G a0 4) j2)) ht4) q_X8_314 (by rw [ht4.1]; decide) (ce_7 ht4.1) (ci := 6) rfl hdV_X7_isToPay rfl rfl (Nat.le_of_ble_eq_true rfl) (Nat.le_of_ble_eq_true rfl) (Nat.le_of_ble_eq_true rfl) (Nat.le_of_ble_eq_true rfl) (Nat.le_of_ble_eq_true rfl) (Nat.le_of_ble_eq_true rfl) (Nat.le_of_ble_eq_true rfl) dX8_payWhatIsDue_37 ?_
        refine v_if_eq (tgt := 78) hC dX8_payWhatIsDue_40 (by decide) (fun c6 => ?_) (fun c6 => ?_)
        · rw [if_pos c6] at hf
          refine v_sub [1, 2] rfl ?_
          exact KJ78 hf
        · rw [if_neg c6] at hf
          refine v_aload_n hC dX8_payWhatIsDue_43 rfl 0 rfl ?_
          refine gf_X8_310 hC ht4.1 ht4.2.2.1.1 dX8_payWhatIsDue_44 ?_
          refine v_callV (c2 := 0) (s2 := 0) (As := []) hC (m_X0_canPay l (n := n) (K := K) (F := F_2) (G := G) (a0 := (gp G (el G (gp G a0 4) j2) 1)) ht4.2.2.1.2) q_X8_235 (by rw [ht4.2.2.1.2.1]; decide) (ce_4 ht4.2.2.1.2.1) (ci := 3) rfl hdV_X0_canPay rfl rfl (Nat.le_of_ble_eq_true rfl) (Nat.le_of_ble_eq_true rfl) (Nat.le_of_ble_eq_true rfl) (Nat.le_of_ble_eq_true rfl) (Nat.le_of_ble_eq_true rfl) (Nat.le_of_ble_eq_true rfl) (Nat.le_of_ble_eq_true rfl) dX8_payWhatIsDue_47 ?_
          refine v_if_eq (tgt := 78) hC dX8_payWhatIsDue_50 (by decide) (fun c7 => ?_) (fun c7 => ?_)
          · rw [if_pos c7] at hf
            refine v_sub [1, 2] rfl ?_
            exact KJ78 hf
          · rw [if_neg c7] at hf
            refine v_aload_n hC dX8_payWhatIsDue_53 rfl 0 rfl ?_
            refine gf_X8_310 hC ht4.1 ht4.2.2.1.1 dX8_payWhatIsDue_54 ?_
            refine gf_X8_79 hC ht4.2.2.1.2.1 ht4.2.2.1.2.2.2.1 dX8_payWhatIsDue_57 ?_
            refine v_astore_n (i := 3) (lv' := [(3, .ref (gp G (gp G (el G (gp G a0 4) j2) 1) 3)), (2, .ref (el G (gp G a0 4) j2)), (0, .ref a0), (1, .int (nI j2))]) hC dX8_payWhatIsDue_60 rfl (by decide) rfl ?_
            refine v_aload_n hC dX8_payWhatIsDue_61 rfl 2 rfl ?_
            refine v_aload_n hC dX8_payWhatIsDue_62 rfl 1 rfl ?_
            refine v_aload_n hC dX8_payWhatIsDue_63 rfl 0 rfl ?_
            refine v_aload_n hC dX8_payWhatIsDue_64 rfl 1 rfl ?_
            refine gf_X8_242 hC ht4.1 dX8_payWhatIsDue_65 ?_
            refine v_aload_n hC dX8_payWhatIsDue_68 rfl 0 rfl ?_
            refine gf_X8_129 hC ht4.2.2.1.2.2.2.2 dX8_payWhatIsDue_69 ?_
            refine v_mmin hC aw_236 (Nat.le_of_ble_eq_true rfl) (Nat.le_of_ble_eq_true rfl) (Nat.le_of_ble_eq_true rfl) (Nat.le_of_ble_eq_true rfl) (Nat.le_of_ble_eq_true rfl) dX8_payWhatIsDue_72 ?_
            refine v_callV (c2 := 0) (s2 := 0) (As := [.ref (el G (gp G a0 4) j2), .ref (gp G (gp G (el G (gp G a0 4) j2) 1) 3), .int (if (F_2 (gp G (gp G (el G (gp G a0 4) j2) 1) 3) 0) < (F_2 (el G (gp G a0 4) j2) 10) then (F_2 (gp G (gp G (el G (gp G a0 4) j2) 1) 3) 0) else (F_2 (el G (gp G a0 4) j2) 10))]) hC (m_X8_settle l (n := n) (K := K) (F := F_2) (G := G) (a0 := a0) (a1 := (el G (gp G a0 4) j2)) (a2 := (gp G (gp G (el G (gp G a0 4) j2) 1) 3)) (x3 := (if (F_2 (gp G (gp G (el G (gp G a0 4) j2) 1) 3) 0) < (F_2 (el G (gp G a0 4) j2) 10) then (F_2 (gp G (gp G (el G (gp G a0 4) j2) 1) 3) 0) else (F_2 (el G (gp G a0 4) j2) 10))) t0 ht4 ht4.2.2.1.2.2.2.2) q_X8_245 (by rw [t0.1]; decide) (ce_1 t0.1) (ci := 0) rfl hdV_X8_settle rfl rfl (Nat.le_of_ble_eq_true rfl) (Nat.le_of_ble_eq_true rfl) (Nat.le_of_ble_eq_true rfl) (Nat.le_of_ble_eq_true rfl) (Nat.le_of_ble_eq_true rfl) (Nat.le_of_ble_eq_true rfl) (Nat.le_of_ble_eq_true rfl) dX8_payWhatIsDue_75 ?_
            have KC78 : ∀ (F8 : Ft), f_X8_payWhatIsDue_C78 K G j2 (f_X8_payWhatIsDue_L2 K G a0 k1) F8 = r → V X 4 p l e ({ frames := 4, cells := 0, slots := 0, locals := 81 } : Room) s m args below meth c Q 0 0 n K F8 G [(0, .ref a0), (1, .int (nI j2))] 78 [] := by
              intro F8 hf
              rw [f_X8_payWhatIsDue_C78] at hf
              refine v_iinc (lv' := [(1, .int (nI (j2 + 1))), (0, .ref a0)]) (v := nI (j2 + 1)) hC dX8_payWhatIsDue_78 1 rfl (nI_inc j2) (by decide) rfl ?_
              refine v_goto (tgt := 2) hC dX8_payWhatIsDue_81 (by decide) ?_
              refine v_sub [1, 0] rfl ?_
              exact ihj2 (j2 + 1) F8 (by omega) hf
            refine v_sub [2, 3] rfl ?_
            exact KC78 (f_X8_settle K F_2 G a0 (el G (gp G a0 4) j2) (gp G (gp G (el G (gp G a0 4) j2) 1) 3) (if (F_2 (gp G (gp G (el G (gp G a0 4) j2) 1) 3) 0) < (F_2 (el G (gp G a0 4) j2) 10) then (F_2 (gp G (gp G (el G (gp G a0 4) j2) 1) 3) 0) else (F_2 (el G (gp G a0 4) j2) 10))) hf
  exact KL2 ((K (gp G a0 4)).2) 0 F (by omega) hf
def f_X8_payWhatIsPutOff_J91 (K : Kt) (G : Gt) (j2 : Nat) (F_2 : Ft) (rec2 : (Nat → Ft → Ft)) : Ft := rec2 (j2 + 1) F_2
def f_X8_payWhatIsPutOff_J52 (K : Kt) (G : Gt) (j2 : Nat) (F_2 : Ft) (rec2 : (Nat → Ft → Ft)) : Ft := f_X8_payWhatIsPutOff_J91 K G j2 F_2 rec2
def f_X8_payWhatIsPutOff_J91_1 (K : Kt) (G : Gt) (j2 : Nat) (F_2 : Ft) (rec2 : (Nat → Ft → Ft)) : Ft := rec2 (j2 + 1) F_2
def f_X8_payWhatIsPutOff_C91 (K : Kt) (G : Gt) (j2 : Nat) (rec2 : (Nat → Ft → Ft)) (F12 : Ft) : Ft := rec2 (j2 + 1) F12
def f_X8_payWhatIsPutOff_C88 (K : Kt) (G : Gt) (a0 : Nat) (j2 : Nat) (F_2 : Ft) (rec2 : (Nat → Ft → Ft)) (F11 : Ft) : Ft := f_X8_payWhatIsPutOff_C91 K G j2 rec2 (f_X8_settle K F11 G a0 (el G (gp G a0 4) j2) (gp G a0 8) ((f_X3_nextOf K F_2 G (gp G (el G (gp G a0 4) j2) 15) (F_2 (el G (gp G a0 4) j2) 10)).2))
def f_X8_payWhatIsPutOff_L2 (K : Kt) (G : Gt) (a0 : Nat) : Nat → Nat → Ft → Ft
  | 0, j2, F_2 => F_2
  | k1 + 1, j2, F_2 => if G (el G (gp G a0 4) j2) 15 = none then f_X8_payWhatIsPutOff_J52 K G j2 F_2 (f_X8_payWhatIsPutOff_L2 K G a0 k1) else if (F_2 (el G (gp G a0 4) j2) 13) = 0 then if (F_2 (el G (gp G a0 4) j2) 10) ≤ 0 then f_X8_payWhatIsPutOff_J52 K G j2 F_2 (f_X8_payWhatIsPutOff_L2 K G a0 k1) else if (F_2 (gp G (gp G (el G (gp G a0 4) j2) 1) 1) 5) = (-1) then f_X8_payWhatIsPutOff_C88 K G a0 j2 F_2 (f_X8_payWhatIsPutOff_L2 K G a0 k1) ((f_X3_nextOf K F_2 G (gp G (el G (gp G a0 4) j2) 15) (F_2 (el G (gp G a0 4) j2) 10)).1) else f_X8_payWhatIsPutOff_J91_1 K G j2 F_2 (f_X8_payWhatIsPutOff_L2 K G a0 k1) else f_X8_payWhatIsPutOff_J52 K G j2 F_2 (f_X8_payWhatIsPutOff_L2 K G a0 k1)
def f_X8_payWhatIsPutOff (K : Kt) (F : Ft) (G : Gt) (a0 : Nat) : Ft := f_X8_payWhatIsPutOff_L2 K G a0 ((K (gp G a0 4)).2) 0 F
theorem hdS_X8_payWhatIsPutOff : yX8_payWhatIsPutOff.cls ≠ "java/lang/invoke/MethodHandle" ∧ yX8_payWhatIsPutOff.cls ≠ "java/lang/invoke/VarHandle" ∧ (parseMethodDescriptor yX8_payWhatIsPutOff.desc).map (fun d => d.parameters.length) = some 0 := by decide +kernel
theorem hdV_X8_payWhatIsPutOff : yX8_payWhatIsPutOff.cls = RX8 ∧ yX8_payWhatIsPutOff.cls ≠ "java/lang/invoke/MethodHandle" ∧ yX8_payWhatIsPutOff.cls ≠ "java/lang/invoke/VarHandle" ∧ (parseMethodDescriptor yX8_payWhatIsPutOff.desc).map (fun d => d.parameters.length) = some 0 := by decide +kernel
set_option maxHeartbeats 4000000 in
set_option maxRecDepth 100000 in
theorem m_X8_payWhatIsPutOff (l : Launch) {n : Nat} {K : Kt} {F : Ft} {G : Gt} {a0 : Nat} (t0 : TMain K G a0) : Mw X l yX8_payWhatIsPutOff cX8_payWhatIsPutOff 5 none 3 73 0 0 [.ref a0] n K F G none n K (f_X8_payWhatIsPutOff K F G a0) G := by
  generalize hf : f_X8_payWhatIsPutOff K F G a0 = r
  refine Mw.of (lv := [(0, .ref a0)]) (by decide) (Nat.le_of_ble_eq_true rfl) rfl ?_
  intro p e s m args below meth c Q hC hin hQ
  have hC : Cx X p s m args meth c RX8 cX8_payWhatIsPutOff 5 none := hC
  rw [f_X8_payWhatIsPutOff] at hf
  refine v_iconst (v := 0) hC dX8_payWhatIsPutOff_0 (by decide) ?_
  refine v_istore_n (i := 1) (lv' := [(1, .int 0), (0, .ref a0)]) hC dX8_payWhatIsPutOff_1 rfl (by decide) rfl ?_
  refine v_sub [1, 0] rfl ?_
  have KL2 : ∀ (k1 j2 : Nat) (F_2 : Ft), j2 + k1 = (K (gp G a0 4)).2 → f_X8_payWhatIsPutOff_L2 K G a0 k1 j2 F_2 = r → V X 5 p l e ({ frames := 3, cells := 0, slots := 0, locals := 73 } : Room) s m args below meth c Q 0 0 n K F_2 G [(0, .ref a0), (1, .int (nI j2))] 2 [] := by
    intro k1
    induction k1 with
    | zero =>
      intro j2 F_2 hj2 hf
      rw [f_X8_payWhatIsPutOff_L2] at hf
      refine v_iload_n hC dX8_payWhatIsPutOff_2 rfl 1 rfl ?_
      refine v_aload_n hC dX8_payWhatIsPutOff_3 rfl 0 rfl ?_
      refine gf_X8_25 hC t0.1 t0.2.2.2.2.2.1.1 dX8_payWhatIsPutOff_4 ?_
      refine v_callV (c2 := 0) (s2 := 0) (As := []) hC (m_Jx4a65c_size_8abf5 l t0.2.2.2.2.2.1.2.1) q_X8_89 (by rw [t0.2.2.2.2.2.1.2.1]; decide) (ce_10 t0.2.2.2.2.2.1.2.1) (ci := 9) rfl hdV_Jx4a65c_size_8abf5 rfl rfl (Nat.le_of_ble_eq_true rfl) (Nat.le_of_ble_eq_true rfl) (Nat.le_of_ble_eq_true rfl) (Nat.le_of_ble_eq_true rfl) (Nat.le_of_ble_eq_true rfl) (Nat.le_of_ble_eq_true rfl) (Nat.le_of_ble_eq_true rfl) dX8_payWhatIsPutOff_7 ?_
      refine v_icmp_ge (tgt := 97) hC dX8_payWhatIsPutOff_10 (by decide) (fun c2 => ?_) (fun c2 => absurd (lp_z hj2) c2)
      exact v_vret hC rfl hQ dX8_payWhatIsPutOff_97 rfl rfl rfl hf rfl
    | succ k1 ihj2 =>
      intro j2 F_2 hj2 hf
      rw [f_X8_payWhatIsPutOff_L2] at hf
      refine v_iload_n hC dX8_payWhatIsPutOff_2 rfl 1 rfl ?_
      refine v_aload_n hC dX8_payWhatIsPutOff_3 rfl 0 rfl ?_
      refine gf_X8_25 hC t0.1 t0.2.2.2.2.2.1.1 dX8_payWhatIsPutOff_4 ?_
      refine v_callV (c2 := 0) (s2 := 0) (As := []) hC (m_Jx4a65c_size_8abf5 l t0.2.2.2.2.2.1.2.1) q_X8_89 (by rw [t0.2.2.2.2.2.1.2.1]; decide) (ce_10 t0.2.2.2.2.2.1.2.1) (ci := 9) rfl hdV_Jx4a65c_size_8abf5 rfl rfl (Nat.le_of_ble_eq_true rfl) (Nat.le_of_ble_eq_true rfl) (Nat.le_of_ble_eq_true rfl) (Nat.le_of_ble_eq_true rfl) (Nat.le_of_ble_eq_true rfl) (Nat.le_of_ble_eq_true rfl) (Nat.le_of_ble_eq_true rfl) dX8_payWhatIsPutOff_7 ?_
      refine v_icmp_ge (tgt := 97) hC dX8_payWhatIsPutOff_10 (by decide) (fun c3 => absurd c3 (lp_s hj2 t0.2.2.2.2.2.1.2.lt)) (fun c3 => ?_)
      refine v_aload_n hC dX8_payWhatIsPutOff_13 rfl 0 rfl ?_
      refine gf_X8_25 hC t0.1 t0.2.2.2.2.2.1.1 dX8_payWhatIsPutOff_14 ?_
      refine v_iload_n hC dX8_payWhatIsPutOff_17 rfl 1 rfl ?_
      refine v_callV (c2 := 0) (s2 := 0) (As := [.int (nI j2)]) hC (m_Jx4a65c_get_915e3 l t0.2.2.2.2.2.1.2 (i := j2) (by omega)) q_X8_306 (by rw [t0.2.2.2.2.2.1.2.1]; decide) (ce_10 t0.2.2.2.2.2.1.2.1) (ci := 9) rfl hdV_Jx4a65c_get_915e3 rfl rfl (Nat.le_of_ble_eq_true rfl) (Nat.le_of_ble_eq_true rfl) (Nat.le_of_ble_eq_true rfl) (Nat.le_of_ble_eq_true rfl) (Nat.le_of_ble_eq_true rfl) (Nat.le_of_ble_eq_true rfl) (Nat.le_of_ble_eq_true rfl) dX8_payWhatIsPutOff_18 ?_
      have ht4 : TShip K G (el G (gp G a0 4) j2) := t0.2.2.2.2.2.1.2.el (i := j2) (by omega)
      refine v_cast hC (by rw [ht4.1]; decide) (ce_7 ht4.1) (ci := 6) rfl aw_212 dX8_payWhatIsPutOff_21 ?_
      refine v_astore_n (i := 2) (lv' := [(2, .ref (el G (gp G a0 4) j2)), (0, .ref a0), (1, .int (nI j2))]) hC dX8_payWhatIsPutOff_24 rfl (by decide) rfl ?_
      refine v_aload_n hC dX8_payWhatIsPutOff_25 rfl 0 rfl ?_
      refine gq_X8_527 hC ht4.1 dX8_payWhatIsPutOff_26 ?_
      refine v_astore_nq (i := 3) (lv' := [(3, va_rf (G (el G (gp G a0 4) j2) 15)), (2, .ref (el G (gp G a0 4) j2)), (0, .ref a0), (1, .int (nI j2))]) hC dX8_payWhatIsPutOff_29 rfl (by decide) rfl ?_
      refine v_aload_nq hC dX8_payWhatIsPutOff_30 rfl 0 rfl ?_
      have KJ52 : f_X8_payWhatIsPutOff_J52 K G j2 F_2 (f_X8_payWhatIsPutOff_L2 K G a0 k1) = r → V X 5 p l e ({ frames := 3, cells := 0, slots := 0, locals := 73 } : Room) s m args below meth c Q 0 0 n K F_2 G [(0, .ref a0), (1, .int (nI j2)), (2, .ref (el G (gp G a0 4) j2)), (3, va_rf (G (el G (gp G a0 4) j2) 15))] 52 [] := by
        intro hf
        rw [f_X8_payWhatIsPutOff_J52] at hf
        refine v_iconst (v := 0) hC dX8_payWhatIsPutOff_52 (by decide) ?_
        refine v_istore (i := 4) (lv' := [(4, .int 0), (0, .ref a0), (1, .int (nI j2)), (2, .ref (el G (gp G a0 4) j2)), (3, va_rf (G (el G (gp G a0 4) j2) 15))]) hC dX8_payWhatIsPutOff_53 (by decide) (by simp [List.filter, vr_cat]) ?_
        refine v_iload hC dX8_payWhatIsPutOff_55 0 rfl ?_
        have KJ91 : f_X8_payWhatIsPutOff_J91 K G j2 F_2 (f_X8_payWhatIsPutOff_L2 K G a0 k1) = r → V X 5 p l e ({ frames := 3, cells := 0, slots := 0, locals := 73 } : Room) s m args below meth c Q 0 0 n K F_2 G [(0, .ref a0), (1, .int (nI j2))] 91 [] := by
          intro hf
          rw [f_X8_payWhatIsPutOff_J91] at hf
          refine v_iinc (lv' := [(1, .int (nI (j2 + 1))), (0, .ref a0)]) (v := nI (j2 + 1)) hC dX8_payWhatIsPutOff_91 1 rfl (nI_inc j2) (by decide) rfl ?_
          refine v_goto (tgt := 2) hC dX8_payWhatIsPutOff_94 (by decide) ?_
          refine v_sub [1, 0] rfl ?_
          exact ihj2 (j2 + 1) F_2 (by omega) hf
        refine v_if_eq (tgt := 91) hC dX8_payWhatIsPutOff_57 (by decide) (fun c5 => ?_) (fun c5 => absurd c5 (by decide))
        refine v_sub [1, 2] rfl ?_
        exact KJ91 hf
      refine v_ifnull (tgt := 52) hC dX8_payWhatIsPutOff_31 (by decide) (fun c6 => ?_) (fun c6 => ?_)
      · rw [if_pos c6] at hf
        refine v_sub [2, 3, 1, 0] rfl ?_
        exact KJ52 hf
      · rw [if_neg c6] at hf
        refine v_aload_n hC dX8_payWhatIsPutOff_34 rfl 1 rfl ?_
        refine gf_X8_303 hC ht4.1 dX8_payWhatIsPutOff_35 ?_
        refine v_if_ne (tgt := 52) hC dX8_payWhatIsPutOff_38 (by decide) (fun c7 => ?_) (fun c7 => ?_)
        · rw [if_neg c7] at hf
          refine v_sub [2, 3, 1, 0] rfl ?_
          exact KJ52 hf
        · rw [if_pos c7] at hf
          refine v_aload_n hC dX8_payWhatIsPutOff_41 rfl 1 rfl ?_
          refine gf_X8_242 hC ht4.1 dX8_payWhatIsPutOff_42 ?_
          refine v_if_le (tgt := 52) hC dX8_payWhatIsPutOff_45 (by decide) (fun c8 => ?_) (fun c8 => ?_)
          · rw [if_pos c8] at hf
            refine v_sub [2, 3, 1, 0] rfl ?_
            exact KJ52 hf
          · rw [if_neg c8] at hf
            refine v_iconst (v := 1) hC dX8_payWhatIsPutOff_48 (by decide) ?_
            refine v_goto (tgt := 53) hC dX8_payWhatIsPutOff_49 (by decide) ?_
            refine v_istore (i := 4) (lv' := [(4, .int 1), (3, va_rf (G (el G (gp G a0 4) j2) 15)), (2, .ref (el G (gp G a0 4) j2)), (0, .ref a0), (1, .int (nI j2))]) hC dX8_payWhatIsPutOff_53 (by decide) (by simp [List.filter, vr_cat]) ?_
            refine v_iload hC dX8_payWhatIsPutOff_55 0 rfl ?_
            have KJ91 : f_X8_payWhatIsPutOff_J91_1 K G j2 F_2 (f_X8_payWhatIsPutOff_L2 K G a0 k1) = r → V X 5 p l e ({ frames := 3, cells := 0, slots := 0, locals := 73 } : Room) s m args below meth c Q 0 0 n K F_2 G [(0, .ref a0), (1, .int (nI j2))] 91 [] := by
              intro hf
              rw [f_X8_payWhatIsPutOff_J91_1] at hf
              refine v_iinc (lv' := [(1, .int (nI (j2 + 1))), (0, .ref a0)]) (v := nI (j2 + 1)) hC dX8_payWhatIsPutOff_91 1 rfl (nI_inc j2) (by decide) rfl ?_
              refine v_goto (tgt := 2) hC dX8_payWhatIsPutOff_94 (by decide) ?_
              refine v_sub [1, 0] rfl ?_
              exact ihj2 (j2 + 1) F_2 (by omega) hf
            refine v_if_eq (tgt := 91) hC dX8_payWhatIsPutOff_57 (by decide) (fun c9 => absurd c9 (by decide)) (fun c9 => ?_)
            refine v_aload_n hC dX8_payWhatIsPutOff_60 rfl 2 rfl ?_
            refine gf_X8_310 hC ht4.1 ht4.2.2.1.1 dX8_payWhatIsPutOff_61 ?_
            refine gf_X8_206 hC ht4.2.2.1.2.1 ht4.2.2.1.2.2.1.1 dX8_payWhatIsPutOff_64 ?_
            refine gf_X8_120 hC ht4.2.2.1.2.2.1.2 dX8_payWhatIsPutOff_67 ?_
            refine v_iconst (v := (-1)) hC dX8_payWhatIsPutOff_70 (by decide) ?_
            refine v_icmp_ne (tgt := 91) hC dX8_payWhatIsPutOff_71 (by decide) (fun c10 => ?_) (fun c10 => ?_)
            · rw [if_neg c10] at hf
              refine v_sub [3, 4] rfl ?_
              exact KJ91 hf
            · rw [if_pos c10] at hf
              refine v_aload_n hC dX8_payWhatIsPutOff_74 rfl 3 rfl ?_
              refine v_aload_n hC dX8_payWhatIsPutOff_75 rfl 2 rfl ?_
              refine v_aload_n hC dX8_payWhatIsPutOff_76 rfl 3 rfl ?_
              refine gf_X8_41 hC t0.1 t0.2.2.2.2.2.2.2.2.2.1 dX8_payWhatIsPutOff_77 ?_
              refine v_aload_nq hC dX8_payWhatIsPutOff_80 rfl 1 rfl ?_
              refine v_deref (gp_some c6) ?_
              refine v_aload_n hC dX8_payWhatIsPutOff_81 rfl 2 rfl ?_
              refine gf_X8_242 hC ht4.1 dX8_payWhatIsPutOff_82 ?_
              refine v_callV (c2 := 0) (s2 := 0) (As := [.int (F_2 (el G (gp G a0 4) j2) 10)]) hC (m_X3_nextOf l (n := n) (K := K) (F := F_2) (G := G) (a0 := (gp G (el G (gp G a0 4) j2) 15)) (x1 := (F_2 (el G (gp G a0 4) j2) 10)) ((ht4.2.2.2.2) c6)) q_X8_531 (by rw [((ht4.2.2.2.2) c6)]; decide) (ce_9 ((ht4.2.2.2.2) c6)) (ci := 8) rfl hdV_X3_nextOf rfl rfl (Nat.le_of_ble_eq_true rfl) (Nat.le_of_ble_eq_true rfl) (Nat.le_of_ble_eq_true rfl) (Nat.le_of_ble_eq_true rfl) (Nat.le_of_ble_eq_true rfl) (Nat.le_of_ble_eq_true rfl) (Nat.le_of_ble_eq_true rfl) dX8_payWhatIsPutOff_85 ?_
              have KC88 : ∀ (F11 : Ft), f_X8_payWhatIsPutOff_C88 K G a0 j2 F_2 (f_X8_payWhatIsPutOff_L2 K G a0 k1) F11 = r → V X 5 p l e ({ frames := 3, cells := 0, slots := 0, locals := 73 } : Room) s m args below meth c Q 0 0 n K F11 G [(0, .ref a0), (1, .int (nI j2))] 88 [.int ((f_X3_nextOf K F_2 G (gp G (el G (gp G a0 4) j2) 15) (F_2 (el G (gp G a0 4) j2) 10)).2), .ref (gp G a0 8), .ref (el G (gp G a0 4) j2), .ref a0] := by
                intro F11 hf
                rw [f_X8_payWhatIsPutOff_C88] at hf
                refine v_callV (c2 := 0) (s2 := 0) (As := [.ref (el G (gp G a0 4) j2), .ref (gp G a0 8), .int ((f_X3_nextOf K F_2 G (gp G (el G (gp G a0 4) j2) 15) (F_2 (el G (gp G a0 4) j2) 10)).2)]) hC (m_X8_settle l (n := n) (K := K) (F := F11) (G := G) (a0 := a0) (a1 := (el G (gp G a0 4) j2)) (a2 := (gp G a0 8)) (x3 := ((f_X3_nextOf K F_2 G (gp G (el G (gp G a0 4) j2) 15) (F_2 (el G (gp G a0 4) j2) 10)).2)) t0 ht4 t0.2.2.2.2.2.2.2.2.2.2) q_X8_245 (by rw [t0.1]; decide) (ce_1 t0.1) (ci := 0) rfl hdV_X8_settle rfl rfl (Nat.le_of_ble_eq_true rfl) (Nat.le_of_ble_eq_true rfl) (Nat.le_of_ble_eq_true rfl) (Nat.le_of_ble_eq_true rfl) (Nat.le_of_ble_eq_true rfl) (Nat.le_of_ble_eq_true rfl) (Nat.le_of_ble_eq_true rfl) dX8_payWhatIsPutOff_88 ?_
                have KC91 : ∀ (F12 : Ft), f_X8_payWhatIsPutOff_C91 K G j2 (f_X8_payWhatIsPutOff_L2 K G a0 k1) F12 = r → V X 5 p l e ({ frames := 3, cells := 0, slots := 0, locals := 73 } : Room) s m args below meth c Q 0 0 n K F12 G [(0, .ref a0), (1, .int (nI j2))] 91 [] := by
                  intro F12 hf
                  rw [f_X8_payWhatIsPutOff_C91] at hf
                  refine v_iinc (lv' := [(1, .int (nI (j2 + 1))), (0, .ref a0)]) (v := nI (j2 + 1)) hC dX8_payWhatIsPutOff_91 1 rfl (nI_inc j2) (by decide) rfl ?_
                  refine v_goto (tgt := 2) hC dX8_payWhatIsPutOff_94 (by decide) ?_
                  refine v_sub [1, 0] rfl ?_
                  exact ihj2 (j2 + 1) F12 (by omega) hf
                exact KC91 (f_X8_settle K F11 G a0 (el G (gp G a0 4) j2) (gp G a0 8) ((f_X3_nextOf K F_2 G (gp G (el G (gp G a0 4) j2) 15) (F_2 (el G (gp G a0 4) j2) 10)).2)) hf
              refine v_sub [3, 4] rfl ?_
              exact KC88 ((f_X3_nextOf K F_2 G (gp G (el G (gp G a0 4) j2) 15) (F_2 (el G (gp G a0 4) j2) 10)).1) hf
  exact KL2 ((K (gp G a0 4)).2) 0 F (by omega) hf
def f_X8_balance (K : Kt) (F : Ft) (G : Gt) (a0 : Nat) : Int32 := ((F a0 10) + (F a0 12)) - (F a0 11)
theorem hdS_X8_balance : yX8_balance.cls ≠ "java/lang/invoke/MethodHandle" ∧ yX8_balance.cls ≠ "java/lang/invoke/VarHandle" ∧ (parseMethodDescriptor yX8_balance.desc).map (fun d => d.parameters.length) = some 0 := by decide +kernel
theorem hdV_X8_balance : yX8_balance.cls = RX8 ∧ yX8_balance.cls ≠ "java/lang/invoke/MethodHandle" ∧ yX8_balance.cls ≠ "java/lang/invoke/VarHandle" ∧ (parseMethodDescriptor yX8_balance.desc).map (fun d => d.parameters.length) = some 0 := by decide +kernel
set_option maxHeartbeats 4000000 in
set_option maxRecDepth 100000 in
theorem m_X8_balance (l : Launch) {n : Nat} {K : Kt} {F : Ft} {G : Gt} {a0 : Nat} (t0 : TMain K G a0) : Mw X l yX8_balance cX8_balance 1 (some .int) 0 0 0 0 [.ref a0] n K F G (some (.int (f_X8_balance K F G a0))) n K F G := by
  generalize hf : f_X8_balance K F G a0 = r
  refine Mw.of (lv := [(0, .ref a0)]) (by decide) (Nat.le_of_ble_eq_true rfl) rfl ?_
  intro p e s m args below meth c Q hC hin hQ
  have hC : Cx X p s m args meth c RX8 cX8_balance 1 (some .int) := hC
  rw [f_X8_balance] at hf
  refine v_aload_n hC dX8_balance_0 rfl 0 rfl ?_
  refine gf_X8_506 hC t0.1 dX8_balance_1 ?_
  refine v_aload_n hC dX8_balance_4 rfl 0 rfl ?_
  refine gf_X8_524 hC t0.1 dX8_balance_5 ?_
  refine v_iadd hC dX8_balance_8 ?_
  refine v_aload_n hC dX8_balance_9 rfl 0 rfl ?_
  refine gf_X8_300 hC t0.1 dX8_balance_10 ?_
  refine v_isub hC dX8_balance_13 ?_
  exact v_iret hC rfl hQ dX8_balance_14 (congrArg (fun z => some (Value.int z)) hf) rfl rfl rfl rfl
def f_X8_areChestsSound_J127 (K : Kt) (F : Ft) (G : Gt) (u6 : Int32) : Int32 := u6
def f_X8_areChestsSound_L73 (K : Kt) (F : Ft) (G : Gt) (a0 : Nat) : Nat → Nat → Int32 → Int32
  | 0, j73, w1_73 => if w1_73 = 0 then f_X8_areChestsSound_J127 K F G 1 else f_X8_areChestsSound_J127 K F G 0
  | k4 + 1, j73, w1_73 => if 0 ≤ (F (gp G (el G (gp G a0 1) j73) 3) 0) then (f_X8_areChestsSound_L73 K F G a0 k4) (j73 + 1) (w1_73 + (F (gp G (el G (gp G a0 1) j73) 3) 0)) else 0
def f_X8_areChestsSound_L34 (K : Kt) (F : Ft) (G : Gt) (a0 : Nat) : Nat → Nat → Int32 → Int32
  | 0, j34, w1_34 => f_X8_areChestsSound_L73 K F G a0 ((K (gp G a0 1)).2) 0 w1_34
  | k2 + 1, j34, w1_34 => (f_X8_areChestsSound_L34 K F G a0 k2) (j34 + 1) (w1_34 + (F (gp G (el G (gp G a0 2) j34) 1) 0))
def f_X8_areChestsSound_N31 (K : Kt) (F : Ft) (G : Gt) (a0 : Nat) (y1 : Int32) : Int32 := f_X8_areChestsSound_L34 K F G a0 ((K (gp G a0 2)).2) 0 y1
def f_X8_areChestsSound (K : Kt) (F : Ft) (G : Gt) (a0 : Nat) : Int32 := f_X8_areChestsSound_N31 K F G a0 ((((F (gp G a0 5) 0) + (F (gp G a0 6) 0)) + (F (gp G a0 7) 0)) + (F (gp G a0 8) 0))
theorem hdS_X8_areChestsSound : yX8_areChestsSound.cls ≠ "java/lang/invoke/MethodHandle" ∧ yX8_areChestsSound.cls ≠ "java/lang/invoke/VarHandle" ∧ (parseMethodDescriptor yX8_areChestsSound.desc).map (fun d => d.parameters.length) = some 0 := by decide +kernel
theorem hdV_X8_areChestsSound : yX8_areChestsSound.cls = RX8 ∧ yX8_areChestsSound.cls ≠ "java/lang/invoke/MethodHandle" ∧ yX8_areChestsSound.cls ≠ "java/lang/invoke/VarHandle" ∧ (parseMethodDescriptor yX8_areChestsSound.desc).map (fun d => d.parameters.length) = some 0 := by decide +kernel
set_option maxHeartbeats 4000000 in
set_option maxRecDepth 100000 in
theorem m_X8_areChestsSound (l : Launch) {n : Nat} {K : Kt} {F : Ft} {G : Gt} {a0 : Nat} (t0 : TMain K G a0) : Mw X l yX8_areChestsSound cX8_areChestsSound 4 (some .boolean) 3 64 0 0 [.ref a0] n K F G (some (.int (f_X8_areChestsSound K F G a0))) n K F G := by
  generalize hf : f_X8_areChestsSound K F G a0 = r
  refine Mw.of (lv := [(0, .ref a0)]) (by decide) (Nat.le_of_ble_eq_true rfl) rfl ?_
  intro p e s m args below meth c Q hC hin hQ
  have hC : Cx X p s m args meth c RX8 cX8_areChestsSound 4 (some .boolean) := hC
  rw [f_X8_areChestsSound] at hf
  refine v_aload_n hC dX8_areChestsSound_0 rfl 0 rfl ?_
  refine gf_X8_31 hC t0.1 t0.2.2.2.2.2.2.1.1 dX8_areChestsSound_1 ?_
  refine gf_X8_129 hC t0.2.2.2.2.2.2.1.2 dX8_areChestsSound_4 ?_
  refine v_aload_n hC dX8_areChestsSound_7 rfl 0 rfl ?_
  refine gf_X8_35 hC t0.1 t0.2.2.2.2.2.2.2.1.1 dX8_areChestsSound_8 ?_
  refine gf_X8_129 hC t0.2.2.2.2.2.2.2.1.2 dX8_areChestsSound_11 ?_
  refine v_iadd hC dX8_areChestsSound_14 ?_
  refine v_aload_n hC dX8_areChestsSound_15 rfl 0 rfl ?_
  refine gf_X8_38 hC t0.1 t0.2.2.2.2.2.2.2.2.1.1 dX8_areChestsSound_16 ?_
  refine gf_X8_129 hC t0.2.2.2.2.2.2.2.2.1.2 dX8_areChestsSound_19 ?_
  refine v_iadd hC dX8_areChestsSound_22 ?_
  refine v_aload_n hC dX8_areChestsSound_23 rfl 0 rfl ?_
  refine gf_X8_41 hC t0.1 t0.2.2.2.2.2.2.2.2.2.1 dX8_areChestsSound_24 ?_
  refine gf_X8_129 hC t0.2.2.2.2.2.2.2.2.2.2 dX8_areChestsSound_27 ?_
  refine v_iadd hC dX8_areChestsSound_30 ?_
  have KN31 : ∀ (y1 : Int32), f_X8_areChestsSound_N31 K F G a0 y1 = r → V X 4 p l e ({ frames := 3, cells := 0, slots := 0, locals := 64 } : Room) s m args below meth c Q 0 0 n K F G [(0, .ref a0)] 31 [.int y1] := by
    intro y1 hf
    rw [f_X8_areChestsSound_N31] at hf
    refine v_istore_n (i := 1) (lv' := [(1, .int y1), (0, .ref a0)]) hC dX8_areChestsSound_31 rfl (by decide) rfl ?_
    refine v_iconst (v := 0) hC dX8_areChestsSound_32 (by decide) ?_
    refine v_istore_n (i := 2) (lv' := [(2, .int 0), (1, .int y1), (0, .ref a0)]) hC dX8_areChestsSound_33 rfl (by decide) rfl ?_
    refine v_sub [2, 1, 0] rfl ?_
    have KL34 : ∀ (k2 j34 : Nat) (w1_34 : Int32), j34 + k2 = (K (gp G a0 2)).2 → f_X8_areChestsSound_L34 K F G a0 k2 j34 w1_34 = r → V X 4 p l e ({ frames := 3, cells := 0, slots := 0, locals := 64 } : Room) s m args below meth c Q 0 0 n K F G [(0, .ref a0), (1, .int w1_34), (2, .int (nI j34))] 34 [] := by
      intro k2
      induction k2 with
      | zero =>
        intro j34 w1_34 hj34 hf
        rw [f_X8_areChestsSound_L34] at hf
        refine v_iload_n hC dX8_areChestsSound_34 rfl 2 rfl ?_
        refine v_aload_n hC dX8_areChestsSound_35 rfl 0 rfl ?_
        refine gf_X8_19 hC t0.1 t0.2.2.2.1.1 dX8_areChestsSound_36 ?_
        refine v_callV (c2 := 0) (s2 := 0) (As := []) hC (m_Jx4a65c_size_8abf5 l t0.2.2.2.1.2.1) q_X8_89 (by rw [t0.2.2.2.1.2.1]; decide) (ce_10 t0.2.2.2.1.2.1) (ci := 9) rfl hdV_Jx4a65c_size_8abf5 rfl rfl (Nat.le_of_ble_eq_true rfl) (Nat.le_of_ble_eq_true rfl) (Nat.le_of_ble_eq_true rfl) (Nat.le_of_ble_eq_true rfl) (Nat.le_of_ble_eq_true rfl) (Nat.le_of_ble_eq_true rfl) (Nat.le_of_ble_eq_true rfl) dX8_areChestsSound_39 ?_
        refine v_icmp_ge (tgt := 71) hC dX8_areChestsSound_42 (by decide) (fun c3 => ?_) (fun c3 => absurd (lp_z hj34) c3)
        refine v_iconst (v := 0) hC dX8_areChestsSound_71 (by decide) ?_
        refine v_istore_n (i := 2) (lv' := [(2, .int 0), (0, .ref a0), (1, .int w1_34)]) hC dX8_areChestsSound_72 rfl (by decide) rfl ?_
        refine v_sub [1, 2, 0] rfl ?_
        have KL73 : ∀ (k4 j73 : Nat) (w1_73 : Int32), j73 + k4 = (K (gp G a0 1)).2 → f_X8_areChestsSound_L73 K F G a0 k4 j73 w1_73 = r → V X 4 p l e ({ frames := 3, cells := 0, slots := 0, locals := 64 } : Room) s m args below meth c Q 0 0 n K F G [(0, .ref a0), (1, .int w1_73), (2, .int (nI j73))] 73 [] := by
          intro k4
          induction k4 with
          | zero =>
            intro j73 w1_73 hj73 hf
            rw [f_X8_areChestsSound_L73] at hf
            refine v_iload_n hC dX8_areChestsSound_73 rfl 2 rfl ?_
            refine v_aload_n hC dX8_areChestsSound_74 rfl 0 rfl ?_
            refine gf_X8_16 hC t0.1 t0.2.2.1.1 dX8_areChestsSound_75 ?_
            refine v_callV (c2 := 0) (s2 := 0) (As := []) hC (m_Jx4a65c_size_8abf5 l t0.2.2.1.2.1) q_X8_89 (by rw [t0.2.2.1.2.1]; decide) (ce_10 t0.2.2.1.2.1) (ci := 9) rfl hdV_Jx4a65c_size_8abf5 rfl rfl (Nat.le_of_ble_eq_true rfl) (Nat.le_of_ble_eq_true rfl) (Nat.le_of_ble_eq_true rfl) (Nat.le_of_ble_eq_true rfl) (Nat.le_of_ble_eq_true rfl) (Nat.le_of_ble_eq_true rfl) (Nat.le_of_ble_eq_true rfl) dX8_areChestsSound_78 ?_
            refine v_icmp_ge (tgt := 118) hC dX8_areChestsSound_81 (by decide) (fun c5 => ?_) (fun c5 => absurd (lp_z hj73) c5)
            refine v_iload_n hC dX8_areChestsSound_118 rfl 1 rfl ?_
            have KJ127 : ∀ (u6 : Int32) (tu6 : u6 = 0 ∨ u6 = 1), f_X8_areChestsSound_J127 K F G u6 = r → V X 4 p l e ({ frames := 3, cells := 0, slots := 0, locals := 64 } : Room) s m args below meth c Q 0 0 n K F G [] 127 [.int u6] := by
              intro u6 tu6 hf
              rw [f_X8_areChestsSound_J127] at hf
              exact v_zret (ty := .boolean) hC rfl (zz_of tu6) hQ dX8_areChestsSound_127 (congrArg (fun z => some (Value.int z)) hf) rfl rfl rfl rfl
            refine v_if_ne (tgt := 126) hC dX8_areChestsSound_119 (by decide) (fun c7 => ?_) (fun c7 => ?_)
            · rw [if_neg c7] at hf
              refine v_iconst (v := 0) hC dX8_areChestsSound_126 (by decide) ?_
              refine v_sub [] rfl ?_
              exact KJ127 0 (Or.inl rfl) hf
            · rw [if_pos c7] at hf
              refine v_iconst (v := 1) hC dX8_areChestsSound_122 (by decide) ?_
              refine v_goto (tgt := 127) hC dX8_areChestsSound_123 (by decide) ?_
              refine v_sub [] rfl ?_
              exact KJ127 1 (Or.inr rfl) hf
          | succ k4 ihj73 =>
            intro j73 w1_73 hj73 hf
            rw [f_X8_areChestsSound_L73] at hf
            refine v_iload_n hC dX8_areChestsSound_73 rfl 2 rfl ?_
            refine v_aload_n hC dX8_areChestsSound_74 rfl 0 rfl ?_
            refine gf_X8_16 hC t0.1 t0.2.2.1.1 dX8_areChestsSound_75 ?_
            refine v_callV (c2 := 0) (s2 := 0) (As := []) hC (m_Jx4a65c_size_8abf5 l t0.2.2.1.2.1) q_X8_89 (by rw [t0.2.2.1.2.1]; decide) (ce_10 t0.2.2.1.2.1) (ci := 9) rfl hdV_Jx4a65c_size_8abf5 rfl rfl (Nat.le_of_ble_eq_true rfl) (Nat.le_of_ble_eq_true rfl) (Nat.le_of_ble_eq_true rfl) (Nat.le_of_ble_eq_true rfl) (Nat.le_of_ble_eq_true rfl) (Nat.le_of_ble_eq_true rfl) (Nat.le_of_ble_eq_true rfl) dX8_areChestsSound_78 ?_
            refine v_icmp_ge (tgt := 118) hC dX8_areChestsSound_81 (by decide) (fun c8 => absurd c8 (lp_s hj73 t0.2.2.1.2.lt)) (fun c8 => ?_)
            refine v_aload_n hC dX8_areChestsSound_84 rfl 0 rfl ?_
            refine gf_X8_16 hC t0.1 t0.2.2.1.1 dX8_areChestsSound_85 ?_
            refine v_iload_n hC dX8_areChestsSound_88 rfl 2 rfl ?_
            refine v_callV (c2 := 0) (s2 := 0) (As := [.int (nI j73)]) hC (m_Jx4a65c_get_915e3 l t0.2.2.1.2 (i := j73) (by omega)) q_X8_306 (by rw [t0.2.2.1.2.1]; decide) (ce_10 t0.2.2.1.2.1) (ci := 9) rfl hdV_Jx4a65c_get_915e3 rfl rfl (Nat.le_of_ble_eq_true rfl) (Nat.le_of_ble_eq_true rfl) (Nat.le_of_ble_eq_true rfl) (Nat.le_of_ble_eq_true rfl) (Nat.le_of_ble_eq_true rfl) (Nat.le_of_ble_eq_true rfl) (Nat.le_of_ble_eq_true rfl) dX8_areChestsSound_89 ?_
            have ht9 : TBuyer K G (el G (gp G a0 1) j73) := t0.2.2.1.2.el (i := j73) (by omega)
            refine v_cast hC (by rw [ht9.1]; decide) (ce_4 ht9.1) (ci := 3) rfl aw_376 dX8_areChestsSound_92 ?_
            refine gf_X8_79 hC ht9.1 ht9.2.2.1 dX8_areChestsSound_95 ?_
            refine gf_X8_129 hC ht9.2.2.2 dX8_areChestsSound_98 ?_
            refine v_istore_n (i := 3) (lv' := [(3, .int (F (gp G (el G (gp G a0 1) j73) 3) 0)), (0, .ref a0), (1, .int w1_73), (2, .int (nI j73))]) hC dX8_areChestsSound_101 rfl (by decide) rfl ?_
            refine v_iload_n hC dX8_areChestsSound_102 rfl 0 rfl ?_
            refine v_if_ge (tgt := 108) hC dX8_areChestsSound_103 (by decide) (fun c10 => ?_) (fun c10 => ?_)
            · rw [if_pos c10] at hf
              refine v_iload_n hC dX8_areChestsSound_108 rfl 2 rfl ?_
              refine v_iload_n hC dX8_areChestsSound_109 rfl 0 rfl ?_
              refine v_iadd hC dX8_areChestsSound_110 ?_
              refine v_istore_n (i := 1) (lv' := [(1, .int (w1_73 + (F (gp G (el G (gp G a0 1) j73) 3) 0))), (3, .int (F (gp G (el G (gp G a0 1) j73) 3) 0)), (0, .ref a0), (2, .int (nI j73))]) hC dX8_areChestsSound_111 rfl (by decide) rfl ?_
              refine v_iinc (lv' := [(2, .int (nI (j73 + 1))), (1, .int (w1_73 + (F (gp G (el G (gp G a0 1) j73) 3) 0))), (3, .int (F (gp G (el G (gp G a0 1) j73) 3) 0)), (0, .ref a0)]) (v := nI (j73 + 1)) hC dX8_areChestsSound_112 3 rfl (nI_inc j73) (by decide) rfl ?_
              refine v_goto (tgt := 73) hC dX8_areChestsSound_115 (by decide) ?_
              refine v_sub [3, 1, 0] rfl ?_
              exact ihj73 (j73 + 1) (w1_73 + (F (gp G (el G (gp G a0 1) j73) 3) 0)) (by omega) hf
            · rw [if_neg c10] at hf
              refine v_iconst (v := 0) hC dX8_areChestsSound_106 (by decide) ?_
              exact v_zret (ty := .boolean) hC rfl rfl hQ dX8_areChestsSound_107 (congrArg (fun z => some (Value.int z)) hf) rfl rfl rfl rfl
        exact KL73 ((K (gp G a0 1)).2) 0 w1_34 (by omega) hf
      | succ k2 ihj34 =>
        intro j34 w1_34 hj34 hf
        rw [f_X8_areChestsSound_L34] at hf
        refine v_iload_n hC dX8_areChestsSound_34 rfl 2 rfl ?_
        refine v_aload_n hC dX8_areChestsSound_35 rfl 0 rfl ?_
        refine gf_X8_19 hC t0.1 t0.2.2.2.1.1 dX8_areChestsSound_36 ?_
        refine v_callV (c2 := 0) (s2 := 0) (As := []) hC (m_Jx4a65c_size_8abf5 l t0.2.2.2.1.2.1) q_X8_89 (by rw [t0.2.2.2.1.2.1]; decide) (ce_10 t0.2.2.2.1.2.1) (ci := 9) rfl hdV_Jx4a65c_size_8abf5 rfl rfl (Nat.le_of_ble_eq_true rfl) (Nat.le_of_ble_eq_true rfl) (Nat.le_of_ble_eq_true rfl) (Nat.le_of_ble_eq_true rfl) (Nat.le_of_ble_eq_true rfl) (Nat.le_of_ble_eq_true rfl) (Nat.le_of_ble_eq_true rfl) dX8_areChestsSound_39 ?_
        refine v_icmp_ge (tgt := 71) hC dX8_areChestsSound_42 (by decide) (fun c11 => absurd c11 (lp_s hj34 t0.2.2.2.1.2.lt)) (fun c11 => ?_)
        refine v_iload_n hC dX8_areChestsSound_45 rfl 1 rfl ?_
        refine v_aload_n hC dX8_areChestsSound_46 rfl 0 rfl ?_
        refine gf_X8_19 hC t0.1 t0.2.2.2.1.1 dX8_areChestsSound_47 ?_
        refine v_iload_n hC dX8_areChestsSound_50 rfl 2 rfl ?_
        refine v_callV (c2 := 0) (s2 := 0) (As := [.int (nI j34)]) hC (m_Jx4a65c_get_915e3 l t0.2.2.2.1.2 (i := j34) (by omega)) q_X8_306 (by rw [t0.2.2.2.1.2.1]; decide) (ce_10 t0.2.2.2.1.2.1) (ci := 9) rfl hdV_Jx4a65c_get_915e3 rfl rfl (Nat.le_of_ble_eq_true rfl) (Nat.le_of_ble_eq_true rfl) (Nat.le_of_ble_eq_true rfl) (Nat.le_of_ble_eq_true rfl) (Nat.le_of_ble_eq_true rfl) (Nat.le_of_ble_eq_true rfl) (Nat.le_of_ble_eq_true rfl) dX8_areChestsSound_51 ?_
        have ht12 : TExp K G (el G (gp G a0 2) j34) := t0.2.2.2.1.2.el (i := j34) (by omega)
        refine v_cast hC (by rw [ht12.1]; decide) (ce_5 ht12.1) (ci := 4) rfl aw_363 dX8_areChestsSound_54 ?_
        refine gf_X8_292 hC ht12.1 ht12.2.1 dX8_areChestsSound_57 ?_
        refine gf_X8_129 hC ht12.2.2 dX8_areChestsSound_60 ?_
        refine v_iadd hC dX8_areChestsSound_63 ?_
        refine v_istore_n (i := 1) (lv' := [(1, .int (w1_34 + (F (gp G (el G (gp G a0 2) j34) 1) 0))), (0, .ref a0), (2, .int (nI j34))]) hC dX8_areChestsSound_64 rfl (by decide) rfl ?_
        refine v_iinc (lv' := [(2, .int (nI (j34 + 1))), (1, .int (w1_34 + (F (gp G (el G (gp G a0 2) j34) 1) 0))), (0, .ref a0)]) (v := nI (j34 + 1)) hC dX8_areChestsSound_65 2 rfl (nI_inc j34) (by decide) rfl ?_
        refine v_goto (tgt := 34) hC dX8_areChestsSound_68 (by decide) ?_
        refine v_sub [2, 1, 0] rfl ?_
        exact ihj34 (j34 + 1) (w1_34 + (F (gp G (el G (gp G a0 2) j34) 1) 0)) (by omega) hf
    exact KL34 ((K (gp G a0 2)).2) 0 y1 (by omega) hf
  exact KN31 ((((F (gp G a0 5) 0) + (F (gp G a0 6) 0)) + (F (gp G a0 7) 0)) + (F (gp G a0 8) 0)) hf
def f_X8_reachedFrom_J73 (K : Kt) (F : Ft) (G : Gt) (j22 : Nat) (rec22 : (Nat → Int32 → Int32 → Int32)) (u8 : Int32) (u9 : Int32) : Int32 := rec22 (j22 + 1) u8 u9
def f_X8_reachedFrom_L22 (K : Kt) (F : Ft) (G : Gt) (a0 : Nat) (j7 : Nat) (rec7 : (Nat → Int32 → Int32 → Int32)) : Nat → Nat → Int32 → Int32 → Int32
  | 0, j22, w2_22, w3_22 => rec7 (j7 + 1) w2_22 w3_22
  | k4 + 1, j22, w2_22, w3_22 => if ((f_X4_suppliers K F G (el G (gp G a0 2) j22)) &&& w2_22) = 0 then f_X8_reachedFrom_J73 K F G j22 (f_X8_reachedFrom_L22 K F G a0 j7 rec7 k4) w2_22 w3_22 else f_X8_reachedFrom_J73 K F G j22 (f_X8_reachedFrom_L22 K F G a0 j7 rec7 k4) (w2_22 ||| (F (el G (gp G a0 2) j22) 4)) (w3_22 ||| (1 <<< ((nI j22) &&& 31)))
def f_X8_reachedFrom_L7 (K : Kt) (F : Ft) (G : Gt) (a0 : Nat) : Nat → Nat → Int32 → Int32 → Int32
  | 0, j7, w2_7, w3_7 => w3_7
  | k1 + 1, j7, w2_7, w3_7 => f_X8_reachedFrom_L22 K F G a0 j7 (f_X8_reachedFrom_L7 K F G a0 k1) ((K (gp G a0 2)).2) 0 w2_7 w3_7
def f_X8_reachedFrom (K : Kt) (F : Ft) (G : Gt) (a0 : Nat) (x1 : Int32) : Int32 := f_X8_reachedFrom_L7 K F G a0 ((K (gp G a0 2)).2) 0 x1 0
theorem hdS_X8_reachedFrom : yX8_reachedFrom.cls ≠ "java/lang/invoke/MethodHandle" ∧ yX8_reachedFrom.cls ≠ "java/lang/invoke/VarHandle" ∧ (parseMethodDescriptor yX8_reachedFrom.desc).map (fun d => d.parameters.length) = some 1 := by decide +kernel
theorem hdV_X8_reachedFrom : yX8_reachedFrom.cls = RX8 ∧ yX8_reachedFrom.cls ≠ "java/lang/invoke/MethodHandle" ∧ yX8_reachedFrom.cls ≠ "java/lang/invoke/VarHandle" ∧ (parseMethodDescriptor yX8_reachedFrom.desc).map (fun d => d.parameters.length) = some 1 := by decide +kernel
set_option maxHeartbeats 4000000 in
set_option maxRecDepth 100000 in
theorem m_X8_reachedFrom (l : Launch) {n : Nat} {K : Kt} {F : Ft} {G : Gt} {a0 : Nat} {x1 : Int32} (t0 : TMain K G a0) : Mw X l yX8_reachedFrom cX8_reachedFrom 7 (some .int) 3 64 0 0 [.ref a0, .int x1] n K F G (some (.int (f_X8_reachedFrom K F G a0 x1))) n K F G := by
  generalize hf : f_X8_reachedFrom K F G a0 x1 = r
  refine Mw.of (lv := [(0, .ref a0), (1, .int x1)]) (by decide) (Nat.le_of_ble_eq_true rfl) rfl ?_
  intro p e s m args below meth c Q hC hin hQ
  have hC : Cx X p s m args meth c RX8 cX8_reachedFrom 7 (some .int) := hC
  rw [f_X8_reachedFrom] at hf
  refine v_iload_n hC dX8_reachedFrom_0 rfl 1 rfl ?_
  refine v_istore_n (i := 2) (lv' := [(2, .int x1), (0, .ref a0), (1, .int x1)]) hC dX8_reachedFrom_1 rfl (by decide) rfl ?_
  refine v_iconst (v := 0) hC dX8_reachedFrom_2 (by decide) ?_
  refine v_istore_n (i := 3) (lv' := [(3, .int 0), (2, .int x1), (0, .ref a0), (1, .int x1)]) hC dX8_reachedFrom_3 rfl (by decide) rfl ?_
  refine v_iconst (v := 0) hC dX8_reachedFrom_4 (by decide) ?_
  refine v_istore (i := 4) (lv' := [(4, .int 0), (3, .int 0), (2, .int x1), (0, .ref a0), (1, .int x1)]) hC dX8_reachedFrom_5 (by decide) rfl ?_
  refine v_sub [3, 2, 1, 0] rfl ?_
  have KL7 : ∀ (k1 j7 : Nat) (w2_7 : Int32) (w3_7 : Int32), j7 + k1 = (K (gp G a0 2)).2 → f_X8_reachedFrom_L7 K F G a0 k1 j7 w2_7 w3_7 = r → V X 7 p l e ({ frames := 3, cells := 0, slots := 0, locals := 64 } : Room) s m args below meth c Q 0 0 n K F G [(0, .ref a0), (2, .int w2_7), (3, .int w3_7), (4, .int (nI j7))] 7 [] := by
    intro k1
    induction k1 with
    | zero =>
      intro j7 w2_7 w3_7 hj7 hf
      rw [f_X8_reachedFrom_L7] at hf
      refine v_iload hC dX8_reachedFrom_7 3 rfl ?_
      refine v_aload_n hC dX8_reachedFrom_9 rfl 0 rfl ?_
      refine gf_X8_19 hC t0.1 t0.2.2.2.1.1 dX8_reachedFrom_10 ?_
      refine v_callV (c2 := 0) (s2 := 0) (As := []) hC (m_Jx4a65c_size_8abf5 l t0.2.2.2.1.2.1) q_X8_89 (by rw [t0.2.2.2.1.2.1]; decide) (ce_10 t0.2.2.2.1.2.1) (ci := 9) rfl hdV_Jx4a65c_size_8abf5 rfl rfl (Nat.le_of_ble_eq_true rfl) (Nat.le_of_ble_eq_true rfl) (Nat.le_of_ble_eq_true rfl) (Nat.le_of_ble_eq_true rfl) (Nat.le_of_ble_eq_true rfl) (Nat.le_of_ble_eq_true rfl) (Nat.le_of_ble_eq_true rfl) dX8_reachedFrom_13 ?_
      refine v_icmp_ge (tgt := 85) hC dX8_reachedFrom_16 (by decide) (fun c2 => ?_) (fun c2 => absurd (lp_z hj7) c2)
      refine v_iload_n hC dX8_reachedFrom_85 rfl 2 rfl ?_
      exact v_iret hC rfl hQ dX8_reachedFrom_86 (congrArg (fun z => some (Value.int z)) hf) rfl rfl rfl rfl
    | succ k1 ihj7 =>
      intro j7 w2_7 w3_7 hj7 hf
      rw [f_X8_reachedFrom_L7] at hf
      refine v_iload hC dX8_reachedFrom_7 3 rfl ?_
      refine v_aload_n hC dX8_reachedFrom_9 rfl 0 rfl ?_
      refine gf_X8_19 hC t0.1 t0.2.2.2.1.1 dX8_reachedFrom_10 ?_
      refine v_callV (c2 := 0) (s2 := 0) (As := []) hC (m_Jx4a65c_size_8abf5 l t0.2.2.2.1.2.1) q_X8_89 (by rw [t0.2.2.2.1.2.1]; decide) (ce_10 t0.2.2.2.1.2.1) (ci := 9) rfl hdV_Jx4a65c_size_8abf5 rfl rfl (Nat.le_of_ble_eq_true rfl) (Nat.le_of_ble_eq_true rfl) (Nat.le_of_ble_eq_true rfl) (Nat.le_of_ble_eq_true rfl) (Nat.le_of_ble_eq_true rfl) (Nat.le_of_ble_eq_true rfl) (Nat.le_of_ble_eq_true rfl) dX8_reachedFrom_13 ?_
      refine v_icmp_ge (tgt := 85) hC dX8_reachedFrom_16 (by decide) (fun c3 => absurd c3 (lp_s hj7 t0.2.2.2.1.2.lt)) (fun c3 => ?_)
      refine v_iconst (v := 0) hC dX8_reachedFrom_19 (by decide) ?_
      refine v_istore (i := 5) (lv' := [(5, .int 0), (0, .ref a0), (2, .int w2_7), (3, .int w3_7), (4, .int (nI j7))]) hC dX8_reachedFrom_20 (by decide) rfl ?_
      refine v_sub [1, 2, 3, 4, 0] rfl ?_
      have KL22 : ∀ (k4 j22 : Nat) (w2_22 : Int32) (w3_22 : Int32), j22 + k4 = (K (gp G a0 2)).2 → f_X8_reachedFrom_L22 K F G a0 j7 (f_X8_reachedFrom_L7 K F G a0 k1) k4 j22 w2_22 w3_22 = r → V X 7 p l e ({ frames := 3, cells := 0, slots := 0, locals := 64 } : Room) s m args below meth c Q 0 0 n K F G [(0, .ref a0), (2, .int w2_22), (3, .int w3_22), (4, .int (nI j7)), (5, .int (nI j22))] 22 [] := by
        intro k4
        induction k4 with
        | zero =>
          intro j22 w2_22 w3_22 hj22 hf
          rw [f_X8_reachedFrom_L22] at hf
          refine v_iload hC dX8_reachedFrom_22 4 rfl ?_
          refine v_aload_n hC dX8_reachedFrom_24 rfl 0 rfl ?_
          refine gf_X8_19 hC t0.1 t0.2.2.2.1.1 dX8_reachedFrom_25 ?_
          refine v_callV (c2 := 0) (s2 := 0) (As := []) hC (m_Jx4a65c_size_8abf5 l t0.2.2.2.1.2.1) q_X8_89 (by rw [t0.2.2.2.1.2.1]; decide) (ce_10 t0.2.2.2.1.2.1) (ci := 9) rfl hdV_Jx4a65c_size_8abf5 rfl rfl (Nat.le_of_ble_eq_true rfl) (Nat.le_of_ble_eq_true rfl) (Nat.le_of_ble_eq_true rfl) (Nat.le_of_ble_eq_true rfl) (Nat.le_of_ble_eq_true rfl) (Nat.le_of_ble_eq_true rfl) (Nat.le_of_ble_eq_true rfl) dX8_reachedFrom_28 ?_
          refine v_icmp_ge (tgt := 79) hC dX8_reachedFrom_31 (by decide) (fun c5 => ?_) (fun c5 => absurd (lp_z hj22) c5)
          refine v_iinc (lv' := [(4, .int (nI (j7 + 1))), (0, .ref a0), (2, .int w2_22), (3, .int w3_22), (5, .int (nI j22))]) (v := nI (j7 + 1)) hC dX8_reachedFrom_79 3 rfl (nI_inc j7) (by decide) rfl ?_
          refine v_goto (tgt := 7) hC dX8_reachedFrom_82 (by decide) ?_
          refine v_sub [1, 2, 3, 0] rfl ?_
          exact ihj7 (j7 + 1) w2_22 w3_22 (by omega) hf
        | succ k4 ihj22 =>
          intro j22 w2_22 w3_22 hj22 hf
          rw [f_X8_reachedFrom_L22] at hf
          refine v_iload hC dX8_reachedFrom_22 4 rfl ?_
          refine v_aload_n hC dX8_reachedFrom_24 rfl 0 rfl ?_
          refine gf_X8_19 hC t0.1 t0.2.2.2.1.1 dX8_reachedFrom_25 ?_
          refine v_callV (c2 := 0) (s2 := 0) (As := []) hC (m_Jx4a65c_size_8abf5 l t0.2.2.2.1.2.1) q_X8_89 (by rw [t0.2.2.2.1.2.1]; decide) (ce_10 t0.2.2.2.1.2.1) (ci := 9) rfl hdV_Jx4a65c_size_8abf5 rfl rfl (Nat.le_of_ble_eq_true rfl) (Nat.le_of_ble_eq_true rfl) (Nat.le_of_ble_eq_true rfl) (Nat.le_of_ble_eq_true rfl) (Nat.le_of_ble_eq_true rfl) (Nat.le_of_ble_eq_true rfl) (Nat.le_of_ble_eq_true rfl) dX8_reachedFrom_28 ?_
          refine v_icmp_ge (tgt := 79) hC dX8_reachedFrom_31 (by decide) (fun c6 => absurd c6 (lp_s hj22 t0.2.2.2.1.2.lt)) (fun c6 => ?_)
          refine v_aload_n hC dX8_reachedFrom_34 rfl 0 rfl ?_
          refine gf_X8_19 hC t0.1 t0.2.2.2.1.1 dX8_reachedFrom_35 ?_
          refine v_iload hC dX8_reachedFrom_38 4 rfl ?_
          refine v_callV (c2 := 0) (s2 := 0) (As := [.int (nI j22)]) hC (m_Jx4a65c_get_915e3 l t0.2.2.2.1.2 (i := j22) (by omega)) q_X8_306 (by rw [t0.2.2.2.1.2.1]; decide) (ce_10 t0.2.2.2.1.2.1) (ci := 9) rfl hdV_Jx4a65c_get_915e3 rfl rfl (Nat.le_of_ble_eq_true rfl) (Nat.le_of_ble_eq_true rfl) (Nat.le_of_ble_eq_true rfl) (Nat.le_of_ble_eq_true rfl) (Nat.le_of_ble_eq_true rfl) (Nat.le_of_ble_eq_true rfl) (Nat.le_of_ble_eq_true rfl) dX8_reachedFrom_40 ?_
          have ht7 : TExp K G (el G (gp G a0 2) j22) := t0.2.2.2.1.2.el (i := j22) (by omega)
          refine v_cast hC (by rw [ht7.1]; decide) (ce_5 ht7.1) (ci := 4) rfl aw_363 dX8_reachedFrom_43 ?_
          refine v_astore (i := 6) (lv' := [(6, .ref (el G (gp G a0 2) j22)), (0, .ref a0), (2, .int w2_22), (3, .int w3_22), (4, .int (nI j7)), (5, .int (nI j22))]) hC dX8_reachedFrom_46 (by decide) rfl ?_
          refine v_aload hC dX8_reachedFrom_48 0 rfl ?_
          refine v_callV (c2 := 0) (s2 := 0) (As := []) hC (m_X4_suppliers l (n := n) (K := K) (F := F) (G := G) (a0 := (el G (gp G a0 2) j22)) ht7) q_X8_536 (by rw [ht7.1]; decide) (ce_5 ht7.1) (ci := 4) rfl hdV_X4_suppliers rfl rfl (Nat.le_of_ble_eq_true rfl) (Nat.le_of_ble_eq_true rfl) (Nat.le_of_ble_eq_true rfl) (Nat.le_of_ble_eq_true rfl) (Nat.le_of_ble_eq_true rfl) (Nat.le_of_ble_eq_true rfl) (Nat.le_of_ble_eq_true rfl) dX8_reachedFrom_50 ?_
          refine v_iload_n hC dX8_reachedFrom_53 rfl 2 rfl ?_
          refine v_iand hC dX8_reachedFrom_54 ?_
          have KJ73 : ∀ (u8 : Int32) (u9 : Int32), f_X8_reachedFrom_J73 K F G j22 (f_X8_reachedFrom_L22 K F G a0 j7 (f_X8_reachedFrom_L7 K F G a0 k1) k4) u8 u9 = r → V X 7 p l e ({ frames := 3, cells := 0, slots := 0, locals := 64 } : Room) s m args below meth c Q 0 0 n K F G [(0, .ref a0), (2, .int u8), (3, .int u9), (4, .int (nI j7)), (5, .int (nI j22))] 73 [] := by
            intro u8 u9 hf
            rw [f_X8_reachedFrom_J73] at hf
            refine v_iinc (lv' := [(5, .int (nI (j22 + 1))), (0, .ref a0), (2, .int u8), (3, .int u9), (4, .int (nI j7))]) (v := nI (j22 + 1)) hC dX8_reachedFrom_73 4 rfl (nI_inc j22) (by decide) rfl ?_
            refine v_goto (tgt := 22) hC dX8_reachedFrom_76 (by decide) ?_
            refine v_sub [1, 2, 3, 4, 0] rfl ?_
            exact ihj22 (j22 + 1) u8 u9 (by omega) hf
          refine v_if_eq (tgt := 73) hC dX8_reachedFrom_55 (by decide) (fun c10 => ?_) (fun c10 => ?_)
          · rw [if_pos c10] at hf
            refine v_sub [1, 2, 3, 4, 5] rfl ?_
            exact KJ73 w2_22 w3_22 hf
          · rw [if_neg c10] at hf
            refine v_iload_n hC dX8_reachedFrom_58 rfl 3 rfl ?_
            refine v_iconst (v := 1) hC dX8_reachedFrom_59 (by decide) ?_
            refine v_iload hC dX8_reachedFrom_60 5 rfl ?_
            refine v_ishl hC dX8_reachedFrom_62 ?_
            refine v_ior hC dX8_reachedFrom_63 ?_
            refine v_istore_n (i := 3) (lv' := [(3, .int (w3_22 ||| (1 <<< ((nI j22) &&& 31)))), (6, .ref (el G (gp G a0 2) j22)), (0, .ref a0), (2, .int w2_22), (4, .int (nI j7)), (5, .int (nI j22))]) hC dX8_reachedFrom_64 rfl (by decide) rfl ?_
            refine v_iload_n hC dX8_reachedFrom_65 rfl 3 rfl ?_
            refine v_aload hC dX8_reachedFrom_66 1 rfl ?_
            refine gf_X8_228 hC ht7.1 dX8_reachedFrom_68 ?_
            refine v_ior hC dX8_reachedFrom_71 ?_
            refine v_istore_n (i := 2) (lv' := [(2, .int (w2_22 ||| (F (el G (gp G a0 2) j22) 4))), (3, .int (w3_22 ||| (1 <<< ((nI j22) &&& 31)))), (6, .ref (el G (gp G a0 2) j22)), (0, .ref a0), (4, .int (nI j7)), (5, .int (nI j22))]) hC dX8_reachedFrom_72 rfl (by decide) rfl ?_
            refine v_sub [3, 0, 1, 4, 5] rfl ?_
            exact KJ73 (w2_22 ||| (F (el G (gp G a0 2) j22) 4)) (w3_22 ||| (1 <<< ((nI j22) &&& 31))) hf
      exact KL22 ((K (gp G a0 2)).2) 0 w2_7 w3_7 (by omega) hf
  exact KL7 ((K (gp G a0 2)).2) 0 x1 0 (by omega) hf
def f_X8_isInCircle_J24 (K : Kt) (F : Ft) (G : Gt) (u1 : Int32) : Int32 := u1
def f_X8_isInCircle (K : Kt) (F : Ft) (G : Gt) (a0 : Nat) (a1 : Nat) : Int32 := if (((f_X8_reachedFrom K F G a0 (F a1 4)) >>> ((F a1 0) &&& 31)) &&& 1) = 1 then f_X8_isInCircle_J24 K F G 1 else f_X8_isInCircle_J24 K F G 0
theorem hdS_X8_isInCircle : yX8_isInCircle.cls ≠ "java/lang/invoke/MethodHandle" ∧ yX8_isInCircle.cls ≠ "java/lang/invoke/VarHandle" ∧ (parseMethodDescriptor yX8_isInCircle.desc).map (fun d => d.parameters.length) = some 1 := by decide +kernel
theorem hdV_X8_isInCircle : yX8_isInCircle.cls = RX8 ∧ yX8_isInCircle.cls ≠ "java/lang/invoke/MethodHandle" ∧ yX8_isInCircle.cls ≠ "java/lang/invoke/VarHandle" ∧ (parseMethodDescriptor yX8_isInCircle.desc).map (fun d => d.parameters.length) = some 1 := by decide +kernel
set_option maxHeartbeats 4000000 in
set_option maxRecDepth 100000 in
theorem m_X8_isInCircle (l : Launch) {n : Nat} {K : Kt} {F : Ft} {G : Gt} {a0 : Nat} {a1 : Nat} (t0 : TMain K G a0) (t1 : TExp K G a1) : Mw X l yX8_isInCircle cX8_isInCircle 2 (some .boolean) 4 90 0 0 [.ref a0, .ref a1] n K F G (some (.int (f_X8_isInCircle K F G a0 a1))) n K F G := by
  generalize hf : f_X8_isInCircle K F G a0 a1 = r
  refine Mw.of (lv := [(0, .ref a0), (1, .ref a1)]) (by decide) (Nat.le_of_ble_eq_true rfl) rfl ?_
  intro p e s m args below meth c Q hC hin hQ
  have hC : Cx X p s m args meth c RX8 cX8_isInCircle 2 (some .boolean) := hC
  rw [f_X8_isInCircle] at hf
  refine v_aload_n hC dX8_isInCircle_0 rfl 0 rfl ?_
  refine v_aload_n hC dX8_isInCircle_1 rfl 1 rfl ?_
  refine gf_X8_228 hC t1.1 dX8_isInCircle_2 ?_
  refine v_callV (c2 := 0) (s2 := 0) (As := [.int (F a1 4)]) hC (m_X8_reachedFrom l (n := n) (K := K) (F := F) (G := G) (a0 := a0) (x1 := (F a1 4)) t0) q_X8_539 (by rw [t0.1]; decide) (ce_1 t0.1) (ci := 0) rfl hdV_X8_reachedFrom rfl rfl (Nat.le_of_ble_eq_true rfl) (Nat.le_of_ble_eq_true rfl) (Nat.le_of_ble_eq_true rfl) (Nat.le_of_ble_eq_true rfl) (Nat.le_of_ble_eq_true rfl) (Nat.le_of_ble_eq_true rfl) (Nat.le_of_ble_eq_true rfl) dX8_isInCircle_5 ?_
  refine v_aload_n hC dX8_isInCircle_8 rfl 1 rfl ?_
  refine gf_X8_138 hC t1.1 dX8_isInCircle_9 ?_
  refine v_ishr hC dX8_isInCircle_12 ?_
  refine v_iconst (v := 1) hC dX8_isInCircle_13 (by decide) ?_
  refine v_iand hC dX8_isInCircle_14 ?_
  refine v_iconst (v := 1) hC dX8_isInCircle_15 (by decide) ?_
  have KJ24 : ∀ (u1 : Int32) (tu1 : u1 = 0 ∨ u1 = 1), f_X8_isInCircle_J24 K F G u1 = r → V X 2 p l e ({ frames := 4, cells := 0, slots := 0, locals := 90 } : Room) s m args below meth c Q 0 0 n K F G [] 24 [.int u1] := by
    intro u1 tu1 hf
    rw [f_X8_isInCircle_J24] at hf
    exact v_zret (ty := .boolean) hC rfl (zz_of tu1) hQ dX8_isInCircle_24 (congrArg (fun z => some (Value.int z)) hf) rfl rfl rfl rfl
  refine v_icmp_ne (tgt := 23) hC dX8_isInCircle_16 (by decide) (fun c2 => ?_) (fun c2 => ?_)
  · rw [if_neg c2] at hf
    refine v_iconst (v := 0) hC dX8_isInCircle_23 (by decide) ?_
    refine v_sub [] rfl ?_
    exact KJ24 0 (Or.inl rfl) hf
  · rw [if_pos c2] at hf
    refine v_iconst (v := 1) hC dX8_isInCircle_19 (by decide) ?_
    refine v_goto (tgt := 24) hC dX8_isInCircle_20 (by decide) ?_
    refine v_sub [] rfl ?_
    exact KJ24 1 (Or.inr rfl) hf
def f_X8_isSuspect_J37 (K : Kt) (F : Ft) (G : Gt) (u1 : Int32) : Int32 := u1
def f_X8_isSuspect (K : Kt) (F : Ft) (G : Gt) (a0 : Nat) (a1 : Nat) : Int32 := if (((f_X8_reachedFrom K F G a0 (1 <<< ((F (gp G a1 1) 0) &&& 31))) >>> ((F (gp G (gp G a1 0) 1) 0) &&& 31)) &&& 1) = 1 then f_X8_isSuspect_J37 K F G 1 else f_X8_isSuspect_J37 K F G 0
theorem hdS_X8_isSuspect : yX8_isSuspect.cls ≠ "java/lang/invoke/MethodHandle" ∧ yX8_isSuspect.cls ≠ "java/lang/invoke/VarHandle" ∧ (parseMethodDescriptor yX8_isSuspect.desc).map (fun d => d.parameters.length) = some 1 := by decide +kernel
theorem hdV_X8_isSuspect : yX8_isSuspect.cls = RX8 ∧ yX8_isSuspect.cls ≠ "java/lang/invoke/MethodHandle" ∧ yX8_isSuspect.cls ≠ "java/lang/invoke/VarHandle" ∧ (parseMethodDescriptor yX8_isSuspect.desc).map (fun d => d.parameters.length) = some 1 := by decide +kernel
set_option maxHeartbeats 4000000 in
set_option maxRecDepth 100000 in
theorem m_X8_isSuspect (l : Launch) {n : Nat} {K : Kt} {F : Ft} {G : Gt} {a0 : Nat} {a1 : Nat} (t0 : TMain K G a0) (t1 : TShip K G a1) : Mw X l yX8_isSuspect cX8_isSuspect 3 (some .boolean) 4 90 0 0 [.ref a0, .ref a1] n K F G (some (.int (f_X8_isSuspect K F G a0 a1))) n K F G := by
  generalize hf : f_X8_isSuspect K F G a0 a1 = r
  refine Mw.of (lv := [(0, .ref a0), (1, .ref a1)]) (by decide) (Nat.le_of_ble_eq_true rfl) rfl ?_
  intro p e s m args below meth c Q hC hin hQ
  have hC : Cx X p s m args meth c RX8 cX8_isSuspect 3 (some .boolean) := hC
  rw [f_X8_isSuspect] at hf
  refine v_aload_n hC dX8_isSuspect_0 rfl 0 rfl ?_
  refine v_iconst (v := 1) hC dX8_isSuspect_1 (by decide) ?_
  refine v_aload_n hC dX8_isSuspect_2 rfl 1 rfl ?_
  refine gf_X8_310 hC t1.1 t1.2.2.1.1 dX8_isSuspect_3 ?_
  refine gf_X8_123 hC t1.2.2.1.2.1 dX8_isSuspect_6 ?_
  refine v_ishl hC dX8_isSuspect_9 ?_
  refine v_callV (c2 := 0) (s2 := 0) (As := [.int (1 <<< ((F (gp G a1 1) 0) &&& 31))]) hC (m_X8_reachedFrom l (n := n) (K := K) (F := F) (G := G) (a0 := a0) (x1 := (1 <<< ((F (gp G a1 1) 0) &&& 31))) t0) q_X8_539 (by rw [t0.1]; decide) (ce_1 t0.1) (ci := 0) rfl hdV_X8_reachedFrom rfl rfl (Nat.le_of_ble_eq_true rfl) (Nat.le_of_ble_eq_true rfl) (Nat.le_of_ble_eq_true rfl) (Nat.le_of_ble_eq_true rfl) (Nat.le_of_ble_eq_true rfl) (Nat.le_of_ble_eq_true rfl) (Nat.le_of_ble_eq_true rfl) dX8_isSuspect_10 ?_
  refine v_istore_n (i := 2) (lv' := [(2, .int (f_X8_reachedFrom K F G a0 (1 <<< ((F (gp G a1 1) 0) &&& 31)))), (0, .ref a0), (1, .ref a1)]) hC dX8_isSuspect_13 rfl (by decide) rfl ?_
  refine v_iload_n hC dX8_isSuspect_14 rfl 0 rfl ?_
  refine v_aload_n hC dX8_isSuspect_15 rfl 2 rfl ?_
  refine gf_X8_274 hC t1.1 t1.2.1.1 dX8_isSuspect_16 ?_
  refine gf_X8_224 hC t1.2.1.2.1 t1.2.1.2.2.1.1 dX8_isSuspect_19 ?_
  refine gf_X8_138 hC t1.2.1.2.2.1.2.1 dX8_isSuspect_22 ?_
  refine v_ishr hC dX8_isSuspect_25 ?_
  refine v_iconst (v := 1) hC dX8_isSuspect_26 (by decide) ?_
  refine v_iand hC dX8_isSuspect_27 ?_
  refine v_iconst (v := 1) hC dX8_isSuspect_28 (by decide) ?_
  have KJ37 : ∀ (u1 : Int32) (tu1 : u1 = 0 ∨ u1 = 1), f_X8_isSuspect_J37 K F G u1 = r → V X 3 p l e ({ frames := 4, cells := 0, slots := 0, locals := 90 } : Room) s m args below meth c Q 0 0 n K F G [] 37 [.int u1] := by
    intro u1 tu1 hf
    rw [f_X8_isSuspect_J37] at hf
    exact v_zret (ty := .boolean) hC rfl (zz_of tu1) hQ dX8_isSuspect_37 (congrArg (fun z => some (Value.int z)) hf) rfl rfl rfl rfl
  refine v_icmp_ne (tgt := 36) hC dX8_isSuspect_29 (by decide) (fun c2 => ?_) (fun c2 => ?_)
  · rw [if_neg c2] at hf
    refine v_iconst (v := 0) hC dX8_isSuspect_36 (by decide) ?_
    refine v_sub [] rfl ?_
    exact KJ37 0 (Or.inl rfl) hf
  · rw [if_pos c2] at hf
    refine v_iconst (v := 1) hC dX8_isSuspect_32 (by decide) ?_
    refine v_goto (tgt := 37) hC dX8_isSuspect_33 (by decide) ?_
    refine v_sub [] rfl ?_
    exact KJ37 1 (Or.inr rfl) hf
def f_X8_countOfSuspect_J36 (K : Kt) (F : Ft) (G : Gt) (j4 : Nat) (rec4 : (Nat → Int32 → Int32)) (u5 : Int32) : Int32 := rec4 (j4 + 1) u5
def f_X8_countOfSuspect_L4 (K : Kt) (F : Ft) (G : Gt) (a0 : Nat) : Nat → Nat → Int32 → Int32
  | 0, j4, w1_4 => w1_4
  | k1 + 1, j4, w1_4 => if (f_X8_isSuspect K F G a0 (el G (gp G a0 4) j4)) = 0 then f_X8_countOfSuspect_J36 K F G j4 (f_X8_countOfSuspect_L4 K F G a0 k1) w1_4 else f_X8_countOfSuspect_J36 K F G j4 (f_X8_countOfSuspect_L4 K F G a0 k1) (w1_4 + 1)
def f_X8_countOfSuspect (K : Kt) (F : Ft) (G : Gt) (a0 : Nat) : Int32 := f_X8_countOfSuspect_L4 K F G a0 ((K (gp G a0 4)).2) 0 0
theorem hdS_X8_countOfSuspect : yX8_countOfSuspect.cls ≠ "java/lang/invoke/MethodHandle" ∧ yX8_countOfSuspect.cls ≠ "java/lang/invoke/VarHandle" ∧ (parseMethodDescriptor yX8_countOfSuspect.desc).map (fun d => d.parameters.length) = some 0 := by decide +kernel
theorem hdV_X8_countOfSuspect : yX8_countOfSuspect.cls = RX8 ∧ yX8_countOfSuspect.cls ≠ "java/lang/invoke/MethodHandle" ∧ yX8_countOfSuspect.cls ≠ "java/lang/invoke/VarHandle" ∧ (parseMethodDescriptor yX8_countOfSuspect.desc).map (fun d => d.parameters.length) = some 0 := by decide +kernel
set_option maxHeartbeats 4000000 in
set_option maxRecDepth 100000 in
theorem m_X8_countOfSuspect (l : Launch) {n : Nat} {K : Kt} {F : Ft} {G : Gt} {a0 : Nat} (t0 : TMain K G a0) : Mw X l yX8_countOfSuspect cX8_countOfSuspect 3 (some .int) 5 112 0 0 [.ref a0] n K F G (some (.int (f_X8_countOfSuspect K F G a0))) n K F G := by
  generalize hf : f_X8_countOfSuspect K F G a0 = r
  refine Mw.of (lv := [(0, .ref a0)]) (by decide) (Nat.le_of_ble_eq_true rfl) rfl ?_
  intro p e s m args below meth c Q hC hin hQ
  have hC : Cx X p s m args meth c RX8 cX8_countOfSuspect 3 (some .int) := hC
  rw [f_X8_countOfSuspect] at hf
  refine v_iconst (v := 0) hC dX8_countOfSuspect_0 (by decide) ?_
  refine v_istore_n (i := 1) (lv' := [(1, .int 0), (0, .ref a0)]) hC dX8_countOfSuspect_1 rfl (by decide) rfl ?_
  refine v_iconst (v := 0) hC dX8_countOfSuspect_2 (by decide) ?_
  refine v_istore_n (i := 2) (lv' := [(2, .int 0), (1, .int 0), (0, .ref a0)]) hC dX8_countOfSuspect_3 rfl (by decide) rfl ?_
  refine v_sub [2, 1, 0] rfl ?_
  have KL4 : ∀ (k1 j4 : Nat) (w1_4 : Int32), j4 + k1 = (K (gp G a0 4)).2 → f_X8_countOfSuspect_L4 K F G a0 k1 j4 w1_4 = r → V X 3 p l e ({ frames := 5, cells := 0, slots := 0, locals := 112 } : Room) s m args below meth c Q 0 0 n K F G [(0, .ref a0), (1, .int w1_4), (2, .int (nI j4))] 4 [] := by
    intro k1
    induction k1 with
    | zero =>
      intro j4 w1_4 hj4 hf
      rw [f_X8_countOfSuspect_L4] at hf
      refine v_iload_n hC dX8_countOfSuspect_4 rfl 2 rfl ?_
      refine v_aload_n hC dX8_countOfSuspect_5 rfl 0 rfl ?_
      refine gf_X8_25 hC t0.1 t0.2.2.2.2.2.1.1 dX8_countOfSuspect_6 ?_
      refine v_callV (c2 := 0) (s2 := 0) (As := []) hC (m_Jx4a65c_size_8abf5 l t0.2.2.2.2.2.1.2.1) q_X8_89 (by rw [t0.2.2.2.2.2.1.2.1]; decide) (ce_10 t0.2.2.2.2.2.1.2.1) (ci := 9) rfl hdV_Jx4a65c_size_8abf5 rfl rfl (Nat.le_of_ble_eq_true rfl) (Nat.le_of_ble_eq_true rfl) (Nat.le_of_ble_eq_true rfl) (Nat.le_of_ble_eq_true rfl) (Nat.le_of_ble_eq_true rfl) (Nat.le_of_ble_eq_true rfl) (Nat.le_of_ble_eq_true rfl) dX8_countOfSuspect_9 ?_
      refine v_icmp_ge (tgt := 42) hC dX8_countOfSuspect_12 (by decide) (fun c2 => ?_) (fun c2 => absurd (lp_z hj4) c2)
      refine v_iload_n hC dX8_countOfSuspect_42 rfl 1 rfl ?_
      exact v_iret hC rfl hQ dX8_countOfSuspect_43 (congrArg (fun z => some (Value.int z)) hf) rfl rfl rfl rfl
    | succ k1 ihj4 =>
      intro j4 w1_4 hj4 hf
      rw [f_X8_countOfSuspect_L4] at hf
      refine v_iload_n hC dX8_countOfSuspect_4 rfl 2 rfl ?_
      refine v_aload_n hC dX8_countOfSuspect_5 rfl 0 rfl ?_
      refine gf_X8_25 hC t0.1 t0.2.2.2.2.2.1.1 dX8_countOfSuspect_6 ?_
      refine v_callV (c2 := 0) (s2 := 0) (As := []) hC (m_Jx4a65c_size_8abf5 l t0.2.2.2.2.2.1.2.1) q_X8_89 (by rw [t0.2.2.2.2.2.1.2.1]; decide) (ce_10 t0.2.2.2.2.2.1.2.1) (ci := 9) rfl hdV_Jx4a65c_size_8abf5 rfl rfl (Nat.le_of_ble_eq_true rfl) (Nat.le_of_ble_eq_true rfl) (Nat.le_of_ble_eq_true rfl) (Nat.le_of_ble_eq_true rfl) (Nat.le_of_ble_eq_true rfl) (Nat.le_of_ble_eq_true rfl) (Nat.le_of_ble_eq_true rfl) dX8_countOfSuspect_9 ?_
      refine v_icmp_ge (tgt := 42) hC dX8_countOfSuspect_12 (by decide) (fun c3 => absurd c3 (lp_s hj4 t0.2.2.2.2.2.1.2.lt)) (fun c3 => ?_)
      refine v_aload_n hC dX8_countOfSuspect_15 rfl 0 rfl ?_
      refine v_aload_n hC dX8_countOfSuspect_16 rfl 0 rfl ?_
      refine gf_X8_25 hC t0.1 t0.2.2.2.2.2.1.1 dX8_countOfSuspect_17 ?_
      refine v_iload_n hC dX8_countOfSuspect_20 rfl 2 rfl ?_
      refine v_callV (c2 := 0) (s2 := 0) (As := [.int (nI j4)]) hC (m_Jx4a65c_get_915e3 l t0.2.2.2.2.2.1.2 (i := j4) (by omega)) q_X8_306 (by rw [t0.2.2.2.2.2.1.2.1]; decide) (ce_10 t0.2.2.2.2.2.1.2.1) (ci := 9) rfl hdV_Jx4a65c_get_915e3 rfl rfl (Nat.le_of_ble_eq_true rfl) (Nat.le_of_ble_eq_true rfl) (Nat.le_of_ble_eq_true rfl) (Nat.le_of_ble_eq_true rfl) (Nat.le_of_ble_eq_true rfl) (Nat.le_of_ble_eq_true rfl) (Nat.le_of_ble_eq_true rfl) dX8_countOfSuspect_21 ?_
      have ht4 : TShip K G (el G (gp G a0 4) j4) := t0.2.2.2.2.2.1.2.el (i := j4) (by omega)
      refine v_cast hC (by rw [ht4.1]; decide) (ce_7 ht4.1) (ci := 6) rfl aw_212 dX8_countOfSuspect_24 ?_
      refine v_callV (c2 := 0) (s2 := 0) (As := [.ref (el G (gp G a0 4) j4)]) hC (m_X8_isSuspect l (n := n) (K := K) (F := F) (G := G) (a0 := a0) (a1 := (el G (gp G a0 4) j4)) t0 ht4) q_X8_542 (by rw [t0.1]; decide) (ce_1 t0.1) (ci := 0) rfl hdV_X8_isSuspect rfl rfl (Nat.le_of_ble_eq_true rfl) (Nat.le_of_ble_eq_true rfl) (Nat.le_of_ble_eq_true rfl) (Nat.le_of_ble_eq_true rfl) (Nat.le_of_ble_eq_true rfl) (Nat.le_of_ble_eq_true rfl) (Nat.le_of_ble_eq_true rfl) dX8_countOfSuspect_27 ?_
      have KJ36 : ∀ (u5 : Int32), f_X8_countOfSuspect_J36 K F G j4 (f_X8_countOfSuspect_L4 K F G a0 k1) u5 = r → V X 3 p l e ({ frames := 5, cells := 0, slots := 0, locals := 112 } : Room) s m args below meth c Q 0 0 n K F G [(0, .ref a0), (1, .int u5), (2, .int (nI j4))] 36 [] := by
        intro u5 hf
        rw [f_X8_countOfSuspect_J36] at hf
        refine v_iinc (lv' := [(2, .int (nI (j4 + 1))), (0, .ref a0), (1, .int u5)]) (v := nI (j4 + 1)) hC dX8_countOfSuspect_36 2 rfl (nI_inc j4) (by decide) rfl ?_
        refine v_goto (tgt := 4) hC dX8_countOfSuspect_39 (by decide) ?_
        refine v_sub [1, 2, 0] rfl ?_
        exact ihj4 (j4 + 1) u5 (by omega) hf
      refine v_if_eq (tgt := 36) hC dX8_countOfSuspect_30 (by decide) (fun c6 => ?_) (fun c6 => ?_)
      · rw [if_pos c6] at hf
        exact KJ36 w1_4 hf
      · rw [if_neg c6] at hf
        refine v_iinc (lv' := [(1, .int (w1_4 + 1)), (0, .ref a0), (2, .int (nI j4))]) (v := w1_4 + 1) hC dX8_countOfSuspect_33 1 rfl rfl (by decide) rfl ?_
        refine v_sub [1, 0, 2] rfl ?_
        exact KJ36 (w1_4 + 1) hf
  exact KL4 ((K (gp G a0 4)).2) 0 0 (by omega) hf
def f_X8_debtOf_J61 (K : Kt) (F : Ft) (G : Gt) (j4 : Nat) (rec4 : (Nat → Int32 → Int32)) (u5 : Int32) : Int32 := rec4 (j4 + 1) u5
def f_X8_debtOf_L4 (K : Kt) (F : Ft) (G : Gt) (a0 : Nat) (a1 : Nat) : Nat → Nat → Int32 → Int32
  | 0, j4, w2_4 => w2_4
  | k1 + 1, j4, w2_4 => if (gp G (el G (gp G a0 4) j4) 1) = a1 then if (F (el G (gp G a0 4) j4) 5) = 0 then if (F (el G (gp G a0 4) j4) 13) = 0 then f_X8_debtOf_J61 K F G j4 (f_X8_debtOf_L4 K F G a0 a1 k1) (w2_4 + (F (el G (gp G a0 4) j4) 10)) else f_X8_debtOf_J61 K F G j4 (f_X8_debtOf_L4 K F G a0 a1 k1) w2_4 else f_X8_debtOf_J61 K F G j4 (f_X8_debtOf_L4 K F G a0 a1 k1) w2_4 else f_X8_debtOf_J61 K F G j4 (f_X8_debtOf_L4 K F G a0 a1 k1) w2_4
def f_X8_debtOf (K : Kt) (F : Ft) (G : Gt) (a0 : Nat) (a1 : Nat) : Int32 := f_X8_debtOf_L4 K F G a0 a1 ((K (gp G a0 4)).2) 0 0
theorem hdS_X8_debtOf : yX8_debtOf.cls ≠ "java/lang/invoke/MethodHandle" ∧ yX8_debtOf.cls ≠ "java/lang/invoke/VarHandle" ∧ (parseMethodDescriptor yX8_debtOf.desc).map (fun d => d.parameters.length) = some 1 := by decide +kernel
theorem hdV_X8_debtOf : yX8_debtOf.cls = RX8 ∧ yX8_debtOf.cls ≠ "java/lang/invoke/MethodHandle" ∧ yX8_debtOf.cls ≠ "java/lang/invoke/VarHandle" ∧ (parseMethodDescriptor yX8_debtOf.desc).map (fun d => d.parameters.length) = some 1 := by decide +kernel
set_option maxHeartbeats 4000000 in
set_option maxRecDepth 100000 in
theorem m_X8_debtOf (l : Launch) {n : Nat} {K : Kt} {F : Ft} {G : Gt} {a0 : Nat} {a1 : Nat} (t0 : TMain K G a0) (t1 : TBuyer K G a1) : Mw X l yX8_debtOf cX8_debtOf 5 (some .int) 3 64 0 0 [.ref a0, .ref a1] n K F G (some (.int (f_X8_debtOf K F G a0 a1))) n K F G := by
  generalize hf : f_X8_debtOf K F G a0 a1 = r
  refine Mw.of (lv := [(0, .ref a0), (1, .ref a1)]) (by decide) (Nat.le_of_ble_eq_true rfl) rfl ?_
  intro p e s m args below meth c Q hC hin hQ
  have hC : Cx X p s m args meth c RX8 cX8_debtOf 5 (some .int) := hC
  rw [f_X8_debtOf] at hf
  refine v_iconst (v := 0) hC dX8_debtOf_0 (by decide) ?_
  refine v_istore_n (i := 2) (lv' := [(2, .int 0), (0, .ref a0), (1, .ref a1)]) hC dX8_debtOf_1 rfl (by decide) rfl ?_
  refine v_iconst (v := 0) hC dX8_debtOf_2 (by decide) ?_
  refine v_istore_n (i := 3) (lv' := [(3, .int 0), (2, .int 0), (0, .ref a0), (1, .ref a1)]) hC dX8_debtOf_3 rfl (by decide) rfl ?_
  refine v_sub [2, 3, 1, 0] rfl ?_
  have KL4 : ∀ (k1 j4 : Nat) (w2_4 : Int32), j4 + k1 = (K (gp G a0 4)).2 → f_X8_debtOf_L4 K F G a0 a1 k1 j4 w2_4 = r → V X 5 p l e ({ frames := 3, cells := 0, slots := 0, locals := 64 } : Room) s m args below meth c Q 0 0 n K F G [(0, .ref a0), (1, .ref a1), (2, .int w2_4), (3, .int (nI j4))] 4 [] := by
    intro k1
    induction k1 with
    | zero =>
      intro j4 w2_4 hj4 hf
      rw [f_X8_debtOf_L4] at hf
      refine v_iload_n hC dX8_debtOf_4 rfl 3 rfl ?_
      refine v_aload_n hC dX8_debtOf_5 rfl 0 rfl ?_
      refine gf_X8_25 hC t0.1 t0.2.2.2.2.2.1.1 dX8_debtOf_6 ?_
      refine v_callV (c2 := 0) (s2 := 0) (As := []) hC (m_Jx4a65c_size_8abf5 l t0.2.2.2.2.2.1.2.1) q_X8_89 (by rw [t0.2.2.2.2.2.1.2.1]; decide) (ce_10 t0.2.2.2.2.2.1.2.1) (ci := 9) rfl hdV_Jx4a65c_size_8abf5 rfl rfl (Nat.le_of_ble_eq_true rfl) (Nat.le_of_ble_eq_true rfl) (Nat.le_of_ble_eq_true rfl) (Nat.le_of_ble_eq_true rfl) (Nat.le_of_ble_eq_true rfl) (Nat.le_of_ble_eq_true rfl) (Nat.le_of_ble_eq_true rfl) dX8_debtOf_9 ?_
      refine v_icmp_ge (tgt := 67) hC dX8_debtOf_12 (by decide) (fun c2 => ?_) (fun c2 => absurd (lp_z hj4) c2)
      refine v_iload_n hC dX8_debtOf_67 rfl 2 rfl ?_
      exact v_iret hC rfl hQ dX8_debtOf_68 (congrArg (fun z => some (Value.int z)) hf) rfl rfl rfl rfl
    | succ k1 ihj4 =>
      intro j4 w2_4 hj4 hf
      rw [f_X8_debtOf_L4] at hf
      refine v_iload_n hC dX8_debtOf_4 rfl 3 rfl ?_
      refine v_aload_n hC dX8_debtOf_5 rfl 0 rfl ?_
      refine gf_X8_25 hC t0.1 t0.2.2.2.2.2.1.1 dX8_debtOf_6 ?_
      refine v_callV (c2 := 0) (s2 := 0) (As := []) hC (m_Jx4a65c_size_8abf5 l t0.2.2.2.2.2.1.2.1) q_X8_89 (by rw [t0.2.2.2.2.2.1.2.1]; decide) (ce_10 t0.2.2.2.2.2.1.2.1) (ci := 9) rfl hdV_Jx4a65c_size_8abf5 rfl rfl (Nat.le_of_ble_eq_true rfl) (Nat.le_of_ble_eq_true rfl) (Nat.le_of_ble_eq_true rfl) (Nat.le_of_ble_eq_true rfl) (Nat.le_of_ble_eq_true rfl) (Nat.le_of_ble_eq_true rfl) (Nat.le_of_ble_eq_true rfl) dX8_debtOf_9 ?_
      refine v_icmp_ge (tgt := 67) hC dX8_debtOf_12 (by decide) (fun c3 => absurd c3 (lp_s hj4 t0.2.2.2.2.2.1.2.lt)) (fun c3 => ?_)
      refine v_aload_n hC dX8_debtOf_15 rfl 0 rfl ?_
      refine gf_X8_25 hC t0.1 t0.2.2.2.2.2.1.1 dX8_debtOf_16 ?_
      refine v_iload_n hC dX8_debtOf_19 rfl 3 rfl ?_
      refine v_callV (c2 := 0) (s2 := 0) (As := [.int (nI j4)]) hC (m_Jx4a65c_get_915e3 l t0.2.2.2.2.2.1.2 (i := j4) (by omega)) q_X8_306 (by rw [t0.2.2.2.2.2.1.2.1]; decide) (ce_10 t0.2.2.2.2.2.1.2.1) (ci := 9) rfl hdV_Jx4a65c_get_915e3 rfl rfl (Nat.le_of_ble_eq_true rfl) (Nat.le_of_ble_eq_true rfl) (Nat.le_of_ble_eq_true rfl) (Nat.le_of_ble_eq_true rfl) (Nat.le_of_ble_eq_true rfl) (Nat.le_of_ble_eq_true rfl) (Nat.le_of_ble_eq_true rfl) dX8_debtOf_20 ?_
      have ht4 : TShip K G (el G (gp G a0 4) j4) := t0.2.2.2.2.2.1.2.el (i := j4) (by omega)
      refine v_cast hC (by rw [ht4.1]; decide) (ce_7 ht4.1) (ci := 6) rfl aw_212 dX8_debtOf_23 ?_
      refine v_astore (i := 4) (lv' := [(4, .ref (el G (gp G a0 4) j4)), (0, .ref a0), (1, .ref a1), (2, .int w2_4), (3, .int (nI j4))]) hC dX8_debtOf_26 (by decide) rfl ?_
      refine v_aload hC dX8_debtOf_28 0 rfl ?_
      refine gf_X8_310 hC ht4.1 ht4.2.2.1.1 dX8_debtOf_30 ?_
      refine v_aload_n hC dX8_debtOf_33 rfl 2 rfl ?_
      have KJ61 : ∀ (u5 : Int32), f_X8_debtOf_J61 K F G j4 (f_X8_debtOf_L4 K F G a0 a1 k1) u5 = r → V X 5 p l e ({ frames := 3, cells := 0, slots := 0, locals := 64 } : Room) s m args below meth c Q 0 0 n K F G [(0, .ref a0), (1, .ref a1), (2, .int u5), (3, .int (nI j4))] 61 [] := by
        intro u5 hf
        rw [f_X8_debtOf_J61] at hf
        refine v_iinc (lv' := [(3, .int (nI (j4 + 1))), (0, .ref a0), (1, .ref a1), (2, .int u5)]) (v := nI (j4 + 1)) hC dX8_debtOf_61 3 rfl (nI_inc j4) (by decide) rfl ?_
        refine v_goto (tgt := 4) hC dX8_debtOf_64 (by decide) ?_
        refine v_sub [1, 2, 3, 0] rfl ?_
        exact ihj4 (j4 + 1) u5 (by omega) hf
      refine v_acmp_ne (tgt := 61) hC dX8_debtOf_34 (by decide) (fun c6 => ?_) (fun c6 => ?_)
      · rw [if_neg c6] at hf
        refine v_sub [1, 2, 3, 4] rfl ?_
        exact KJ61 w2_4 hf
      · rw [if_pos c6] at hf
        refine v_aload hC dX8_debtOf_37 0 rfl ?_
        refine gf_X8_320 hC ht4.1 dX8_debtOf_39 ?_
        refine v_if_ne (tgt := 61) hC dX8_debtOf_42 (by decide) (fun c7 => ?_) (fun c7 => ?_)
        · rw [if_neg c7] at hf
          refine v_sub [1, 2, 3, 4] rfl ?_
          exact KJ61 w2_4 hf
        · rw [if_pos c7] at hf
          refine v_aload hC dX8_debtOf_45 0 rfl ?_
          refine gf_X8_303 hC ht4.1 dX8_debtOf_47 ?_
          refine v_if_ne (tgt := 61) hC dX8_debtOf_50 (by decide) (fun c8 => ?_) (fun c8 => ?_)
          · rw [if_neg c8] at hf
            refine v_sub [1, 2, 3, 4] rfl ?_
            exact KJ61 w2_4 hf
          · rw [if_pos c8] at hf
            refine v_iload_n hC dX8_debtOf_53 rfl 3 rfl ?_
            refine v_aload hC dX8_debtOf_54 0 rfl ?_
            refine gf_X8_242 hC ht4.1 dX8_debtOf_56 ?_
            refine v_iadd hC dX8_debtOf_59 ?_
            refine v_istore_n (i := 2) (lv' := [(2, .int (w2_4 + (F (el G (gp G a0 4) j4) 10))), (4, .ref (el G (gp G a0 4) j4)), (0, .ref a0), (1, .ref a1), (3, .int (nI j4))]) hC dX8_debtOf_60 rfl (by decide) rfl ?_
            refine v_sub [2, 3, 0, 4] rfl ?_
            exact KJ61 (w2_4 + (F (el G (gp G a0 4) j4) 10)) hf
  exact KL4 ((K (gp G a0 4)).2) 0 0 (by omega) hf
def f_X8_countOfRunningPolicies_J48 (K : Kt) (F : Ft) (G : Gt) (j4 : Nat) (rec4 : (Nat → Int32 → Int32)) (u5 : Int32) : Int32 := rec4 (j4 + 1) u5
def f_X8_countOfRunningPolicies_L4 (K : Kt) (F : Ft) (G : Gt) (a0 : Nat) (a1 : Nat) : Nat → Nat → Int32 → Int32
  | 0, j4, w2_4 => w2_4
  | k1 + 1, j4, w2_4 => if (gp G (el G (gp G a0 3) j4) 1) = a1 then if (F (el G (gp G a0 3) j4) 6) = 0 then f_X8_countOfRunningPolicies_J48 K F G j4 (f_X8_countOfRunningPolicies_L4 K F G a0 a1 k1) (w2_4 + 1) else f_X8_countOfRunningPolicies_J48 K F G j4 (f_X8_countOfRunningPolicies_L4 K F G a0 a1 k1) w2_4 else f_X8_countOfRunningPolicies_J48 K F G j4 (f_X8_countOfRunningPolicies_L4 K F G a0 a1 k1) w2_4
def f_X8_countOfRunningPolicies (K : Kt) (F : Ft) (G : Gt) (a0 : Nat) (a1 : Nat) : Int32 := f_X8_countOfRunningPolicies_L4 K F G a0 a1 ((K (gp G a0 3)).2) 0 0
theorem hdS_X8_countOfRunningPolicies : yX8_countOfRunningPolicies.cls ≠ "java/lang/invoke/MethodHandle" ∧ yX8_countOfRunningPolicies.cls ≠ "java/lang/invoke/VarHandle" ∧ (parseMethodDescriptor yX8_countOfRunningPolicies.desc).map (fun d => d.parameters.length) = some 1 := by decide +kernel
theorem hdV_X8_countOfRunningPolicies : yX8_countOfRunningPolicies.cls = RX8 ∧ yX8_countOfRunningPolicies.cls ≠ "java/lang/invoke/MethodHandle" ∧ yX8_countOfRunningPolicies.cls ≠ "java/lang/invoke/VarHandle" ∧ (parseMethodDescriptor yX8_countOfRunningPolicies.desc).map (fun d => d.parameters.length) = some 1 := by decide +kernel
set_option maxHeartbeats 4000000 in
set_option maxRecDepth 100000 in
theorem m_X8_countOfRunningPolicies (l : Launch) {n : Nat} {K : Kt} {F : Ft} {G : Gt} {a0 : Nat} {a1 : Nat} (t0 : TMain K G a0) (t1 : TExp K G a1) : Mw X l yX8_countOfRunningPolicies cX8_countOfRunningPolicies 5 (some .int) 3 64 0 0 [.ref a0, .ref a1] n K F G (some (.int (f_X8_countOfRunningPolicies K F G a0 a1))) n K F G := by
  generalize hf : f_X8_countOfRunningPolicies K F G a0 a1 = r
  refine Mw.of (lv := [(0, .ref a0), (1, .ref a1)]) (by decide) (Nat.le_of_ble_eq_true rfl) rfl ?_
  intro p e s m args below meth c Q hC hin hQ
  have hC : Cx X p s m args meth c RX8 cX8_countOfRunningPolicies 5 (some .int) := hC
  rw [f_X8_countOfRunningPolicies] at hf
  refine v_iconst (v := 0) hC dX8_countOfRunningPolicies_0 (by decide) ?_
  refine v_istore_n (i := 2) (lv' := [(2, .int 0), (0, .ref a0), (1, .ref a1)]) hC dX8_countOfRunningPolicies_1 rfl (by decide) rfl ?_
  refine v_iconst (v := 0) hC dX8_countOfRunningPolicies_2 (by decide) ?_
  refine v_istore_n (i := 3) (lv' := [(3, .int 0), (2, .int 0), (0, .ref a0), (1, .ref a1)]) hC dX8_countOfRunningPolicies_3 rfl (by decide) rfl ?_
  refine v_sub [2, 3, 1, 0] rfl ?_
  have KL4 : ∀ (k1 j4 : Nat) (w2_4 : Int32), j4 + k1 = (K (gp G a0 3)).2 → f_X8_countOfRunningPolicies_L4 K F G a0 a1 k1 j4 w2_4 = r → V X 5 p l e ({ frames := 3, cells := 0, slots := 0, locals := 64 } : Room) s m args below meth c Q 0 0 n K F G [(0, .ref a0), (1, .ref a1), (2, .int w2_4), (3, .int (nI j4))] 4 [] := by
    intro k1
    induction k1 with
    | zero =>
      intro j4 w2_4 hj4 hf
      rw [f_X8_countOfRunningPolicies_L4] at hf
      refine v_iload_n hC dX8_countOfRunningPolicies_4 rfl 3 rfl ?_
      refine v_aload_n hC dX8_countOfRunningPolicies_5 rfl 0 rfl ?_
      refine gf_X8_22 hC t0.1 t0.2.2.2.2.1.1 dX8_countOfRunningPolicies_6 ?_
      refine v_callV (c2 := 0) (s2 := 0) (As := []) hC (m_Jx4a65c_size_8abf5 l t0.2.2.2.2.1.2.1) q_X8_89 (by rw [t0.2.2.2.2.1.2.1]; decide) (ce_10 t0.2.2.2.2.1.2.1) (ci := 9) rfl hdV_Jx4a65c_size_8abf5 rfl rfl (Nat.le_of_ble_eq_true rfl) (Nat.le_of_ble_eq_true rfl) (Nat.le_of_ble_eq_true rfl) (Nat.le_of_ble_eq_true rfl) (Nat.le_of_ble_eq_true rfl) (Nat.le_of_ble_eq_true rfl) (Nat.le_of_ble_eq_true rfl) dX8_countOfRunningPolicies_9 ?_
      refine v_icmp_ge (tgt := 54) hC dX8_countOfRunningPolicies_12 (by decide) (fun c2 => ?_) (fun c2 => absurd (lp_z hj4) c2)
      refine v_iload_n hC dX8_countOfRunningPolicies_54 rfl 2 rfl ?_
      exact v_iret hC rfl hQ dX8_countOfRunningPolicies_55 (congrArg (fun z => some (Value.int z)) hf) rfl rfl rfl rfl
    | succ k1 ihj4 =>
      intro j4 w2_4 hj4 hf
      rw [f_X8_countOfRunningPolicies_L4] at hf
      refine v_iload_n hC dX8_countOfRunningPolicies_4 rfl 3 rfl ?_
      refine v_aload_n hC dX8_countOfRunningPolicies_5 rfl 0 rfl ?_
      refine gf_X8_22 hC t0.1 t0.2.2.2.2.1.1 dX8_countOfRunningPolicies_6 ?_
      refine v_callV (c2 := 0) (s2 := 0) (As := []) hC (m_Jx4a65c_size_8abf5 l t0.2.2.2.2.1.2.1) q_X8_89 (by rw [t0.2.2.2.2.1.2.1]; decide) (ce_10 t0.2.2.2.2.1.2.1) (ci := 9) rfl hdV_Jx4a65c_size_8abf5 rfl rfl (Nat.le_of_ble_eq_true rfl) (Nat.le_of_ble_eq_true rfl) (Nat.le_of_ble_eq_true rfl) (Nat.le_of_ble_eq_true rfl) (Nat.le_of_ble_eq_true rfl) (Nat.le_of_ble_eq_true rfl) (Nat.le_of_ble_eq_true rfl) dX8_countOfRunningPolicies_9 ?_
      refine v_icmp_ge (tgt := 54) hC dX8_countOfRunningPolicies_12 (by decide) (fun c3 => absurd c3 (lp_s hj4 t0.2.2.2.2.1.2.lt)) (fun c3 => ?_)
      refine v_aload_n hC dX8_countOfRunningPolicies_15 rfl 0 rfl ?_
      refine gf_X8_22 hC t0.1 t0.2.2.2.2.1.1 dX8_countOfRunningPolicies_16 ?_
      refine v_iload_n hC dX8_countOfRunningPolicies_19 rfl 3 rfl ?_
      refine v_callV (c2 := 0) (s2 := 0) (As := [.int (nI j4)]) hC (m_Jx4a65c_get_915e3 l t0.2.2.2.2.1.2 (i := j4) (by omega)) q_X8_306 (by rw [t0.2.2.2.2.1.2.1]; decide) (ce_10 t0.2.2.2.2.1.2.1) (ci := 9) rfl hdV_Jx4a65c_get_915e3 rfl rfl (Nat.le_of_ble_eq_true rfl) (Nat.le_of_ble_eq_true rfl) (Nat.le_of_ble_eq_true rfl) (Nat.le_of_ble_eq_true rfl) (Nat.le_of_ble_eq_true rfl) (Nat.le_of_ble_eq_true rfl) (Nat.le_of_ble_eq_true rfl) dX8_countOfRunningPolicies_20 ?_
      have ht4 : TPol K G (el G (gp G a0 3) j4) := t0.2.2.2.2.1.2.el (i := j4) (by omega)
      refine v_cast hC (by rw [ht4.1]; decide) (ce_6 ht4.1) (ci := 5) rfl aw_295 dX8_countOfRunningPolicies_23 ?_
      refine v_astore (i := 4) (lv' := [(4, .ref (el G (gp G a0 3) j4)), (0, .ref a0), (1, .ref a1), (2, .int w2_4), (3, .int (nI j4))]) hC dX8_countOfRunningPolicies_26 (by decide) rfl ?_
      refine v_aload hC dX8_countOfRunningPolicies_28 0 rfl ?_
      refine gf_X8_224 hC ht4.1 ht4.2.1.1 dX8_countOfRunningPolicies_30 ?_
      refine v_aload_n hC dX8_countOfRunningPolicies_33 rfl 2 rfl ?_
      have KJ48 : ∀ (u5 : Int32), f_X8_countOfRunningPolicies_J48 K F G j4 (f_X8_countOfRunningPolicies_L4 K F G a0 a1 k1) u5 = r → V X 5 p l e ({ frames := 3, cells := 0, slots := 0, locals := 64 } : Room) s m args below meth c Q 0 0 n K F G [(0, .ref a0), (1, .ref a1), (2, .int u5), (3, .int (nI j4))] 48 [] := by
        intro u5 hf
        rw [f_X8_countOfRunningPolicies_J48] at hf
        refine v_iinc (lv' := [(3, .int (nI (j4 + 1))), (0, .ref a0), (1, .ref a1), (2, .int u5)]) (v := nI (j4 + 1)) hC dX8_countOfRunningPolicies_48 3 rfl (nI_inc j4) (by decide) rfl ?_
        refine v_goto (tgt := 4) hC dX8_countOfRunningPolicies_51 (by decide) ?_
        refine v_sub [1, 2, 3, 0] rfl ?_
        exact ihj4 (j4 + 1) u5 (by omega) hf
      refine v_acmp_ne (tgt := 48) hC dX8_countOfRunningPolicies_34 (by decide) (fun c6 => ?_) (fun c6 => ?_)
      · rw [if_neg c6] at hf
        refine v_sub [1, 2, 3, 4] rfl ?_
        exact KJ48 w2_4 hf
      · rw [if_pos c6] at hf
        refine v_aload hC dX8_countOfRunningPolicies_37 0 rfl ?_
        refine gf_X8_181 hC ht4.1 dX8_countOfRunningPolicies_39 ?_
        refine v_if_ne (tgt := 48) hC dX8_countOfRunningPolicies_42 (by decide) (fun c7 => ?_) (fun c7 => ?_)
        · rw [if_neg c7] at hf
          refine v_sub [1, 2, 3, 4] rfl ?_
          exact KJ48 w2_4 hf
        · rw [if_pos c7] at hf
          refine v_iinc (lv' := [(2, .int (w2_4 + 1)), (4, .ref (el G (gp G a0 3) j4)), (0, .ref a0), (1, .ref a1), (3, .int (nI j4))]) (v := w2_4 + 1) hC dX8_countOfRunningPolicies_45 3 rfl rfl (by decide) rfl ?_
          refine v_sub [2, 3, 0, 4] rfl ?_
          exact KJ48 (w2_4 + 1) hf
  exact KL4 ((K (gp G a0 3)).2) 0 0 (by omega) hf
def f_X8_countOfShipmentsBy_J39 (K : Kt) (F : Ft) (G : Gt) (j4 : Nat) (rec4 : (Nat → Int32 → Int32)) (u5 : Int32) : Int32 := rec4 (j4 + 1) u5
def f_X8_countOfShipmentsBy_L4 (K : Kt) (F : Ft) (G : Gt) (a0 : Nat) (a1 : Nat) : Nat → Nat → Int32 → Int32
  | 0, j4, w2_4 => w2_4
  | k1 + 1, j4, w2_4 => if (gp G (gp G (el G (gp G a0 4) j4) 0) 1) = a1 then f_X8_countOfShipmentsBy_J39 K F G j4 (f_X8_countOfShipmentsBy_L4 K F G a0 a1 k1) (w2_4 + 1) else f_X8_countOfShipmentsBy_J39 K F G j4 (f_X8_countOfShipmentsBy_L4 K F G a0 a1 k1) w2_4
def f_X8_countOfShipmentsBy (K : Kt) (F : Ft) (G : Gt) (a0 : Nat) (a1 : Nat) : Int32 := f_X8_countOfShipmentsBy_L4 K F G a0 a1 ((K (gp G a0 4)).2) 0 0
theorem hdS_X8_countOfShipmentsBy : yX8_countOfShipmentsBy.cls ≠ "java/lang/invoke/MethodHandle" ∧ yX8_countOfShipmentsBy.cls ≠ "java/lang/invoke/VarHandle" ∧ (parseMethodDescriptor yX8_countOfShipmentsBy.desc).map (fun d => d.parameters.length) = some 1 := by decide +kernel
theorem hdV_X8_countOfShipmentsBy : yX8_countOfShipmentsBy.cls = RX8 ∧ yX8_countOfShipmentsBy.cls ≠ "java/lang/invoke/MethodHandle" ∧ yX8_countOfShipmentsBy.cls ≠ "java/lang/invoke/VarHandle" ∧ (parseMethodDescriptor yX8_countOfShipmentsBy.desc).map (fun d => d.parameters.length) = some 1 := by decide +kernel
set_option maxHeartbeats 4000000 in
set_option maxRecDepth 100000 in
theorem m_X8_countOfShipmentsBy (l : Launch) {n : Nat} {K : Kt} {F : Ft} {G : Gt} {a0 : Nat} {a1 : Nat} (t0 : TMain K G a0) (t1 : TExp K G a1) : Mw X l yX8_countOfShipmentsBy cX8_countOfShipmentsBy 4 (some .int) 3 64 0 0 [.ref a0, .ref a1] n K F G (some (.int (f_X8_countOfShipmentsBy K F G a0 a1))) n K F G := by
  generalize hf : f_X8_countOfShipmentsBy K F G a0 a1 = r
  refine Mw.of (lv := [(0, .ref a0), (1, .ref a1)]) (by decide) (Nat.le_of_ble_eq_true rfl) rfl ?_
  intro p e s m args below meth c Q hC hin hQ
  have hC : Cx X p s m args meth c RX8 cX8_countOfShipmentsBy 4 (some .int) := hC
  rw [f_X8_countOfShipmentsBy] at hf
  refine v_iconst (v := 0) hC dX8_countOfShipmentsBy_0 (by decide) ?_
  refine v_istore_n (i := 2) (lv' := [(2, .int 0), (0, .ref a0), (1, .ref a1)]) hC dX8_countOfShipmentsBy_1 rfl (by decide) rfl ?_
  refine v_iconst (v := 0) hC dX8_countOfShipmentsBy_2 (by decide) ?_
  refine v_istore_n (i := 3) (lv' := [(3, .int 0), (2, .int 0), (0, .ref a0), (1, .ref a1)]) hC dX8_countOfShipmentsBy_3 rfl (by decide) rfl ?_
  refine v_sub [2, 3, 1, 0] rfl ?_
  have KL4 : ∀ (k1 j4 : Nat) (w2_4 : Int32), j4 + k1 = (K (gp G a0 4)).2 → f_X8_countOfShipmentsBy_L4 K F G a0 a1 k1 j4 w2_4 = r → V X 4 p l e ({ frames := 3, cells := 0, slots := 0, locals := 64 } : Room) s m args below meth c Q 0 0 n K F G [(0, .ref a0), (1, .ref a1), (2, .int w2_4), (3, .int (nI j4))] 4 [] := by
    intro k1
    induction k1 with
    | zero =>
      intro j4 w2_4 hj4 hf
      rw [f_X8_countOfShipmentsBy_L4] at hf
      refine v_iload_n hC dX8_countOfShipmentsBy_4 rfl 3 rfl ?_
      refine v_aload_n hC dX8_countOfShipmentsBy_5 rfl 0 rfl ?_
      refine gf_X8_25 hC t0.1 t0.2.2.2.2.2.1.1 dX8_countOfShipmentsBy_6 ?_
      refine v_callV (c2 := 0) (s2 := 0) (As := []) hC (m_Jx4a65c_size_8abf5 l t0.2.2.2.2.2.1.2.1) q_X8_89 (by rw [t0.2.2.2.2.2.1.2.1]; decide) (ce_10 t0.2.2.2.2.2.1.2.1) (ci := 9) rfl hdV_Jx4a65c_size_8abf5 rfl rfl (Nat.le_of_ble_eq_true rfl) (Nat.le_of_ble_eq_true rfl) (Nat.le_of_ble_eq_true rfl) (Nat.le_of_ble_eq_true rfl) (Nat.le_of_ble_eq_true rfl) (Nat.le_of_ble_eq_true rfl) (Nat.le_of_ble_eq_true rfl) dX8_countOfShipmentsBy_9 ?_
      refine v_icmp_ge (tgt := 45) hC dX8_countOfShipmentsBy_12 (by decide) (fun c2 => ?_) (fun c2 => absurd (lp_z hj4) c2)
      refine v_iload_n hC dX8_countOfShipmentsBy_45 rfl 2 rfl ?_
      exact v_iret hC rfl hQ dX8_countOfShipmentsBy_46 (congrArg (fun z => some (Value.int z)) hf) rfl rfl rfl rfl
    | succ k1 ihj4 =>
      intro j4 w2_4 hj4 hf
      rw [f_X8_countOfShipmentsBy_L4] at hf
      refine v_iload_n hC dX8_countOfShipmentsBy_4 rfl 3 rfl ?_
      refine v_aload_n hC dX8_countOfShipmentsBy_5 rfl 0 rfl ?_
      refine gf_X8_25 hC t0.1 t0.2.2.2.2.2.1.1 dX8_countOfShipmentsBy_6 ?_
      refine v_callV (c2 := 0) (s2 := 0) (As := []) hC (m_Jx4a65c_size_8abf5 l t0.2.2.2.2.2.1.2.1) q_X8_89 (by rw [t0.2.2.2.2.2.1.2.1]; decide) (ce_10 t0.2.2.2.2.2.1.2.1) (ci := 9) rfl hdV_Jx4a65c_size_8abf5 rfl rfl (Nat.le_of_ble_eq_true rfl) (Nat.le_of_ble_eq_true rfl) (Nat.le_of_ble_eq_true rfl) (Nat.le_of_ble_eq_true rfl) (Nat.le_of_ble_eq_true rfl) (Nat.le_of_ble_eq_true rfl) (Nat.le_of_ble_eq_true rfl) dX8_countOfShipmentsBy_9 ?_
      refine v_icmp_ge (tgt := 45) hC dX8_countOfShipmentsBy_12 (by decide) (fun c3 => absurd c3 (lp_s hj4 t0.2.2.2.2.2.1.2.lt)) (fun c3 => ?_)
      refine v_aload_n hC dX8_countOfShipmentsBy_15 rfl 0 rfl ?_
      refine gf_X8_25 hC t0.1 t0.2.2.2.2.2.1.1 dX8_countOfShipmentsBy_16 ?_
      refine v_iload_n hC dX8_countOfShipmentsBy_19 rfl 3 rfl ?_
      refine v_callV (c2 := 0) (s2 := 0) (As := [.int (nI j4)]) hC (m_Jx4a65c_get_915e3 l t0.2.2.2.2.2.1.2 (i := j4) (by omega)) q_X8_306 (by rw [t0.2.2.2.2.2.1.2.1]; decide) (ce_10 t0.2.2.2.2.2.1.2.1) (ci := 9) rfl hdV_Jx4a65c_get_915e3 rfl rfl (Nat.le_of_ble_eq_true rfl) (Nat.le_of_ble_eq_true rfl) (Nat.le_of_ble_eq_true rfl) (Nat.le_of_ble_eq_true rfl) (Nat.le_of_ble_eq_true rfl) (Nat.le_of_ble_eq_true rfl) (Nat.le_of_ble_eq_true rfl) dX8_countOfShipmentsBy_20 ?_
      have ht4 : TShip K G (el G (gp G a0 4) j4) := t0.2.2.2.2.2.1.2.el (i := j4) (by omega)
      refine v_cast hC (by rw [ht4.1]; decide) (ce_7 ht4.1) (ci := 6) rfl aw_212 dX8_countOfShipmentsBy_23 ?_
      refine gf_X8_274 hC ht4.1 ht4.2.1.1 dX8_countOfShipmentsBy_26 ?_
      refine gf_X8_224 hC ht4.2.1.2.1 ht4.2.1.2.2.1.1 dX8_countOfShipmentsBy_29 ?_
      refine v_aload_n hC dX8_countOfShipmentsBy_32 rfl 1 rfl ?_
      have KJ39 : ∀ (u5 : Int32), f_X8_countOfShipmentsBy_J39 K F G j4 (f_X8_countOfShipmentsBy_L4 K F G a0 a1 k1) u5 = r → V X 4 p l e ({ frames := 3, cells := 0, slots := 0, locals := 64 } : Room) s m args below meth c Q 0 0 n K F G [(0, .ref a0), (1, .ref a1), (2, .int u5), (3, .int (nI j4))] 39 [] := by
        intro u5 hf
        rw [f_X8_countOfShipmentsBy_J39] at hf
        refine v_iinc (lv' := [(3, .int (nI (j4 + 1))), (0, .ref a0), (1, .ref a1), (2, .int u5)]) (v := nI (j4 + 1)) hC dX8_countOfShipmentsBy_39 3 rfl (nI_inc j4) (by decide) rfl ?_
        refine v_goto (tgt := 4) hC dX8_countOfShipmentsBy_42 (by decide) ?_
        refine v_sub [1, 2, 3, 0] rfl ?_
        exact ihj4 (j4 + 1) u5 (by omega) hf
      refine v_acmp_ne (tgt := 39) hC dX8_countOfShipmentsBy_33 (by decide) (fun c6 => ?_) (fun c6 => ?_)
      · rw [if_neg c6] at hf
        exact KJ39 w2_4 hf
      · rw [if_pos c6] at hf
        refine v_iinc (lv' := [(2, .int (w2_4 + 1)), (0, .ref a0), (1, .ref a1), (3, .int (nI j4))]) (v := w2_4 + 1) hC dX8_countOfShipmentsBy_36 2 rfl rfl (by decide) rfl ?_
        refine v_sub [1, 2, 0, 3] rfl ?_
        exact KJ39 (w2_4 + 1) hf
  exact KL4 ((K (gp G a0 4)).2) 0 0 (by omega) hf
def f_X8_countOfShipmentsUnder_J36 (K : Kt) (F : Ft) (G : Gt) (j4 : Nat) (rec4 : (Nat → Int32 → Int32)) (u5 : Int32) : Int32 := rec4 (j4 + 1) u5
def f_X8_countOfShipmentsUnder_L4 (K : Kt) (F : Ft) (G : Gt) (a0 : Nat) (a1 : Nat) : Nat → Nat → Int32 → Int32
  | 0, j4, w2_4 => w2_4
  | k1 + 1, j4, w2_4 => if (gp G (el G (gp G a0 4) j4) 0) = a1 then f_X8_countOfShipmentsUnder_J36 K F G j4 (f_X8_countOfShipmentsUnder_L4 K F G a0 a1 k1) (w2_4 + 1) else f_X8_countOfShipmentsUnder_J36 K F G j4 (f_X8_countOfShipmentsUnder_L4 K F G a0 a1 k1) w2_4
def f_X8_countOfShipmentsUnder (K : Kt) (F : Ft) (G : Gt) (a0 : Nat) (a1 : Nat) : Int32 := f_X8_countOfShipmentsUnder_L4 K F G a0 a1 ((K (gp G a0 4)).2) 0 0
theorem hdS_X8_countOfShipmentsUnder : yX8_countOfShipmentsUnder.cls ≠ "java/lang/invoke/MethodHandle" ∧ yX8_countOfShipmentsUnder.cls ≠ "java/lang/invoke/VarHandle" ∧ (parseMethodDescriptor yX8_countOfShipmentsUnder.desc).map (fun d => d.parameters.length) = some 1 := by decide +kernel
theorem hdV_X8_countOfShipmentsUnder : yX8_countOfShipmentsUnder.cls = RX8 ∧ yX8_countOfShipmentsUnder.cls ≠ "java/lang/invoke/MethodHandle" ∧ yX8_countOfShipmentsUnder.cls ≠ "java/lang/invoke/VarHandle" ∧ (parseMethodDescriptor yX8_countOfShipmentsUnder.desc).map (fun d => d.parameters.length) = some 1 := by decide +kernel
set_option maxHeartbeats 4000000 in
set_option maxRecDepth 100000 in
theorem m_X8_countOfShipmentsUnder (l : Launch) {n : Nat} {K : Kt} {F : Ft} {G : Gt} {a0 : Nat} {a1 : Nat} (t0 : TMain K G a0) (t1 : TPol K G a1) : Mw X l yX8_countOfShipmentsUnder cX8_countOfShipmentsUnder 4 (some .int) 3 64 0 0 [.ref a0, .ref a1] n K F G (some (.int (f_X8_countOfShipmentsUnder K F G a0 a1))) n K F G := by
  generalize hf : f_X8_countOfShipmentsUnder K F G a0 a1 = r
  refine Mw.of (lv := [(0, .ref a0), (1, .ref a1)]) (by decide) (Nat.le_of_ble_eq_true rfl) rfl ?_
  intro p e s m args below meth c Q hC hin hQ
  have hC : Cx X p s m args meth c RX8 cX8_countOfShipmentsUnder 4 (some .int) := hC
  rw [f_X8_countOfShipmentsUnder] at hf
  refine v_iconst (v := 0) hC dX8_countOfShipmentsUnder_0 (by decide) ?_
  refine v_istore_n (i := 2) (lv' := [(2, .int 0), (0, .ref a0), (1, .ref a1)]) hC dX8_countOfShipmentsUnder_1 rfl (by decide) rfl ?_
  refine v_iconst (v := 0) hC dX8_countOfShipmentsUnder_2 (by decide) ?_
  refine v_istore_n (i := 3) (lv' := [(3, .int 0), (2, .int 0), (0, .ref a0), (1, .ref a1)]) hC dX8_countOfShipmentsUnder_3 rfl (by decide) rfl ?_
  refine v_sub [2, 3, 1, 0] rfl ?_
  have KL4 : ∀ (k1 j4 : Nat) (w2_4 : Int32), j4 + k1 = (K (gp G a0 4)).2 → f_X8_countOfShipmentsUnder_L4 K F G a0 a1 k1 j4 w2_4 = r → V X 4 p l e ({ frames := 3, cells := 0, slots := 0, locals := 64 } : Room) s m args below meth c Q 0 0 n K F G [(0, .ref a0), (1, .ref a1), (2, .int w2_4), (3, .int (nI j4))] 4 [] := by
    intro k1
    induction k1 with
    | zero =>
      intro j4 w2_4 hj4 hf
      rw [f_X8_countOfShipmentsUnder_L4] at hf
      refine v_iload_n hC dX8_countOfShipmentsUnder_4 rfl 3 rfl ?_
      refine v_aload_n hC dX8_countOfShipmentsUnder_5 rfl 0 rfl ?_
      refine gf_X8_25 hC t0.1 t0.2.2.2.2.2.1.1 dX8_countOfShipmentsUnder_6 ?_
      refine v_callV (c2 := 0) (s2 := 0) (As := []) hC (m_Jx4a65c_size_8abf5 l t0.2.2.2.2.2.1.2.1) q_X8_89 (by rw [t0.2.2.2.2.2.1.2.1]; decide) (ce_10 t0.2.2.2.2.2.1.2.1) (ci := 9) rfl hdV_Jx4a65c_size_8abf5 rfl rfl (Nat.le_of_ble_eq_true rfl) (Nat.le_of_ble_eq_true rfl) (Nat.le_of_ble_eq_true rfl) (Nat.le_of_ble_eq_true rfl) (Nat.le_of_ble_eq_true rfl) (Nat.le_of_ble_eq_true rfl) (Nat.le_of_ble_eq_true rfl) dX8_countOfShipmentsUnder_9 ?_
      refine v_icmp_ge (tgt := 42) hC dX8_countOfShipmentsUnder_12 (by decide) (fun c2 => ?_) (fun c2 => absurd (lp_z hj4) c2)
      refine v_iload_n hC dX8_countOfShipmentsUnder_42 rfl 2 rfl ?_
      exact v_iret hC rfl hQ dX8_countOfShipmentsUnder_43 (congrArg (fun z => some (Value.int z)) hf) rfl rfl rfl rfl
    | succ k1 ihj4 =>
      intro j4 w2_4 hj4 hf
      rw [f_X8_countOfShipmentsUnder_L4] at hf
      refine v_iload_n hC dX8_countOfShipmentsUnder_4 rfl 3 rfl ?_
      refine v_aload_n hC dX8_countOfShipmentsUnder_5 rfl 0 rfl ?_
      refine gf_X8_25 hC t0.1 t0.2.2.2.2.2.1.1 dX8_countOfShipmentsUnder_6 ?_
      refine v_callV (c2 := 0) (s2 := 0) (As := []) hC (m_Jx4a65c_size_8abf5 l t0.2.2.2.2.2.1.2.1) q_X8_89 (by rw [t0.2.2.2.2.2.1.2.1]; decide) (ce_10 t0.2.2.2.2.2.1.2.1) (ci := 9) rfl hdV_Jx4a65c_size_8abf5 rfl rfl (Nat.le_of_ble_eq_true rfl) (Nat.le_of_ble_eq_true rfl) (Nat.le_of_ble_eq_true rfl) (Nat.le_of_ble_eq_true rfl) (Nat.le_of_ble_eq_true rfl) (Nat.le_of_ble_eq_true rfl) (Nat.le_of_ble_eq_true rfl) dX8_countOfShipmentsUnder_9 ?_
      refine v_icmp_ge (tgt := 42) hC dX8_countOfShipmentsUnder_12 (by decide) (fun c3 => absurd c3 (lp_s hj4 t0.2.2.2.2.2.1.2.lt)) (fun c3 => ?_)
      refine v_aload_n hC dX8_countOfShipmentsUnder_15 rfl 0 rfl ?_
      refine gf_X8_25 hC t0.1 t0.2.2.2.2.2.1.1 dX8_countOfShipmentsUnder_16 ?_
      refine v_iload_n hC dX8_countOfShipmentsUnder_19 rfl 3 rfl ?_
      refine v_callV (c2 := 0) (s2 := 0) (As := [.int (nI j4)]) hC (m_Jx4a65c_get_915e3 l t0.2.2.2.2.2.1.2 (i := j4) (by omega)) q_X8_306 (by rw [t0.2.2.2.2.2.1.2.1]; decide) (ce_10 t0.2.2.2.2.2.1.2.1) (ci := 9) rfl hdV_Jx4a65c_get_915e3 rfl rfl (Nat.le_of_ble_eq_true rfl) (Nat.le_of_ble_eq_true rfl) (Nat.le_of_ble_eq_true rfl) (Nat.le_of_ble_eq_true rfl) (Nat.le_of_ble_eq_true rfl) (Nat.le_of_ble_eq_true rfl) (Nat.le_of_ble_eq_true rfl) dX8_countOfShipmentsUnder_20 ?_
      have ht4 : TShip K G (el G (gp G a0 4) j4) := t0.2.2.2.2.2.1.2.el (i := j4) (by omega)
      refine v_cast hC (by rw [ht4.1]; decide) (ce_7 ht4.1) (ci := 6) rfl aw_212 dX8_countOfShipmentsUnder_23 ?_
      refine gf_X8_274 hC ht4.1 ht4.2.1.1 dX8_countOfShipmentsUnder_26 ?_
      refine v_aload_n hC dX8_countOfShipmentsUnder_29 rfl 1 rfl ?_
      have KJ36 : ∀ (u5 : Int32), f_X8_countOfShipmentsUnder_J36 K F G j4 (f_X8_countOfShipmentsUnder_L4 K F G a0 a1 k1) u5 = r → V X 4 p l e ({ frames := 3, cells := 0, slots := 0, locals := 64 } : Room) s m args below meth c Q 0 0 n K F G [(0, .ref a0), (1, .ref a1), (2, .int u5), (3, .int (nI j4))] 36 [] := by
        intro u5 hf
        rw [f_X8_countOfShipmentsUnder_J36] at hf
        refine v_iinc (lv' := [(3, .int (nI (j4 + 1))), (0, .ref a0), (1, .ref a1), (2, .int u5)]) (v := nI (j4 + 1)) hC dX8_countOfShipmentsUnder_36 3 rfl (nI_inc j4) (by decide) rfl ?_
        refine v_goto (tgt := 4) hC dX8_countOfShipmentsUnder_39 (by decide) ?_
        refine v_sub [1, 2, 3, 0] rfl ?_
        exact ihj4 (j4 + 1) u5 (by omega) hf
      refine v_acmp_ne (tgt := 36) hC dX8_countOfShipmentsUnder_30 (by decide) (fun c6 => ?_) (fun c6 => ?_)
      · rw [if_neg c6] at hf
        exact KJ36 w2_4 hf
      · rw [if_pos c6] at hf
        refine v_iinc (lv' := [(2, .int (w2_4 + 1)), (0, .ref a0), (1, .ref a1), (3, .int (nI j4))]) (v := w2_4 + 1) hC dX8_countOfShipmentsUnder_33 2 rfl rfl (by decide) rfl ?_
        refine v_sub [1, 2, 0, 3] rfl ?_
        exact KJ36 (w2_4 + 1) hf
  exact KL4 ((K (gp G a0 4)).2) 0 0 (by omega) hf
def f_X8_premiumsUnder_J45 (K : Kt) (F : Ft) (G : Gt) (j4 : Nat) (rec4 : (Nat → Int32 → Int32)) (u5 : Int32) : Int32 := rec4 (j4 + 1) u5
def f_X8_premiumsUnder_L4 (K : Kt) (F : Ft) (G : Gt) (a0 : Nat) (a1 : Nat) : Nat → Nat → Int32 → Int32
  | 0, j4, w2_4 => w2_4
  | k1 + 1, j4, w2_4 => if (gp G (el G (gp G a0 4) j4) 0) = a1 then f_X8_premiumsUnder_J45 K F G j4 (f_X8_premiumsUnder_L4 K F G a0 a1 k1) (w2_4 + (F (el G (gp G a0 4) j4) 9)) else f_X8_premiumsUnder_J45 K F G j4 (f_X8_premiumsUnder_L4 K F G a0 a1 k1) w2_4
def f_X8_premiumsUnder (K : Kt) (F : Ft) (G : Gt) (a0 : Nat) (a1 : Nat) : Int32 := f_X8_premiumsUnder_L4 K F G a0 a1 ((K (gp G a0 4)).2) 0 0
theorem hdS_X8_premiumsUnder : yX8_premiumsUnder.cls ≠ "java/lang/invoke/MethodHandle" ∧ yX8_premiumsUnder.cls ≠ "java/lang/invoke/VarHandle" ∧ (parseMethodDescriptor yX8_premiumsUnder.desc).map (fun d => d.parameters.length) = some 1 := by decide +kernel
theorem hdV_X8_premiumsUnder : yX8_premiumsUnder.cls = RX8 ∧ yX8_premiumsUnder.cls ≠ "java/lang/invoke/MethodHandle" ∧ yX8_premiumsUnder.cls ≠ "java/lang/invoke/VarHandle" ∧ (parseMethodDescriptor yX8_premiumsUnder.desc).map (fun d => d.parameters.length) = some 1 := by decide +kernel
set_option maxHeartbeats 4000000 in
set_option maxRecDepth 100000 in
theorem m_X8_premiumsUnder (l : Launch) {n : Nat} {K : Kt} {F : Ft} {G : Gt} {a0 : Nat} {a1 : Nat} (t0 : TMain K G a0) (t1 : TPol K G a1) : Mw X l yX8_premiumsUnder cX8_premiumsUnder 5 (some .int) 3 64 0 0 [.ref a0, .ref a1] n K F G (some (.int (f_X8_premiumsUnder K F G a0 a1))) n K F G := by
  generalize hf : f_X8_premiumsUnder K F G a0 a1 = r
  refine Mw.of (lv := [(0, .ref a0), (1, .ref a1)]) (by decide) (Nat.le_of_ble_eq_true rfl) rfl ?_
  intro p e s m args below meth c Q hC hin hQ
  have hC : Cx X p s m args meth c RX8 cX8_premiumsUnder 5 (some .int) := hC
  rw [f_X8_premiumsUnder] at hf
  refine v_iconst (v := 0) hC dX8_premiumsUnder_0 (by decide) ?_
  refine v_istore_n (i := 2) (lv' := [(2, .int 0), (0, .ref a0), (1, .ref a1)]) hC dX8_premiumsUnder_1 rfl (by decide) rfl ?_
  refine v_iconst (v := 0) hC dX8_premiumsUnder_2 (by decide) ?_
  refine v_istore_n (i := 3) (lv' := [(3, .int 0), (2, .int 0), (0, .ref a0), (1, .ref a1)]) hC dX8_premiumsUnder_3 rfl (by decide) rfl ?_
  refine v_sub [2, 3, 1, 0] rfl ?_
  have KL4 : ∀ (k1 j4 : Nat) (w2_4 : Int32), j4 + k1 = (K (gp G a0 4)).2 → f_X8_premiumsUnder_L4 K F G a0 a1 k1 j4 w2_4 = r → V X 5 p l e ({ frames := 3, cells := 0, slots := 0, locals := 64 } : Room) s m args below meth c Q 0 0 n K F G [(0, .ref a0), (1, .ref a1), (2, .int w2_4), (3, .int (nI j4))] 4 [] := by
    intro k1
    induction k1 with
    | zero =>
      intro j4 w2_4 hj4 hf
      rw [f_X8_premiumsUnder_L4] at hf
      refine v_iload_n hC dX8_premiumsUnder_4 rfl 3 rfl ?_
      refine v_aload_n hC dX8_premiumsUnder_5 rfl 0 rfl ?_
      refine gf_X8_25 hC t0.1 t0.2.2.2.2.2.1.1 dX8_premiumsUnder_6 ?_
      refine v_callV (c2 := 0) (s2 := 0) (As := []) hC (m_Jx4a65c_size_8abf5 l t0.2.2.2.2.2.1.2.1) q_X8_89 (by rw [t0.2.2.2.2.2.1.2.1]; decide) (ce_10 t0.2.2.2.2.2.1.2.1) (ci := 9) rfl hdV_Jx4a65c_size_8abf5 rfl rfl (Nat.le_of_ble_eq_true rfl) (Nat.le_of_ble_eq_true rfl) (Nat.le_of_ble_eq_true rfl) (Nat.le_of_ble_eq_true rfl) (Nat.le_of_ble_eq_true rfl) (Nat.le_of_ble_eq_true rfl) (Nat.le_of_ble_eq_true rfl) dX8_premiumsUnder_9 ?_
      refine v_icmp_ge (tgt := 51) hC dX8_premiumsUnder_12 (by decide) (fun c2 => ?_) (fun c2 => absurd (lp_z hj4) c2)
      refine v_iload_n hC dX8_premiumsUnder_51 rfl 2 rfl ?_
      exact v_iret hC rfl hQ dX8_premiumsUnder_52 (congrArg (fun z => some (Value.int z)) hf) rfl rfl rfl rfl
    | succ k1 ihj4 =>
      intro j4 w2_4 hj4 hf
      rw [f_X8_premiumsUnder_L4] at hf
      refine v_iload_n hC dX8_premiumsUnder_4 rfl 3 rfl ?_
      refine v_aload_n hC dX8_premiumsUnder_5 rfl 0 rfl ?_
      refine gf_X8_25 hC t0.1 t0.2.2.2.2.2.1.1 dX8_premiumsUnder_6 ?_
      refine v_callV (c2 := 0) (s2 := 0) (As := []) hC (m_Jx4a65c_size_8abf5 l t0.2.2.2.2.2.1.2.1) q_X8_89 (by rw [t0.2.2.2.2.2.1.2.1]; decide) (ce_10 t0.2.2.2.2.2.1.2.1) (ci := 9) rfl hdV_Jx4a65c_size_8abf5 rfl rfl (Nat.le_of_ble_eq_true rfl) (Nat.le_of_ble_eq_true rfl) (Nat.le_of_ble_eq_true rfl) (Nat.le_of_ble_eq_true rfl) (Nat.le_of_ble_eq_true rfl) (Nat.le_of_ble_eq_true rfl) (Nat.le_of_ble_eq_true rfl) dX8_premiumsUnder_9 ?_
      refine v_icmp_ge (tgt := 51) hC dX8_premiumsUnder_12 (by decide) (fun c3 => absurd c3 (lp_s hj4 t0.2.2.2.2.2.1.2.lt)) (fun c3 => ?_)
      refine v_aload_n hC dX8_premiumsUnder_15 rfl 0 rfl ?_
      refine gf_X8_25 hC t0.1 t0.2.2.2.2.2.1.1 dX8_premiumsUnder_16 ?_
      refine v_iload_n hC dX8_premiumsUnder_19 rfl 3 rfl ?_
      refine v_callV (c2 := 0) (s2 := 0) (As := [.int (nI j4)]) hC (m_Jx4a65c_get_915e3 l t0.2.2.2.2.2.1.2 (i := j4) (by omega)) q_X8_306 (by rw [t0.2.2.2.2.2.1.2.1]; decide) (ce_10 t0.2.2.2.2.2.1.2.1) (ci := 9) rfl hdV_Jx4a65c_get_915e3 rfl rfl (Nat.le_of_ble_eq_true rfl) (Nat.le_of_ble_eq_true rfl) (Nat.le_of_ble_eq_true rfl) (Nat.le_of_ble_eq_true rfl) (Nat.le_of_ble_eq_true rfl) (Nat.le_of_ble_eq_true rfl) (Nat.le_of_ble_eq_true rfl) dX8_premiumsUnder_20 ?_
      have ht4 : TShip K G (el G (gp G a0 4) j4) := t0.2.2.2.2.2.1.2.el (i := j4) (by omega)
      refine v_cast hC (by rw [ht4.1]; decide) (ce_7 ht4.1) (ci := 6) rfl aw_212 dX8_premiumsUnder_23 ?_
      refine v_astore (i := 4) (lv' := [(4, .ref (el G (gp G a0 4) j4)), (0, .ref a0), (1, .ref a1), (2, .int w2_4), (3, .int (nI j4))]) hC dX8_premiumsUnder_26 (by decide) rfl ?_
      refine v_aload hC dX8_premiumsUnder_28 0 rfl ?_
      refine gf_X8_274 hC ht4.1 ht4.2.1.1 dX8_premiumsUnder_30 ?_
      refine v_aload_n hC dX8_premiumsUnder_33 rfl 2 rfl ?_
      have KJ45 : ∀ (u5 : Int32), f_X8_premiumsUnder_J45 K F G j4 (f_X8_premiumsUnder_L4 K F G a0 a1 k1) u5 = r → V X 5 p l e ({ frames := 3, cells := 0, slots := 0, locals := 64 } : Room) s m args below meth c Q 0 0 n K F G [(0, .ref a0), (1, .ref a1), (2, .int u5), (3, .int (nI j4))] 45 [] := by
        intro u5 hf
        rw [f_X8_premiumsUnder_J45] at hf
        refine v_iinc (lv' := [(3, .int (nI (j4 + 1))), (0, .ref a0), (1, .ref a1), (2, .int u5)]) (v := nI (j4 + 1)) hC dX8_premiumsUnder_45 3 rfl (nI_inc j4) (by decide) rfl ?_
        refine v_goto (tgt := 4) hC dX8_premiumsUnder_48 (by decide) ?_
        refine v_sub [1, 2, 3, 0] rfl ?_
        exact ihj4 (j4 + 1) u5 (by omega) hf
      refine v_acmp_ne (tgt := 45) hC dX8_premiumsUnder_34 (by decide) (fun c6 => ?_) (fun c6 => ?_)
      · rw [if_neg c6] at hf
        refine v_sub [1, 2, 3, 4] rfl ?_
        exact KJ45 w2_4 hf
      · rw [if_pos c6] at hf
        refine v_iload_n hC dX8_premiumsUnder_37 rfl 3 rfl ?_
        refine v_aload hC dX8_premiumsUnder_38 0 rfl ?_
        refine gf_X8_503 hC ht4.1 dX8_premiumsUnder_40 ?_
        refine v_iadd hC dX8_premiumsUnder_43 ?_
        refine v_istore_n (i := 2) (lv' := [(2, .int (w2_4 + (F (el G (gp G a0 4) j4) 9))), (4, .ref (el G (gp G a0 4) j4)), (0, .ref a0), (1, .ref a1), (3, .int (nI j4))]) hC dX8_premiumsUnder_44 rfl (by decide) rfl ?_
        refine v_sub [2, 3, 0, 4] rfl ?_
        exact KJ45 (w2_4 + (F (el G (gp G a0 4) j4) 9)) hf
  exact KL4 ((K (gp G a0 4)).2) 0 0 (by omega) hf
def f_X8_countOfMarked_J37 (K : Kt) (F : Ft) (G : Gt) (j4 : Nat) (rec4 : (Nat → Int32 → Int32)) (u5 : Int32) : Int32 := rec4 (j4 + 1) u5
def f_X8_countOfMarked_L4 (K : Kt) (F : Ft) (G : Gt) (a0 : Nat) (x1 : Int32) : Nat → Nat → Int32 → Int32
  | 0, j4, w2_4 => w2_4
  | k1 + 1, j4, w2_4 => if ((f_X7_marks K F G (el G (gp G a0 4) j4)) &&& x1) = 0 then f_X8_countOfMarked_J37 K F G j4 (f_X8_countOfMarked_L4 K F G a0 x1 k1) w2_4 else f_X8_countOfMarked_J37 K F G j4 (f_X8_countOfMarked_L4 K F G a0 x1 k1) (w2_4 + 1)
def f_X8_countOfMarked (K : Kt) (F : Ft) (G : Gt) (a0 : Nat) (x1 : Int32) : Int32 := f_X8_countOfMarked_L4 K F G a0 x1 ((K (gp G a0 4)).2) 0 0
theorem hdS_X8_countOfMarked : yX8_countOfMarked.cls ≠ "java/lang/invoke/MethodHandle" ∧ yX8_countOfMarked.cls ≠ "java/lang/invoke/VarHandle" ∧ (parseMethodDescriptor yX8_countOfMarked.desc).map (fun d => d.parameters.length) = some 1 := by decide +kernel
theorem hdV_X8_countOfMarked : yX8_countOfMarked.cls = RX8 ∧ yX8_countOfMarked.cls ≠ "java/lang/invoke/MethodHandle" ∧ yX8_countOfMarked.cls ≠ "java/lang/invoke/VarHandle" ∧ (parseMethodDescriptor yX8_countOfMarked.desc).map (fun d => d.parameters.length) = some 1 := by decide +kernel
set_option maxHeartbeats 4000000 in
set_option maxRecDepth 100000 in
theorem m_X8_countOfMarked (l : Launch) {n : Nat} {K : Kt} {F : Ft} {G : Gt} {a0 : Nat} {x1 : Int32} (t0 : TMain K G a0) : Mw X l yX8_countOfMarked cX8_countOfMarked 4 (some .int) 3 64 0 0 [.ref a0, .int x1] n K F G (some (.int (f_X8_countOfMarked K F G a0 x1))) n K F G := by
  generalize hf : f_X8_countOfMarked K F G a0 x1 = r
  refine Mw.of (lv := [(0, .ref a0), (1, .int x1)]) (by decide) (Nat.le_of_ble_eq_true rfl) rfl ?_
  intro p e s m args below meth c Q hC hin hQ
  have hC : Cx X p s m args meth c RX8 cX8_countOfMarked 4 (some .int) := hC
  rw [f_X8_countOfMarked] at hf
  refine v_iconst (v := 0) hC dX8_countOfMarked_0 (by decide) ?_
  refine v_istore_n (i := 2) (lv' := [(2, .int 0), (0, .ref a0), (1, .int x1)]) hC dX8_countOfMarked_1 rfl (by decide) rfl ?_
  refine v_iconst (v := 0) hC dX8_countOfMarked_2 (by decide) ?_
  refine v_istore_n (i := 3) (lv' := [(3, .int 0), (2, .int 0), (0, .ref a0), (1, .int x1)]) hC dX8_countOfMarked_3 rfl (by decide) rfl ?_
  refine v_sub [2, 3, 1, 0] rfl ?_
  have KL4 : ∀ (k1 j4 : Nat) (w2_4 : Int32), j4 + k1 = (K (gp G a0 4)).2 → f_X8_countOfMarked_L4 K F G a0 x1 k1 j4 w2_4 = r → V X 4 p l e ({ frames := 3, cells := 0, slots := 0, locals := 64 } : Room) s m args below meth c Q 0 0 n K F G [(0, .ref a0), (1, .int x1), (2, .int w2_4), (3, .int (nI j4))] 4 [] := by
    intro k1
    induction k1 with
    | zero =>
      intro j4 w2_4 hj4 hf
      rw [f_X8_countOfMarked_L4] at hf
      refine v_iload_n hC dX8_countOfMarked_4 rfl 3 rfl ?_
      refine v_aload_n hC dX8_countOfMarked_5 rfl 0 rfl ?_
      refine gf_X8_25 hC t0.1 t0.2.2.2.2.2.1.1 dX8_countOfMarked_6 ?_
      refine v_callV (c2 := 0) (s2 := 0) (As := []) hC (m_Jx4a65c_size_8abf5 l t0.2.2.2.2.2.1.2.1) q_X8_89 (by rw [t0.2.2.2.2.2.1.2.1]; decide) (ce_10 t0.2.2.2.2.2.1.2.1) (ci := 9) rfl hdV_Jx4a65c_size_8abf5 rfl rfl (Nat.le_of_ble_eq_true rfl) (Nat.le_of_ble_eq_true rfl) (Nat.le_of_ble_eq_true rfl) (Nat.le_of_ble_eq_true rfl) (Nat.le_of_ble_eq_true rfl) (Nat.le_of_ble_eq_true rfl) (Nat.le_of_ble_eq_true rfl) dX8_countOfMarked_9 ?_
      refine v_icmp_ge (tgt := 43) hC dX8_countOfMarked_12 (by decide) (fun c2 => ?_) (fun c2 => absurd (lp_z hj4) c2)
      refine v_iload_n hC dX8_countOfMarked_43 rfl 2 rfl ?_
      exact v_iret hC rfl hQ dX8_countOfMarked_44 (congrArg (fun z => some (Value.int z)) hf) rfl rfl rfl rfl
    | succ k1 ihj4 =>
      intro j4 w2_4 hj4 hf
      rw [f_X8_countOfMarked_L4] at hf
      refine v_iload_n hC dX8_countOfMarked_4 rfl 3 rfl ?_
      refine v_aload_n hC dX8_countOfMarked_5 rfl 0 rfl ?_
      refine gf_X8_25 hC t0.1 t0.2.2.2.2.2.1.1 dX8_countOfMarked_6 ?_
      refine v_callV (c2 := 0) (s2 := 0) (As := []) hC (m_Jx4a65c_size_8abf5 l t0.2.2.2.2.2.1.2.1) q_X8_89 (by rw [t0.2.2.2.2.2.1.2.1]; decide) (ce_10 t0.2.2.2.2.2.1.2.1) (ci := 9) rfl hdV_Jx4a65c_size_8abf5 rfl rfl (Nat.le_of_ble_eq_true rfl) (Nat.le_of_ble_eq_true rfl) (Nat.le_of_ble_eq_true rfl) (Nat.le_of_ble_eq_true rfl) (Nat.le_of_ble_eq_true rfl) (Nat.le_of_ble_eq_true rfl) (Nat.le_of_ble_eq_true rfl) dX8_countOfMarked_9 ?_
      refine v_icmp_ge (tgt := 43) hC dX8_countOfMarked_12 (by decide) (fun c3 => absurd c3 (lp_s hj4 t0.2.2.2.2.2.1.2.lt)) (fun c3 => ?_)
      refine v_aload_n hC dX8_countOfMarked_15 rfl 0 rfl ?_
      refine gf_X8_25 hC t0.1 t0.2.2.2.2.2.1.1 dX8_countOfMarked_16 ?_
      refine v_iload_n hC dX8_countOfMarked_19 rfl 3 rfl ?_
      refine v_callV (c2 := 0) (s2 := 0) (As := [.int (nI j4)]) hC (m_Jx4a65c_get_915e3 l t0.2.2.2.2.2.1.2 (i := j4) (by omega)) q_X8_306 (by rw [t0.2.2.2.2.2.1.2.1]; decide) (ce_10 t0.2.2.2.2.2.1.2.1) (ci := 9) rfl hdV_Jx4a65c_get_915e3 rfl rfl (Nat.le_of_ble_eq_true rfl) (Nat.le_of_ble_eq_true rfl) (Nat.le_of_ble_eq_true rfl) (Nat.le_of_ble_eq_true rfl) (Nat.le_of_ble_eq_true rfl) (Nat.le_of_ble_eq_true rfl) (Nat.le_of_ble_eq_true rfl) dX8_countOfMarked_20 ?_
      have ht4 : TShip K G (el G (gp G a0 4) j4) := t0.2.2.2.2.2.1.2.el (i := j4) (by omega)
      refine v_cast hC (by rw [ht4.1]; decide) (ce_7 ht4.1) (ci := 6) rfl aw_212 dX8_countOfMarked_23 ?_
      refine v_callV (c2 := 0) (s2 := 0) (As := []) hC (m_X7_marks l (n := n) (K := K) (F := F) (G := G) (a0 := (el G (gp G a0 4) j4)) ht4) q_X8_579 (by rw [ht4.1]; decide) (ce_7 ht4.1) (ci := 6) rfl hdV_X7_marks rfl rfl (Nat.le_of_ble_eq_true rfl) (Nat.le_of_ble_eq_true rfl) (Nat.le_of_ble_eq_true rfl) (Nat.le_of_ble_eq_true rfl) (Nat.le_of_ble_eq_true rfl) (Nat.le_of_ble_eq_true rfl) (Nat.le_of_ble_eq_true rfl) dX8_countOfMarked_26 ?_
      refine v_iload_n hC dX8_countOfMarked_29 rfl 1 rfl ?_
      refine v_iand hC dX8_countOfMarked_30 ?_
      have KJ37 : ∀ (u5 : Int32), f_X8_countOfMarked_J37 K F G j4 (f_X8_countOfMarked_L4 K F G a0 x1 k1) u5 = r → V X 4 p l e ({ frames := 3, cells := 0, slots := 0, locals := 64 } : Room) s m args below meth c Q 0 0 n K F G [(0, .ref a0), (1, .int x1), (2, .int u5), (3, .int (nI j4))] 37 [] := by
        intro u5 hf
        rw [f_X8_countOfMarked_J37] at hf
        refine v_iinc (lv' := [(3, .int (nI (j4 + 1))), (0, .ref a0), (1, .int x1), (2, .int u5)]) (v := nI (j4 + 1)) hC dX8_countOfMarked_37 3 rfl (nI_inc j4) (by decide) rfl ?_
        refine v_goto (tgt := 4) hC dX8_countOfMarked_40 (by decide) ?_
        refine v_sub [1, 2, 3, 0] rfl ?_
        exact ihj4 (j4 + 1) u5 (by omega) hf
      refine v_if_eq (tgt := 37) hC dX8_countOfMarked_31 (by decide) (fun c6 => ?_) (fun c6 => ?_)
      · rw [if_pos c6] at hf
        exact KJ37 w2_4 hf
      · rw [if_neg c6] at hf
        refine v_iinc (lv' := [(2, .int (w2_4 + 1)), (0, .ref a0), (1, .int x1), (3, .int (nI j4))]) (v := w2_4 + 1) hC dX8_countOfMarked_34 2 rfl rfl (by decide) rfl ?_
        refine v_sub [1, 2, 0, 3] rfl ?_
        exact KJ37 (w2_4 + 1) hf
  exact KL4 ((K (gp G a0 4)).2) 0 0 (by omega) hf
def f_X8_figureOfLand_J70 (K : Kt) (F : Ft) (G : Gt) (u4 : Int32) : Int32 := u4
def f_X8_figureOfLand (K : Kt) (F : Ft) (G : Gt) (a0 : Nat) (a1 : Nat) (x2 : Int32) : Int32 := if x2 = 0 then F a1 1 else if x2 = 1 then F a1 2 else if x2 = 2 then if (F a1 3) = 0 then f_X8_figureOfLand_J70 K F G 0 else f_X8_figureOfLand_J70 K F G 1 else if x2 = 3 then F a1 4 else if x2 = 4 then F a1 5 else if x2 = 5 then f_X5_trouble K F G a1 else if x2 = 6 then f_X8_riskIn K F G a0 a1 else if x2 = 7 then f_X5_noticeOn K F G a1 (F a0 9) else f_X5_longestTermOn K F G a1 (F a0 9)
theorem hdS_X8_figureOfLand : yX8_figureOfLand.cls ≠ "java/lang/invoke/MethodHandle" ∧ yX8_figureOfLand.cls ≠ "java/lang/invoke/VarHandle" ∧ (parseMethodDescriptor yX8_figureOfLand.desc).map (fun d => d.parameters.length) = some 2 := by decide +kernel
theorem hdV_X8_figureOfLand : yX8_figureOfLand.cls = RX8 ∧ yX8_figureOfLand.cls ≠ "java/lang/invoke/MethodHandle" ∧ yX8_figureOfLand.cls ≠ "java/lang/invoke/VarHandle" ∧ (parseMethodDescriptor yX8_figureOfLand.desc).map (fun d => d.parameters.length) = some 2 := by decide +kernel
set_option maxHeartbeats 4000000 in
set_option maxRecDepth 100000 in
theorem m_X8_figureOfLand (l : Launch) {n : Nat} {K : Kt} {F : Ft} {G : Gt} {a0 : Nat} {a1 : Nat} {x2 : Int32} (t0 : TMain K G a0) (t1 : (K a1).1 = 3) : Mw X l yX8_figureOfLand cX8_figureOfLand 3 (some .int) 4 88 0 0 [.ref a0, .ref a1, .int x2] n K F G (some (.int (f_X8_figureOfLand K F G a0 a1 x2))) n K F G := by
  generalize hf : f_X8_figureOfLand K F G a0 a1 x2 = r
  refine Mw.of (lv := [(0, .ref a0), (1, .ref a1), (2, .int x2)]) (by decide) (Nat.le_of_ble_eq_true rfl) rfl ?_
  intro p e s m args below meth c Q hC hin hQ
  have hC : Cx X p s m args meth c RX8 cX8_figureOfLand 3 (some .int) := hC
  rw [f_X8_figureOfLand] at hf
  refine v_iload_n hC dX8_figureOfLand_0 rfl 2 rfl ?_
  by_cases c1 : x2 = 0
  · rw [if_pos c1] at hf
    refine v_tabIn (tgt := 48) hC dX8_figureOfLand_1 (by rw [c1]; decide) (by rw [c1]; decide) (by rw [c1]; first | done | rfl) (by decide) ?_
    refine v_aload_n hC dX8_figureOfLand_48 rfl 1 rfl ?_
    refine gf_X8_103 hC t1 dX8_figureOfLand_49 ?_
    exact v_iret hC rfl hQ dX8_figureOfLand_52 (congrArg (fun z => some (Value.int z)) hf) rfl rfl rfl rfl
  · rw [if_neg c1] at hf
    by_cases c2 : x2 = 1
    · rw [if_pos c2] at hf
      refine v_tabIn (tgt := 53) hC dX8_figureOfLand_1 (by rw [c2]; decide) (by rw [c2]; decide) (by rw [c2]; first | done | rfl) (by decide) ?_
      refine v_aload_n hC dX8_figureOfLand_53 rfl 1 rfl ?_
      refine gf_X8_106 hC t1 dX8_figureOfLand_54 ?_
      exact v_iret hC rfl hQ dX8_figureOfLand_57 (congrArg (fun z => some (Value.int z)) hf) rfl rfl rfl rfl
    · rw [if_neg c2] at hf
      by_cases c3 : x2 = 2
      · rw [if_pos c3] at hf
        refine v_tabIn (tgt := 58) hC dX8_figureOfLand_1 (by rw [c3]; decide) (by rw [c3]; decide) (by rw [c3]; first | done | rfl) (by decide) ?_
        refine v_aload_n hC dX8_figureOfLand_58 rfl 1 rfl ?_
        refine gf_X8_109 hC t1 dX8_figureOfLand_59 ?_
        have KJ70 : ∀ (u4 : Int32) (tu4 : u4 = 0 ∨ u4 = 1), f_X8_figureOfLand_J70 K F G u4 = r → V X 3 p l e ({ frames := 4, cells := 0, slots := 0, locals := 88 } : Room) s m args below meth c Q 0 0 n K F G [] 70 [.int u4] := by
          intro u4 tu4 hf
          rw [f_X8_figureOfLand_J70] at hf
          exact v_iret hC rfl hQ dX8_figureOfLand_70 (congrArg (fun z => some (Value.int z)) hf) rfl rfl rfl rfl
        refine v_if_eq (tgt := 69) hC dX8_figureOfLand_62 (by decide) (fun c5 => ?_) (fun c5 => ?_)
        · rw [if_pos c5] at hf
          refine v_iconst (v := 0) hC dX8_figureOfLand_69 (by decide) ?_
          refine v_sub [] rfl ?_
          exact KJ70 0 (Or.inl rfl) hf
        · rw [if_neg c5] at hf
          refine v_iconst (v := 1) hC dX8_figureOfLand_65 (by decide) ?_
          refine v_goto (tgt := 70) hC dX8_figureOfLand_66 (by decide) ?_
          refine v_sub [] rfl ?_
          exact KJ70 1 (Or.inr rfl) hf
      · rw [if_neg c3] at hf
        by_cases c6 : x2 = 3
        · rw [if_pos c6] at hf
          refine v_tabIn (tgt := 71) hC dX8_figureOfLand_1 (by rw [c6]; decide) (by rw [c6]; decide) (by rw [c6]; first | done | rfl) (by decide) ?_
          refine v_aload_n hC dX8_figureOfLand_71 rfl 1 rfl ?_
          refine gf_X8_113 hC t1 dX8_figureOfLand_72 ?_
          exact v_iret hC rfl hQ dX8_figureOfLand_75 (congrArg (fun z => some (Value.int z)) hf) rfl rfl rfl rfl
        · rw [if_neg c6] at hf
          by_cases c7 : x2 = 4
          · rw [if_pos c7] at hf
            refine v_tabIn (tgt := 76) hC dX8_figureOfLand_1 (by rw [c7]; decide) (by rw [c7]; decide) (by rw [c7]; first | done | rfl) (by decide) ?_
            refine v_aload_n hC dX8_figureOfLand_76 rfl 1 rfl ?_
            refine gf_X8_120 hC t1 dX8_figureOfLand_77 ?_
            exact v_iret hC rfl hQ dX8_figureOfLand_80 (congrArg (fun z => some (Value.int z)) hf) rfl rfl rfl rfl
          · rw [if_neg c7] at hf
            by_cases c8 : x2 = 5
            · rw [if_pos c8] at hf
              refine v_tabIn (tgt := 81) hC dX8_figureOfLand_1 (by rw [c8]; decide) (by rw [c8]; decide) (by rw [c8]; first | done | rfl) (by decide) ?_
              refine v_aload_n hC dX8_figureOfLand_81 rfl 1 rfl ?_
              refine v_callV (c2 := 0) (s2 := 0) (As := []) hC (m_X5_trouble l (n := n) (K := K) (F := F) (G := G) (a0 := a1) t1) q_X8_546 (by rw [t1]; decide) (ce_3 t1) (ci := 2) rfl hdV_X5_trouble rfl rfl (Nat.le_of_ble_eq_true rfl) (Nat.le_of_ble_eq_true rfl) (Nat.le_of_ble_eq_true rfl) (Nat.le_of_ble_eq_true rfl) (Nat.le_of_ble_eq_true rfl) (Nat.le_of_ble_eq_true rfl) (Nat.le_of_ble_eq_true rfl) dX8_figureOfLand_82 ?_
              exact v_iret hC rfl hQ dX8_figureOfLand_85 (congrArg (fun z => some (Value.int z)) hf) rfl rfl rfl rfl
            · rw [if_neg c8] at hf
              by_cases c9 : x2 = 6
              · rw [if_pos c9] at hf
                refine v_tabIn (tgt := 86) hC dX8_figureOfLand_1 (by rw [c9]; decide) (by rw [c9]; decide) (by rw [c9]; first | done | rfl) (by decide) ?_
                refine v_aload_n hC dX8_figureOfLand_86 rfl 0 rfl ?_
                refine v_aload_n hC dX8_figureOfLand_87 rfl 1 rfl ?_
                refine v_callV (c2 := 0) (s2 := 0) (As := [.ref a1]) hC (m_X8_riskIn l (n := n) (K := K) (F := F) (G := G) (a0 := a0) (a1 := a1) t0 t1) q_X8_385 (by rw [t0.1]; decide) (ce_1 t0.1) (ci := 0) rfl hdV_X8_riskIn rfl rfl (Nat.le_of_ble_eq_true rfl) (Nat.le_of_ble_eq_true rfl) (Nat.le_of_ble_eq_true rfl) (Nat.le_of_ble_eq_true rfl) (Nat.le_of_ble_eq_true rfl) (Nat.le_of_ble_eq_true rfl) (Nat.le_of_ble_eq_true rfl) dX8_figureOfLand_88 ?_
                exact v_iret hC rfl hQ dX8_figureOfLand_91 (congrArg (fun z => some (Value.int z)) hf) rfl rfl rfl rfl
              · rw [if_neg c9] at hf
                by_cases c10 : x2 = 7
                · rw [if_pos c10] at hf
                  refine v_tabIn (tgt := 92) hC dX8_figureOfLand_1 (by rw [c10]; decide) (by rw [c10]; decide) (by rw [c10]; first | done | rfl) (by decide) ?_
                  refine v_aload_n hC dX8_figureOfLand_92 rfl 1 rfl ?_
                  refine v_aload_n hC dX8_figureOfLand_93 rfl 0 rfl ?_
                  refine gf_X8_151 hC t0.1 dX8_figureOfLand_94 ?_
                  refine v_callV (c2 := 0) (s2 := 0) (As := [.int (F a0 9)]) hC (m_X5_noticeOn l (n := n) (K := K) (F := F) (G := G) (a0 := a1) (x1 := (F a0 9)) t1) q_X8_154 (by rw [t1]; decide) (ce_3 t1) (ci := 2) rfl hdV_X5_noticeOn rfl rfl (Nat.le_of_ble_eq_true rfl) (Nat.le_of_ble_eq_true rfl) (Nat.le_of_ble_eq_true rfl) (Nat.le_of_ble_eq_true rfl) (Nat.le_of_ble_eq_true rfl) (Nat.le_of_ble_eq_true rfl) (Nat.le_of_ble_eq_true rfl) dX8_figureOfLand_97 ?_
                  exact v_iret hC rfl hQ dX8_figureOfLand_100 (congrArg (fun z => some (Value.int z)) hf) rfl rfl rfl rfl
                · rw [if_neg c10] at hf
                  refine v_tabOut (tgt := 101) hC dX8_figureOfLand_1 (sw_0_7 c1 c2 c3 c6 c7 c8 c9 c10) (by decide) ?_
                  refine v_aload_n hC dX8_figureOfLand_101 rfl 1 rfl ?_
                  refine v_aload_n hC dX8_figureOfLand_102 rfl 0 rfl ?_
                  refine gf_X8_151 hC t0.1 dX8_figureOfLand_103 ?_
                  refine v_callV (c2 := 0) (s2 := 0) (As := [.int (F a0 9)]) hC (m_X5_longestTermOn l (n := n) (K := K) (F := F) (G := G) (a0 := a1) (x1 := (F a0 9)) t1) q_X8_490 (by rw [t1]; decide) (ce_3 t1) (ci := 2) rfl hdV_X5_longestTermOn rfl rfl (Nat.le_of_ble_eq_true rfl) (Nat.le_of_ble_eq_true rfl) (Nat.le_of_ble_eq_true rfl) (Nat.le_of_ble_eq_true rfl) (Nat.le_of_ble_eq_true rfl) (Nat.le_of_ble_eq_true rfl) (Nat.le_of_ble_eq_true rfl) dX8_figureOfLand_106 ?_
                  exact v_iret hC rfl hQ dX8_figureOfLand_109 (congrArg (fun z => some (Value.int z)) hf) rfl rfl rfl rfl
def f_X8_figureOfBuyer_J74 (K : Kt) (F : Ft) (G : Gt) (u6 : Int32) : Int32 := u6
def f_X8_figureOfBuyer (K : Kt) (F : Ft) (G : Gt) (a0 : Nat) (a1 : Nat) (x2 : Int32) : Int32 := if x2 = 0 then F (gp G a1 1) 0 else if x2 = 1 then F a1 2 else if x2 = 2 then F a1 4 else if x2 = 3 then F (gp G a1 3) 0 else if x2 = 4 then if (f_X0_canPay K F G a1) = 0 then f_X8_figureOfBuyer_J74 K F G 0 else f_X8_figureOfBuyer_J74 K F G 1 else f_X8_debtOf K F G a0 a1
theorem hdS_X8_figureOfBuyer : yX8_figureOfBuyer.cls ≠ "java/lang/invoke/MethodHandle" ∧ yX8_figureOfBuyer.cls ≠ "java/lang/invoke/VarHandle" ∧ (parseMethodDescriptor yX8_figureOfBuyer.desc).map (fun d => d.parameters.length) = some 2 := by decide +kernel
theorem hdV_X8_figureOfBuyer : yX8_figureOfBuyer.cls = RX8 ∧ yX8_figureOfBuyer.cls ≠ "java/lang/invoke/MethodHandle" ∧ yX8_figureOfBuyer.cls ≠ "java/lang/invoke/VarHandle" ∧ (parseMethodDescriptor yX8_figureOfBuyer.desc).map (fun d => d.parameters.length) = some 2 := by decide +kernel
set_option maxHeartbeats 4000000 in
set_option maxRecDepth 100000 in
theorem m_X8_figureOfBuyer (l : Launch) {n : Nat} {K : Kt} {F : Ft} {G : Gt} {a0 : Nat} {a1 : Nat} {x2 : Int32} (t0 : TMain K G a0) (t1 : TBuyer K G a1) : Mw X l yX8_figureOfBuyer cX8_figureOfBuyer 3 (some .int) 4 88 0 0 [.ref a0, .ref a1, .int x2] n K F G (some (.int (f_X8_figureOfBuyer K F G a0 a1 x2))) n K F G := by
  generalize hf : f_X8_figureOfBuyer K F G a0 a1 x2 = r
  refine Mw.of (lv := [(0, .ref a0), (1, .ref a1), (2, .int x2)]) (by decide) (Nat.le_of_ble_eq_true rfl) rfl ?_
  intro p e s m args below meth c Q hC hin hQ
  have hC : Cx X p s m args meth c RX8 cX8_figureOfBuyer 3 (some .int) := hC
  rw [f_X8_figureOfBuyer] at hf
  refine v_iload_n hC dX8_figureOfBuyer_0 rfl 2 rfl ?_
  by_cases c1 : x2 = 0
  · rw [if_pos c1] at hf
    refine v_tabIn (tgt := 36) hC dX8_figureOfBuyer_1 (by rw [c1]; decide) (by rw [c1]; decide) (by rw [c1]; first | done | rfl) (by decide) ?_
    refine v_aload_n hC dX8_figureOfBuyer_36 rfl 1 rfl ?_
    refine gf_X8_206 hC t1.1 t1.2.1.1 dX8_figureOfBuyer_37 ?_
    refine gf_X8_93 hC t1.2.1.2 dX8_figureOfBuyer_40 ?_
    exact v_iret hC rfl hQ dX8_figureOfBuyer_43 (congrArg (fun z => some (Value.int z)) hf) rfl rfl rfl rfl
  · rw [if_neg c1] at hf
    by_cases c2 : x2 = 1
    · rw [if_pos c2] at hf
      refine v_tabIn (tgt := 44) hC dX8_figureOfBuyer_1 (by rw [c2]; decide) (by rw [c2]; decide) (by rw [c2]; first | done | rfl) (by decide) ?_
      refine v_aload_n hC dX8_figureOfBuyer_44 rfl 1 rfl ?_
      refine gf_X8_184 hC t1.1 dX8_figureOfBuyer_45 ?_
      exact v_iret hC rfl hQ dX8_figureOfBuyer_48 (congrArg (fun z => some (Value.int z)) hf) rfl rfl rfl rfl
    · rw [if_neg c2] at hf
      by_cases c3 : x2 = 2
      · rw [if_pos c3] at hf
        refine v_tabIn (tgt := 49) hC dX8_figureOfBuyer_1 (by rw [c3]; decide) (by rw [c3]; decide) (by rw [c3]; first | done | rfl) (by decide) ?_
        refine v_aload_n hC dX8_figureOfBuyer_49 rfl 1 rfl ?_
        refine gf_X8_135 hC t1.1 dX8_figureOfBuyer_50 ?_
        exact v_iret hC rfl hQ dX8_figureOfBuyer_53 (congrArg (fun z => some (Value.int z)) hf) rfl rfl rfl rfl
      · rw [if_neg c3] at hf
        by_cases c4 : x2 = 3
        · rw [if_pos c4] at hf
          refine v_tabIn (tgt := 54) hC dX8_figureOfBuyer_1 (by rw [c4]; decide) (by rw [c4]; decide) (by rw [c4]; first | done | rfl) (by decide) ?_
          refine v_aload_n hC dX8_figureOfBuyer_54 rfl 1 rfl ?_
          refine gf_X8_79 hC t1.1 t1.2.2.1 dX8_figureOfBuyer_55 ?_
          refine gf_X8_129 hC t1.2.2.2 dX8_figureOfBuyer_58 ?_
          exact v_iret hC rfl hQ dX8_figureOfBuyer_61 (congrArg (fun z => some (Value.int z)) hf) rfl rfl rfl rfl
        · rw [if_neg c4] at hf
          by_cases c5 : x2 = 4
          · rw [if_pos c5] at hf
            refine v_tabIn (tgt := 62) hC dX8_figureOfBuyer_1 (by rw [c5]; decide) (by rw [c5]; decide) (by rw [c5]; first | done | rfl) (by decide) ?_
            refine v_aload_n hC dX8_figureOfBuyer_62 rfl 1 rfl ?_
            refine v_callV (c2 := 0) (s2 := 0) (As := []) hC (m_X0_canPay l (n := n) (K := K) (F := F) (G := G) (a0 := a1) t1) q_X8_235 (by rw [t1.1]; decide) (ce_4 t1.1) (ci := 3) rfl hdV_X0_canPay rfl rfl (Nat.le_of_ble_eq_true rfl) (Nat.le_of_ble_eq_true rfl) (Nat.le_of_ble_eq_true rfl) (Nat.le_of_ble_eq_true rfl) (Nat.le_of_ble_eq_true rfl) (Nat.le_of_ble_eq_true rfl) (Nat.le_of_ble_eq_true rfl) dX8_figureOfBuyer_63 ?_
            have KJ74 : ∀ (u6 : Int32) (tu6 : u6 = 0 ∨ u6 = 1), f_X8_figureOfBuyer_J74 K F G u6 = r → V X 3 p l e ({ frames := 4, cells := 0, slots := 0, locals := 88 } : Room) s m args below meth c Q 0 0 n K F G [] 74 [.int u6] := by
              intro u6 tu6 hf
              rw [f_X8_figureOfBuyer_J74] at hf
              exact v_iret hC rfl hQ dX8_figureOfBuyer_74 (congrArg (fun z => some (Value.int z)) hf) rfl rfl rfl rfl
            refine v_if_eq (tgt := 73) hC dX8_figureOfBuyer_66 (by decide) (fun c7 => ?_) (fun c7 => ?_)
            · rw [if_pos c7] at hf
              refine v_iconst (v := 0) hC dX8_figureOfBuyer_73 (by decide) ?_
              refine v_sub [] rfl ?_
              exact KJ74 0 (Or.inl rfl) hf
            · rw [if_neg c7] at hf
              refine v_iconst (v := 1) hC dX8_figureOfBuyer_69 (by decide) ?_
              refine v_goto (tgt := 74) hC dX8_figureOfBuyer_70 (by decide) ?_
              refine v_sub [] rfl ?_
              exact KJ74 1 (Or.inr rfl) hf
          · rw [if_neg c5] at hf
            refine v_tabOut (tgt := 75) hC dX8_figureOfBuyer_1 (sw_0_4 c1 c2 c3 c4 c5) (by decide) ?_
            refine v_aload_n hC dX8_figureOfBuyer_75 rfl 0 rfl ?_
            refine v_aload_n hC dX8_figureOfBuyer_76 rfl 1 rfl ?_
            refine v_callV (c2 := 0) (s2 := 0) (As := [.ref a1]) hC (m_X8_debtOf l (n := n) (K := K) (F := F) (G := G) (a0 := a0) (a1 := a1) t0 t1) q_X8_549 (by rw [t0.1]; decide) (ce_1 t0.1) (ci := 0) rfl hdV_X8_debtOf rfl rfl (Nat.le_of_ble_eq_true rfl) (Nat.le_of_ble_eq_true rfl) (Nat.le_of_ble_eq_true rfl) (Nat.le_of_ble_eq_true rfl) (Nat.le_of_ble_eq_true rfl) (Nat.le_of_ble_eq_true rfl) (Nat.le_of_ble_eq_true rfl) dX8_figureOfBuyer_77 ?_
            exact v_iret hC rfl hQ dX8_figureOfBuyer_80 (congrArg (fun z => some (Value.int z)) hf) rfl rfl rfl rfl
def f_X8_figureOfExporter_J79 (K : Kt) (F : Ft) (G : Gt) (u6 : Int32) : Int32 := u6
def f_X8_figureOfExporter (K : Kt) (F : Ft) (G : Gt) (a0 : Nat) (a1 : Nat) (x2 : Int32) : Int32 := if x2 = 0 then F (gp G a1 1) 0 else if x2 = 1 then F a1 2 else if x2 = 2 then F a1 3 else if x2 = 3 then f_X8_countOfRunningPolicies K F G a0 a1 else if x2 = 4 then f_X8_countOfShipmentsBy K F G a0 a1 else if (f_X8_isInCircle K F G a0 a1) = 0 then f_X8_figureOfExporter_J79 K F G 0 else f_X8_figureOfExporter_J79 K F G 1
theorem hdS_X8_figureOfExporter : yX8_figureOfExporter.cls ≠ "java/lang/invoke/MethodHandle" ∧ yX8_figureOfExporter.cls ≠ "java/lang/invoke/VarHandle" ∧ (parseMethodDescriptor yX8_figureOfExporter.desc).map (fun d => d.parameters.length) = some 2 := by decide +kernel
theorem hdV_X8_figureOfExporter : yX8_figureOfExporter.cls = RX8 ∧ yX8_figureOfExporter.cls ≠ "java/lang/invoke/MethodHandle" ∧ yX8_figureOfExporter.cls ≠ "java/lang/invoke/VarHandle" ∧ (parseMethodDescriptor yX8_figureOfExporter.desc).map (fun d => d.parameters.length) = some 2 := by decide +kernel
set_option maxHeartbeats 4000000 in
set_option maxRecDepth 100000 in
theorem m_X8_figureOfExporter (l : Launch) {n : Nat} {K : Kt} {F : Ft} {G : Gt} {a0 : Nat} {a1 : Nat} {x2 : Int32} (t0 : TMain K G a0) (t1 : TExp K G a1) : Mw X l yX8_figureOfExporter cX8_figureOfExporter 3 (some .int) 5 111 0 0 [.ref a0, .ref a1, .int x2] n K F G (some (.int (f_X8_figureOfExporter K F G a0 a1 x2))) n K F G := by
  generalize hf : f_X8_figureOfExporter K F G a0 a1 x2 = r
  refine Mw.of (lv := [(0, .ref a0), (1, .ref a1), (2, .int x2)]) (by decide) (Nat.le_of_ble_eq_true rfl) rfl ?_
  intro p e s m args below meth c Q hC hin hQ
  have hC : Cx X p s m args meth c RX8 cX8_figureOfExporter 3 (some .int) := hC
  rw [f_X8_figureOfExporter] at hf
  refine v_iload_n hC dX8_figureOfExporter_0 rfl 2 rfl ?_
  by_cases c1 : x2 = 0
  · rw [if_pos c1] at hf
    refine v_tabIn (tgt := 36) hC dX8_figureOfExporter_1 (by rw [c1]; decide) (by rw [c1]; decide) (by rw [c1]; first | done | rfl) (by decide) ?_
    refine v_aload_n hC dX8_figureOfExporter_36 rfl 1 rfl ?_
    refine gf_X8_292 hC t1.1 t1.2.1 dX8_figureOfExporter_37 ?_
    refine gf_X8_129 hC t1.2.2 dX8_figureOfExporter_40 ?_
    exact v_iret hC rfl hQ dX8_figureOfExporter_43 (congrArg (fun z => some (Value.int z)) hf) rfl rfl rfl rfl
  · rw [if_neg c1] at hf
    by_cases c2 : x2 = 1
    · rw [if_pos c2] at hf
      refine v_tabIn (tgt := 44) hC dX8_figureOfExporter_1 (by rw [c2]; decide) (by rw [c2]; decide) (by rw [c2]; first | done | rfl) (by decide) ?_
      refine v_aload_n hC dX8_figureOfExporter_44 rfl 1 rfl ?_
      refine gf_X8_145 hC t1.1 dX8_figureOfExporter_45 ?_
      exact v_iret hC rfl hQ dX8_figureOfExporter_48 (congrArg (fun z => some (Value.int z)) hf) rfl rfl rfl rfl
    · rw [if_neg c2] at hf
      by_cases c3 : x2 = 2
      · rw [if_pos c3] at hf
        refine v_tabIn (tgt := 49) hC dX8_figureOfExporter_1 (by rw [c3]; decide) (by rw [c3]; decide) (by rw [c3]; first | done | rfl) (by decide) ?_
        refine v_aload_n hC dX8_figureOfExporter_49 rfl 1 rfl ?_
        refine gf_X8_148 hC t1.1 dX8_figureOfExporter_50 ?_
        exact v_iret hC rfl hQ dX8_figureOfExporter_53 (congrArg (fun z => some (Value.int z)) hf) rfl rfl rfl rfl
      · rw [if_neg c3] at hf
        by_cases c4 : x2 = 3
        · rw [if_pos c4] at hf
          refine v_tabIn (tgt := 54) hC dX8_figureOfExporter_1 (by rw [c4]; decide) (by rw [c4]; decide) (by rw [c4]; first | done | rfl) (by decide) ?_
          refine v_aload_n hC dX8_figureOfExporter_54 rfl 0 rfl ?_
          refine v_aload_n hC dX8_figureOfExporter_55 rfl 1 rfl ?_
          refine v_callV (c2 := 0) (s2 := 0) (As := [.ref a1]) hC (m_X8_countOfRunningPolicies l (n := n) (K := K) (F := F) (G := G) (a0 := a0) (a1 := a1) t0 t1) q_X8_553 (by rw [t0.1]; decide) (ce_1 t0.1) (ci := 0) rfl hdV_X8_countOfRunningPolicies rfl rfl (Nat.le_of_ble_eq_true rfl) (Nat.le_of_ble_eq_true rfl) (Nat.le_of_ble_eq_true rfl) (Nat.le_of_ble_eq_true rfl) (Nat.le_of_ble_eq_true rfl) (Nat.le_of_ble_eq_true rfl) (Nat.le_of_ble_eq_true rfl) dX8_figureOfExporter_56 ?_
          exact v_iret hC rfl hQ dX8_figureOfExporter_59 (congrArg (fun z => some (Value.int z)) hf) rfl rfl rfl rfl
        · rw [if_neg c4] at hf
          by_cases c5 : x2 = 4
          · rw [if_pos c5] at hf
            refine v_tabIn (tgt := 60) hC dX8_figureOfExporter_1 (by rw [c5]; decide) (by rw [c5]; decide) (by rw [c5]; first | done | rfl) (by decide) ?_
            refine v_aload_n hC dX8_figureOfExporter_60 rfl 0 rfl ?_
            refine v_aload_n hC dX8_figureOfExporter_61 rfl 1 rfl ?_
            refine v_callV (c2 := 0) (s2 := 0) (As := [.ref a1]) hC (m_X8_countOfShipmentsBy l (n := n) (K := K) (F := F) (G := G) (a0 := a0) (a1 := a1) t0 t1) q_X8_557 (by rw [t0.1]; decide) (ce_1 t0.1) (ci := 0) rfl hdV_X8_countOfShipmentsBy rfl rfl (Nat.le_of_ble_eq_true rfl) (Nat.le_of_ble_eq_true rfl) (Nat.le_of_ble_eq_true rfl) (Nat.le_of_ble_eq_true rfl) (Nat.le_of_ble_eq_true rfl) (Nat.le_of_ble_eq_true rfl) (Nat.le_of_ble_eq_true rfl) dX8_figureOfExporter_62 ?_
            exact v_iret hC rfl hQ dX8_figureOfExporter_65 (congrArg (fun z => some (Value.int z)) hf) rfl rfl rfl rfl
          · rw [if_neg c5] at hf
            refine v_tabOut (tgt := 66) hC dX8_figureOfExporter_1 (sw_0_4 c1 c2 c3 c4 c5) (by decide) ?_
            refine v_aload_n hC dX8_figureOfExporter_66 rfl 0 rfl ?_
            refine v_aload_n hC dX8_figureOfExporter_67 rfl 1 rfl ?_
            refine v_callV (c2 := 0) (s2 := 0) (As := [.ref a1]) hC (m_X8_isInCircle l (n := n) (K := K) (F := F) (G := G) (a0 := a0) (a1 := a1) t0 t1) q_X8_377 (by rw [t0.1]; decide) (ce_1 t0.1) (ci := 0) rfl hdV_X8_isInCircle rfl rfl (Nat.le_of_ble_eq_true rfl) (Nat.le_of_ble_eq_true rfl) (Nat.le_of_ble_eq_true rfl) (Nat.le_of_ble_eq_true rfl) (Nat.le_of_ble_eq_true rfl) (Nat.le_of_ble_eq_true rfl) (Nat.le_of_ble_eq_true rfl) dX8_figureOfExporter_68 ?_
            have KJ79 : ∀ (u6 : Int32) (tu6 : u6 = 0 ∨ u6 = 1), f_X8_figureOfExporter_J79 K F G u6 = r → V X 3 p l e ({ frames := 5, cells := 0, slots := 0, locals := 111 } : Room) s m args below meth c Q 0 0 n K F G [] 79 [.int u6] := by
              intro u6 tu6 hf
              rw [f_X8_figureOfExporter_J79] at hf
              exact v_iret hC rfl hQ dX8_figureOfExporter_79 (congrArg (fun z => some (Value.int z)) hf) rfl rfl rfl rfl
            refine v_if_eq (tgt := 78) hC dX8_figureOfExporter_71 (by decide) (fun c7 => ?_) (fun c7 => ?_)
            · rw [if_pos c7] at hf
              refine v_iconst (v := 0) hC dX8_figureOfExporter_78 (by decide) ?_
              refine v_sub [] rfl ?_
              exact KJ79 0 (Or.inl rfl) hf
            · rw [if_neg c7] at hf
              refine v_iconst (v := 1) hC dX8_figureOfExporter_74 (by decide) ?_
              refine v_goto (tgt := 79) hC dX8_figureOfExporter_75 (by decide) ?_
              refine v_sub [] rfl ?_
              exact KJ79 1 (Or.inr rfl) hf
def f_X8_figureOfPolicy_J75 (K : Kt) (F : Ft) (G : Gt) (u6 : Int32) : Int32 := u6
def f_X8_figureOfPolicy (K : Kt) (F : Ft) (G : Gt) (a0 : Nat) (a1 : Nat) (x2 : Int32) : Int32 := if x2 = 0 then F (gp G a1 1) 0 else if x2 = 1 then F a1 2 else if x2 = 2 then F a1 3 else if x2 = 3 then F a1 4 else if x2 = 4 then if (F a1 6) = 0 then f_X8_figureOfPolicy_J75 K F G 0 else f_X8_figureOfPolicy_J75 K F G 1 else if x2 = 5 then f_X8_countOfShipmentsUnder K F G a0 a1 else f_X8_premiumsUnder K F G a0 a1
theorem hdS_X8_figureOfPolicy : yX8_figureOfPolicy.cls ≠ "java/lang/invoke/MethodHandle" ∧ yX8_figureOfPolicy.cls ≠ "java/lang/invoke/VarHandle" ∧ (parseMethodDescriptor yX8_figureOfPolicy.desc).map (fun d => d.parameters.length) = some 2 := by decide +kernel
theorem hdV_X8_figureOfPolicy : yX8_figureOfPolicy.cls = RX8 ∧ yX8_figureOfPolicy.cls ≠ "java/lang/invoke/MethodHandle" ∧ yX8_figureOfPolicy.cls ≠ "java/lang/invoke/VarHandle" ∧ (parseMethodDescriptor yX8_figureOfPolicy.desc).map (fun d => d.parameters.length) = some 2 := by decide +kernel
set_option maxHeartbeats 4000000 in
set_option maxRecDepth 100000 in
theorem m_X8_figureOfPolicy (l : Launch) {n : Nat} {K : Kt} {F : Ft} {G : Gt} {a0 : Nat} {a1 : Nat} {x2 : Int32} (t0 : TMain K G a0) (t1 : TPol K G a1) : Mw X l yX8_figureOfPolicy cX8_figureOfPolicy 3 (some .int) 4 88 0 0 [.ref a0, .ref a1, .int x2] n K F G (some (.int (f_X8_figureOfPolicy K F G a0 a1 x2))) n K F G := by
  generalize hf : f_X8_figureOfPolicy K F G a0 a1 x2 = r
  refine Mw.of (lv := [(0, .ref a0), (1, .ref a1), (2, .int x2)]) (by decide) (Nat.le_of_ble_eq_true rfl) rfl ?_
  intro p e s m args below meth c Q hC hin hQ
  have hC : Cx X p s m args meth c RX8 cX8_figureOfPolicy 3 (some .int) := hC
  rw [f_X8_figureOfPolicy] at hf
  refine v_iload_n hC dX8_figureOfPolicy_0 rfl 2 rfl ?_
  by_cases c1 : x2 = 0
  · rw [if_pos c1] at hf
    refine v_tabIn (tgt := 40) hC dX8_figureOfPolicy_1 (by rw [c1]; decide) (by rw [c1]; decide) (by rw [c1]; first | done | rfl) (by decide) ?_
    refine v_aload_n hC dX8_figureOfPolicy_40 rfl 1 rfl ?_
    refine gf_X8_224 hC t1.1 t1.2.1.1 dX8_figureOfPolicy_41 ?_
    refine gf_X8_138 hC t1.2.1.2.1 dX8_figureOfPolicy_44 ?_
    exact v_iret hC rfl hQ dX8_figureOfPolicy_47 (congrArg (fun z => some (Value.int z)) hf) rfl rfl rfl rfl
  · rw [if_neg c1] at hf
    by_cases c2 : x2 = 1
    · rw [if_pos c2] at hf
      refine v_tabIn (tgt := 48) hC dX8_figureOfPolicy_1 (by rw [c2]; decide) (by rw [c2]; decide) (by rw [c2]; first | done | rfl) (by decide) ?_
      refine v_aload_n hC dX8_figureOfPolicy_48 rfl 1 rfl ?_
      refine gf_X8_278 hC t1.1 dX8_figureOfPolicy_49 ?_
      exact v_iret hC rfl hQ dX8_figureOfPolicy_52 (congrArg (fun z => some (Value.int z)) hf) rfl rfl rfl rfl
    · rw [if_neg c2] at hf
      by_cases c3 : x2 = 2
      · rw [if_pos c3] at hf
        refine v_tabIn (tgt := 53) hC dX8_figureOfPolicy_1 (by rw [c3]; decide) (by rw [c3]; decide) (by rw [c3]; first | done | rfl) (by decide) ?_
        refine v_aload_n hC dX8_figureOfPolicy_53 rfl 1 rfl ?_
        refine gf_X8_293 hC t1.1 dX8_figureOfPolicy_54 ?_
        exact v_iret hC rfl hQ dX8_figureOfPolicy_57 (congrArg (fun z => some (Value.int z)) hf) rfl rfl rfl rfl
      · rw [if_neg c3] at hf
        by_cases c4 : x2 = 3
        · rw [if_pos c4] at hf
          refine v_tabIn (tgt := 58) hC dX8_figureOfPolicy_1 (by rw [c4]; decide) (by rw [c4]; decide) (by rw [c4]; first | done | rfl) (by decide) ?_
          refine v_aload_n hC dX8_figureOfPolicy_58 rfl 1 rfl ?_
          refine gf_X8_281 hC t1.1 dX8_figureOfPolicy_59 ?_
          exact v_iret hC rfl hQ dX8_figureOfPolicy_62 (congrArg (fun z => some (Value.int z)) hf) rfl rfl rfl rfl
        · rw [if_neg c4] at hf
          by_cases c5 : x2 = 4
          · rw [if_pos c5] at hf
            refine v_tabIn (tgt := 63) hC dX8_figureOfPolicy_1 (by rw [c5]; decide) (by rw [c5]; decide) (by rw [c5]; first | done | rfl) (by decide) ?_
            refine v_aload_n hC dX8_figureOfPolicy_63 rfl 1 rfl ?_
            refine gf_X8_181 hC t1.1 dX8_figureOfPolicy_64 ?_
            have KJ75 : ∀ (u6 : Int32) (tu6 : u6 = 0 ∨ u6 = 1), f_X8_figureOfPolicy_J75 K F G u6 = r → V X 3 p l e ({ frames := 4, cells := 0, slots := 0, locals := 88 } : Room) s m args below meth c Q 0 0 n K F G [] 75 [.int u6] := by
              intro u6 tu6 hf
              rw [f_X8_figureOfPolicy_J75] at hf
              exact v_iret hC rfl hQ dX8_figureOfPolicy_75 (congrArg (fun z => some (Value.int z)) hf) rfl rfl rfl rfl
            refine v_if_eq (tgt := 74) hC dX8_figureOfPolicy_67 (by decide) (fun c7 => ?_) (fun c7 => ?_)
            · rw [if_pos c7] at hf
              refine v_iconst (v := 0) hC dX8_figureOfPolicy_74 (by decide) ?_
              refine v_sub [] rfl ?_
              exact KJ75 0 (Or.inl rfl) hf
            · rw [if_neg c7] at hf
              refine v_iconst (v := 1) hC dX8_figureOfPolicy_70 (by decide) ?_
              refine v_goto (tgt := 75) hC dX8_figureOfPolicy_71 (by decide) ?_
              refine v_sub [] rfl ?_
              exact KJ75 1 (Or.inr rfl) hf
          · rw [if_neg c5] at hf
            by_cases c8 : x2 = 5
            · rw [if_pos c8] at hf
              refine v_tabIn (tgt := 76) hC dX8_figureOfPolicy_1 (by rw [c8]; decide) (by rw [c8]; decide) (by rw [c8]; first | done | rfl) (by decide) ?_
              refine v_aload_n hC dX8_figureOfPolicy_76 rfl 0 rfl ?_
              refine v_aload_n hC dX8_figureOfPolicy_77 rfl 1 rfl ?_
              refine v_callV (c2 := 0) (s2 := 0) (As := [.ref a1]) hC (m_X8_countOfShipmentsUnder l (n := n) (K := K) (F := F) (G := G) (a0 := a0) (a1 := a1) t0 t1) q_X8_560 (by rw [t0.1]; decide) (ce_1 t0.1) (ci := 0) rfl hdV_X8_countOfShipmentsUnder rfl rfl (Nat.le_of_ble_eq_true rfl) (Nat.le_of_ble_eq_true rfl) (Nat.le_of_ble_eq_true rfl) (Nat.le_of_ble_eq_true rfl) (Nat.le_of_ble_eq_true rfl) (Nat.le_of_ble_eq_true rfl) (Nat.le_of_ble_eq_true rfl) dX8_figureOfPolicy_78 ?_
              exact v_iret hC rfl hQ dX8_figureOfPolicy_81 (congrArg (fun z => some (Value.int z)) hf) rfl rfl rfl rfl
            · rw [if_neg c8] at hf
              refine v_tabOut (tgt := 82) hC dX8_figureOfPolicy_1 (sw_0_5 c1 c2 c3 c4 c5 c8) (by decide) ?_
              refine v_aload_n hC dX8_figureOfPolicy_82 rfl 0 rfl ?_
              refine v_aload_n hC dX8_figureOfPolicy_83 rfl 1 rfl ?_
              refine v_callV (c2 := 0) (s2 := 0) (As := [.ref a1]) hC (m_X8_premiumsUnder l (n := n) (K := K) (F := F) (G := G) (a0 := a0) (a1 := a1) t0 t1) q_X8_564 (by rw [t0.1]; decide) (ce_1 t0.1) (ci := 0) rfl hdV_X8_premiumsUnder rfl rfl (Nat.le_of_ble_eq_true rfl) (Nat.le_of_ble_eq_true rfl) (Nat.le_of_ble_eq_true rfl) (Nat.le_of_ble_eq_true rfl) (Nat.le_of_ble_eq_true rfl) (Nat.le_of_ble_eq_true rfl) (Nat.le_of_ble_eq_true rfl) dX8_figureOfPolicy_84 ?_
              exact v_iret hC rfl hQ dX8_figureOfPolicy_87 (congrArg (fun z => some (Value.int z)) hf) rfl rfl rfl rfl
def f_X8_figureOfShipment_J174 (K : Kt) (F : Ft) (G : Gt) (u14 : Int32) : Int32 := u14
def f_X8_figureOfShipment_J187 (K : Kt) (F : Ft) (G : Gt) (u17 : Int32) : Int32 := u17
def f_X8_figureOfShipment_J200 (K : Kt) (F : Ft) (G : Gt) (u20 : Int32) : Int32 := u20
def f_X8_figureOfShipment_J215 (K : Kt) (F : Ft) (G : Gt) (u23 : Int32) : Int32 := u23
def f_X8_figureOfShipment_J230 (K : Kt) (F : Ft) (G : Gt) (u25 : Int32) : Int32 := u25
def f_X8_figureOfShipment (K : Kt) (F : Ft) (G : Gt) (a0 : Nat) (a1 : Nat) (x2 : Int32) : Int32 := if x2 = 0 then F (gp G a1 0) 0 else if x2 = 1 then F (gp G a1 1) 0 else if x2 = 2 then F a1 2 else if x2 = 3 then F a1 3 else if x2 = 4 then F a1 4 else if x2 = 5 then F a1 10 else if x2 = 6 then F a1 7 else if x2 = 7 then F a1 8 else if x2 = 8 then F a1 6 else if x2 = 9 then F a1 9 else if x2 = 10 then f_X7_causeOn K F G a1 (F a0 9) else if x2 = 11 then f_X7_marks K F G a1 else if x2 = 12 then if G a1 14 = none then f_X8_figureOfShipment_J174 K F G 0 else f_X8_figureOfShipment_J174 K F G (F (gp G a1 14) 0) else if x2 = 13 then if G a1 14 = none then f_X8_figureOfShipment_J187 K F G 0 else f_X8_figureOfShipment_J187 K F G (F (gp G a1 14) 1) else if x2 = 14 then if G a1 14 = none then f_X8_figureOfShipment_J200 K F G 0 else f_X8_figureOfShipment_J200 K F G (F (gp G a1 14) 3) else if x2 = 15 then if G a1 15 = none then f_X8_figureOfShipment_J215 K F G 0 else f_X8_figureOfShipment_J215 K F G (F (gp G a1 15) 1) else if G a1 15 = none then f_X8_figureOfShipment_J230 K F G 0 else f_X8_figureOfShipment_J230 K F G (F (gp G a1 15) 0)
theorem hdS_X8_figureOfShipment : yX8_figureOfShipment.cls ≠ "java/lang/invoke/MethodHandle" ∧ yX8_figureOfShipment.cls ≠ "java/lang/invoke/VarHandle" ∧ (parseMethodDescriptor yX8_figureOfShipment.desc).map (fun d => d.parameters.length) = some 2 := by decide +kernel
theorem hdV_X8_figureOfShipment : yX8_figureOfShipment.cls = RX8 ∧ yX8_figureOfShipment.cls ≠ "java/lang/invoke/MethodHandle" ∧ yX8_figureOfShipment.cls ≠ "java/lang/invoke/VarHandle" ∧ (parseMethodDescriptor yX8_figureOfShipment.desc).map (fun d => d.parameters.length) = some 2 := by decide +kernel
set_option maxHeartbeats 4000000 in
set_option maxRecDepth 100000 in
theorem m_X8_figureOfShipment (l : Launch) {n : Nat} {K : Kt} {F : Ft} {G : Gt} {a0 : Nat} {a1 : Nat} {x2 : Int32} (t0 : TMain K G a0) (t1 : TShip K G a1) : Mw X l yX8_figureOfShipment cX8_figureOfShipment 5 (some .int) 4 85 0 0 [.ref a0, .ref a1, .int x2] n K F G (some (.int (f_X8_figureOfShipment K F G a0 a1 x2))) n K F G := by
  generalize hf : f_X8_figureOfShipment K F G a0 a1 x2 = r
  refine Mw.of (lv := [(0, .ref a0), (1, .ref a1), (2, .int x2)]) (by decide) (Nat.le_of_ble_eq_true rfl) rfl ?_
  intro p e s m args below meth c Q hC hin hQ
  have hC : Cx X p s m args meth c RX8 cX8_figureOfShipment 5 (some .int) := hC
  rw [f_X8_figureOfShipment] at hf
  refine v_aload_n hC dX8_figureOfShipment_0 rfl 1 rfl ?_
  refine gq_X8_288 hC t1.1 dX8_figureOfShipment_1 ?_
  refine v_astore_nq (i := 3) (lv' := [(3, va_rf (G a1 14)), (0, .ref a0), (1, .ref a1), (2, .int x2)]) hC dX8_figureOfShipment_4 rfl (by decide) rfl ?_
  refine v_aload_n hC dX8_figureOfShipment_5 rfl 2 rfl ?_
  refine gq_X8_527 hC t1.1 dX8_figureOfShipment_6 ?_
  refine v_astoreq (i := 4) (lv' := [(4, va_rf (G a1 15)), (3, va_rf (G a1 14)), (0, .ref a0), (1, .ref a1), (2, .int x2)]) hC dX8_figureOfShipment_9 (by decide) (by simp [List.filter, vr_cat]) ?_
  refine v_iload_n hC dX8_figureOfShipment_11 rfl 4 rfl ?_
  by_cases c1 : x2 = 0
  · rw [if_pos c1] at hf
    refine v_tabIn (tgt := 92) hC dX8_figureOfShipment_12 (by rw [c1]; decide) (by rw [c1]; decide) (by rw [c1]; first | done | rfl) (by decide) ?_
    refine v_aload_n hC dX8_figureOfShipment_92 rfl 3 rfl ?_
    refine gf_X8_274 hC t1.1 t1.2.1.1 dX8_figureOfShipment_93 ?_
    refine gf_X8_176 hC t1.2.1.2.1 dX8_figureOfShipment_96 ?_
    exact v_iret hC rfl hQ dX8_figureOfShipment_99 (congrArg (fun z => some (Value.int z)) hf) rfl rfl rfl rfl
  · rw [if_neg c1] at hf
    by_cases c2 : x2 = 1
    · rw [if_pos c2] at hf
      refine v_tabIn (tgt := 100) hC dX8_figureOfShipment_12 (by rw [c2]; decide) (by rw [c2]; decide) (by rw [c2]; first | done | rfl) (by decide) ?_
      refine v_aload_n hC dX8_figureOfShipment_100 rfl 3 rfl ?_
      refine gf_X8_310 hC t1.1 t1.2.2.1.1 dX8_figureOfShipment_101 ?_
      refine gf_X8_123 hC t1.2.2.1.2.1 dX8_figureOfShipment_104 ?_
      exact v_iret hC rfl hQ dX8_figureOfShipment_107 (congrArg (fun z => some (Value.int z)) hf) rfl rfl rfl rfl
    · rw [if_neg c2] at hf
      by_cases c3 : x2 = 2
      · rw [if_pos c3] at hf
        refine v_tabIn (tgt := 108) hC dX8_figureOfShipment_12 (by rw [c3]; decide) (by rw [c3]; decide) (by rw [c3]; first | done | rfl) (by decide) ?_
        refine v_aload_n hC dX8_figureOfShipment_108 rfl 3 rfl ?_
        refine gf_X8_567 hC t1.1 dX8_figureOfShipment_109 ?_
        exact v_iret hC rfl hQ dX8_figureOfShipment_112 (congrArg (fun z => some (Value.int z)) hf) rfl rfl rfl rfl
      · rw [if_neg c3] at hf
        by_cases c4 : x2 = 3
        · rw [if_pos c4] at hf
          refine v_tabIn (tgt := 113) hC dX8_figureOfShipment_12 (by rw [c4]; decide) (by rw [c4]; decide) (by rw [c4]; first | done | rfl) (by decide) ?_
          refine v_aload_n hC dX8_figureOfShipment_113 rfl 3 rfl ?_
          refine gf_X8_570 hC t1.1 dX8_figureOfShipment_114 ?_
          exact v_iret hC rfl hQ dX8_figureOfShipment_117 (congrArg (fun z => some (Value.int z)) hf) rfl rfl rfl rfl
        · rw [if_neg c4] at hf
          by_cases c5 : x2 = 4
          · rw [if_pos c5] at hf
            refine v_tabIn (tgt := 118) hC dX8_figureOfShipment_12 (by rw [c5]; decide) (by rw [c5]; decide) (by rw [c5]; first | done | rfl) (by decide) ?_
            refine v_aload_n hC dX8_figureOfShipment_118 rfl 3 rfl ?_
            refine gf_X8_253 hC t1.1 dX8_figureOfShipment_119 ?_
            exact v_iret hC rfl hQ dX8_figureOfShipment_122 (congrArg (fun z => some (Value.int z)) hf) rfl rfl rfl rfl
          · rw [if_neg c5] at hf
            by_cases c6 : x2 = 5
            · rw [if_pos c6] at hf
              refine v_tabIn (tgt := 123) hC dX8_figureOfShipment_12 (by rw [c6]; decide) (by rw [c6]; decide) (by rw [c6]; first | done | rfl) (by decide) ?_
              refine v_aload_n hC dX8_figureOfShipment_123 rfl 3 rfl ?_
              refine gf_X8_242 hC t1.1 dX8_figureOfShipment_124 ?_
              exact v_iret hC rfl hQ dX8_figureOfShipment_127 (congrArg (fun z => some (Value.int z)) hf) rfl rfl rfl rfl
            · rw [if_neg c6] at hf
              by_cases c7 : x2 = 6
              · rw [if_pos c7] at hf
                refine v_tabIn (tgt := 128) hC dX8_figureOfShipment_12 (by rw [c7]; decide) (by rw [c7]; decide) (by rw [c7]; first | done | rfl) (by decide) ?_
                refine v_aload_n hC dX8_figureOfShipment_128 rfl 3 rfl ?_
                refine gf_X8_268 hC t1.1 dX8_figureOfShipment_129 ?_
                exact v_iret hC rfl hQ dX8_figureOfShipment_132 (congrArg (fun z => some (Value.int z)) hf) rfl rfl rfl rfl
              · rw [if_neg c7] at hf
                by_cases c8 : x2 = 7
                · rw [if_pos c8] at hf
                  refine v_tabIn (tgt := 133) hC dX8_figureOfShipment_12 (by rw [c8]; decide) (by rw [c8]; decide) (by rw [c8]; first | done | rfl) (by decide) ?_
                  refine v_aload_n hC dX8_figureOfShipment_133 rfl 3 rfl ?_
                  refine gf_X8_573 hC t1.1 dX8_figureOfShipment_134 ?_
                  exact v_iret hC rfl hQ dX8_figureOfShipment_137 (congrArg (fun z => some (Value.int z)) hf) rfl rfl rfl rfl
                · rw [if_neg c8] at hf
                  by_cases c9 : x2 = 8
                  · rw [if_pos c9] at hf
                    refine v_tabIn (tgt := 138) hC dX8_figureOfShipment_12 (by rw [c9]; decide) (by rw [c9]; decide) (by rw [c9]; first | done | rfl) (by decide) ?_
                    refine v_aload_n hC dX8_figureOfShipment_138 rfl 3 rfl ?_
                    refine gf_X8_576 hC t1.1 dX8_figureOfShipment_139 ?_
                    exact v_iret hC rfl hQ dX8_figureOfShipment_142 (congrArg (fun z => some (Value.int z)) hf) rfl rfl rfl rfl
                  · rw [if_neg c9] at hf
                    by_cases c10 : x2 = 9
                    · rw [if_pos c10] at hf
                      refine v_tabIn (tgt := 143) hC dX8_figureOfShipment_12 (by rw [c10]; decide) (by rw [c10]; decide) (by rw [c10]; first | done | rfl) (by decide) ?_
                      refine v_aload_n hC dX8_figureOfShipment_143 rfl 3 rfl ?_
                      refine gf_X8_503 hC t1.1 dX8_figureOfShipment_144 ?_
                      exact v_iret hC rfl hQ dX8_figureOfShipment_147 (congrArg (fun z => some (Value.int z)) hf) rfl rfl rfl rfl
                    · rw [if_neg c10] at hf
                      by_cases c11 : x2 = 10
                      · rw [if_pos c11] at hf
                        refine v_tabIn (tgt := 148) hC dX8_figureOfShipment_12 (by rw [c11]; decide) (by rw [c11]; decide) (by rw [c11]; first | done | rfl) (by decide) ?_
                        refine v_aload_n hC dX8_figureOfShipment_148 rfl 3 rfl ?_
                        refine v_aload_n hC dX8_figureOfShipment_149 rfl 2 rfl ?_
                        refine gf_X8_151 hC t0.1 dX8_figureOfShipment_150 ?_
                        refine v_callV (c2 := 0) (s2 := 0) (As := [.int (F a0 9)]) hC (m_X7_causeOn l (n := n) (K := K) (F := F) (G := G) (a0 := a1) (x1 := (F a0 9)) t1) q_X8_259 (by rw [t1.1]; decide) (ce_7 t1.1) (ci := 6) rfl hdV_X7_causeOn rfl rfl (Nat.le_of_ble_eq_true rfl) (Nat.le_of_ble_eq_true rfl) (Nat.le_of_ble_eq_true rfl) (Nat.le_of_ble_eq_true rfl) (Nat.le_of_ble_eq_true rfl) (Nat.le_of_ble_eq_true rfl) (Nat.le_of_ble_eq_true rfl) dX8_figureOfShipment_153 ?_
                        exact v_iret hC rfl hQ dX8_figureOfShipment_156 (congrArg (fun z => some (Value.int z)) hf) rfl rfl rfl rfl
                      · rw [if_neg c11] at hf
                        by_cases c12 : x2 = 11
                        · rw [if_pos c12] at hf
                          refine v_tabIn (tgt := 157) hC dX8_figureOfShipment_12 (by rw [c12]; decide) (by rw [c12]; decide) (by rw [c12]; first | done | rfl) (by decide) ?_
                          refine v_aload_n hC dX8_figureOfShipment_157 rfl 3 rfl ?_
                          refine v_callV (c2 := 0) (s2 := 0) (As := []) hC (m_X7_marks l (n := n) (K := K) (F := F) (G := G) (a0 := a1) t1) q_X8_579 (by rw [t1.1]; decide) (ce_7 t1.1) (ci := 6) rfl hdV_X7_marks rfl rfl (Nat.le_of_ble_eq_true rfl) (Nat.le_of_ble_eq_true rfl) (Nat.le_of_ble_eq_true rfl) (Nat.le_of_ble_eq_true rfl) (Nat.le_of_ble_eq_true rfl) (Nat.le_of_ble_eq_true rfl) (Nat.le_of_ble_eq_true rfl) dX8_figureOfShipment_158 ?_
                          exact v_iret hC rfl hQ dX8_figureOfShipment_161 (congrArg (fun z => some (Value.int z)) hf) rfl rfl rfl rfl
                        · rw [if_neg c12] at hf
                          by_cases c13 : x2 = 12
                          · rw [if_pos c13] at hf
                            refine v_tabIn (tgt := 162) hC dX8_figureOfShipment_12 (by rw [c13]; decide) (by rw [c13]; decide) (by rw [c13]; first | done | rfl) (by decide) ?_
                            refine v_aload_nq hC dX8_figureOfShipment_162 rfl 1 rfl ?_
                            have KJ174 : ∀ (u14 : Int32), f_X8_figureOfShipment_J174 K F G u14 = r → V X 5 p l e ({ frames := 4, cells := 0, slots := 0, locals := 85 } : Room) s m args below meth c Q 0 0 n K F G [] 174 [.int u14] := by
                              intro u14 hf
                              rw [f_X8_figureOfShipment_J174] at hf
                              exact v_iret hC rfl hQ dX8_figureOfShipment_174 (congrArg (fun z => some (Value.int z)) hf) rfl rfl rfl rfl
                            refine v_ifnonnull (tgt := 170) hC dX8_figureOfShipment_163 (by decide) (fun c15 => ?_) (fun c15 => ?_)
                            · rw [if_neg c15] at hf
                              refine v_aload_nq hC dX8_figureOfShipment_170 rfl 1 rfl ?_
                              refine v_deref (gp_some c15) ?_
                              refine gf_X8_582 hC ((t1.2.2.2.1) c15) dX8_figureOfShipment_171 ?_
                              refine v_sub [] rfl ?_
                              exact KJ174 (F (gp G a1 14) 0) hf
                            · rw [if_pos c15] at hf
                              refine v_iconst (v := 0) hC dX8_figureOfShipment_166 (by decide) ?_
                              refine v_goto (tgt := 174) hC dX8_figureOfShipment_167 (by decide) ?_
                              refine v_sub [] rfl ?_
                              exact KJ174 0 hf
                          · rw [if_neg c13] at hf
                            by_cases c16 : x2 = 13
                            · rw [if_pos c16] at hf
                              refine v_tabIn (tgt := 175) hC dX8_figureOfShipment_12 (by rw [c16]; decide) (by rw [c16]; decide) (by rw [c16]; first | done | rfl) (by decide) ?_
                              refine v_aload_nq hC dX8_figureOfShipment_175 rfl 1 rfl ?_
                              have KJ187 : ∀ (u17 : Int32), f_X8_figureOfShipment_J187 K F G u17 = r → V X 5 p l e ({ frames := 4, cells := 0, slots := 0, locals := 85 } : Room) s m args below meth c Q 0 0 n K F G [] 187 [.int u17] := by
                                intro u17 hf
                                rw [f_X8_figureOfShipment_J187] at hf
                                exact v_iret hC rfl hQ dX8_figureOfShipment_187 (congrArg (fun z => some (Value.int z)) hf) rfl rfl rfl rfl
                              refine v_ifnonnull (tgt := 183) hC dX8_figureOfShipment_176 (by decide) (fun c18 => ?_) (fun c18 => ?_)
                              · rw [if_neg c18] at hf
                                refine v_aload_nq hC dX8_figureOfShipment_183 rfl 1 rfl ?_
                                refine v_deref (gp_some c18) ?_
                                refine gf_X8_509 hC ((t1.2.2.2.1) c18) dX8_figureOfShipment_184 ?_
                                refine v_sub [] rfl ?_
                                exact KJ187 (F (gp G a1 14) 1) hf
                              · rw [if_pos c18] at hf
                                refine v_iconst (v := 0) hC dX8_figureOfShipment_179 (by decide) ?_
                                refine v_goto (tgt := 187) hC dX8_figureOfShipment_180 (by decide) ?_
                                refine v_sub [] rfl ?_
                                exact KJ187 0 hf
                            · rw [if_neg c16] at hf
                              by_cases c19 : x2 = 14
                              · rw [if_pos c19] at hf
                                refine v_tabIn (tgt := 188) hC dX8_figureOfShipment_12 (by rw [c19]; decide) (by rw [c19]; decide) (by rw [c19]; first | done | rfl) (by decide) ?_
                                refine v_aload_nq hC dX8_figureOfShipment_188 rfl 1 rfl ?_
                                have KJ200 : ∀ (u20 : Int32), f_X8_figureOfShipment_J200 K F G u20 = r → V X 5 p l e ({ frames := 4, cells := 0, slots := 0, locals := 85 } : Room) s m args below meth c Q 0 0 n K F G [] 200 [.int u20] := by
                                  intro u20 hf
                                  rw [f_X8_figureOfShipment_J200] at hf
                                  exact v_iret hC rfl hQ dX8_figureOfShipment_200 (congrArg (fun z => some (Value.int z)) hf) rfl rfl rfl rfl
                                refine v_ifnonnull (tgt := 196) hC dX8_figureOfShipment_189 (by decide) (fun c21 => ?_) (fun c21 => ?_)
                                · rw [if_neg c21] at hf
                                  refine v_aload_nq hC dX8_figureOfShipment_196 rfl 1 rfl ?_
                                  refine v_deref (gp_some c21) ?_
                                  refine gf_X8_585 hC ((t1.2.2.2.1) c21) dX8_figureOfShipment_197 ?_
                                  refine v_sub [] rfl ?_
                                  exact KJ200 (F (gp G a1 14) 3) hf
                                · rw [if_pos c21] at hf
                                  refine v_iconst (v := 0) hC dX8_figureOfShipment_192 (by decide) ?_
                                  refine v_goto (tgt := 200) hC dX8_figureOfShipment_193 (by decide) ?_
                                  refine v_sub [] rfl ?_
                                  exact KJ200 0 hf
                              · rw [if_neg c19] at hf
                                by_cases c22 : x2 = 15
                                · rw [if_pos c22] at hf
                                  refine v_tabIn (tgt := 201) hC dX8_figureOfShipment_12 (by rw [c22]; decide) (by rw [c22]; decide) (by rw [c22]; first | done | rfl) (by decide) ?_
                                  refine v_aloadq hC dX8_figureOfShipment_201 0 rfl ?_
                                  have KJ215 : ∀ (u23 : Int32), f_X8_figureOfShipment_J215 K F G u23 = r → V X 5 p l e ({ frames := 4, cells := 0, slots := 0, locals := 85 } : Room) s m args below meth c Q 0 0 n K F G [] 215 [.int u23] := by
                                    intro u23 hf
                                    rw [f_X8_figureOfShipment_J215] at hf
                                    exact v_iret hC rfl hQ dX8_figureOfShipment_215 (congrArg (fun z => some (Value.int z)) hf) rfl rfl rfl rfl
                                  refine v_ifnonnull (tgt := 210) hC dX8_figureOfShipment_203 (by decide) (fun c24 => ?_) (fun c24 => ?_)
                                  · rw [if_neg c24] at hf
                                    refine v_aloadq hC dX8_figureOfShipment_210 0 rfl ?_
                                    refine v_deref (gp_some c24) ?_
                                    refine gf_X8_588 hC ((t1.2.2.2.2) c24) dX8_figureOfShipment_212 ?_
                                    refine v_sub [] rfl ?_
                                    exact KJ215 (F (gp G a1 15) 1) hf
                                  · rw [if_pos c24] at hf
                                    refine v_iconst (v := 0) hC dX8_figureOfShipment_206 (by decide) ?_
                                    refine v_goto (tgt := 215) hC dX8_figureOfShipment_207 (by decide) ?_
                                    refine v_sub [] rfl ?_
                                    exact KJ215 0 hf
                                · rw [if_neg c22] at hf
                                  refine v_tabOut (tgt := 216) hC dX8_figureOfShipment_12 (sw_0_15 c1 c2 c3 c4 c5 c6 c7 c8 c9 c10 c11 c12 c13 c16 c19 c22) (by decide) ?_
                                  refine v_aloadq hC dX8_figureOfShipment_216 0 rfl ?_
                                  have KJ230 : ∀ (u25 : Int32), f_X8_figureOfShipment_J230 K F G u25 = r → V X 5 p l e ({ frames := 4, cells := 0, slots := 0, locals := 85 } : Room) s m args below meth c Q 0 0 n K F G [] 230 [.int u25] := by
                                    intro u25 hf
                                    rw [f_X8_figureOfShipment_J230] at hf
                                    exact v_iret hC rfl hQ dX8_figureOfShipment_230 (congrArg (fun z => some (Value.int z)) hf) rfl rfl rfl rfl
                                  refine v_ifnonnull (tgt := 225) hC dX8_figureOfShipment_218 (by decide) (fun c26 => ?_) (fun c26 => ?_)
                                  · rw [if_neg c26] at hf
                                    refine v_aloadq hC dX8_figureOfShipment_225 0 rfl ?_
                                    refine v_deref (gp_some c26) ?_
                                    refine gf_X8_591 hC ((t1.2.2.2.2) c26) dX8_figureOfShipment_227 ?_
                                    refine v_sub [] rfl ?_
                                    exact KJ230 (F (gp G a1 15) 0) hf
                                  · rw [if_pos c26] at hf
                                    refine v_iconst (v := 0) hC dX8_figureOfShipment_221 (by decide) ?_
                                    refine v_goto (tgt := 230) hC dX8_figureOfShipment_222 (by decide) ?_
                                    refine v_sub [] rfl ?_
                                    exact KJ230 0 hf
def f_X8_figureOfPart_J28 (K : Kt) (F : Ft) (G : Gt) (u2 : Int32) : Int32 := u2
def f_X8_figureOfPart (K : Kt) (F : Ft) (G : Gt) (a0 : Nat) (x1 : Int32) (x2 : Int32) : Int32 := if G a0 14 = none then 0 else if x2 = 0 then f_X8_figureOfPart_J28 K F G (f_X2_partOf K F G (gp G a0 14) x1) else f_X8_figureOfPart_J28 K F G (f_X2_hadBy K F G (gp G a0 14) x1)
theorem hdS_X8_figureOfPart : yX8_figureOfPart.cls ≠ "java/lang/invoke/MethodHandle" ∧ yX8_figureOfPart.cls ≠ "java/lang/invoke/VarHandle" ∧ (parseMethodDescriptor yX8_figureOfPart.desc).map (fun d => d.parameters.length) = some 3 := by decide +kernel
theorem hdV_X8_figureOfPart : yX8_figureOfPart.cls = RX8 ∧ yX8_figureOfPart.cls ≠ "java/lang/invoke/MethodHandle" ∧ yX8_figureOfPart.cls ≠ "java/lang/invoke/VarHandle" ∧ (parseMethodDescriptor yX8_figureOfPart.desc).map (fun d => d.parameters.length) = some 3 := by decide +kernel
set_option maxHeartbeats 4000000 in
set_option maxRecDepth 100000 in
theorem m_X8_figureOfPart (l : Launch) {n : Nat} {K : Kt} {F : Ft} {G : Gt} {a0 : Nat} {x1 : Int32} {x2 : Int32} (t0 : TShip K G a0) : Mw X l yX8_figureOfPart cX8_figureOfPart 4 (some .int) 1 21 0 0 [.ref a0, .int x1, .int x2] n K F G (some (.int (f_X8_figureOfPart K F G a0 x1 x2))) n K F G := by
  generalize hf : f_X8_figureOfPart K F G a0 x1 x2 = r
  refine Mw.of (lv := [(0, .ref a0), (1, .int x1), (2, .int x2)]) (by decide) (Nat.le_of_ble_eq_true rfl) rfl ?_
  intro p e s m args below meth c Q hC hin hQ
  have hC : Cx X p s m args meth c RX8 cX8_figureOfPart 4 (some .int) := hC
  rw [f_X8_figureOfPart] at hf
  refine v_aload_n hC dX8_figureOfPart_0 rfl 0 rfl ?_
  refine gq_X8_288 hC t0.1 dX8_figureOfPart_1 ?_
  refine v_astore_nq (i := 3) (lv' := [(3, va_rf (G a0 14)), (0, .ref a0), (1, .int x1), (2, .int x2)]) hC dX8_figureOfPart_4 rfl (by decide) rfl ?_
  refine v_aload_nq hC dX8_figureOfPart_5 rfl 0 rfl ?_
  refine v_ifnonnull (tgt := 11) hC dX8_figureOfPart_6 (by decide) (fun c1 => ?_) (fun c1 => ?_)
  · rw [if_neg c1] at hf
    refine v_iload_n hC dX8_figureOfPart_11 rfl 3 rfl ?_
    have KJ28 : ∀ (u2 : Int32), f_X8_figureOfPart_J28 K F G u2 = r → V X 4 p l e ({ frames := 1, cells := 0, slots := 0, locals := 21 } : Room) s m args below meth c Q 0 0 n K F G [] 28 [.int u2] := by
      intro u2 hf
      rw [f_X8_figureOfPart_J28] at hf
      exact v_iret hC rfl hQ dX8_figureOfPart_28 (congrArg (fun z => some (Value.int z)) hf) rfl rfl rfl rfl
    refine v_if_eq (tgt := 23) hC dX8_figureOfPart_12 (by decide) (fun c3 => ?_) (fun c3 => ?_)
    · rw [if_pos c3] at hf
      refine v_aload_nq hC dX8_figureOfPart_23 rfl 0 rfl ?_
      refine v_deref (gp_some c1) ?_
      refine v_iload_n hC dX8_figureOfPart_24 rfl 2 rfl ?_
      refine v_callV (c2 := 0) (s2 := 0) (As := [.int x1]) hC (m_X2_partOf l (n := n) (K := K) (F := F) (G := G) (a0 := (gp G a0 14)) (x1 := x1) ((t0.2.2.2.1) c1)) q_X8_597 (by rw [((t0.2.2.2.1) c1)]; decide) (ce_8 ((t0.2.2.2.1) c1)) (ci := 7) rfl hdV_X2_partOf rfl rfl (Nat.le_of_ble_eq_true rfl) (Nat.le_of_ble_eq_true rfl) (Nat.le_of_ble_eq_true rfl) (Nat.le_of_ble_eq_true rfl) (Nat.le_of_ble_eq_true rfl) (Nat.le_of_ble_eq_true rfl) (Nat.le_of_ble_eq_true rfl) dX8_figureOfPart_25 ?_
      refine v_sub [] rfl ?_
      exact KJ28 (f_X2_partOf K F G (gp G a0 14) x1) hf
    · rw [if_neg c3] at hf
      refine v_aload_nq hC dX8_figureOfPart_15 rfl 0 rfl ?_
      refine v_deref (gp_some c1) ?_
      refine v_iload_n hC dX8_figureOfPart_16 rfl 2 rfl ?_
      refine v_callV (c2 := 0) (s2 := 0) (As := [.int x1]) hC (m_X2_hadBy l (n := n) (K := K) (F := F) (G := G) (a0 := (gp G a0 14)) (x1 := x1) ((t0.2.2.2.1) c1)) q_X8_594 (by rw [((t0.2.2.2.1) c1)]; decide) (ce_8 ((t0.2.2.2.1) c1)) (ci := 7) rfl hdV_X2_hadBy rfl rfl (Nat.le_of_ble_eq_true rfl) (Nat.le_of_ble_eq_true rfl) (Nat.le_of_ble_eq_true rfl) (Nat.le_of_ble_eq_true rfl) (Nat.le_of_ble_eq_true rfl) (Nat.le_of_ble_eq_true rfl) (Nat.le_of_ble_eq_true rfl) dX8_figureOfPart_17 ?_
      refine v_goto (tgt := 28) hC dX8_figureOfPart_20 (by decide) ?_
      refine v_sub [] rfl ?_
      exact KJ28 (f_X2_hadBy K F G (gp G a0 14) x1) hf
  · rw [if_pos c1] at hf
    refine v_iconst (v := 0) hC dX8_figureOfPart_9 (by decide) ?_
    exact v_iret hC rfl hQ dX8_figureOfPart_10 (congrArg (fun z => some (Value.int z)) hf) rfl rfl rfl rfl
def f_X8_figureOfBooks (K : Kt) (F : Ft) (G : Gt) (a0 : Nat) (x1 : Int32) : Int32 := if x1 = 0 then F a0 9 else if x1 = 1 then (F a0 9) / 360 else if x1 = 2 then nI (K (gp G a0 0)).2 else if x1 = 3 then nI (K (gp G a0 1)).2 else if x1 = 4 then nI (K (gp G a0 2)).2 else if x1 = 5 then nI (K (gp G a0 3)).2 else if x1 = 6 then nI (K (gp G a0 4)).2 else if x1 = 7 then F (gp G a0 5) 0 else if x1 = 8 then F (gp G a0 6) 0 else if x1 = 9 then F (gp G a0 7) 0 else if x1 = 10 then F (gp G a0 8) 0 else if x1 = 11 then F a0 10 else if x1 = 12 then F a0 11 else if x1 = 13 then F a0 12 else if x1 = 14 then f_X8_balance K F G a0 else if x1 = 15 then f_X8_countOfMarked K F G a0 4 else if x1 = 16 then f_X8_countOfMarked K F G a0 8 else if x1 = 17 then f_X8_countOfMarked K F G a0 16 else if x1 = 18 then f_X8_countOfSuspect K F G a0 else F a0 13
theorem hdS_X8_figureOfBooks : yX8_figureOfBooks.cls ≠ "java/lang/invoke/MethodHandle" ∧ yX8_figureOfBooks.cls ≠ "java/lang/invoke/VarHandle" ∧ (parseMethodDescriptor yX8_figureOfBooks.desc).map (fun d => d.parameters.length) = some 1 := by decide +kernel
theorem hdV_X8_figureOfBooks : yX8_figureOfBooks.cls = RX8 ∧ yX8_figureOfBooks.cls ≠ "java/lang/invoke/MethodHandle" ∧ yX8_figureOfBooks.cls ≠ "java/lang/invoke/VarHandle" ∧ (parseMethodDescriptor yX8_figureOfBooks.desc).map (fun d => d.parameters.length) = some 1 := by decide +kernel
set_option maxHeartbeats 4000000 in
set_option maxRecDepth 100000 in
theorem m_X8_figureOfBooks (l : Launch) {n : Nat} {K : Kt} {F : Ft} {G : Gt} {a0 : Nat} {x1 : Int32} (t0 : TMain K G a0) : Mw X l yX8_figureOfBooks cX8_figureOfBooks 2 (some .int) 6 134 0 0 [.ref a0, .int x1] n K F G (some (.int (f_X8_figureOfBooks K F G a0 x1))) n K F G := by
  generalize hf : f_X8_figureOfBooks K F G a0 x1 = r
  refine Mw.of (lv := [(0, .ref a0), (1, .int x1)]) (by decide) (Nat.le_of_ble_eq_true rfl) rfl ?_
  intro p e s m args below meth c Q hC hin hQ
  have hC : Cx X p s m args meth c RX8 cX8_figureOfBooks 2 (some .int) := hC
  rw [f_X8_figureOfBooks] at hf
  refine v_iload_n hC dX8_figureOfBooks_0 rfl 1 rfl ?_
  by_cases c1 : x1 = 0
  · rw [if_pos c1] at hf
    refine v_tabIn (tgt := 92) hC dX8_figureOfBooks_1 (by rw [c1]; decide) (by rw [c1]; decide) (by rw [c1]; first | done | rfl) (by decide) ?_
    refine v_aload_n hC dX8_figureOfBooks_92 rfl 0 rfl ?_
    refine gf_X8_151 hC t0.1 dX8_figureOfBooks_93 ?_
    exact v_iret hC rfl hQ dX8_figureOfBooks_96 (congrArg (fun z => some (Value.int z)) hf) rfl rfl rfl rfl
  · rw [if_neg c1] at hf
    by_cases c2 : x1 = 1
    · rw [if_pos c2] at hf
      refine v_tabIn (tgt := 97) hC dX8_figureOfBooks_1 (by rw [c2]; decide) (by rw [c2]; decide) (by rw [c2]; first | done | rfl) (by decide) ?_
      refine v_aload_n hC dX8_figureOfBooks_97 rfl 0 rfl ?_
      refine gf_X8_151 hC t0.1 dX8_figureOfBooks_98 ?_
      refine v_sipush (v := 360) hC dX8_figureOfBooks_101 (by decide) ?_
      refine v_idiv hC dX8_figureOfBooks_104 (by decide) ?_
      exact v_iret hC rfl hQ dX8_figureOfBooks_105 (congrArg (fun z => some (Value.int z)) hf) rfl rfl rfl rfl
    · rw [if_neg c2] at hf
      by_cases c3 : x1 = 2
      · rw [if_pos c3] at hf
        refine v_tabIn (tgt := 106) hC dX8_figureOfBooks_1 (by rw [c3]; decide) (by rw [c3]; decide) (by rw [c3]; first | done | rfl) (by decide) ?_
        refine v_aload_n hC dX8_figureOfBooks_106 rfl 0 rfl ?_
        refine gf_X8_10 hC t0.1 t0.2.1.1 dX8_figureOfBooks_107 ?_
        refine v_callV (c2 := 0) (s2 := 0) (As := []) hC (m_Jx4a65c_size_8abf5 l t0.2.1.2.1) q_X8_89 (by rw [t0.2.1.2.1]; decide) (ce_10 t0.2.1.2.1) (ci := 9) rfl hdV_Jx4a65c_size_8abf5 rfl rfl (Nat.le_of_ble_eq_true rfl) (Nat.le_of_ble_eq_true rfl) (Nat.le_of_ble_eq_true rfl) (Nat.le_of_ble_eq_true rfl) (Nat.le_of_ble_eq_true rfl) (Nat.le_of_ble_eq_true rfl) (Nat.le_of_ble_eq_true rfl) dX8_figureOfBooks_110 ?_
        exact v_iret hC rfl hQ dX8_figureOfBooks_113 (congrArg (fun z => some (Value.int z)) hf) rfl rfl rfl rfl
      · rw [if_neg c3] at hf
        by_cases c4 : x1 = 3
        · rw [if_pos c4] at hf
          refine v_tabIn (tgt := 114) hC dX8_figureOfBooks_1 (by rw [c4]; decide) (by rw [c4]; decide) (by rw [c4]; first | done | rfl) (by decide) ?_
          refine v_aload_n hC dX8_figureOfBooks_114 rfl 0 rfl ?_
          refine gf_X8_16 hC t0.1 t0.2.2.1.1 dX8_figureOfBooks_115 ?_
          refine v_callV (c2 := 0) (s2 := 0) (As := []) hC (m_Jx4a65c_size_8abf5 l t0.2.2.1.2.1) q_X8_89 (by rw [t0.2.2.1.2.1]; decide) (ce_10 t0.2.2.1.2.1) (ci := 9) rfl hdV_Jx4a65c_size_8abf5 rfl rfl (Nat.le_of_ble_eq_true rfl) (Nat.le_of_ble_eq_true rfl) (Nat.le_of_ble_eq_true rfl) (Nat.le_of_ble_eq_true rfl) (Nat.le_of_ble_eq_true rfl) (Nat.le_of_ble_eq_true rfl) (Nat.le_of_ble_eq_true rfl) dX8_figureOfBooks_118 ?_
          exact v_iret hC rfl hQ dX8_figureOfBooks_121 (congrArg (fun z => some (Value.int z)) hf) rfl rfl rfl rfl
        · rw [if_neg c4] at hf
          by_cases c5 : x1 = 4
          · rw [if_pos c5] at hf
            refine v_tabIn (tgt := 122) hC dX8_figureOfBooks_1 (by rw [c5]; decide) (by rw [c5]; decide) (by rw [c5]; first | done | rfl) (by decide) ?_
            refine v_aload_n hC dX8_figureOfBooks_122 rfl 0 rfl ?_
            refine gf_X8_19 hC t0.1 t0.2.2.2.1.1 dX8_figureOfBooks_123 ?_
            refine v_callV (c2 := 0) (s2 := 0) (As := []) hC (m_Jx4a65c_size_8abf5 l t0.2.2.2.1.2.1) q_X8_89 (by rw [t0.2.2.2.1.2.1]; decide) (ce_10 t0.2.2.2.1.2.1) (ci := 9) rfl hdV_Jx4a65c_size_8abf5 rfl rfl (Nat.le_of_ble_eq_true rfl) (Nat.le_of_ble_eq_true rfl) (Nat.le_of_ble_eq_true rfl) (Nat.le_of_ble_eq_true rfl) (Nat.le_of_ble_eq_true rfl) (Nat.le_of_ble_eq_true rfl) (Nat.le_of_ble_eq_true rfl) dX8_figureOfBooks_126 ?_
            exact v_iret hC rfl hQ dX8_figureOfBooks_129 (congrArg (fun z => some (Value.int z)) hf) rfl rfl rfl rfl
          · rw [if_neg c5] at hf
            by_cases c6 : x1 = 5
            · rw [if_pos c6] at hf
              refine v_tabIn (tgt := 130) hC dX8_figureOfBooks_1 (by rw [c6]; decide) (by rw [c6]; decide) (by rw [c6]; first | done | rfl) (by decide) ?_
              refine v_aload_n hC dX8_figureOfBooks_130 rfl 0 rfl ?_
              refine gf_X8_22 hC t0.1 t0.2.2.2.2.1.1 dX8_figureOfBooks_131 ?_
              refine v_callV (c2 := 0) (s2 := 0) (As := []) hC (m_Jx4a65c_size_8abf5 l t0.2.2.2.2.1.2.1) q_X8_89 (by rw [t0.2.2.2.2.1.2.1]; decide) (ce_10 t0.2.2.2.2.1.2.1) (ci := 9) rfl hdV_Jx4a65c_size_8abf5 rfl rfl (Nat.le_of_ble_eq_true rfl) (Nat.le_of_ble_eq_true rfl) (Nat.le_of_ble_eq_true rfl) (Nat.le_of_ble_eq_true rfl) (Nat.le_of_ble_eq_true rfl) (Nat.le_of_ble_eq_true rfl) (Nat.le_of_ble_eq_true rfl) dX8_figureOfBooks_134 ?_
              exact v_iret hC rfl hQ dX8_figureOfBooks_137 (congrArg (fun z => some (Value.int z)) hf) rfl rfl rfl rfl
            · rw [if_neg c6] at hf
              by_cases c7 : x1 = 6
              · rw [if_pos c7] at hf
                refine v_tabIn (tgt := 138) hC dX8_figureOfBooks_1 (by rw [c7]; decide) (by rw [c7]; decide) (by rw [c7]; first | done | rfl) (by decide) ?_
                refine v_aload_n hC dX8_figureOfBooks_138 rfl 0 rfl ?_
                refine gf_X8_25 hC t0.1 t0.2.2.2.2.2.1.1 dX8_figureOfBooks_139 ?_
                refine v_callV (c2 := 0) (s2 := 0) (As := []) hC (m_Jx4a65c_size_8abf5 l t0.2.2.2.2.2.1.2.1) q_X8_89 (by rw [t0.2.2.2.2.2.1.2.1]; decide) (ce_10 t0.2.2.2.2.2.1.2.1) (ci := 9) rfl hdV_Jx4a65c_size_8abf5 rfl rfl (Nat.le_of_ble_eq_true rfl) (Nat.le_of_ble_eq_true rfl) (Nat.le_of_ble_eq_true rfl) (Nat.le_of_ble_eq_true rfl) (Nat.le_of_ble_eq_true rfl) (Nat.le_of_ble_eq_true rfl) (Nat.le_of_ble_eq_true rfl) dX8_figureOfBooks_142 ?_
                exact v_iret hC rfl hQ dX8_figureOfBooks_145 (congrArg (fun z => some (Value.int z)) hf) rfl rfl rfl rfl
              · rw [if_neg c7] at hf
                by_cases c8 : x1 = 7
                · rw [if_pos c8] at hf
                  refine v_tabIn (tgt := 146) hC dX8_figureOfBooks_1 (by rw [c8]; decide) (by rw [c8]; decide) (by rw [c8]; first | done | rfl) (by decide) ?_
                  refine v_aload_n hC dX8_figureOfBooks_146 rfl 0 rfl ?_
                  refine gf_X8_31 hC t0.1 t0.2.2.2.2.2.2.1.1 dX8_figureOfBooks_147 ?_
                  refine gf_X8_129 hC t0.2.2.2.2.2.2.1.2 dX8_figureOfBooks_150 ?_
                  exact v_iret hC rfl hQ dX8_figureOfBooks_153 (congrArg (fun z => some (Value.int z)) hf) rfl rfl rfl rfl
                · rw [if_neg c8] at hf
                  by_cases c9 : x1 = 8
                  · rw [if_pos c9] at hf
                    refine v_tabIn (tgt := 154) hC dX8_figureOfBooks_1 (by rw [c9]; decide) (by rw [c9]; decide) (by rw [c9]; first | done | rfl) (by decide) ?_
                    refine v_aload_n hC dX8_figureOfBooks_154 rfl 0 rfl ?_
                    refine gf_X8_35 hC t0.1 t0.2.2.2.2.2.2.2.1.1 dX8_figureOfBooks_155 ?_
                    refine gf_X8_129 hC t0.2.2.2.2.2.2.2.1.2 dX8_figureOfBooks_158 ?_
                    exact v_iret hC rfl hQ dX8_figureOfBooks_161 (congrArg (fun z => some (Value.int z)) hf) rfl rfl rfl rfl
                  · rw [if_neg c9] at hf
                    by_cases c10 : x1 = 9
                    · rw [if_pos c10] at hf
                      refine v_tabIn (tgt := 162) hC dX8_figureOfBooks_1 (by rw [c10]; decide) (by rw [c10]; decide) (by rw [c10]; first | done | rfl) (by decide) ?_
                      refine v_aload_n hC dX8_figureOfBooks_162 rfl 0 rfl ?_
                      refine gf_X8_38 hC t0.1 t0.2.2.2.2.2.2.2.2.1.1 dX8_figureOfBooks_163 ?_
                      refine gf_X8_129 hC t0.2.2.2.2.2.2.2.2.1.2 dX8_figureOfBooks_166 ?_
                      exact v_iret hC rfl hQ dX8_figureOfBooks_169 (congrArg (fun z => some (Value.int z)) hf) rfl rfl rfl rfl
                    · rw [if_neg c10] at hf
                      by_cases c11 : x1 = 10
                      · rw [if_pos c11] at hf
                        refine v_tabIn (tgt := 170) hC dX8_figureOfBooks_1 (by rw [c11]; decide) (by rw [c11]; decide) (by rw [c11]; first | done | rfl) (by decide) ?_
                        refine v_aload_n hC dX8_figureOfBooks_170 rfl 0 rfl ?_
                        refine gf_X8_41 hC t0.1 t0.2.2.2.2.2.2.2.2.2.1 dX8_figureOfBooks_171 ?_
                        refine gf_X8_129 hC t0.2.2.2.2.2.2.2.2.2.2 dX8_figureOfBooks_174 ?_
                        exact v_iret hC rfl hQ dX8_figureOfBooks_177 (congrArg (fun z => some (Value.int z)) hf) rfl rfl rfl rfl
                      · rw [if_neg c11] at hf
                        by_cases c12 : x1 = 11
                        · rw [if_pos c12] at hf
                          refine v_tabIn (tgt := 178) hC dX8_figureOfBooks_1 (by rw [c12]; decide) (by rw [c12]; decide) (by rw [c12]; first | done | rfl) (by decide) ?_
                          refine v_aload_n hC dX8_figureOfBooks_178 rfl 0 rfl ?_
                          refine gf_X8_506 hC t0.1 dX8_figureOfBooks_179 ?_
                          exact v_iret hC rfl hQ dX8_figureOfBooks_182 (congrArg (fun z => some (Value.int z)) hf) rfl rfl rfl rfl
                        · rw [if_neg c12] at hf
                          by_cases c13 : x1 = 12
                          · rw [if_pos c13] at hf
                            refine v_tabIn (tgt := 183) hC dX8_figureOfBooks_1 (by rw [c13]; decide) (by rw [c13]; decide) (by rw [c13]; first | done | rfl) (by decide) ?_
                            refine v_aload_n hC dX8_figureOfBooks_183 rfl 0 rfl ?_
                            refine gf_X8_300 hC t0.1 dX8_figureOfBooks_184 ?_
                            exact v_iret hC rfl hQ dX8_figureOfBooks_187 (congrArg (fun z => some (Value.int z)) hf) rfl rfl rfl rfl
                          · rw [if_neg c13] at hf
                            by_cases c14 : x1 = 13
                            · rw [if_pos c14] at hf
                              refine v_tabIn (tgt := 188) hC dX8_figureOfBooks_1 (by rw [c14]; decide) (by rw [c14]; decide) (by rw [c14]; first | done | rfl) (by decide) ?_
                              refine v_aload_n hC dX8_figureOfBooks_188 rfl 0 rfl ?_
                              refine gf_X8_524 hC t0.1 dX8_figureOfBooks_189 ?_
                              exact v_iret hC rfl hQ dX8_figureOfBooks_192 (congrArg (fun z => some (Value.int z)) hf) rfl rfl rfl rfl
                            · rw [if_neg c14] at hf
                              by_cases c15 : x1 = 14
                              · rw [if_pos c15] at hf
                                refine v_tabIn (tgt := 193) hC dX8_figureOfBooks_1 (by rw [c15]; decide) (by rw [c15]; decide) (by rw [c15]; first | done | rfl) (by decide) ?_
                                refine v_aload_n hC dX8_figureOfBooks_193 rfl 0 rfl ?_
                                refine v_callV (c2 := 0) (s2 := 0) (As := []) hC (m_X8_balance l (n := n) (K := K) (F := F) (G := G) (a0 := a0) t0) q_X8_400 (by rw [t0.1]; decide) (ce_1 t0.1) (ci := 0) rfl hdV_X8_balance rfl rfl (Nat.le_of_ble_eq_true rfl) (Nat.le_of_ble_eq_true rfl) (Nat.le_of_ble_eq_true rfl) (Nat.le_of_ble_eq_true rfl) (Nat.le_of_ble_eq_true rfl) (Nat.le_of_ble_eq_true rfl) (Nat.le_of_ble_eq_true rfl) dX8_figureOfBooks_194 ?_
                                exact v_iret hC rfl hQ dX8_figureOfBooks_197 (congrArg (fun z => some (Value.int z)) hf) rfl rfl rfl rfl
                              · rw [if_neg c15] at hf
                                by_cases c16 : x1 = 15
                                · rw [if_pos c16] at hf
                                  refine v_tabIn (tgt := 198) hC dX8_figureOfBooks_1 (by rw [c16]; decide) (by rw [c16]; decide) (by rw [c16]; first | done | rfl) (by decide) ?_
                                  refine v_aload_n hC dX8_figureOfBooks_198 rfl 0 rfl ?_
                                  refine v_iconst (v := 4) hC dX8_figureOfBooks_199 (by decide) ?_
                                  refine v_callV (c2 := 0) (s2 := 0) (As := [.int 4]) hC (m_X8_countOfMarked l (n := n) (K := K) (F := F) (G := G) (a0 := a0) (x1 := 4) t0) q_X8_600 (by rw [t0.1]; decide) (ce_1 t0.1) (ci := 0) rfl hdV_X8_countOfMarked rfl rfl (Nat.le_of_ble_eq_true rfl) (Nat.le_of_ble_eq_true rfl) (Nat.le_of_ble_eq_true rfl) (Nat.le_of_ble_eq_true rfl) (Nat.le_of_ble_eq_true rfl) (Nat.le_of_ble_eq_true rfl) (Nat.le_of_ble_eq_true rfl) dX8_figureOfBooks_200 ?_
                                  exact v_iret hC rfl hQ dX8_figureOfBooks_203 (congrArg (fun z => some (Value.int z)) hf) rfl rfl rfl rfl
                                · rw [if_neg c16] at hf
                                  by_cases c17 : x1 = 16
                                  · rw [if_pos c17] at hf
                                    refine v_tabIn (tgt := 204) hC dX8_figureOfBooks_1 (by rw [c17]; decide) (by rw [c17]; decide) (by rw [c17]; first | done | rfl) (by decide) ?_
                                    refine v_aload_n hC dX8_figureOfBooks_204 rfl 0 rfl ?_
                                    refine v_bipush (v := 8) hC dX8_figureOfBooks_205 (by decide) ?_
                                    refine v_callV (c2 := 0) (s2 := 0) (As := [.int 8]) hC (m_X8_countOfMarked l (n := n) (K := K) (F := F) (G := G) (a0 := a0) (x1 := 8) t0) q_X8_600 (by rw [t0.1]; decide) (ce_1 t0.1) (ci := 0) rfl hdV_X8_countOfMarked rfl rfl (Nat.le_of_ble_eq_true rfl) (Nat.le_of_ble_eq_true rfl) (Nat.le_of_ble_eq_true rfl) (Nat.le_of_ble_eq_true rfl) (Nat.le_of_ble_eq_true rfl) (Nat.le_of_ble_eq_true rfl) (Nat.le_of_ble_eq_true rfl) dX8_figureOfBooks_207 ?_
                                    exact v_iret hC rfl hQ dX8_figureOfBooks_210 (congrArg (fun z => some (Value.int z)) hf) rfl rfl rfl rfl
                                  · rw [if_neg c17] at hf
                                    by_cases c18 : x1 = 17
                                    · rw [if_pos c18] at hf
                                      refine v_tabIn (tgt := 211) hC dX8_figureOfBooks_1 (by rw [c18]; decide) (by rw [c18]; decide) (by rw [c18]; first | done | rfl) (by decide) ?_
                                      refine v_aload_n hC dX8_figureOfBooks_211 rfl 0 rfl ?_
                                      refine v_bipush (v := 16) hC dX8_figureOfBooks_212 (by decide) ?_
                                      refine v_callV (c2 := 0) (s2 := 0) (As := [.int 16]) hC (m_X8_countOfMarked l (n := n) (K := K) (F := F) (G := G) (a0 := a0) (x1 := 16) t0) q_X8_600 (by rw [t0.1]; decide) (ce_1 t0.1) (ci := 0) rfl hdV_X8_countOfMarked rfl rfl (Nat.le_of_ble_eq_true rfl) (Nat.le_of_ble_eq_true rfl) (Nat.le_of_ble_eq_true rfl) (Nat.le_of_ble_eq_true rfl) (Nat.le_of_ble_eq_true rfl) (Nat.le_of_ble_eq_true rfl) (Nat.le_of_ble_eq_true rfl) dX8_figureOfBooks_214 ?_
                                      exact v_iret hC rfl hQ dX8_figureOfBooks_217 (congrArg (fun z => some (Value.int z)) hf) rfl rfl rfl rfl
                                    · rw [if_neg c18] at hf
                                      by_cases c19 : x1 = 18
                                      · rw [if_pos c19] at hf
                                        refine v_tabIn (tgt := 218) hC dX8_figureOfBooks_1 (by rw [c19]; decide) (by rw [c19]; decide) (by rw [c19]; first | done | rfl) (by decide) ?_
                                        refine v_aload_n hC dX8_figureOfBooks_218 rfl 0 rfl ?_
                                        refine v_callV (c2 := 0) (s2 := 0) (As := []) hC (m_X8_countOfSuspect l (n := n) (K := K) (F := F) (G := G) (a0 := a0) t0) q_X8_603 (by rw [t0.1]; decide) (ce_1 t0.1) (ci := 0) rfl hdV_X8_countOfSuspect rfl rfl (Nat.le_of_ble_eq_true rfl) (Nat.le_of_ble_eq_true rfl) (Nat.le_of_ble_eq_true rfl) (Nat.le_of_ble_eq_true rfl) (Nat.le_of_ble_eq_true rfl) (Nat.le_of_ble_eq_true rfl) (Nat.le_of_ble_eq_true rfl) dX8_figureOfBooks_219 ?_
                                        exact v_iret hC rfl hQ dX8_figureOfBooks_222 (congrArg (fun z => some (Value.int z)) hf) rfl rfl rfl rfl
                                      · rw [if_neg c19] at hf
                                        refine v_tabOut (tgt := 223) hC dX8_figureOfBooks_1 (sw_0_18 c1 c2 c3 c4 c5 c6 c7 c8 c9 c10 c11 c12 c13 c14 c15 c16 c17 c18 c19) (by decide) ?_
                                        refine v_aload_n hC dX8_figureOfBooks_223 rfl 0 rfl ?_
                                        refine gf_X8_332 hC t0.1 dX8_figureOfBooks_224 ?_
                                        exact v_iret hC rfl hQ dX8_figureOfBooks_227 (congrArg (fun z => some (Value.int z)) hf) rfl rfl rfl rfl
def f_X8_circles_J39 (K : Kt) (F : Ft) (G : Gt) (j4 : Nat) (rec4 : (Nat → Int32 → Int32)) (u5 : Int32) : Int32 := rec4 (j4 + 1) u5
def f_X8_circles_L4 (K : Kt) (F : Ft) (G : Gt) (a0 : Nat) : Nat → Nat → Int32 → Int32
  | 0, j4, w1_4 => w1_4
  | k1 + 1, j4, w1_4 => if (f_X8_isInCircle K F G a0 (el G (gp G a0 2) j4)) = 0 then f_X8_circles_J39 K F G j4 (f_X8_circles_L4 K F G a0 k1) w1_4 else f_X8_circles_J39 K F G j4 (f_X8_circles_L4 K F G a0 k1) (w1_4 ||| (1 <<< ((nI j4) &&& 31)))
def f_X8_circles (K : Kt) (F : Ft) (G : Gt) (a0 : Nat) : Int32 := f_X8_circles_L4 K F G a0 ((K (gp G a0 2)).2) 0 0
theorem hdS_X8_circles : yX8_circles.cls ≠ "java/lang/invoke/MethodHandle" ∧ yX8_circles.cls ≠ "java/lang/invoke/VarHandle" ∧ (parseMethodDescriptor yX8_circles.desc).map (fun d => d.parameters.length) = some 0 := by decide +kernel
theorem hdV_X8_circles : yX8_circles.cls = RX8 ∧ yX8_circles.cls ≠ "java/lang/invoke/MethodHandle" ∧ yX8_circles.cls ≠ "java/lang/invoke/VarHandle" ∧ (parseMethodDescriptor yX8_circles.desc).map (fun d => d.parameters.length) = some 0 := by decide +kernel
set_option maxHeartbeats 4000000 in
set_option maxRecDepth 100000 in
theorem m_X8_circles (l : Launch) {n : Nat} {K : Kt} {F : Ft} {G : Gt} {a0 : Nat} (t0 : TMain K G a0) : Mw X l yX8_circles cX8_circles 3 (some .int) 5 111 0 0 [.ref a0] n K F G (some (.int (f_X8_circles K F G a0))) n K F G := by
  generalize hf : f_X8_circles K F G a0 = r
  refine Mw.of (lv := [(0, .ref a0)]) (by decide) (Nat.le_of_ble_eq_true rfl) rfl ?_
  intro p e s m args below meth c Q hC hin hQ
  have hC : Cx X p s m args meth c RX8 cX8_circles 3 (some .int) := hC
  rw [f_X8_circles] at hf
  refine v_iconst (v := 0) hC dX8_circles_0 (by decide) ?_
  refine v_istore_n (i := 1) (lv' := [(1, .int 0), (0, .ref a0)]) hC dX8_circles_1 rfl (by decide) rfl ?_
  refine v_iconst (v := 0) hC dX8_circles_2 (by decide) ?_
  refine v_istore_n (i := 2) (lv' := [(2, .int 0), (1, .int 0), (0, .ref a0)]) hC dX8_circles_3 rfl (by decide) rfl ?_
  refine v_sub [2, 1, 0] rfl ?_
  have KL4 : ∀ (k1 j4 : Nat) (w1_4 : Int32), j4 + k1 = (K (gp G a0 2)).2 → f_X8_circles_L4 K F G a0 k1 j4 w1_4 = r → V X 3 p l e ({ frames := 5, cells := 0, slots := 0, locals := 111 } : Room) s m args below meth c Q 0 0 n K F G [(0, .ref a0), (1, .int w1_4), (2, .int (nI j4))] 4 [] := by
    intro k1
    induction k1 with
    | zero =>
      intro j4 w1_4 hj4 hf
      rw [f_X8_circles_L4] at hf
      refine v_iload_n hC dX8_circles_4 rfl 2 rfl ?_
      refine v_aload_n hC dX8_circles_5 rfl 0 rfl ?_
      refine gf_X8_19 hC t0.1 t0.2.2.2.1.1 dX8_circles_6 ?_
      refine v_callV (c2 := 0) (s2 := 0) (As := []) hC (m_Jx4a65c_size_8abf5 l t0.2.2.2.1.2.1) q_X8_89 (by rw [t0.2.2.2.1.2.1]; decide) (ce_10 t0.2.2.2.1.2.1) (ci := 9) rfl hdV_Jx4a65c_size_8abf5 rfl rfl (Nat.le_of_ble_eq_true rfl) (Nat.le_of_ble_eq_true rfl) (Nat.le_of_ble_eq_true rfl) (Nat.le_of_ble_eq_true rfl) (Nat.le_of_ble_eq_true rfl) (Nat.le_of_ble_eq_true rfl) (Nat.le_of_ble_eq_true rfl) dX8_circles_9 ?_
      refine v_icmp_ge (tgt := 45) hC dX8_circles_12 (by decide) (fun c2 => ?_) (fun c2 => absurd (lp_z hj4) c2)
      refine v_iload_n hC dX8_circles_45 rfl 1 rfl ?_
      exact v_iret hC rfl hQ dX8_circles_46 (congrArg (fun z => some (Value.int z)) hf) rfl rfl rfl rfl
    | succ k1 ihj4 =>
      intro j4 w1_4 hj4 hf
      rw [f_X8_circles_L4] at hf
      refine v_iload_n hC dX8_circles_4 rfl 2 rfl ?_
      refine v_aload_n hC dX8_circles_5 rfl 0 rfl ?_
      refine gf_X8_19 hC t0.1 t0.2.2.2.1.1 dX8_circles_6 ?_
      refine v_callV (c2 := 0) (s2 := 0) (As := []) hC (m_Jx4a65c_size_8abf5 l t0.2.2.2.1.2.1) q_X8_89 (by rw [t0.2.2.2.1.2.1]; decide) (ce_10 t0.2.2.2.1.2.1) (ci := 9) rfl hdV_Jx4a65c_size_8abf5 rfl rfl (Nat.le_of_ble_eq_true rfl) (Nat.le_of_ble_eq_true rfl) (Nat.le_of_ble_eq_true rfl) (Nat.le_of_ble_eq_true rfl) (Nat.le_of_ble_eq_true rfl) (Nat.le_of_ble_eq_true rfl) (Nat.le_of_ble_eq_true rfl) dX8_circles_9 ?_
      refine v_icmp_ge (tgt := 45) hC dX8_circles_12 (by decide) (fun c3 => absurd c3 (lp_s hj4 t0.2.2.2.1.2.lt)) (fun c3 => ?_)
      refine v_aload_n hC dX8_circles_15 rfl 0 rfl ?_
      refine v_aload_n hC dX8_circles_16 rfl 0 rfl ?_
      refine gf_X8_19 hC t0.1 t0.2.2.2.1.1 dX8_circles_17 ?_
      refine v_iload_n hC dX8_circles_20 rfl 2 rfl ?_
      refine v_callV (c2 := 0) (s2 := 0) (As := [.int (nI j4)]) hC (m_Jx4a65c_get_915e3 l t0.2.2.2.1.2 (i := j4) (by omega)) q_X8_306 (by rw [t0.2.2.2.1.2.1]; decide) (ce_10 t0.2.2.2.1.2.1) (ci := 9) rfl hdV_Jx4a65c_get_915e3 rfl rfl (Nat.le_of_ble_eq_true rfl) (Nat.le_of_ble_eq_true rfl) (Nat.le_of_ble_eq_true rfl) (Nat.le_of_ble_eq_true rfl) (Nat.le_of_ble_eq_true rfl) (Nat.le_of_ble_eq_true rfl) (Nat.le_of_ble_eq_true rfl) dX8_circles_21 ?_
      have ht4 : TExp K G (el G (gp G a0 2) j4) := t0.2.2.2.1.2.el (i := j4) (by omega)
      refine v_cast hC (by rw [ht4.1]; decide) (ce_5 ht4.1) (ci := 4) rfl aw_363 dX8_circles_24 ?_
      refine v_callV (c2 := 0) (s2 := 0) (As := [.ref (el G (gp G a0 2) j4)]) hC (m_X8_isInCircle l (n := n) (K := K) (F := F) (G := G) (a0 := a0) (a1 := (el G (gp G a0 2) j4)) t0 ht4) q_X8_377 (by rw [t0.1]; decide) (ce_1 t0.1) (ci := 0) rfl hdV_X8_isInCircle rfl rfl (Nat.le_of_ble_eq_true rfl) (Nat.le_of_ble_eq_true rfl) (Nat.le_of_ble_eq_true rfl) (Nat.le_of_ble_eq_true rfl) (Nat.le_of_ble_eq_true rfl) (Nat.le_of_ble_eq_true rfl) (Nat.le_of_ble_eq_true rfl) dX8_circles_27 ?_
      have KJ39 : ∀ (u5 : Int32), f_X8_circles_J39 K F G j4 (f_X8_circles_L4 K F G a0 k1) u5 = r → V X 3 p l e ({ frames := 5, cells := 0, slots := 0, locals := 111 } : Room) s m args below meth c Q 0 0 n K F G [(0, .ref a0), (1, .int u5), (2, .int (nI j4))] 39 [] := by
        intro u5 hf
        rw [f_X8_circles_J39] at hf
        refine v_iinc (lv' := [(2, .int (nI (j4 + 1))), (0, .ref a0), (1, .int u5)]) (v := nI (j4 + 1)) hC dX8_circles_39 2 rfl (nI_inc j4) (by decide) rfl ?_
        refine v_goto (tgt := 4) hC dX8_circles_42 (by decide) ?_
        refine v_sub [1, 2, 0] rfl ?_
        exact ihj4 (j4 + 1) u5 (by omega) hf
      refine v_if_eq (tgt := 39) hC dX8_circles_30 (by decide) (fun c6 => ?_) (fun c6 => ?_)
      · rw [if_pos c6] at hf
        exact KJ39 w1_4 hf
      · rw [if_neg c6] at hf
        refine v_iload_n hC dX8_circles_33 rfl 1 rfl ?_
        refine v_iconst (v := 1) hC dX8_circles_34 (by decide) ?_
        refine v_iload_n hC dX8_circles_35 rfl 2 rfl ?_
        refine v_ishl hC dX8_circles_36 ?_
        refine v_ior hC dX8_circles_37 ?_
        refine v_istore_n (i := 1) (lv' := [(1, .int (w1_4 ||| (1 <<< ((nI j4) &&& 31)))), (0, .ref a0), (2, .int (nI j4))]) hC dX8_circles_38 rfl (by decide) rfl ?_
        refine v_sub [1, 0, 2] rfl ?_
        exact KJ39 (w1_4 ||| (1 <<< ((nI j4) &&& 31))) hf
  exact KL4 ((K (gp G a0 2)).2) 0 0 (by omega) hf
def f_X8_isSound_J21 (K : Kt) (F : Ft) (G : Gt) : Int32 := 0
def f_X8_isSound_L25 (K : Kt) (F : Ft) (G : Gt) (a0 : Nat) : Nat → Nat → Int32
  | 0, j25 => 1
  | k3 + 1, j25 => if (f_X7_isSoundAlone K F G (el G (gp G a0 4) j25)) = 0 then 0 else (f_X8_isSound_L25 K F G a0 k3) (j25 + 1)
def f_X8_isSound (K : Kt) (F : Ft) (G : Gt) (a0 : Nat) : Int32 := if (f_X8_areChestsSound K F G a0) = 0 then f_X8_isSound_J21 K F G else if (f_X8_balance K F G a0) = (F (gp G a0 5) 0) then f_X8_isSound_L25 K F G a0 ((K (gp G a0 4)).2) 0 else f_X8_isSound_J21 K F G
theorem hdS_X8_isSound : yX8_isSound.cls ≠ "java/lang/invoke/MethodHandle" ∧ yX8_isSound.cls ≠ "java/lang/invoke/VarHandle" ∧ (parseMethodDescriptor yX8_isSound.desc).map (fun d => d.parameters.length) = some 0 := by decide +kernel
theorem hdV_X8_isSound : yX8_isSound.cls = RX8 ∧ yX8_isSound.cls ≠ "java/lang/invoke/MethodHandle" ∧ yX8_isSound.cls ≠ "java/lang/invoke/VarHandle" ∧ (parseMethodDescriptor yX8_isSound.desc).map (fun d => d.parameters.length) = some 0 := by decide +kernel
set_option maxHeartbeats 4000000 in
set_option maxRecDepth 100000 in
theorem m_X8_isSound (l : Launch) {n : Nat} {K : Kt} {F : Ft} {G : Gt} {a0 : Nat} (t0 : TMain K G a0) : Mw X l yX8_isSound cX8_isSound 2 (some .boolean) 4 87 0 0 [.ref a0] n K F G (some (.int (f_X8_isSound K F G a0))) n K F G := by
  generalize hf : f_X8_isSound K F G a0 = r
  refine Mw.of (lv := [(0, .ref a0)]) (by decide) (Nat.le_of_ble_eq_true rfl) rfl ?_
  intro p e s m args below meth c Q hC hin hQ
  have hC : Cx X p s m args meth c RX8 cX8_isSound 2 (some .boolean) := hC
  rw [f_X8_isSound] at hf
  refine v_aload_n hC dX8_isSound_0 rfl 0 rfl ?_
  refine v_callV (c2 := 0) (s2 := 0) (As := []) hC (m_X8_areChestsSound l (n := n) (K := K) (F := F) (G := G) (a0 := a0) t0) q_X8_397 (by rw [t0.1]; decide) (ce_1 t0.1) (ci := 0) rfl hdV_X8_areChestsSound rfl rfl (Nat.le_of_ble_eq_true rfl) (Nat.le_of_ble_eq_true rfl) (Nat.le_of_ble_eq_true rfl) (Nat.le_of_ble_eq_true rfl) (Nat.le_of_ble_eq_true rfl) (Nat.le_of_ble_eq_true rfl) (Nat.le_of_ble_eq_true rfl) dX8_isSound_1 ?_
  have KJ21 : f_X8_isSound_J21 K F G = r → V X 2 p l e ({ frames := 4, cells := 0, slots := 0, locals := 87 } : Room) s m args below meth c Q 0 0 n K F G [] 21 [] := by
    intro hf
    rw [f_X8_isSound_J21] at hf
    refine v_iconst (v := 0) hC dX8_isSound_21 (by decide) ?_
    exact v_zret (ty := .boolean) hC rfl rfl hQ dX8_isSound_22 (congrArg (fun z => some (Value.int z)) hf) rfl rfl rfl rfl
  refine v_if_eq (tgt := 21) hC dX8_isSound_4 (by decide) (fun c1 => ?_) (fun c1 => ?_)
  · rw [if_pos c1] at hf
    refine v_sub [] rfl ?_
    exact KJ21 hf
  · rw [if_neg c1] at hf
    refine v_aload_n hC dX8_isSound_7 rfl 0 rfl ?_
    refine v_callV (c2 := 0) (s2 := 0) (As := []) hC (m_X8_balance l (n := n) (K := K) (F := F) (G := G) (a0 := a0) t0) q_X8_400 (by rw [t0.1]; decide) (ce_1 t0.1) (ci := 0) rfl hdV_X8_balance rfl rfl (Nat.le_of_ble_eq_true rfl) (Nat.le_of_ble_eq_true rfl) (Nat.le_of_ble_eq_true rfl) (Nat.le_of_ble_eq_true rfl) (Nat.le_of_ble_eq_true rfl) (Nat.le_of_ble_eq_true rfl) (Nat.le_of_ble_eq_true rfl) dX8_isSound_8 ?_
    refine v_aload_n hC dX8_isSound_11 rfl 0 rfl ?_
    refine gf_X8_31 hC t0.1 t0.2.2.2.2.2.2.1.1 dX8_isSound_12 ?_
    refine gf_X8_129 hC t0.2.2.2.2.2.2.1.2 dX8_isSound_15 ?_
    refine v_icmp_eq (tgt := 23) hC dX8_isSound_18 (by decide) (fun c2 => ?_) (fun c2 => ?_)
    · rw [if_pos c2] at hf
      refine v_iconst (v := 0) hC dX8_isSound_23 (by decide) ?_
      refine v_istore_n (i := 1) (lv' := [(1, .int 0), (0, .ref a0)]) hC dX8_isSound_24 rfl (by decide) rfl ?_
      refine v_sub [1, 0] rfl ?_
      have KL25 : ∀ (k3 j25 : Nat) , j25 + k3 = (K (gp G a0 4)).2 → f_X8_isSound_L25 K F G a0 k3 j25 = r → V X 2 p l e ({ frames := 4, cells := 0, slots := 0, locals := 87 } : Room) s m args below meth c Q 0 0 n K F G [(0, .ref a0), (1, .int (nI j25))] 25 [] := by
        intro k3
        induction k3 with
        | zero =>
          intro j25 hj25 hf
          rw [f_X8_isSound_L25] at hf
          refine v_iload_n hC dX8_isSound_25 rfl 1 rfl ?_
          refine v_aload_n hC dX8_isSound_26 rfl 0 rfl ?_
          refine gf_X8_25 hC t0.1 t0.2.2.2.2.2.1.1 dX8_isSound_27 ?_
          refine v_callV (c2 := 0) (s2 := 0) (As := []) hC (m_Jx4a65c_size_8abf5 l t0.2.2.2.2.2.1.2.1) q_X8_89 (by rw [t0.2.2.2.2.2.1.2.1]; decide) (ce_10 t0.2.2.2.2.2.1.2.1) (ci := 9) rfl hdV_Jx4a65c_size_8abf5 rfl rfl (Nat.le_of_ble_eq_true rfl) (Nat.le_of_ble_eq_true rfl) (Nat.le_of_ble_eq_true rfl) (Nat.le_of_ble_eq_true rfl) (Nat.le_of_ble_eq_true rfl) (Nat.le_of_ble_eq_true rfl) (Nat.le_of_ble_eq_true rfl) dX8_isSound_30 ?_
          refine v_icmp_ge (tgt := 61) hC dX8_isSound_33 (by decide) (fun c4 => ?_) (fun c4 => absurd (lp_z hj25) c4)
          refine v_iconst (v := 1) hC dX8_isSound_61 (by decide) ?_
          exact v_zret (ty := .boolean) hC rfl rfl hQ dX8_isSound_62 (congrArg (fun z => some (Value.int z)) hf) rfl rfl rfl rfl
        | succ k3 ihj25 =>
          intro j25 hj25 hf
          rw [f_X8_isSound_L25] at hf
          refine v_iload_n hC dX8_isSound_25 rfl 1 rfl ?_
          refine v_aload_n hC dX8_isSound_26 rfl 0 rfl ?_
          refine gf_X8_25 hC t0.1 t0.2.2.2.2.2.1.1 dX8_isSound_27 ?_
          refine v_callV (c2 := 0) (s2 := 0) (As := []) hC (m_Jx4a65c_size_8abf5 l t0.2.2.2.2.2.1.2.1) q_X8_89 (by rw [t0.2.2.2.2.2.1.2.1]; decide) (ce_10 t0.2.2.2.2.2.1.2.1) (ci := 9) rfl hdV_Jx4a65c_size_8abf5 rfl rfl (Nat.le_of_ble_eq_true rfl) (Nat.le_of_ble_eq_true rfl) (Nat.le_of_ble_eq_true rfl) (Nat.le_of_ble_eq_true rfl) (Nat.le_of_ble_eq_true rfl) (Nat.le_of_ble_eq_true rfl) (Nat.le_of_ble_eq_true rfl) dX8_isSound_30 ?_
          refine v_icmp_ge (tgt := 61) hC dX8_isSound_33 (by decide) (fun c5 => absurd c5 (lp_s hj25 t0.2.2.2.2.2.1.2.lt)) (fun c5 => ?_)
          refine v_aload_n hC dX8_isSound_36 rfl 0 rfl ?_
          refine gf_X8_25 hC t0.1 t0.2.2.2.2.2.1.1 dX8_isSound_37 ?_
          refine v_iload_n hC dX8_isSound_40 rfl 1 rfl ?_
          refine v_callV (c2 := 0) (s2 := 0) (As := [.int (nI j25)]) hC (m_Jx4a65c_get_915e3 l t0.2.2.2.2.2.1.2 (i := j25) (by omega)) q_X8_306 (by rw [t0.2.2.2.2.2.1.2.1]; decide) (ce_10 t0.2.2.2.2.2.1.2.1) (ci := 9) rfl hdV_Jx4a65c_get_915e3 rfl rfl (Nat.le_of_ble_eq_true rfl) (Nat.le_of_ble_eq_true rfl) (Nat.le_of_ble_eq_true rfl) (Nat.le_of_ble_eq_true rfl) (Nat.le_of_ble_eq_true rfl) (Nat.le_of_ble_eq_true rfl) (Nat.le_of_ble_eq_true rfl) dX8_isSound_41 ?_
          have ht6 : TShip K G (el G (gp G a0 4) j25) := t0.2.2.2.2.2.1.2.el (i := j25) (by omega)
          refine v_cast hC (by rw [ht6.1]; decide) (ce_7 ht6.1) (ci := 6) rfl aw_212 dX8_isSound_44 ?_
          refine v_callV (c2 := 0) (s2 := 0) (As := []) hC (m_X7_isSoundAlone l (n := n) (K := K) (F := F) (G := G) (a0 := (el G (gp G a0 4) j25)) ht6) q_X8_403 (by rw [ht6.1]; decide) (ce_7 ht6.1) (ci := 6) rfl hdV_X7_isSoundAlone rfl rfl (Nat.le_of_ble_eq_true rfl) (Nat.le_of_ble_eq_true rfl) (Nat.le_of_ble_eq_true rfl) (Nat.le_of_ble_eq_true rfl) (Nat.le_of_ble_eq_true rfl) (Nat.le_of_ble_eq_true rfl) (Nat.le_of_ble_eq_true rfl) dX8_isSound_47 ?_
          refine v_if_ne (tgt := 55) hC dX8_isSound_50 (by decide) (fun c7 => ?_) (fun c7 => ?_)
          · rw [if_neg c7] at hf
            refine v_iinc (lv' := [(1, .int (nI (j25 + 1))), (0, .ref a0)]) (v := nI (j25 + 1)) hC dX8_isSound_55 1 rfl (nI_inc j25) (by decide) rfl ?_
            refine v_goto (tgt := 25) hC dX8_isSound_58 (by decide) ?_
            refine v_sub [1, 0] rfl ?_
            exact ihj25 (j25 + 1) (by omega) hf
          · rw [if_pos c7] at hf
            refine v_iconst (v := 0) hC dX8_isSound_53 (by decide) ?_
            exact v_zret (ty := .boolean) hC rfl rfl hQ dX8_isSound_54 (congrArg (fun z => some (Value.int z)) hf) rfl rfl rfl rfl
      exact KL25 ((K (gp G a0 4)).2) 0 (by omega) hf
    · rw [if_neg c2] at hf
      refine v_sub [] rfl ?_
      exact KJ21 hf
def f_X8_digestOfLands_N56 (K : Kt) (F : Ft) (G : Gt) (j34 : Nat) (rec34 : (Nat → Int64 → Int64)) (y8 : Int64) : Int64 := rec34 (j34 + 1) y8
def f_X8_digestOfLands_L34 (K : Kt) (F : Ft) (G : Gt) (a0 : Nat) (j5 : Nat) (rec5 : (Nat → Int64 → Int64)) : Nat → Nat → Int64 → Int64
  | 0, j34, w3_34 => rec5 (j5 + 1) w3_34
  | k5 + 1, j34, w3_34 => f_X8_digestOfLands_N56 K F G j34 (f_X8_digestOfLands_L34 K F G a0 j5 rec5 k5) ((w3_34 * 31) + ((f_X8_figureOfLand K F G a0 (el G (gp G a0 0) j5) (nI j34)).toInt64))
def f_X8_digestOfLands_L5 (K : Kt) (F : Ft) (G : Gt) (a0 : Nat) : Nat → Nat → Int64 → Int64
  | 0, j5, w3_5 => w3_5
  | k1 + 1, j5, w3_5 => f_X8_digestOfLands_L34 K F G a0 j5 (f_X8_digestOfLands_L5 K F G a0 k1) 9 0 w3_5
def f_X8_digestOfLands (K : Kt) (F : Ft) (G : Gt) (a0 : Nat) (x1 : Int64) : Int64 := f_X8_digestOfLands_L5 K F G a0 ((K (gp G a0 0)).2) 0 x1
theorem hdS_X8_digestOfLands : yX8_digestOfLands.cls ≠ "java/lang/invoke/MethodHandle" ∧ yX8_digestOfLands.cls ≠ "java/lang/invoke/VarHandle" ∧ (parseMethodDescriptor yX8_digestOfLands.desc).map (fun d => d.parameters.length) = some 1 := by decide +kernel
theorem hdV_X8_digestOfLands : yX8_digestOfLands.cls = RX8 ∧ yX8_digestOfLands.cls ≠ "java/lang/invoke/MethodHandle" ∧ yX8_digestOfLands.cls ≠ "java/lang/invoke/VarHandle" ∧ (parseMethodDescriptor yX8_digestOfLands.desc).map (fun d => d.parameters.length) = some 1 := by decide +kernel
set_option maxHeartbeats 4000000 in
set_option maxRecDepth 100000 in
theorem m_X8_digestOfLands (l : Launch) {n : Nat} {K : Kt} {F : Ft} {G : Gt} {a0 : Nat} {x1 : Int64} (t0 : TMain K G a0) : Mw X l yX8_digestOfLands cX8_digestOfLands 8 (some .long) 5 110 0 0 [.ref a0, .long x1] n K F G (some (.long (f_X8_digestOfLands K F G a0 x1))) n K F G := by
  generalize hf : f_X8_digestOfLands K F G a0 x1 = r
  refine Mw.of (lv := [(0, .ref a0), (1, .long x1)]) (by decide) (Nat.le_of_ble_eq_true rfl) rfl ?_
  intro p e s m args below meth c Q hC hin hQ
  have hC : Cx X p s m args meth c RX8 cX8_digestOfLands 8 (some .long) := hC
  rw [f_X8_digestOfLands] at hf
  refine v_lload_n hC dX8_digestOfLands_0 rfl 1 rfl ?_
  refine v_lstore_n (i := 3) (lv' := [(3, .long x1), (0, .ref a0), (1, .long x1)]) hC dX8_digestOfLands_1 rfl (by decide) rfl ?_
  refine v_iconst (v := 0) hC dX8_digestOfLands_2 (by decide) ?_
  refine v_istore (i := 5) (lv' := [(5, .int 0), (3, .long x1), (0, .ref a0), (1, .long x1)]) hC dX8_digestOfLands_3 (by decide) rfl ?_
  refine v_sub [2, 1, 0] rfl ?_
  have KL5 : ∀ (k1 j5 : Nat) (w3_5 : Int64), j5 + k1 = (K (gp G a0 0)).2 → f_X8_digestOfLands_L5 K F G a0 k1 j5 w3_5 = r → V X 8 p l e ({ frames := 5, cells := 0, slots := 0, locals := 110 } : Room) s m args below meth c Q 0 0 n K F G [(0, .ref a0), (3, .long w3_5), (5, .int (nI j5))] 5 [] := by
    intro k1
    induction k1 with
    | zero =>
      intro j5 w3_5 hj5 hf
      rw [f_X8_digestOfLands_L5] at hf
      refine v_iload hC dX8_digestOfLands_5 2 rfl ?_
      refine v_aload_n hC dX8_digestOfLands_7 rfl 0 rfl ?_
      refine gf_X8_10 hC t0.1 t0.2.1.1 dX8_digestOfLands_8 ?_
      refine v_callV (c2 := 0) (s2 := 0) (As := []) hC (m_Jx4a65c_size_8abf5 l t0.2.1.2.1) q_X8_89 (by rw [t0.2.1.2.1]; decide) (ce_10 t0.2.1.2.1) (ci := 9) rfl hdV_Jx4a65c_size_8abf5 rfl rfl (Nat.le_of_ble_eq_true rfl) (Nat.le_of_ble_eq_true rfl) (Nat.le_of_ble_eq_true rfl) (Nat.le_of_ble_eq_true rfl) (Nat.le_of_ble_eq_true rfl) (Nat.le_of_ble_eq_true rfl) (Nat.le_of_ble_eq_true rfl) dX8_digestOfLands_11 ?_
      refine v_icmp_ge (tgt := 69) hC dX8_digestOfLands_14 (by decide) (fun c2 => ?_) (fun c2 => absurd (lp_z hj5) c2)
      refine v_lload_n hC dX8_digestOfLands_69 rfl 1 rfl ?_
      exact v_lret hC rfl hQ dX8_digestOfLands_70 (congrArg (fun z => some (Value.long z)) hf) rfl rfl rfl rfl
    | succ k1 ihj5 =>
      intro j5 w3_5 hj5 hf
      rw [f_X8_digestOfLands_L5] at hf
      refine v_iload hC dX8_digestOfLands_5 2 rfl ?_
      refine v_aload_n hC dX8_digestOfLands_7 rfl 0 rfl ?_
      refine gf_X8_10 hC t0.1 t0.2.1.1 dX8_digestOfLands_8 ?_
      refine v_callV (c2 := 0) (s2 := 0) (As := []) hC (m_Jx4a65c_size_8abf5 l t0.2.1.2.1) q_X8_89 (by rw [t0.2.1.2.1]; decide) (ce_10 t0.2.1.2.1) (ci := 9) rfl hdV_Jx4a65c_size_8abf5 rfl rfl (Nat.le_of_ble_eq_true rfl) (Nat.le_of_ble_eq_true rfl) (Nat.le_of_ble_eq_true rfl) (Nat.le_of_ble_eq_true rfl) (Nat.le_of_ble_eq_true rfl) (Nat.le_of_ble_eq_true rfl) (Nat.le_of_ble_eq_true rfl) dX8_digestOfLands_11 ?_
      refine v_icmp_ge (tgt := 69) hC dX8_digestOfLands_14 (by decide) (fun c3 => absurd c3 (lp_s hj5 t0.2.1.2.lt)) (fun c3 => ?_)
      refine v_aload_n hC dX8_digestOfLands_17 rfl 0 rfl ?_
      refine gf_X8_10 hC t0.1 t0.2.1.1 dX8_digestOfLands_18 ?_
      refine v_iload hC dX8_digestOfLands_21 2 rfl ?_
      refine v_callV (c2 := 0) (s2 := 0) (As := [.int (nI j5)]) hC (m_Jx4a65c_get_915e3 l t0.2.1.2 (i := j5) (by omega)) q_X8_306 (by rw [t0.2.1.2.1]; decide) (ce_10 t0.2.1.2.1) (ci := 9) rfl hdV_Jx4a65c_get_915e3 rfl rfl (Nat.le_of_ble_eq_true rfl) (Nat.le_of_ble_eq_true rfl) (Nat.le_of_ble_eq_true rfl) (Nat.le_of_ble_eq_true rfl) (Nat.le_of_ble_eq_true rfl) (Nat.le_of_ble_eq_true rfl) (Nat.le_of_ble_eq_true rfl) dX8_digestOfLands_23 ?_
      have ht4 : (K (el G (gp G a0 0) j5)).1 = 3 := t0.2.1.2.el (i := j5) (by omega)
      refine v_cast hC (by rw [ht4]; decide) (ce_3 ht4) (ci := 2) rfl aw_404 dX8_digestOfLands_26 ?_
      refine v_astore (i := 6) (lv' := [(6, .ref (el G (gp G a0 0) j5)), (0, .ref a0), (3, .long w3_5), (5, .int (nI j5))]) hC dX8_digestOfLands_29 (by decide) rfl ?_
      refine v_iconst (v := 0) hC dX8_digestOfLands_31 (by decide) ?_
      refine v_istore (i := 7) (lv' := [(7, .int 0), (6, .ref (el G (gp G a0 0) j5)), (0, .ref a0), (3, .long w3_5), (5, .int (nI j5))]) hC dX8_digestOfLands_32 (by decide) rfl ?_
      refine v_sub [2, 3, 4, 1, 0] rfl ?_
      have KL34 : ∀ (k5 j34 : Nat) (w3_34 : Int64), j34 + k5 = 9 → f_X8_digestOfLands_L34 K F G a0 j5 (f_X8_digestOfLands_L5 K F G a0 k1) k5 j34 w3_34 = r → V X 8 p l e ({ frames := 5, cells := 0, slots := 0, locals := 110 } : Room) s m args below meth c Q 0 0 n K F G [(0, .ref a0), (3, .long w3_34), (5, .int (nI j5)), (6, .ref (el G (gp G a0 0) j5)), (7, .int (nI j34))] 34 [] := by
        intro k5
        induction k5 with
        | zero =>
          intro j34 w3_34 hj34 hf
          rw [f_X8_digestOfLands_L34] at hf
          refine v_iload hC dX8_digestOfLands_34 4 rfl ?_
          refine v_bipush (v := nI 9) hC dX8_digestOfLands_36 (by decide) ?_
          refine v_icmp_ge (tgt := 63) hC dX8_digestOfLands_38 (by decide) (fun c6 => ?_) (fun c6 => absurd (lp_z hj34) c6)
          refine v_iinc (lv' := [(5, .int (nI (j5 + 1))), (0, .ref a0), (3, .long w3_34), (6, .ref (el G (gp G a0 0) j5)), (7, .int (nI j34))]) (v := nI (j5 + 1)) hC dX8_digestOfLands_63 2 rfl (nI_inc j5) (by decide) rfl ?_
          refine v_goto (tgt := 5) hC dX8_digestOfLands_66 (by decide) ?_
          refine v_sub [1, 2, 0] rfl ?_
          exact ihj5 (j5 + 1) w3_34 (by omega) hf
        | succ k5 ihj34 =>
          intro j34 w3_34 hj34 hf
          rw [f_X8_digestOfLands_L34] at hf
          refine v_iload hC dX8_digestOfLands_34 4 rfl ?_
          refine v_bipush (v := nI 9) hC dX8_digestOfLands_36 (by decide) ?_
          refine v_icmp_ge (tgt := 63) hC dX8_digestOfLands_38 (by decide) (fun c7 => absurd c7 (lp_s hj34 (by decide))) (fun c7 => ?_)
          refine v_lload_n hC dX8_digestOfLands_41 rfl 1 rfl ?_
          refine v_ldc2 (v := 31) hC aw_399 dX8_digestOfLands_42 ?_
          refine v_lmul hC dX8_digestOfLands_45 ?_
          refine v_aload_n hC dX8_digestOfLands_46 rfl 0 rfl ?_
          refine v_aload hC dX8_digestOfLands_47 3 rfl ?_
          refine v_iload hC dX8_digestOfLands_49 4 rfl ?_
          refine v_callV (c2 := 0) (s2 := 0) (As := [.ref (el G (gp G a0 0) j5), .int (nI j34)]) hC (m_X8_figureOfLand l (n := n) (K := K) (F := F) (G := G) (a0 := a0) (a1 := (el G (gp G a0 0) j5)) (x2 := (nI j34)) t0 ht4) q_X8_335 (by rw [t0.1]; decide) (ce_1 t0.1) (ci := 0) rfl hdV_X8_figureOfLand rfl rfl (Nat.le_of_ble_eq_true rfl) (Nat.le_of_ble_eq_true rfl) (Nat.le_of_ble_eq_true rfl) (Nat.le_of_ble_eq_true rfl) (Nat.le_of_ble_eq_true rfl) (Nat.le_of_ble_eq_true rfl) (Nat.le_of_ble_eq_true rfl) dX8_digestOfLands_51 ?_
          refine v_i2l hC dX8_digestOfLands_54 ?_
          refine v_ladd hC dX8_digestOfLands_55 ?_
          have KN56 : ∀ (y8 : Int64), f_X8_digestOfLands_N56 K F G j34 (f_X8_digestOfLands_L34 K F G a0 j5 (f_X8_digestOfLands_L5 K F G a0 k1) k5) y8 = r → V X 8 p l e ({ frames := 5, cells := 0, slots := 0, locals := 110 } : Room) s m args below meth c Q 0 0 n K F G [(0, .ref a0), (5, .int (nI j5)), (6, .ref (el G (gp G a0 0) j5)), (7, .int (nI j34))] 56 [.long y8] := by
            intro y8 hf
            rw [f_X8_digestOfLands_N56] at hf
            refine v_lstore_n (i := 3) (lv' := [(3, .long y8), (0, .ref a0), (5, .int (nI j5)), (6, .ref (el G (gp G a0 0) j5)), (7, .int (nI j34))]) hC dX8_digestOfLands_56 rfl (by decide) rfl ?_
            refine v_iinc (lv' := [(7, .int (nI (j34 + 1))), (3, .long y8), (0, .ref a0), (5, .int (nI j5)), (6, .ref (el G (gp G a0 0) j5))]) (v := nI (j34 + 1)) hC dX8_digestOfLands_57 4 rfl (nI_inc j34) (by decide) rfl ?_
            refine v_goto (tgt := 34) hC dX8_digestOfLands_60 (by decide) ?_
            refine v_sub [2, 1, 3, 4, 0] rfl ?_
            exact ihj34 (j34 + 1) y8 (by omega) hf
          refine v_sub [0, 2, 3, 4] rfl ?_
          exact KN56 ((w3_34 * 31) + ((f_X8_figureOfLand K F G a0 (el G (gp G a0 0) j5) (nI j34)).toInt64)) hf
      exact KL34 9 0 w3_5 (by omega) hf
  exact KL5 ((K (gp G a0 0)).2) 0 x1 (by omega) hf
def f_X8_digestOfBuyers_N56 (K : Kt) (F : Ft) (G : Gt) (j34 : Nat) (rec34 : (Nat → Int64 → Int64)) (y8 : Int64) : Int64 := rec34 (j34 + 1) y8
def f_X8_digestOfBuyers_L34 (K : Kt) (F : Ft) (G : Gt) (a0 : Nat) (j5 : Nat) (rec5 : (Nat → Int64 → Int64)) : Nat → Nat → Int64 → Int64
  | 0, j34, w3_34 => rec5 (j5 + 1) w3_34
  | k5 + 1, j34, w3_34 => f_X8_digestOfBuyers_N56 K F G j34 (f_X8_digestOfBuyers_L34 K F G a0 j5 rec5 k5) ((w3_34 * 31) + ((f_X8_figureOfBuyer K F G a0 (el G (gp G a0 1) j5) (nI j34)).toInt64))
def f_X8_digestOfBuyers_L5 (K : Kt) (F : Ft) (G : Gt) (a0 : Nat) : Nat → Nat → Int64 → Int64
  | 0, j5, w3_5 => w3_5
  | k1 + 1, j5, w3_5 => f_X8_digestOfBuyers_L34 K F G a0 j5 (f_X8_digestOfBuyers_L5 K F G a0 k1) 6 0 w3_5
def f_X8_digestOfBuyers (K : Kt) (F : Ft) (G : Gt) (a0 : Nat) (x1 : Int64) : Int64 := f_X8_digestOfBuyers_L5 K F G a0 ((K (gp G a0 1)).2) 0 x1
theorem hdS_X8_digestOfBuyers : yX8_digestOfBuyers.cls ≠ "java/lang/invoke/MethodHandle" ∧ yX8_digestOfBuyers.cls ≠ "java/lang/invoke/VarHandle" ∧ (parseMethodDescriptor yX8_digestOfBuyers.desc).map (fun d => d.parameters.length) = some 1 := by decide +kernel
theorem hdV_X8_digestOfBuyers : yX8_digestOfBuyers.cls = RX8 ∧ yX8_digestOfBuyers.cls ≠ "java/lang/invoke/MethodHandle" ∧ yX8_digestOfBuyers.cls ≠ "java/lang/invoke/VarHandle" ∧ (parseMethodDescriptor yX8_digestOfBuyers.desc).map (fun d => d.parameters.length) = some 1 := by decide +kernel
set_option maxHeartbeats 4000000 in
set_option maxRecDepth 100000 in
theorem m_X8_digestOfBuyers (l : Launch) {n : Nat} {K : Kt} {F : Ft} {G : Gt} {a0 : Nat} {x1 : Int64} (t0 : TMain K G a0) : Mw X l yX8_digestOfBuyers cX8_digestOfBuyers 8 (some .long) 5 110 0 0 [.ref a0, .long x1] n K F G (some (.long (f_X8_digestOfBuyers K F G a0 x1))) n K F G := by
  generalize hf : f_X8_digestOfBuyers K F G a0 x1 = r
  refine Mw.of (lv := [(0, .ref a0), (1, .long x1)]) (by decide) (Nat.le_of_ble_eq_true rfl) rfl ?_
  intro p e s m args below meth c Q hC hin hQ
  have hC : Cx X p s m args meth c RX8 cX8_digestOfBuyers 8 (some .long) := hC
  rw [f_X8_digestOfBuyers] at hf
  refine v_lload_n hC dX8_digestOfBuyers_0 rfl 1 rfl ?_
  refine v_lstore_n (i := 3) (lv' := [(3, .long x1), (0, .ref a0), (1, .long x1)]) hC dX8_digestOfBuyers_1 rfl (by decide) rfl ?_
  refine v_iconst (v := 0) hC dX8_digestOfBuyers_2 (by decide) ?_
  refine v_istore (i := 5) (lv' := [(5, .int 0), (3, .long x1), (0, .ref a0), (1, .long x1)]) hC dX8_digestOfBuyers_3 (by decide) rfl ?_
  refine v_sub [2, 1, 0] rfl ?_
  have KL5 : ∀ (k1 j5 : Nat) (w3_5 : Int64), j5 + k1 = (K (gp G a0 1)).2 → f_X8_digestOfBuyers_L5 K F G a0 k1 j5 w3_5 = r → V X 8 p l e ({ frames := 5, cells := 0, slots := 0, locals := 110 } : Room) s m args below meth c Q 0 0 n K F G [(0, .ref a0), (3, .long w3_5), (5, .int (nI j5))] 5 [] := by
    intro k1
    induction k1 with
    | zero =>
      intro j5 w3_5 hj5 hf
      rw [f_X8_digestOfBuyers_L5] at hf
      refine v_iload hC dX8_digestOfBuyers_5 2 rfl ?_
      refine v_aload_n hC dX8_digestOfBuyers_7 rfl 0 rfl ?_
      refine gf_X8_16 hC t0.1 t0.2.2.1.1 dX8_digestOfBuyers_8 ?_
      refine v_callV (c2 := 0) (s2 := 0) (As := []) hC (m_Jx4a65c_size_8abf5 l t0.2.2.1.2.1) q_X8_89 (by rw [t0.2.2.1.2.1]; decide) (ce_10 t0.2.2.1.2.1) (ci := 9) rfl hdV_Jx4a65c_size_8abf5 rfl rfl (Nat.le_of_ble_eq_true rfl) (Nat.le_of_ble_eq_true rfl) (Nat.le_of_ble_eq_true rfl) (Nat.le_of_ble_eq_true rfl) (Nat.le_of_ble_eq_true rfl) (Nat.le_of_ble_eq_true rfl) (Nat.le_of_ble_eq_true rfl) dX8_digestOfBuyers_11 ?_
      refine v_icmp_ge (tgt := 69) hC dX8_digestOfBuyers_14 (by decide) (fun c2 => ?_) (fun c2 => absurd (lp_z hj5) c2)
      refine v_lload_n hC dX8_digestOfBuyers_69 rfl 1 rfl ?_
      exact v_lret hC rfl hQ dX8_digestOfBuyers_70 (congrArg (fun z => some (Value.long z)) hf) rfl rfl rfl rfl
    | succ k1 ihj5 =>
      intro j5 w3_5 hj5 hf
      rw [f_X8_digestOfBuyers_L5] at hf
      refine v_iload hC dX8_digestOfBuyers_5 2 rfl ?_
      refine v_aload_n hC dX8_digestOfBuyers_7 rfl 0 rfl ?_
      refine gf_X8_16 hC t0.1 t0.2.2.1.1 dX8_digestOfBuyers_8 ?_
      refine v_callV (c2 := 0) (s2 := 0) (As := []) hC (m_Jx4a65c_size_8abf5 l t0.2.2.1.2.1) q_X8_89 (by rw [t0.2.2.1.2.1]; decide) (ce_10 t0.2.2.1.2.1) (ci := 9) rfl hdV_Jx4a65c_size_8abf5 rfl rfl (Nat.le_of_ble_eq_true rfl) (Nat.le_of_ble_eq_true rfl) (Nat.le_of_ble_eq_true rfl) (Nat.le_of_ble_eq_true rfl) (Nat.le_of_ble_eq_true rfl) (Nat.le_of_ble_eq_true rfl) (Nat.le_of_ble_eq_true rfl) dX8_digestOfBuyers_11 ?_
      refine v_icmp_ge (tgt := 69) hC dX8_digestOfBuyers_14 (by decide) (fun c3 => absurd c3 (lp_s hj5 t0.2.2.1.2.lt)) (fun c3 => ?_)
      refine v_aload_n hC dX8_digestOfBuyers_17 rfl 0 rfl ?_
      refine gf_X8_16 hC t0.1 t0.2.2.1.1 dX8_digestOfBuyers_18 ?_
      refine v_iload hC dX8_digestOfBuyers_21 2 rfl ?_
      refine v_callV (c2 := 0) (s2 := 0) (As := [.int (nI j5)]) hC (m_Jx4a65c_get_915e3 l t0.2.2.1.2 (i := j5) (by omega)) q_X8_306 (by rw [t0.2.2.1.2.1]; decide) (ce_10 t0.2.2.1.2.1) (ci := 9) rfl hdV_Jx4a65c_get_915e3 rfl rfl (Nat.le_of_ble_eq_true rfl) (Nat.le_of_ble_eq_true rfl) (Nat.le_of_ble_eq_true rfl) (Nat.le_of_ble_eq_true rfl) (Nat.le_of_ble_eq_true rfl) (Nat.le_of_ble_eq_true rfl) (Nat.le_of_ble_eq_true rfl) dX8_digestOfBuyers_23 ?_
      have ht4 : TBuyer K G (el G (gp G a0 1) j5) := t0.2.2.1.2.el (i := j5) (by omega)
      refine v_cast hC (by rw [ht4.1]; decide) (ce_4 ht4.1) (ci := 3) rfl aw_376 dX8_digestOfBuyers_26 ?_
      refine v_astore (i := 6) (lv' := [(6, .ref (el G (gp G a0 1) j5)), (0, .ref a0), (3, .long w3_5), (5, .int (nI j5))]) hC dX8_digestOfBuyers_29 (by decide) rfl ?_
      refine v_iconst (v := 0) hC dX8_digestOfBuyers_31 (by decide) ?_
      refine v_istore (i := 7) (lv' := [(7, .int 0), (6, .ref (el G (gp G a0 1) j5)), (0, .ref a0), (3, .long w3_5), (5, .int (nI j5))]) hC dX8_digestOfBuyers_32 (by decide) rfl ?_
      refine v_sub [2, 3, 4, 1, 0] rfl ?_
      have KL34 : ∀ (k5 j34 : Nat) (w3_34 : Int64), j34 + k5 = 6 → f_X8_digestOfBuyers_L34 K F G a0 j5 (f_X8_digestOfBuyers_L5 K F G a0 k1) k5 j34 w3_34 = r → V X 8 p l e ({ frames := 5, cells := 0, slots := 0, locals := 110 } : Room) s m args below meth c Q 0 0 n K F G [(0, .ref a0), (3, .long w3_34), (5, .int (nI j5)), (6, .ref (el G (gp G a0 1) j5)), (7, .int (nI j34))] 34 [] := by
        intro k5
        induction k5 with
        | zero =>
          intro j34 w3_34 hj34 hf
          rw [f_X8_digestOfBuyers_L34] at hf
          refine v_iload hC dX8_digestOfBuyers_34 4 rfl ?_
          refine v_bipush (v := nI 6) hC dX8_digestOfBuyers_36 (by decide) ?_
          refine v_icmp_ge (tgt := 63) hC dX8_digestOfBuyers_38 (by decide) (fun c6 => ?_) (fun c6 => absurd (lp_z hj34) c6)
          refine v_iinc (lv' := [(5, .int (nI (j5 + 1))), (0, .ref a0), (3, .long w3_34), (6, .ref (el G (gp G a0 1) j5)), (7, .int (nI j34))]) (v := nI (j5 + 1)) hC dX8_digestOfBuyers_63 2 rfl (nI_inc j5) (by decide) rfl ?_
          refine v_goto (tgt := 5) hC dX8_digestOfBuyers_66 (by decide) ?_
          refine v_sub [1, 2, 0] rfl ?_
          exact ihj5 (j5 + 1) w3_34 (by omega) hf
        | succ k5 ihj34 =>
          intro j34 w3_34 hj34 hf
          rw [f_X8_digestOfBuyers_L34] at hf
          refine v_iload hC dX8_digestOfBuyers_34 4 rfl ?_
          refine v_bipush (v := nI 6) hC dX8_digestOfBuyers_36 (by decide) ?_
          refine v_icmp_ge (tgt := 63) hC dX8_digestOfBuyers_38 (by decide) (fun c7 => absurd c7 (lp_s hj34 (by decide))) (fun c7 => ?_)
          refine v_lload_n hC dX8_digestOfBuyers_41 rfl 1 rfl ?_
          refine v_ldc2 (v := 31) hC aw_399 dX8_digestOfBuyers_42 ?_
          refine v_lmul hC dX8_digestOfBuyers_45 ?_
          refine v_aload_n hC dX8_digestOfBuyers_46 rfl 0 rfl ?_
          refine v_aload hC dX8_digestOfBuyers_47 3 rfl ?_
          refine v_iload hC dX8_digestOfBuyers_49 4 rfl ?_
          refine v_callV (c2 := 0) (s2 := 0) (As := [.ref (el G (gp G a0 1) j5), .int (nI j34)]) hC (m_X8_figureOfBuyer l (n := n) (K := K) (F := F) (G := G) (a0 := a0) (a1 := (el G (gp G a0 1) j5)) (x2 := (nI j34)) t0 ht4) q_X8_339 (by rw [t0.1]; decide) (ce_1 t0.1) (ci := 0) rfl hdV_X8_figureOfBuyer rfl rfl (Nat.le_of_ble_eq_true rfl) (Nat.le_of_ble_eq_true rfl) (Nat.le_of_ble_eq_true rfl) (Nat.le_of_ble_eq_true rfl) (Nat.le_of_ble_eq_true rfl) (Nat.le_of_ble_eq_true rfl) (Nat.le_of_ble_eq_true rfl) dX8_digestOfBuyers_51 ?_
          refine v_i2l hC dX8_digestOfBuyers_54 ?_
          refine v_ladd hC dX8_digestOfBuyers_55 ?_
          have KN56 : ∀ (y8 : Int64), f_X8_digestOfBuyers_N56 K F G j34 (f_X8_digestOfBuyers_L34 K F G a0 j5 (f_X8_digestOfBuyers_L5 K F G a0 k1) k5) y8 = r → V X 8 p l e ({ frames := 5, cells := 0, slots := 0, locals := 110 } : Room) s m args below meth c Q 0 0 n K F G [(0, .ref a0), (5, .int (nI j5)), (6, .ref (el G (gp G a0 1) j5)), (7, .int (nI j34))] 56 [.long y8] := by
            intro y8 hf
            rw [f_X8_digestOfBuyers_N56] at hf
            refine v_lstore_n (i := 3) (lv' := [(3, .long y8), (0, .ref a0), (5, .int (nI j5)), (6, .ref (el G (gp G a0 1) j5)), (7, .int (nI j34))]) hC dX8_digestOfBuyers_56 rfl (by decide) rfl ?_
            refine v_iinc (lv' := [(7, .int (nI (j34 + 1))), (3, .long y8), (0, .ref a0), (5, .int (nI j5)), (6, .ref (el G (gp G a0 1) j5))]) (v := nI (j34 + 1)) hC dX8_digestOfBuyers_57 4 rfl (nI_inc j34) (by decide) rfl ?_
            refine v_goto (tgt := 34) hC dX8_digestOfBuyers_60 (by decide) ?_
            refine v_sub [2, 1, 3, 4, 0] rfl ?_
            exact ihj34 (j34 + 1) y8 (by omega) hf
          refine v_sub [0, 2, 3, 4] rfl ?_
          exact KN56 ((w3_34 * 31) + ((f_X8_figureOfBuyer K F G a0 (el G (gp G a0 1) j5) (nI j34)).toInt64)) hf
      exact KL34 6 0 w3_5 (by omega) hf
  exact KL5 ((K (gp G a0 1)).2) 0 x1 (by omega) hf
def f_X8_digestOfExporters_N56 (K : Kt) (F : Ft) (G : Gt) (j34 : Nat) (rec34 : (Nat → Int64 → Int64)) (y8 : Int64) : Int64 := rec34 (j34 + 1) y8
def f_X8_digestOfExporters_L34 (K : Kt) (F : Ft) (G : Gt) (a0 : Nat) (j5 : Nat) (rec5 : (Nat → Int64 → Int64)) : Nat → Nat → Int64 → Int64
  | 0, j34, w3_34 => rec5 (j5 + 1) w3_34
  | k5 + 1, j34, w3_34 => f_X8_digestOfExporters_N56 K F G j34 (f_X8_digestOfExporters_L34 K F G a0 j5 rec5 k5) ((w3_34 * 31) + ((f_X8_figureOfExporter K F G a0 (el G (gp G a0 2) j5) (nI j34)).toInt64))
def f_X8_digestOfExporters_L5 (K : Kt) (F : Ft) (G : Gt) (a0 : Nat) : Nat → Nat → Int64 → Int64
  | 0, j5, w3_5 => w3_5
  | k1 + 1, j5, w3_5 => f_X8_digestOfExporters_L34 K F G a0 j5 (f_X8_digestOfExporters_L5 K F G a0 k1) 6 0 w3_5
def f_X8_digestOfExporters (K : Kt) (F : Ft) (G : Gt) (a0 : Nat) (x1 : Int64) : Int64 := f_X8_digestOfExporters_L5 K F G a0 ((K (gp G a0 2)).2) 0 x1
theorem hdS_X8_digestOfExporters : yX8_digestOfExporters.cls ≠ "java/lang/invoke/MethodHandle" ∧ yX8_digestOfExporters.cls ≠ "java/lang/invoke/VarHandle" ∧ (parseMethodDescriptor yX8_digestOfExporters.desc).map (fun d => d.parameters.length) = some 1 := by decide +kernel
theorem hdV_X8_digestOfExporters : yX8_digestOfExporters.cls = RX8 ∧ yX8_digestOfExporters.cls ≠ "java/lang/invoke/MethodHandle" ∧ yX8_digestOfExporters.cls ≠ "java/lang/invoke/VarHandle" ∧ (parseMethodDescriptor yX8_digestOfExporters.desc).map (fun d => d.parameters.length) = some 1 := by decide +kernel
set_option maxHeartbeats 4000000 in
set_option maxRecDepth 100000 in
theorem m_X8_digestOfExporters (l : Launch) {n : Nat} {K : Kt} {F : Ft} {G : Gt} {a0 : Nat} {x1 : Int64} (t0 : TMain K G a0) : Mw X l yX8_digestOfExporters cX8_digestOfExporters 8 (some .long) 6 133 0 0 [.ref a0, .long x1] n K F G (some (.long (f_X8_digestOfExporters K F G a0 x1))) n K F G := by
  generalize hf : f_X8_digestOfExporters K F G a0 x1 = r
  refine Mw.of (lv := [(0, .ref a0), (1, .long x1)]) (by decide) (Nat.le_of_ble_eq_true rfl) rfl ?_
  intro p e s m args below meth c Q hC hin hQ
  have hC : Cx X p s m args meth c RX8 cX8_digestOfExporters 8 (some .long) := hC
  rw [f_X8_digestOfExporters] at hf
  refine v_lload_n hC dX8_digestOfExporters_0 rfl 1 rfl ?_
  refine v_lstore_n (i := 3) (lv' := [(3, .long x1), (0, .ref a0), (1, .long x1)]) hC dX8_digestOfExporters_1 rfl (by decide) rfl ?_
  refine v_iconst (v := 0) hC dX8_digestOfExporters_2 (by decide) ?_
  refine v_istore (i := 5) (lv' := [(5, .int 0), (3, .long x1), (0, .ref a0), (1, .long x1)]) hC dX8_digestOfExporters_3 (by decide) rfl ?_
  refine v_sub [2, 1, 0] rfl ?_
  have KL5 : ∀ (k1 j5 : Nat) (w3_5 : Int64), j5 + k1 = (K (gp G a0 2)).2 → f_X8_digestOfExporters_L5 K F G a0 k1 j5 w3_5 = r → V X 8 p l e ({ frames := 6, cells := 0, slots := 0, locals := 133 } : Room) s m args below meth c Q 0 0 n K F G [(0, .ref a0), (3, .long w3_5), (5, .int (nI j5))] 5 [] := by
    intro k1
    induction k1 with
    | zero =>
      intro j5 w3_5 hj5 hf
      rw [f_X8_digestOfExporters_L5] at hf
      refine v_iload hC dX8_digestOfExporters_5 2 rfl ?_
      refine v_aload_n hC dX8_digestOfExporters_7 rfl 0 rfl ?_
      refine gf_X8_19 hC t0.1 t0.2.2.2.1.1 dX8_digestOfExporters_8 ?_
      refine v_callV (c2 := 0) (s2 := 0) (As := []) hC (m_Jx4a65c_size_8abf5 l t0.2.2.2.1.2.1) q_X8_89 (by rw [t0.2.2.2.1.2.1]; decide) (ce_10 t0.2.2.2.1.2.1) (ci := 9) rfl hdV_Jx4a65c_size_8abf5 rfl rfl (Nat.le_of_ble_eq_true rfl) (Nat.le_of_ble_eq_true rfl) (Nat.le_of_ble_eq_true rfl) (Nat.le_of_ble_eq_true rfl) (Nat.le_of_ble_eq_true rfl) (Nat.le_of_ble_eq_true rfl) (Nat.le_of_ble_eq_true rfl) dX8_digestOfExporters_11 ?_
      refine v_icmp_ge (tgt := 69) hC dX8_digestOfExporters_14 (by decide) (fun c2 => ?_) (fun c2 => absurd (lp_z hj5) c2)
      refine v_lload_n hC dX8_digestOfExporters_69 rfl 1 rfl ?_
      exact v_lret hC rfl hQ dX8_digestOfExporters_70 (congrArg (fun z => some (Value.long z)) hf) rfl rfl rfl rfl
    | succ k1 ihj5 =>
      intro j5 w3_5 hj5 hf
      rw [f_X8_digestOfExporters_L5] at hf
      refine v_iload hC dX8_digestOfExporters_5 2 rfl ?_
      refine v_aload_n hC dX8_digestOfExporters_7 rfl 0 rfl ?_
      refine gf_X8_19 hC t0.1 t0.2.2.2.1.1 dX8_digestOfExporters_8 ?_
      refine v_callV (c2 := 0) (s2 := 0) (As := []) hC (m_Jx4a65c_size_8abf5 l t0.2.2.2.1.2.1) q_X8_89 (by rw [t0.2.2.2.1.2.1]; decide) (ce_10 t0.2.2.2.1.2.1) (ci := 9) rfl hdV_Jx4a65c_size_8abf5 rfl rfl (Nat.le_of_ble_eq_true rfl) (Nat.le_of_ble_eq_true rfl) (Nat.le_of_ble_eq_true rfl) (Nat.le_of_ble_eq_true rfl) (Nat.le_of_ble_eq_true rfl) (Nat.le_of_ble_eq_true rfl) (Nat.le_of_ble_eq_true rfl) dX8_digestOfExporters_11 ?_
      refine v_icmp_ge (tgt := 69) hC dX8_digestOfExporters_14 (by decide) (fun c3 => absurd c3 (lp_s hj5 t0.2.2.2.1.2.lt)) (fun c3 => ?_)
      refine v_aload_n hC dX8_digestOfExporters_17 rfl 0 rfl ?_
      refine gf_X8_19 hC t0.1 t0.2.2.2.1.1 dX8_digestOfExporters_18 ?_
      refine v_iload hC dX8_digestOfExporters_21 2 rfl ?_
      refine v_callV (c2 := 0) (s2 := 0) (As := [.int (nI j5)]) hC (m_Jx4a65c_get_915e3 l t0.2.2.2.1.2 (i := j5) (by omega)) q_X8_306 (by rw [t0.2.2.2.1.2.1]; decide) (ce_10 t0.2.2.2.1.2.1) (ci := 9) rfl hdV_Jx4a65c_get_915e3 rfl rfl (Nat.le_of_ble_eq_true rfl) (Nat.le_of_ble_eq_true rfl) (Nat.le_of_ble_eq_true rfl) (Nat.le_of_ble_eq_true rfl) (Nat.le_of_ble_eq_true rfl) (Nat.le_of_ble_eq_true rfl) (Nat.le_of_ble_eq_true rfl) dX8_digestOfExporters_23 ?_
      have ht4 : TExp K G (el G (gp G a0 2) j5) := t0.2.2.2.1.2.el (i := j5) (by omega)
      refine v_cast hC (by rw [ht4.1]; decide) (ce_5 ht4.1) (ci := 4) rfl aw_363 dX8_digestOfExporters_26 ?_
      refine v_astore (i := 6) (lv' := [(6, .ref (el G (gp G a0 2) j5)), (0, .ref a0), (3, .long w3_5), (5, .int (nI j5))]) hC dX8_digestOfExporters_29 (by decide) rfl ?_
      refine v_iconst (v := 0) hC dX8_digestOfExporters_31 (by decide) ?_
      refine v_istore (i := 7) (lv' := [(7, .int 0), (6, .ref (el G (gp G a0 2) j5)), (0, .ref a0), (3, .long w3_5), (5, .int (nI j5))]) hC dX8_digestOfExporters_32 (by decide) rfl ?_
      refine v_sub [2, 3, 4, 1, 0] rfl ?_
      have KL34 : ∀ (k5 j34 : Nat) (w3_34 : Int64), j34 + k5 = 6 → f_X8_digestOfExporters_L34 K F G a0 j5 (f_X8_digestOfExporters_L5 K F G a0 k1) k5 j34 w3_34 = r → V X 8 p l e ({ frames := 6, cells := 0, slots := 0, locals := 133 } : Room) s m args below meth c Q 0 0 n K F G [(0, .ref a0), (3, .long w3_34), (5, .int (nI j5)), (6, .ref (el G (gp G a0 2) j5)), (7, .int (nI j34))] 34 [] := by
        intro k5
        induction k5 with
        | zero =>
          intro j34 w3_34 hj34 hf
          rw [f_X8_digestOfExporters_L34] at hf
          refine v_iload hC dX8_digestOfExporters_34 4 rfl ?_
          refine v_bipush (v := nI 6) hC dX8_digestOfExporters_36 (by decide) ?_
          refine v_icmp_ge (tgt := 63) hC dX8_digestOfExporters_38 (by decide) (fun c6 => ?_) (fun c6 => absurd (lp_z hj34) c6)
          refine v_iinc (lv' := [(5, .int (nI (j5 + 1))), (0, .ref a0), (3, .long w3_34), (6, .ref (el G (gp G a0 2) j5)), (7, .int (nI j34))]) (v := nI (j5 + 1)) hC dX8_digestOfExporters_63 2 rfl (nI_inc j5) (by decide) rfl ?_
          refine v_goto (tgt := 5) hC dX8_digestOfExporters_66 (by decide) ?_
          refine v_sub [1, 2, 0] rfl ?_
          exact ihj5 (j5 + 1) w3_34 (by omega) hf
        | succ k5 ihj34 =>
          intro j34 w3_34 hj34 hf
          rw [f_X8_digestOfExporters_L34] at hf
          refine v_iload hC dX8_digestOfExporters_34 4 rfl ?_
          refine v_bipush (v := nI 6) hC dX8_digestOfExporters_36 (by decide) ?_
          refine v_icmp_ge (tgt := 63) hC dX8_digestOfExporters_38 (by decide) (fun c7 => absurd c7 (lp_s hj34 (by decide))) (fun c7 => ?_)
          refine v_lload_n hC dX8_digestOfExporters_41 rfl 1 rfl ?_
          refine v_ldc2 (v := 31) hC aw_399 dX8_digestOfExporters_42 ?_
          refine v_lmul hC dX8_digestOfExporters_45 ?_
          refine v_aload_n hC dX8_digestOfExporters_46 rfl 0 rfl ?_
          refine v_aload hC dX8_digestOfExporters_47 3 rfl ?_
          refine v_iload hC dX8_digestOfExporters_49 4 rfl ?_
          refine v_callV (c2 := 0) (s2 := 0) (As := [.ref (el G (gp G a0 2) j5), .int (nI j34)]) hC (m_X8_figureOfExporter l (n := n) (K := K) (F := F) (G := G) (a0 := a0) (a1 := (el G (gp G a0 2) j5)) (x2 := (nI j34)) t0 ht4) q_X8_343 (by rw [t0.1]; decide) (ce_1 t0.1) (ci := 0) rfl hdV_X8_figureOfExporter rfl rfl (Nat.le_of_ble_eq_true rfl) (Nat.le_of_ble_eq_true rfl) (Nat.le_of_ble_eq_true rfl) (Nat.le_of_ble_eq_true rfl) (Nat.le_of_ble_eq_true rfl) (Nat.le_of_ble_eq_true rfl) (Nat.le_of_ble_eq_true rfl) dX8_digestOfExporters_51 ?_
          refine v_i2l hC dX8_digestOfExporters_54 ?_
          refine v_ladd hC dX8_digestOfExporters_55 ?_
          have KN56 : ∀ (y8 : Int64), f_X8_digestOfExporters_N56 K F G j34 (f_X8_digestOfExporters_L34 K F G a0 j5 (f_X8_digestOfExporters_L5 K F G a0 k1) k5) y8 = r → V X 8 p l e ({ frames := 6, cells := 0, slots := 0, locals := 133 } : Room) s m args below meth c Q 0 0 n K F G [(0, .ref a0), (5, .int (nI j5)), (6, .ref (el G (gp G a0 2) j5)), (7, .int (nI j34))] 56 [.long y8] := by
            intro y8 hf
            rw [f_X8_digestOfExporters_N56] at hf
            refine v_lstore_n (i := 3) (lv' := [(3, .long y8), (0, .ref a0), (5, .int (nI j5)), (6, .ref (el G (gp G a0 2) j5)), (7, .int (nI j34))]) hC dX8_digestOfExporters_56 rfl (by decide) rfl ?_
            refine v_iinc (lv' := [(7, .int (nI (j34 + 1))), (3, .long y8), (0, .ref a0), (5, .int (nI j5)), (6, .ref (el G (gp G a0 2) j5))]) (v := nI (j34 + 1)) hC dX8_digestOfExporters_57 4 rfl (nI_inc j34) (by decide) rfl ?_
            refine v_goto (tgt := 34) hC dX8_digestOfExporters_60 (by decide) ?_
            refine v_sub [2, 1, 3, 4, 0] rfl ?_
            exact ihj34 (j34 + 1) y8 (by omega) hf
          refine v_sub [0, 2, 3, 4] rfl ?_
          exact KN56 ((w3_34 * 31) + ((f_X8_figureOfExporter K F G a0 (el G (gp G a0 2) j5) (nI j34)).toInt64)) hf
      exact KL34 6 0 w3_5 (by omega) hf
  exact KL5 ((K (gp G a0 2)).2) 0 x1 (by omega) hf
def f_X8_digestOfPolicies_N125 (K : Kt) (F : Ft) (G : Gt) (j66 : Nat) (rec66 : (Nat → Int64 → Int64)) (y12 : Int64) : Int64 := rec66 (j66 + 1) y12
def f_X8_digestOfPolicies_N109 (K : Kt) (F : Ft) (G : Gt) (a0 : Nat) (j5 : Nat) (j66 : Nat) (rec66 : (Nat → Int64 → Int64)) (y11 : Int64) : Int64 := f_X8_digestOfPolicies_N125 K F G j66 rec66 ((y11 * 31) + ((f_X8_riskUnder K F G a0 (el G (gp G a0 3) j5) (el G (gp G a0 1) j66)).toInt64))
def f_X8_digestOfPolicies_L66 (K : Kt) (F : Ft) (G : Gt) (a0 : Nat) (j5 : Nat) (rec5 : (Nat → Int64 → Int64)) : Nat → Nat → Int64 → Int64
  | 0, j66, w3_66 => rec5 (j5 + 1) w3_66
  | k7 + 1, j66, w3_66 => f_X8_digestOfPolicies_N109 K F G a0 j5 j66 (f_X8_digestOfPolicies_L66 K F G a0 j5 rec5 k7) ((w3_66 * 31) + ((f_X6_grantedFor K F G (el G (gp G a0 3) j5) (F (el G (gp G a0 1) j66) 0)).toInt64))
def f_X8_digestOfPolicies_N56 (K : Kt) (F : Ft) (G : Gt) (j34 : Nat) (rec34 : (Nat → Int64 → Int64)) (y14 : Int64) : Int64 := rec34 (j34 + 1) y14
def f_X8_digestOfPolicies_L34 (K : Kt) (F : Ft) (G : Gt) (a0 : Nat) (j5 : Nat) (rec5 : (Nat → Int64 → Int64)) : Nat → Nat → Int64 → Int64
  | 0, j34, w3_34 => f_X8_digestOfPolicies_L66 K F G a0 j5 rec5 ((K (gp G a0 1)).2) 0 w3_34
  | k5 + 1, j34, w3_34 => f_X8_digestOfPolicies_N56 K F G j34 (f_X8_digestOfPolicies_L34 K F G a0 j5 rec5 k5) ((w3_34 * 31) + ((f_X8_figureOfPolicy K F G a0 (el G (gp G a0 3) j5) (nI j34)).toInt64))
def f_X8_digestOfPolicies_L5 (K : Kt) (F : Ft) (G : Gt) (a0 : Nat) : Nat → Nat → Int64 → Int64
  | 0, j5, w3_5 => w3_5
  | k1 + 1, j5, w3_5 => f_X8_digestOfPolicies_L34 K F G a0 j5 (f_X8_digestOfPolicies_L5 K F G a0 k1) 7 0 w3_5
def f_X8_digestOfPolicies (K : Kt) (F : Ft) (G : Gt) (a0 : Nat) (x1 : Int64) : Int64 := f_X8_digestOfPolicies_L5 K F G a0 ((K (gp G a0 3)).2) 0 x1
theorem hdS_X8_digestOfPolicies : yX8_digestOfPolicies.cls ≠ "java/lang/invoke/MethodHandle" ∧ yX8_digestOfPolicies.cls ≠ "java/lang/invoke/VarHandle" ∧ (parseMethodDescriptor yX8_digestOfPolicies.desc).map (fun d => d.parameters.length) = some 1 := by decide +kernel
theorem hdV_X8_digestOfPolicies : yX8_digestOfPolicies.cls = RX8 ∧ yX8_digestOfPolicies.cls ≠ "java/lang/invoke/MethodHandle" ∧ yX8_digestOfPolicies.cls ≠ "java/lang/invoke/VarHandle" ∧ (parseMethodDescriptor yX8_digestOfPolicies.desc).map (fun d => d.parameters.length) = some 1 := by decide +kernel
set_option maxHeartbeats 4000000 in
set_option maxRecDepth 100000 in
theorem m_X8_digestOfPolicies (l : Launch) {n : Nat} {K : Kt} {F : Ft} {G : Gt} {a0 : Nat} {x1 : Int64} (t0 : TMain K G a0) : Mw X l yX8_digestOfPolicies cX8_digestOfPolicies 9 (some .long) 5 110 0 0 [.ref a0, .long x1] n K F G (some (.long (f_X8_digestOfPolicies K F G a0 x1))) n K F G := by
  generalize hf : f_X8_digestOfPolicies K F G a0 x1 = r
  refine Mw.of (lv := [(0, .ref a0), (1, .long x1)]) (by decide) (Nat.le_of_ble_eq_true rfl) rfl ?_
  intro p e s m args below meth c Q hC hin hQ
  have hC : Cx X p s m args meth c RX8 cX8_digestOfPolicies 9 (some .long) := hC
  rw [f_X8_digestOfPolicies] at hf
  refine v_lload_n hC dX8_digestOfPolicies_0 rfl 1 rfl ?_
  refine v_lstore_n (i := 3) (lv' := [(3, .long x1), (0, .ref a0), (1, .long x1)]) hC dX8_digestOfPolicies_1 rfl (by decide) rfl ?_
  refine v_iconst (v := 0) hC dX8_digestOfPolicies_2 (by decide) ?_
  refine v_istore (i := 5) (lv' := [(5, .int 0), (3, .long x1), (0, .ref a0), (1, .long x1)]) hC dX8_digestOfPolicies_3 (by decide) rfl ?_
  refine v_sub [2, 1, 0] rfl ?_
  have KL5 : ∀ (k1 j5 : Nat) (w3_5 : Int64), j5 + k1 = (K (gp G a0 3)).2 → f_X8_digestOfPolicies_L5 K F G a0 k1 j5 w3_5 = r → V X 9 p l e ({ frames := 5, cells := 0, slots := 0, locals := 110 } : Room) s m args below meth c Q 0 0 n K F G [(0, .ref a0), (3, .long w3_5), (5, .int (nI j5))] 5 [] := by
    intro k1
    induction k1 with
    | zero =>
      intro j5 w3_5 hj5 hf
      rw [f_X8_digestOfPolicies_L5] at hf
      refine v_iload hC dX8_digestOfPolicies_5 2 rfl ?_
      refine v_aload_n hC dX8_digestOfPolicies_7 rfl 0 rfl ?_
      refine gf_X8_22 hC t0.1 t0.2.2.2.2.1.1 dX8_digestOfPolicies_8 ?_
      refine v_callV (c2 := 0) (s2 := 0) (As := []) hC (m_Jx4a65c_size_8abf5 l t0.2.2.2.2.1.2.1) q_X8_89 (by rw [t0.2.2.2.2.1.2.1]; decide) (ce_10 t0.2.2.2.2.1.2.1) (ci := 9) rfl hdV_Jx4a65c_size_8abf5 rfl rfl (Nat.le_of_ble_eq_true rfl) (Nat.le_of_ble_eq_true rfl) (Nat.le_of_ble_eq_true rfl) (Nat.le_of_ble_eq_true rfl) (Nat.le_of_ble_eq_true rfl) (Nat.le_of_ble_eq_true rfl) (Nat.le_of_ble_eq_true rfl) dX8_digestOfPolicies_11 ?_
      refine v_icmp_ge (tgt := 138) hC dX8_digestOfPolicies_14 (by decide) (fun c2 => ?_) (fun c2 => absurd (lp_z hj5) c2)
      refine v_lload_n hC dX8_digestOfPolicies_138 rfl 1 rfl ?_
      exact v_lret hC rfl hQ dX8_digestOfPolicies_139 (congrArg (fun z => some (Value.long z)) hf) rfl rfl rfl rfl
    | succ k1 ihj5 =>
      intro j5 w3_5 hj5 hf
      rw [f_X8_digestOfPolicies_L5] at hf
      refine v_iload hC dX8_digestOfPolicies_5 2 rfl ?_
      refine v_aload_n hC dX8_digestOfPolicies_7 rfl 0 rfl ?_
      refine gf_X8_22 hC t0.1 t0.2.2.2.2.1.1 dX8_digestOfPolicies_8 ?_
      refine v_callV (c2 := 0) (s2 := 0) (As := []) hC (m_Jx4a65c_size_8abf5 l t0.2.2.2.2.1.2.1) q_X8_89 (by rw [t0.2.2.2.2.1.2.1]; decide) (ce_10 t0.2.2.2.2.1.2.1) (ci := 9) rfl hdV_Jx4a65c_size_8abf5 rfl rfl (Nat.le_of_ble_eq_true rfl) (Nat.le_of_ble_eq_true rfl) (Nat.le_of_ble_eq_true rfl) (Nat.le_of_ble_eq_true rfl) (Nat.le_of_ble_eq_true rfl) (Nat.le_of_ble_eq_true rfl) (Nat.le_of_ble_eq_true rfl) dX8_digestOfPolicies_11 ?_
      refine v_icmp_ge (tgt := 138) hC dX8_digestOfPolicies_14 (by decide) (fun c3 => absurd c3 (lp_s hj5 t0.2.2.2.2.1.2.lt)) (fun c3 => ?_)
      refine v_aload_n hC dX8_digestOfPolicies_17 rfl 0 rfl ?_
      refine gf_X8_22 hC t0.1 t0.2.2.2.2.1.1 dX8_digestOfPolicies_18 ?_
      refine v_iload hC dX8_digestOfPolicies_21 2 rfl ?_
      refine v_callV (c2 := 0) (s2 := 0) (As := [.int (nI j5)]) hC (m_Jx4a65c_get_915e3 l t0.2.2.2.2.1.2 (i := j5) (by omega)) q_X8_306 (by rw [t0.2.2.2.2.1.2.1]; decide) (ce_10 t0.2.2.2.2.1.2.1) (ci := 9) rfl hdV_Jx4a65c_get_915e3 rfl rfl (Nat.le_of_ble_eq_true rfl) (Nat.le_of_ble_eq_true rfl) (Nat.le_of_ble_eq_true rfl) (Nat.le_of_ble_eq_true rfl) (Nat.le_of_ble_eq_true rfl) (Nat.le_of_ble_eq_true rfl) (Nat.le_of_ble_eq_true rfl) dX8_digestOfPolicies_23 ?_
      have ht4 : TPol K G (el G (gp G a0 3) j5) := t0.2.2.2.2.1.2.el (i := j5) (by omega)
      refine v_cast hC (by rw [ht4.1]; decide) (ce_6 ht4.1) (ci := 5) rfl aw_295 dX8_digestOfPolicies_26 ?_
      refine v_astore (i := 6) (lv' := [(6, .ref (el G (gp G a0 3) j5)), (0, .ref a0), (3, .long w3_5), (5, .int (nI j5))]) hC dX8_digestOfPolicies_29 (by decide) rfl ?_
      refine v_iconst (v := 0) hC dX8_digestOfPolicies_31 (by decide) ?_
      refine v_istore (i := 7) (lv' := [(7, .int 0), (6, .ref (el G (gp G a0 3) j5)), (0, .ref a0), (3, .long w3_5), (5, .int (nI j5))]) hC dX8_digestOfPolicies_32 (by decide) rfl ?_
      refine v_sub [2, 3, 4, 1, 0] rfl ?_
      have KL34 : ∀ (k5 j34 : Nat) (w3_34 : Int64), j34 + k5 = 7 → f_X8_digestOfPolicies_L34 K F G a0 j5 (f_X8_digestOfPolicies_L5 K F G a0 k1) k5 j34 w3_34 = r → V X 9 p l e ({ frames := 5, cells := 0, slots := 0, locals := 110 } : Room) s m args below meth c Q 0 0 n K F G [(0, .ref a0), (3, .long w3_34), (5, .int (nI j5)), (6, .ref (el G (gp G a0 3) j5)), (7, .int (nI j34))] 34 [] := by
        intro k5
        induction k5 with
        | zero =>
          intro j34 w3_34 hj34 hf
          rw [f_X8_digestOfPolicies_L34] at hf
          refine v_iload hC dX8_digestOfPolicies_34 4 rfl ?_
          refine v_bipush (v := nI 7) hC dX8_digestOfPolicies_36 (by decide) ?_
          refine v_icmp_ge (tgt := 63) hC dX8_digestOfPolicies_38 (by decide) (fun c6 => ?_) (fun c6 => absurd (lp_z hj34) c6)
          refine v_iconst (v := 0) hC dX8_digestOfPolicies_63 (by decide) ?_
          refine v_istore (i := 7) (lv' := [(7, .int 0), (0, .ref a0), (3, .long w3_34), (5, .int (nI j5)), (6, .ref (el G (gp G a0 3) j5))]) hC dX8_digestOfPolicies_64 (by decide) rfl ?_
          refine v_sub [1, 2, 3, 4, 0] rfl ?_
          have KL66 : ∀ (k7 j66 : Nat) (w3_66 : Int64), j66 + k7 = (K (gp G a0 1)).2 → f_X8_digestOfPolicies_L66 K F G a0 j5 (f_X8_digestOfPolicies_L5 K F G a0 k1) k7 j66 w3_66 = r → V X 9 p l e ({ frames := 5, cells := 0, slots := 0, locals := 110 } : Room) s m args below meth c Q 0 0 n K F G [(0, .ref a0), (3, .long w3_66), (5, .int (nI j5)), (6, .ref (el G (gp G a0 3) j5)), (7, .int (nI j66))] 66 [] := by
            intro k7
            induction k7 with
            | zero =>
              intro j66 w3_66 hj66 hf
              rw [f_X8_digestOfPolicies_L66] at hf
              refine v_iload hC dX8_digestOfPolicies_66 4 rfl ?_
              refine v_aload_n hC dX8_digestOfPolicies_68 rfl 0 rfl ?_
              refine gf_X8_16 hC t0.1 t0.2.2.1.1 dX8_digestOfPolicies_69 ?_
              refine v_callV (c2 := 0) (s2 := 0) (As := []) hC (m_Jx4a65c_size_8abf5 l t0.2.2.1.2.1) q_X8_89 (by rw [t0.2.2.1.2.1]; decide) (ce_10 t0.2.2.1.2.1) (ci := 9) rfl hdV_Jx4a65c_size_8abf5 rfl rfl (Nat.le_of_ble_eq_true rfl) (Nat.le_of_ble_eq_true rfl) (Nat.le_of_ble_eq_true rfl) (Nat.le_of_ble_eq_true rfl) (Nat.le_of_ble_eq_true rfl) (Nat.le_of_ble_eq_true rfl) (Nat.le_of_ble_eq_true rfl) dX8_digestOfPolicies_72 ?_
              refine v_icmp_ge (tgt := 132) hC dX8_digestOfPolicies_75 (by decide) (fun c8 => ?_) (fun c8 => absurd (lp_z hj66) c8)
              refine v_iinc (lv' := [(5, .int (nI (j5 + 1))), (0, .ref a0), (3, .long w3_66), (6, .ref (el G (gp G a0 3) j5)), (7, .int (nI j66))]) (v := nI (j5 + 1)) hC dX8_digestOfPolicies_132 2 rfl (nI_inc j5) (by decide) rfl ?_
              refine v_goto (tgt := 5) hC dX8_digestOfPolicies_135 (by decide) ?_
              refine v_sub [1, 2, 0] rfl ?_
              exact ihj5 (j5 + 1) w3_66 (by omega) hf
            | succ k7 ihj66 =>
              intro j66 w3_66 hj66 hf
              rw [f_X8_digestOfPolicies_L66] at hf
              refine v_iload hC dX8_digestOfPolicies_66 4 rfl ?_
              refine v_aload_n hC dX8_digestOfPolicies_68 rfl 0 rfl ?_
              refine gf_X8_16 hC t0.1 t0.2.2.1.1 dX8_digestOfPolicies_69 ?_
              refine v_callV (c2 := 0) (s2 := 0) (As := []) hC (m_Jx4a65c_size_8abf5 l t0.2.2.1.2.1) q_X8_89 (by rw [t0.2.2.1.2.1]; decide) (ce_10 t0.2.2.1.2.1) (ci := 9) rfl hdV_Jx4a65c_size_8abf5 rfl rfl (Nat.le_of_ble_eq_true rfl) (Nat.le_of_ble_eq_true rfl) (Nat.le_of_ble_eq_true rfl) (Nat.le_of_ble_eq_true rfl) (Nat.le_of_ble_eq_true rfl) (Nat.le_of_ble_eq_true rfl) (Nat.le_of_ble_eq_true rfl) dX8_digestOfPolicies_72 ?_
              refine v_icmp_ge (tgt := 132) hC dX8_digestOfPolicies_75 (by decide) (fun c9 => absurd c9 (lp_s hj66 t0.2.2.1.2.lt)) (fun c9 => ?_)
              refine v_aload_n hC dX8_digestOfPolicies_78 rfl 0 rfl ?_
              refine gf_X8_16 hC t0.1 t0.2.2.1.1 dX8_digestOfPolicies_79 ?_
              refine v_iload hC dX8_digestOfPolicies_82 4 rfl ?_
              refine v_callV (c2 := 0) (s2 := 0) (As := [.int (nI j66)]) hC (m_Jx4a65c_get_915e3 l t0.2.2.1.2 (i := j66) (by omega)) q_X8_306 (by rw [t0.2.2.1.2.1]; decide) (ce_10 t0.2.2.1.2.1) (ci := 9) rfl hdV_Jx4a65c_get_915e3 rfl rfl (Nat.le_of_ble_eq_true rfl) (Nat.le_of_ble_eq_true rfl) (Nat.le_of_ble_eq_true rfl) (Nat.le_of_ble_eq_true rfl) (Nat.le_of_ble_eq_true rfl) (Nat.le_of_ble_eq_true rfl) (Nat.le_of_ble_eq_true rfl) dX8_digestOfPolicies_84 ?_
              have ht10 : TBuyer K G (el G (gp G a0 1) j66) := t0.2.2.1.2.el (i := j66) (by omega)
              refine v_cast hC (by rw [ht10.1]; decide) (ce_4 ht10.1) (ci := 3) rfl aw_376 dX8_digestOfPolicies_87 ?_
              refine v_astore (i := 8) (lv' := [(8, .ref (el G (gp G a0 1) j66)), (0, .ref a0), (3, .long w3_66), (5, .int (nI j5)), (6, .ref (el G (gp G a0 3) j5)), (7, .int (nI j66))]) hC dX8_digestOfPolicies_90 (by decide) rfl ?_
              refine v_lload_n hC dX8_digestOfPolicies_92 rfl 2 rfl ?_
              refine v_ldc2 (v := 31) hC aw_399 dX8_digestOfPolicies_93 ?_
              refine v_lmul hC dX8_digestOfPolicies_96 ?_
              refine v_aload hC dX8_digestOfPolicies_97 4 rfl ?_
              refine v_aload hC dX8_digestOfPolicies_99 0 rfl ?_
              refine gf_X8_123 hC ht10.1 dX8_digestOfPolicies_101 ?_
              refine v_callV (c2 := 0) (s2 := 0) (As := [.int (F (el G (gp G a0 1) j66) 0)]) hC (m_X6_grantedFor l (n := n) (K := K) (F := F) (G := G) (a0 := (el G (gp G a0 3) j5)) (x1 := (F (el G (gp G a0 1) j66) 0)) ht4) q_X8_195 (by rw [ht4.1]; decide) (ce_6 ht4.1) (ci := 5) rfl hdV_X6_grantedFor rfl rfl (Nat.le_of_ble_eq_true rfl) (Nat.le_of_ble_eq_true rfl) (Nat.le_of_ble_eq_true rfl) (Nat.le_of_ble_eq_true rfl) (Nat.le_of_ble_eq_true rfl) (Nat.le_of_ble_eq_true rfl) (Nat.le_of_ble_eq_true rfl) dX8_digestOfPolicies_104 ?_
              refine v_i2l hC dX8_digestOfPolicies_107 ?_
              refine v_ladd hC dX8_digestOfPolicies_108 ?_
              have KN109 : ∀ (y11 : Int64), f_X8_digestOfPolicies_N109 K F G a0 j5 j66 (f_X8_digestOfPolicies_L66 K F G a0 j5 (f_X8_digestOfPolicies_L5 K F G a0 k1) k7) y11 = r → V X 9 p l e ({ frames := 5, cells := 0, slots := 0, locals := 110 } : Room) s m args below meth c Q 0 0 n K F G [(0, .ref a0), (5, .int (nI j5)), (6, .ref (el G (gp G a0 3) j5)), (7, .int (nI j66)), (8, .ref (el G (gp G a0 1) j66))] 109 [.long y11] := by
                intro y11 hf
                rw [f_X8_digestOfPolicies_N109] at hf
                refine v_lstore_n (i := 3) (lv' := [(3, .long y11), (0, .ref a0), (5, .int (nI j5)), (6, .ref (el G (gp G a0 3) j5)), (7, .int (nI j66)), (8, .ref (el G (gp G a0 1) j66))]) hC dX8_digestOfPolicies_109 rfl (by decide) rfl ?_
                refine v_lload_n hC dX8_digestOfPolicies_110 rfl 0 rfl ?_
                refine v_ldc2 (v := 31) hC aw_399 dX8_digestOfPolicies_111 ?_
                refine v_lmul hC dX8_digestOfPolicies_114 ?_
                refine v_aload_n hC dX8_digestOfPolicies_115 rfl 1 rfl ?_
                refine v_aload hC dX8_digestOfPolicies_116 3 rfl ?_
                refine v_aload hC dX8_digestOfPolicies_118 5 rfl ?_
                refine v_callV (c2 := 0) (s2 := 0) (As := [.ref (el G (gp G a0 3) j5), .ref (el G (gp G a0 1) j66)]) hC (m_X8_riskUnder l (n := n) (K := K) (F := F) (G := G) (a0 := a0) (a1 := (el G (gp G a0 3) j5)) (a2 := (el G (gp G a0 1) j66)) t0 ht4 ht10) q_X8_351 (by rw [t0.1]; decide) (ce_1 t0.1) (ci := 0) rfl hdV_X8_riskUnder rfl rfl (Nat.le_of_ble_eq_true rfl) (Nat.le_of_ble_eq_true rfl) (Nat.le_of_ble_eq_true rfl) (Nat.le_of_ble_eq_true rfl) (Nat.le_of_ble_eq_true rfl) (Nat.le_of_ble_eq_true rfl) (Nat.le_of_ble_eq_true rfl) dX8_digestOfPolicies_120 ?_
                refine v_i2l hC dX8_digestOfPolicies_123 ?_
                refine v_ladd hC dX8_digestOfPolicies_124 ?_
                have KN125 : ∀ (y12 : Int64), f_X8_digestOfPolicies_N125 K F G j66 (f_X8_digestOfPolicies_L66 K F G a0 j5 (f_X8_digestOfPolicies_L5 K F G a0 k1) k7) y12 = r → V X 9 p l e ({ frames := 5, cells := 0, slots := 0, locals := 110 } : Room) s m args below meth c Q 0 0 n K F G [(0, .ref a0), (5, .int (nI j5)), (6, .ref (el G (gp G a0 3) j5)), (7, .int (nI j66))] 125 [.long y12] := by
                  intro y12 hf
                  rw [f_X8_digestOfPolicies_N125] at hf
                  refine v_lstore_n (i := 3) (lv' := [(3, .long y12), (0, .ref a0), (5, .int (nI j5)), (6, .ref (el G (gp G a0 3) j5)), (7, .int (nI j66))]) hC dX8_digestOfPolicies_125 rfl (by decide) rfl ?_
                  refine v_iinc (lv' := [(7, .int (nI (j66 + 1))), (3, .long y12), (0, .ref a0), (5, .int (nI j5)), (6, .ref (el G (gp G a0 3) j5))]) (v := nI (j66 + 1)) hC dX8_digestOfPolicies_126 4 rfl (nI_inc j66) (by decide) rfl ?_
                  refine v_goto (tgt := 66) hC dX8_digestOfPolicies_129 (by decide) ?_
                  refine v_sub [2, 1, 3, 4, 0] rfl ?_
                  exact ihj66 (j66 + 1) y12 (by omega) hf
                refine v_sub [1, 2, 3, 4] rfl ?_
                exact KN125 ((y11 * 31) + ((f_X8_riskUnder K F G a0 (el G (gp G a0 3) j5) (el G (gp G a0 1) j66)).toInt64)) hf
              refine v_sub [1, 3, 4, 5, 0] rfl ?_
              exact KN109 ((w3_66 * 31) + ((f_X6_grantedFor K F G (el G (gp G a0 3) j5) (F (el G (gp G a0 1) j66) 0)).toInt64)) hf
          exact KL66 ((K (gp G a0 1)).2) 0 w3_34 (by omega) hf
        | succ k5 ihj34 =>
          intro j34 w3_34 hj34 hf
          rw [f_X8_digestOfPolicies_L34] at hf
          refine v_iload hC dX8_digestOfPolicies_34 4 rfl ?_
          refine v_bipush (v := nI 7) hC dX8_digestOfPolicies_36 (by decide) ?_
          refine v_icmp_ge (tgt := 63) hC dX8_digestOfPolicies_38 (by decide) (fun c13 => absurd c13 (lp_s hj34 (by decide))) (fun c13 => ?_)
          refine v_lload_n hC dX8_digestOfPolicies_41 rfl 1 rfl ?_
          refine v_ldc2 (v := 31) hC aw_399 dX8_digestOfPolicies_42 ?_
          refine v_lmul hC dX8_digestOfPolicies_45 ?_
          refine v_aload_n hC dX8_digestOfPolicies_46 rfl 0 rfl ?_
          refine v_aload hC dX8_digestOfPolicies_47 3 rfl ?_
          refine v_iload hC dX8_digestOfPolicies_49 4 rfl ?_
          refine v_callV (c2 := 0) (s2 := 0) (As := [.ref (el G (gp G a0 3) j5), .int (nI j34)]) hC (m_X8_figureOfPolicy l (n := n) (K := K) (F := F) (G := G) (a0 := a0) (a1 := (el G (gp G a0 3) j5)) (x2 := (nI j34)) t0 ht4) q_X8_347 (by rw [t0.1]; decide) (ce_1 t0.1) (ci := 0) rfl hdV_X8_figureOfPolicy rfl rfl (Nat.le_of_ble_eq_true rfl) (Nat.le_of_ble_eq_true rfl) (Nat.le_of_ble_eq_true rfl) (Nat.le_of_ble_eq_true rfl) (Nat.le_of_ble_eq_true rfl) (Nat.le_of_ble_eq_true rfl) (Nat.le_of_ble_eq_true rfl) dX8_digestOfPolicies_51 ?_
          refine v_i2l hC dX8_digestOfPolicies_54 ?_
          refine v_ladd hC dX8_digestOfPolicies_55 ?_
          have KN56 : ∀ (y14 : Int64), f_X8_digestOfPolicies_N56 K F G j34 (f_X8_digestOfPolicies_L34 K F G a0 j5 (f_X8_digestOfPolicies_L5 K F G a0 k1) k5) y14 = r → V X 9 p l e ({ frames := 5, cells := 0, slots := 0, locals := 110 } : Room) s m args below meth c Q 0 0 n K F G [(0, .ref a0), (5, .int (nI j5)), (6, .ref (el G (gp G a0 3) j5)), (7, .int (nI j34))] 56 [.long y14] := by
            intro y14 hf
            rw [f_X8_digestOfPolicies_N56] at hf
            refine v_lstore_n (i := 3) (lv' := [(3, .long y14), (0, .ref a0), (5, .int (nI j5)), (6, .ref (el G (gp G a0 3) j5)), (7, .int (nI j34))]) hC dX8_digestOfPolicies_56 rfl (by decide) rfl ?_
            refine v_iinc (lv' := [(7, .int (nI (j34 + 1))), (3, .long y14), (0, .ref a0), (5, .int (nI j5)), (6, .ref (el G (gp G a0 3) j5))]) (v := nI (j34 + 1)) hC dX8_digestOfPolicies_57 4 rfl (nI_inc j34) (by decide) rfl ?_
            refine v_goto (tgt := 34) hC dX8_digestOfPolicies_60 (by decide) ?_
            refine v_sub [2, 1, 3, 4, 0] rfl ?_
            exact ihj34 (j34 + 1) y14 (by omega) hf
          refine v_sub [0, 2, 3, 4] rfl ?_
          exact KN56 ((w3_34 * 31) + ((f_X8_figureOfPolicy K F G a0 (el G (gp G a0 3) j5) (nI j34)).toInt64)) hf
      exact KL34 7 0 w3_5 (by omega) hf
  exact KL5 ((K (gp G a0 3)).2) 0 x1 (by omega) hf
end PM2
