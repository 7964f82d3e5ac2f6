section PM3X
variable {X : Xt}

theorem m_X8_demandState_x (l : Launch) (hfl : l.stackTraces = false) {n : Nat} {K : Kt} {F : Ft} {G : Gt} {x0 : Int32} : Mx X (¬ x0 = 0) l yX8_demandState cX8_demandState 1 none 6 82 1 6 [.int x0] n K F G none n K F G := by
  refine Mx.of (lv := [(0, .int x0)]) (by decide) (Nat.le_of_ble_eq_true rfl) rfl ?_
  intro p e s m args below meth c Q hC hin htb hQ
  have hC : Cx X p s m args meth c RX8 cX8_demandState 1 none := hC
  refine v_iload_n hC dX8_demandState_0 rfl 0 rfl ?_
  refine v_if_ne (tgt := 15) hC dX8_demandState_1 (by decide) (fun q => ?_) (fun q => ?_)
  · refine v_toMQ hQ q ?_
    refine v_widen (k2 := 1) (n2 := 6) (Nat.le_of_ble_eq_true rfl) (Nat.le_of_ble_eq_true rfl) ?_
    exact v_vret hC rfl rfl dX8_demandState_15 rfl rfl rfl rfl rfl
  · exact v_throwSW hC hQ htb hfl (names := xnames) (by decide +kernel) (by decide +kernel) aw_173 al_iniS hC.hZ.2.2.2.2.2.1 xat_S xgd_S (Or.inl rfl) dX8_demandState_4 dX8_demandState_7 dX8_demandState_8 dX8_demandState_11 dX8_demandState_14 (Nat.le_of_ble_eq_true rfl) (Nat.le_of_ble_eq_true rfl) (Nat.le_of_ble_eq_true rfl) (Nat.le_of_ble_eq_true rfl) (Nat.le_of_ble_eq_true rfl) (Nat.le_of_ble_eq_true rfl)
theorem m_X8_shipmentAt_x (l : Launch) (hfl : l.stackTraces = false) {n : Nat} {K : Kt} {F : Ft} {G : Gt} {a0 x1 : Nat} (t0 : TMain K G a0) (hx1 : x1 < 2147483648) : Mx X (x1 < (K (gp G a0 4)).2) l yX8_shipmentAt cX8_shipmentAt 2 (some (.object "Exportcover$Shipment")) 6 82 1 6 [.ref a0, .int (nI x1)] n K F G (some (.ref (el G (gp G a0 4) x1))) n K F G := by
  refine Mx.of (lv := [(0, .ref a0), (1, .int (nI x1))]) (by decide) (Nat.le_of_ble_eq_true rfl) rfl ?_
  intro p e s m args below meth c Q hC hin htb hQ
  have hC : Cx X p s m args meth c RX8 cX8_shipmentAt 2 (some (.object "Exportcover$Shipment")) := hC
  refine v_iload_n hC dX8_shipmentAt_0 rfl 1 rfl ?_
  refine v_if_lt (tgt := 15) hC dX8_shipmentAt_1 (by decide) (fun q => absurd q (nI_pos hx1)) (fun _ => ?_)
  refine v_iload_n hC dX8_shipmentAt_4 rfl 1 rfl ?_
  refine v_aload_n hC dX8_shipmentAt_5 rfl 0 rfl ?_
  refine gf_X8_25 hC t0.1 t0.2.2.2.2.2.1.1 dX8_shipmentAt_6 ?_
  refine v_callV (c2 := 0) (s2 := 0) (As := []) hC (m_Jx4a65c_size_8abf5 l t0.2.2.2.2.2.1.2.1) q_X8_89 (by rw [t0.2.2.2.2.2.1.2.1]; decide) (ce_10 t0.2.2.2.2.2.1.2.1) (ci := 9) rfl hdV_Jx4a65c_size_8abf5 rfl rfl (Nat.le_of_ble_eq_true rfl) (Nat.le_of_ble_eq_true rfl) (Nat.le_of_ble_eq_true rfl) (Nat.le_of_ble_eq_true rfl) (Nat.le_of_ble_eq_true rfl) (Nat.le_of_ble_eq_true rfl) (Nat.le_of_ble_eq_true rfl) dX8_shipmentAt_9 ?_
  refine v_icmp_lt (tgt := 26) hC dX8_shipmentAt_12 (by decide) (fun q => ?_) (fun q => ?_)
  · have hi : x1 < (K (gp G a0 4)).2 := (nI_ltI hx1 t0.2.2.2.2.2.1.2.lt).mp q
    have ht := t0.2.2.2.2.2.1.2.el hi
    refine v_toMQ hQ hi ?_
    refine v_aload_n hC dX8_shipmentAt_26 rfl 0 rfl ?_
    refine gf_X8_25 hC t0.1 t0.2.2.2.2.2.1.1 dX8_shipmentAt_27 ?_
    refine v_iload_n hC dX8_shipmentAt_30 rfl 1 rfl ?_
    refine v_callV (c2 := 0) (s2 := 0) (As := [.int (nI x1)]) hC (m_Jx4a65c_get_915e3 l t0.2.2.2.2.2.1.2 hi) q_X8_306 (by rw [t0.2.2.2.2.2.1.2.1]; decide) (ce_10 t0.2.2.2.2.2.1.2.1) (ci := 9) rfl hdV_Jx4a65c_get_915e3 rfl rfl (Nat.le_of_ble_eq_true rfl) (Nat.le_of_ble_eq_true rfl) (Nat.le_of_ble_eq_true rfl) (Nat.le_of_ble_eq_true rfl) (Nat.le_of_ble_eq_true rfl) (Nat.le_of_ble_eq_true rfl) (Nat.le_of_ble_eq_true rfl) dX8_shipmentAt_31 ?_
    refine v_cast hC (by rw [ht.1]; decide) (ce_7 ht.1) (ci := 6) rfl aw_212 dX8_shipmentAt_34 ?_
    refine v_widen (k2 := 1) (n2 := 6) (Nat.le_of_ble_eq_true rfl) (Nat.le_of_ble_eq_true rfl) ?_
    exact v_aret hC rfl (Or.inl ⟨_, rfl⟩) rfl dX8_shipmentAt_37 rfl rfl rfl rfl rfl
  · exact v_throwSW hC hQ htb hfl (names := xnames) (by decide +kernel) (by decide +kernel) aw_279 al_iniI hC.hZ.2.2.2.2.2.2.1 xat_I xgd_I (Or.inr rfl) dX8_shipmentAt_15 dX8_shipmentAt_18 dX8_shipmentAt_19 dX8_shipmentAt_22 dX8_shipmentAt_25 (Nat.le_of_ble_eq_true rfl) (Nat.le_of_ble_eq_true rfl) (Nat.le_of_ble_eq_true rfl) (Nat.le_of_ble_eq_true rfl) (Nat.le_of_ble_eq_true rfl) (Nat.le_of_ble_eq_true rfl)
end PM3X
