section Pm3
variable {X : Xt}
theorem iw_nI {K : Kt} {F : Ft} {G : Gt} {w h : Nat} {y : Int32} (hw : w ≤ h) (hy : y = nI h) (hh : h < 2 ^ 31) : ¬ f_X8_isWithin K F G (nI w) 0 y = 0 := by
  subst hy
  unfold f_X8_isWithin
  rw [if_neg (nI_pos (Nat.lt_of_le_of_lt hw hh)), if_neg (nI_nlt hw hh)]
  unfold f_X8_isWithin_J15
  decide
def f_X8_demandArgument (K : Kt) (F : Ft) (G : Gt) (x0 : Int32) : Unit := ()
theorem hdS_X8_demandArgument : yX8_demandArgument.cls ≠ "java/lang/invoke/MethodHandle" ∧ yX8_demandArgument.cls ≠ "java/lang/invoke/VarHandle" ∧ (parseMethodDescriptor yX8_demandArgument.desc).map (fun d => d.parameters.length) = some 1 := by decide +kernel
theorem hdV_X8_demandArgument : yX8_demandArgument.cls = RX8 ∧ yX8_demandArgument.cls ≠ "java/lang/invoke/MethodHandle" ∧ yX8_demandArgument.cls ≠ "java/lang/invoke/VarHandle" ∧ (parseMethodDescriptor yX8_demandArgument.desc).map (fun d => d.parameters.length) = some 1 := by decide +kernel
set_option maxHeartbeats 4000000 in
set_option maxRecDepth 100000 in
theorem m_X8_demandArgument (l : Launch) {n : Nat} {K : Kt} {F : Ft} {G : Gt} {x0 : Int32} (h : ¬ x0 = 0) : Mw X l yX8_demandArgument cX8_demandArgument 1 none 0 0 0 0 [.int x0] n K F G none n K F G := by
  generalize hf : f_X8_demandArgument K F G x0 = r
  refine Mw.of (lv := [(0, .int x0)]) (by decide) (Nat.le_of_ble_eq_true rfl) rfl ?_
  intro p e s m args below meth c Q hC hin hQ
  have hC : Cx X p s m args meth c RX8 cX8_demandArgument 1 none := hC
  rw [f_X8_demandArgument] at hf
  refine v_iload_n hC dX8_demandArgument_0 rfl 0 rfl ?_
  refine v_if_ne (tgt := 15) hC dX8_demandArgument_1 (by decide) (fun c1 => ?_) (fun c1 => absurd c1 h)
  exact v_vret hC rfl hQ dX8_demandArgument_15 rfl rfl rfl rfl rfl
def f_X8_demandState (K : Kt) (F : Ft) (G : Gt) (x0 : Int32) : Unit := ()
theorem hdS_X8_demandState : yX8_demandState.cls ≠ "java/lang/invoke/MethodHandle" ∧ yX8_demandState.cls ≠ "java/lang/invoke/VarHandle" ∧ (parseMethodDescriptor yX8_demandState.desc).map (fun d => d.parameters.length) = some 1 := by decide +kernel
theorem hdV_X8_demandState : yX8_demandState.cls = RX8 ∧ yX8_demandState.cls ≠ "java/lang/invoke/MethodHandle" ∧ yX8_demandState.cls ≠ "java/lang/invoke/VarHandle" ∧ (parseMethodDescriptor yX8_demandState.desc).map (fun d => d.parameters.length) = some 1 := by decide +kernel
set_option maxHeartbeats 4000000 in
set_option maxRecDepth 100000 in
theorem m_X8_demandState (l : Launch) {n : Nat} {K : Kt} {F : Ft} {G : Gt} {x0 : Int32} (h : ¬ x0 = 0) : Mw X l yX8_demandState cX8_demandState 1 none 0 0 0 0 [.int x0] n K F G none n K F G := by
  generalize hf : f_X8_demandState K F G x0 = r
  refine Mw.of (lv := [(0, .int x0)]) (by decide) (Nat.le_of_ble_eq_true rfl) rfl ?_
  intro p e s m args below meth c Q hC hin hQ
  have hC : Cx X p s m args meth c RX8 cX8_demandState 1 none := hC
  rw [f_X8_demandState] at hf
  refine v_iload_n hC dX8_demandState_0 rfl 0 rfl ?_
  refine v_if_ne (tgt := 15) hC dX8_demandState_1 (by decide) (fun c1 => ?_) (fun c1 => absurd c1 h)
  exact v_vret hC rfl hQ dX8_demandState_15 rfl rfl rfl rfl rfl
def f_X8_demandRival (K : Kt) (F : Ft) (G : Gt) (x0 : Int32) : Unit := ()
theorem hdS_X8_demandRival : yX8_demandRival.cls ≠ "java/lang/invoke/MethodHandle" ∧ yX8_demandRival.cls ≠ "java/lang/invoke/VarHandle" ∧ (parseMethodDescriptor yX8_demandRival.desc).map (fun d => d.parameters.length) = some 1 := by decide +kernel
theorem hdV_X8_demandRival : yX8_demandRival.cls = RX8 ∧ yX8_demandRival.cls ≠ "java/lang/invoke/MethodHandle" ∧ yX8_demandRival.cls ≠ "java/lang/invoke/VarHandle" ∧ (parseMethodDescriptor yX8_demandRival.desc).map (fun d => d.parameters.length) = some 1 := by decide +kernel
set_option maxHeartbeats 4000000 in
set_option maxRecDepth 100000 in
theorem m_X8_demandRival (l : Launch) {n : Nat} {K : Kt} {F : Ft} {G : Gt} {x0 : Int32} (h : ¬ f_X8_isWithin K F G x0 (-1) 1 = 0) : Mw X l yX8_demandRival cX8_demandRival 1 none 1 22 0 0 [.int x0] n K F G none n K F G := by
  generalize hf : f_X8_demandRival K F G x0 = r
  refine Mw.of (lv := [(0, .int x0)]) (by decide) (Nat.le_of_ble_eq_true rfl) rfl ?_
  intro p e s m args below meth c Q hC hin hQ
  have hC : Cx X p s m args meth c RX8 cX8_demandRival 1 none := hC
  rw [f_X8_demandRival] at hf
  refine v_iload_n hC dX8_demandRival_0 rfl 0 rfl ?_
  refine v_iconst (v := (-1)) hC dX8_demandRival_1 (by decide) ?_
  refine v_iconst (v := 1) hC dX8_demandRival_2 (by decide) ?_
  refine v_callS (c2 := 0) (s2 := 0) (As := [.int x0, .int (-1), .int 1]) hC (m_X8_isWithin l (n := n) (K := K) (F := F) (G := G) (x0 := x0) (x1 := (-1)) (x2 := 1) ) q_X8_44 hdS_X8_isWithin rfl rfl (Nat.le_of_ble_eq_true rfl) (Nat.le_of_ble_eq_true rfl) (Nat.le_of_ble_eq_true rfl) (Nat.le_of_ble_eq_true rfl) (Nat.le_of_ble_eq_true rfl) (Nat.le_of_ble_eq_true rfl) (Nat.le_of_ble_eq_true rfl) dX8_demandRival_3 ?_
  refine v_if_ne (tgt := 20) hC dX8_demandRival_6 (by decide) (fun c1 => ?_) (fun c1 => absurd c1 h)
  exact v_vret hC rfl hQ dX8_demandRival_20 rfl rfl rfl rfl rfl
def f_X8_demandGoods (K : Kt) (F : Ft) (G : Gt) (x0 : Int32) (x1 : Int32) : Unit := ()
theorem hdS_X8_demandGoods : yX8_demandGoods.cls ≠ "java/lang/invoke/MethodHandle" ∧ yX8_demandGoods.cls ≠ "java/lang/invoke/VarHandle" ∧ (parseMethodDescriptor yX8_demandGoods.desc).map (fun d => d.parameters.length) = some 2 := by decide +kernel
theorem hdV_X8_demandGoods : yX8_demandGoods.cls = RX8 ∧ yX8_demandGoods.cls ≠ "java/lang/invoke/MethodHandle" ∧ yX8_demandGoods.cls ≠ "java/lang/invoke/VarHandle" ∧ (parseMethodDescriptor yX8_demandGoods.desc).map (fun d => d.parameters.length) = some 2 := by decide +kernel
set_option maxHeartbeats 4000000 in
set_option maxRecDepth 100000 in
theorem m_X8_demandGoods (l : Launch) {n : Nat} {K : Kt} {F : Ft} {G : Gt} {x0 : Int32} {x1 : Int32} (h : ¬ f_X8_isWithin K F G x0 1 99999 = 0) (h2 : ¬ f_X8_isWithin K F G x1 30 3600 = 0) : Mw X l yX8_demandGoods cX8_demandGoods 2 none 1 22 0 0 [.int x0, .int x1] n K F G none n K F G := by
  generalize hf : f_X8_demandGoods K F G x0 x1 = r
  refine Mw.of (lv := [(0, .int x0), (1, .int x1)]) (by decide) (Nat.le_of_ble_eq_true rfl) rfl ?_
  intro p e s m args below meth c Q hC hin hQ
  have hC : Cx X p s m args meth c RX8 cX8_demandGoods 2 none := hC
  rw [f_X8_demandGoods] at hf
  refine v_iload_n hC dX8_demandGoods_0 rfl 0 rfl ?_
  refine v_iconst (v := 1) hC dX8_demandGoods_1 (by decide) ?_
  refine v_ldc (v := 99999) hC aw_1138 dX8_demandGoods_2 ?_
  refine v_callS (c2 := 0) (s2 := 0) (As := [.int x0, .int 1, .int 99999]) hC (m_X8_isWithin l (n := n) (K := K) (F := F) (G := G) (x0 := x0) (x1 := 1) (x2 := 99999) ) q_X8_44 hdS_X8_isWithin rfl rfl (Nat.le_of_ble_eq_true rfl) (Nat.le_of_ble_eq_true rfl) (Nat.le_of_ble_eq_true rfl) (Nat.le_of_ble_eq_true rfl) (Nat.le_of_ble_eq_true rfl) (Nat.le_of_ble_eq_true rfl) (Nat.le_of_ble_eq_true rfl) dX8_demandGoods_4 ?_
  refine v_callS (c2 := 0) (s2 := 0) (As := [.int (f_X8_isWithin K F G x0 1 99999)]) hC (m_X8_demandArgument l (n := n) (K := K) (F := F) (G := G) (x0 := (f_X8_isWithin K F G x0 1 99999)) h) q_X8_48 hdS_X8_demandArgument rfl rfl (Nat.le_of_ble_eq_true rfl) (Nat.le_of_ble_eq_true rfl) (Nat.le_of_ble_eq_true rfl) (Nat.le_of_ble_eq_true rfl) (Nat.le_of_ble_eq_true rfl) (Nat.le_of_ble_eq_true rfl) (Nat.le_of_ble_eq_true rfl) dX8_demandGoods_7 ?_
  refine v_iload_n hC dX8_demandGoods_10 rfl 1 rfl ?_
  refine v_bipush (v := 30) hC dX8_demandGoods_11 (by decide) ?_
  refine v_sipush (v := 3600) hC dX8_demandGoods_13 (by decide) ?_
  refine v_callS (c2 := 0) (s2 := 0) (As := [.int x1, .int 30, .int 3600]) hC (m_X8_isWithin l (n := n) (K := K) (F := F) (G := G) (x0 := x1) (x1 := 30) (x2 := 3600) ) q_X8_44 hdS_X8_isWithin rfl rfl (Nat.le_of_ble_eq_true rfl) (Nat.le_of_ble_eq_true rfl) (Nat.le_of_ble_eq_true rfl) (Nat.le_of_ble_eq_true rfl) (Nat.le_of_ble_eq_true rfl) (Nat.le_of_ble_eq_true rfl) (Nat.le_of_ble_eq_true rfl) dX8_demandGoods_16 ?_
  refine v_callS (c2 := 0) (s2 := 0) (As := [.int (f_X8_isWithin K F G x1 30 3600)]) hC (m_X8_demandArgument l (n := n) (K := K) (F := F) (G := G) (x0 := (f_X8_isWithin K F G x1 30 3600)) h2) q_X8_48 hdS_X8_demandArgument rfl rfl (Nat.le_of_ble_eq_true rfl) (Nat.le_of_ble_eq_true rfl) (Nat.le_of_ble_eq_true rfl) (Nat.le_of_ble_eq_true rfl) (Nat.le_of_ble_eq_true rfl) (Nat.le_of_ble_eq_true rfl) (Nat.le_of_ble_eq_true rfl) dX8_demandGoods_19 ?_
  exact v_vret hC rfl hQ dX8_demandGoods_22 rfl rfl rfl rfl rfl
def f_X8_ofBuyer (K : Kt) (F : Ft) (G : Gt) (a0 : Nat) (x1 : Nat) (x2 : Nat) : Int32 := f_X8_figureOfBuyer K F G a0 (el G (gp G a0 1) x1) (nI x2)
theorem hdS_X8_ofBuyer : yX8_ofBuyer.cls ≠ "java/lang/invoke/MethodHandle" ∧ yX8_ofBuyer.cls ≠ "java/lang/invoke/VarHandle" ∧ (parseMethodDescriptor yX8_ofBuyer.desc).map (fun d => d.parameters.length) = some 2 := by decide +kernel
theorem hdV_X8_ofBuyer : yX8_ofBuyer.cls = RX8 ∧ yX8_ofBuyer.cls ≠ "java/lang/invoke/MethodHandle" ∧ yX8_ofBuyer.cls ≠ "java/lang/invoke/VarHandle" ∧ (parseMethodDescriptor yX8_ofBuyer.desc).map (fun d => d.parameters.length) = some 2 := by decide +kernel
set_option maxHeartbeats 4000000 in
set_option maxRecDepth 100000 in
theorem m_X8_ofBuyer (l : Launch) {n : Nat} {K : Kt} {F : Ft} {G : Gt} {a0 : Nat} {x1 : Nat} {x2 : Nat} (t0 : TMain K G a0) (hi : x1 < (K (gp G a0 1)).2) (hw : x2 ≤ 5) : Mw X l yX8_ofBuyer cX8_ofBuyer 4 (some .int) 5 110 0 0 [.ref a0, .int (nI x1), .int (nI x2)] n K F G (some (.int (f_X8_ofBuyer K F G a0 x1 x2))) n K F G := by
  generalize hf : f_X8_ofBuyer K F G a0 x1 x2 = r
  refine Mw.of (lv := [(0, .ref a0), (1, .int (nI x1)), (2, .int (nI x2))]) (by decide) (Nat.le_of_ble_eq_true rfl) rfl ?_
  intro p e s m args below meth c Q hC hin hQ
  have hC : Cx X p s m args meth c RX8 cX8_ofBuyer 4 (some .int) := hC
  rw [f_X8_ofBuyer] at hf
  refine v_aload_n hC dX8_ofBuyer_0 rfl 0 rfl ?_
  refine v_iload_n hC dX8_ofBuyer_1 rfl 1 rfl ?_
  refine v_callV (c2 := 0) (s2 := 0) (As := [.int (nI x1)]) hC (m_X8_buyerAt l (n := n) (K := K) (F := F) (G := G) (a0 := a0) (x1 := x1) t0 hi) q_X8_124 (by rw [t0.1]; decide) (ce_1 t0.1) (ci := 0) rfl hdV_X8_buyerAt rfl rfl (Nat.le_of_ble_eq_true rfl) (Nat.le_of_ble_eq_true rfl) (Nat.le_of_ble_eq_true rfl) (Nat.le_of_ble_eq_true rfl) (Nat.le_of_ble_eq_true rfl) (Nat.le_of_ble_eq_true rfl) (Nat.le_of_ble_eq_true rfl) dX8_ofBuyer_2 ?_
  have ht1 : TBuyer K G (el G (gp G a0 1) x1) := t0.2.2.1.2.el (i := x1) (by omega)
  refine v_astore_n (i := 3) (lv' := [(3, .ref (el G (gp G a0 1) x1)), (0, .ref a0), (1, .int (nI x1)), (2, .int (nI x2))]) hC dX8_ofBuyer_5 rfl (by decide) rfl ?_
  refine v_iload_n hC dX8_ofBuyer_6 rfl 3 rfl ?_
  refine v_iconst (v := 0) hC dX8_ofBuyer_7 (by decide) ?_
  refine v_iconst (v := 5) hC dX8_ofBuyer_8 (by decide) ?_
  refine v_callS (c2 := 0) (s2 := 0) (As := [.int (nI x2), .int 0, .int 5]) hC (m_X8_isWithin l (n := n) (K := K) (F := F) (G := G) (x0 := (nI x2)) (x1 := 0) (x2 := 5) ) q_X8_44 hdS_X8_isWithin rfl rfl (Nat.le_of_ble_eq_true rfl) (Nat.le_of_ble_eq_true rfl) (Nat.le_of_ble_eq_true rfl) (Nat.le_of_ble_eq_true rfl) (Nat.le_of_ble_eq_true rfl) (Nat.le_of_ble_eq_true rfl) (Nat.le_of_ble_eq_true rfl) dX8_ofBuyer_9 ?_
  refine v_callS (c2 := 0) (s2 := 0) (As := [.int (f_X8_isWithin K F G (nI x2) 0 5)]) hC (m_X8_demandArgument l (n := n) (K := K) (F := F) (G := G) (x0 := (f_X8_isWithin K F G (nI x2) 0 5)) (iw_nI (h := 5) hw rfl (by decide))) q_X8_48 hdS_X8_demandArgument rfl rfl (Nat.le_of_ble_eq_true rfl) (Nat.le_of_ble_eq_true rfl) (Nat.le_of_ble_eq_true rfl) (Nat.le_of_ble_eq_true rfl) (Nat.le_of_ble_eq_true rfl) (Nat.le_of_ble_eq_true rfl) (Nat.le_of_ble_eq_true rfl) dX8_ofBuyer_12 ?_
  refine v_aload_n hC dX8_ofBuyer_15 rfl 1 rfl ?_
  refine v_aload_n hC dX8_ofBuyer_16 rfl 0 rfl ?_
  refine v_iload_n hC dX8_ofBuyer_17 rfl 3 rfl ?_
  refine v_callV (c2 := 0) (s2 := 0) (As := [.ref (el G (gp G a0 1) x1), .int (nI x2)]) hC (m_X8_figureOfBuyer l (n := n) (K := K) (F := F) (G := G) (a0 := a0) (a1 := (el G (gp G a0 1) x1)) (x2 := (nI x2)) t0 ht1) q_X8_339 (by rw [t0.1]; decide) (ce_1 t0.1) (ci := 0) rfl hdV_X8_figureOfBuyer rfl rfl (Nat.le_of_ble_eq_true rfl) (Nat.le_of_ble_eq_true rfl) (Nat.le_of_ble_eq_true rfl) (Nat.le_of_ble_eq_true rfl) (Nat.le_of_ble_eq_true rfl) (Nat.le_of_ble_eq_true rfl) (Nat.le_of_ble_eq_true rfl) dX8_ofBuyer_18 ?_
  exact v_iret hC rfl hQ dX8_ofBuyer_21 (congrArg (fun z => some (Value.int z)) hf) rfl rfl rfl rfl
def f_X8_ofExporter (K : Kt) (F : Ft) (G : Gt) (a0 : Nat) (x1 : Nat) (x2 : Nat) : Int32 := f_X8_figureOfExporter K F G a0 (el G (gp G a0 2) x1) (nI x2)
theorem hdS_X8_ofExporter : yX8_ofExporter.cls ≠ "java/lang/invoke/MethodHandle" ∧ yX8_ofExporter.cls ≠ "java/lang/invoke/VarHandle" ∧ (parseMethodDescriptor yX8_ofExporter.desc).map (fun d => d.parameters.length) = some 2 := by decide +kernel
theorem hdV_X8_ofExporter : yX8_ofExporter.cls = RX8 ∧ yX8_ofExporter.cls ≠ "java/lang/invoke/MethodHandle" ∧ yX8_ofExporter.cls ≠ "java/lang/invoke/VarHandle" ∧ (parseMethodDescriptor yX8_ofExporter.desc).map (fun d => d.parameters.length) = some 2 := by decide +kernel
set_option maxHeartbeats 4000000 in
set_option maxRecDepth 100000 in
theorem m_X8_ofExporter (l : Launch) {n : Nat} {K : Kt} {F : Ft} {G : Gt} {a0 : Nat} {x1 : Nat} {x2 : Nat} (t0 : TMain K G a0) (hi : x1 < (K (gp G a0 2)).2) (hw : x2 ≤ 5) : Mw X l yX8_ofExporter cX8_ofExporter 4 (some .int) 6 133 0 0 [.ref a0, .int (nI x1), .int (nI x2)] n K F G (some (.int (f_X8_ofExporter K F G a0 x1 x2))) n K F G := by
  generalize hf : f_X8_ofExporter K F G a0 x1 x2 = r
  refine Mw.of (lv := [(0, .ref a0), (1, .int (nI x1)), (2, .int (nI x2))]) (by decide) (Nat.le_of_ble_eq_true rfl) rfl ?_
  intro p e s m args below meth c Q hC hin hQ
  have hC : Cx X p s m args meth c RX8 cX8_ofExporter 4 (some .int) := hC
  rw [f_X8_ofExporter] at hf
  refine v_aload_n hC dX8_ofExporter_0 rfl 0 rfl ?_
  refine v_iload_n hC dX8_ofExporter_1 rfl 1 rfl ?_
  refine v_callV (c2 := 0) (s2 := 0) (As := [.int (nI x1)]) hC (m_X8_exporterAt l (n := n) (K := K) (F := F) (G := G) (a0 := a0) (x1 := x1) t0 hi) q_X8_141 (by rw [t0.1]; decide) (ce_1 t0.1) (ci := 0) rfl hdV_X8_exporterAt rfl rfl (Nat.le_of_ble_eq_true rfl) (Nat.le_of_ble_eq_true rfl) (Nat.le_of_ble_eq_true rfl) (Nat.le_of_ble_eq_true rfl) (Nat.le_of_ble_eq_true rfl) (Nat.le_of_ble_eq_true rfl) (Nat.le_of_ble_eq_true rfl) dX8_ofExporter_2 ?_
  have ht1 : TExp K G (el G (gp G a0 2) x1) := t0.2.2.2.1.2.el (i := x1) (by omega)
  refine v_astore_n (i := 3) (lv' := [(3, .ref (el G (gp G a0 2) x1)), (0, .ref a0), (1, .int (nI x1)), (2, .int (nI x2))]) hC dX8_ofExporter_5 rfl (by decide) rfl ?_
  refine v_iload_n hC dX8_ofExporter_6 rfl 3 rfl ?_
  refine v_iconst (v := 0) hC dX8_ofExporter_7 (by decide) ?_
  refine v_iconst (v := 5) hC dX8_ofExporter_8 (by decide) ?_
  refine v_callS (c2 := 0) (s2 := 0) (As := [.int (nI x2), .int 0, .int 5]) hC (m_X8_isWithin l (n := n) (K := K) (F := F) (G := G) (x0 := (nI x2)) (x1 := 0) (x2 := 5) ) q_X8_44 hdS_X8_isWithin rfl rfl (Nat.le_of_ble_eq_true rfl) (Nat.le_of_ble_eq_true rfl) (Nat.le_of_ble_eq_true rfl) (Nat.le_of_ble_eq_true rfl) (Nat.le_of_ble_eq_true rfl) (Nat.le_of_ble_eq_true rfl) (Nat.le_of_ble_eq_true rfl) dX8_ofExporter_9 ?_
  refine v_callS (c2 := 0) (s2 := 0) (As := [.int (f_X8_isWithin K F G (nI x2) 0 5)]) hC (m_X8_demandArgument l (n := n) (K := K) (F := F) (G := G) (x0 := (f_X8_isWithin K F G (nI x2) 0 5)) (iw_nI (h := 5) hw rfl (by decide))) q_X8_48 hdS_X8_demandArgument rfl rfl (Nat.le_of_ble_eq_true rfl) (Nat.le_of_ble_eq_true rfl) (Nat.le_of_ble_eq_true rfl) (Nat.le_of_ble_eq_true rfl) (Nat.le_of_ble_eq_true rfl) (Nat.le_of_ble_eq_true rfl) (Nat.le_of_ble_eq_true rfl) dX8_ofExporter_12 ?_
  refine v_aload_n hC dX8_ofExporter_15 rfl 1 rfl ?_
  refine v_aload_n hC dX8_ofExporter_16 rfl 0 rfl ?_
  refine v_iload_n hC dX8_ofExporter_17 rfl 3 rfl ?_
  refine v_callV (c2 := 0) (s2 := 0) (As := [.ref (el G (gp G a0 2) x1), .int (nI x2)]) hC (m_X8_figureOfExporter l (n := n) (K := K) (F := F) (G := G) (a0 := a0) (a1 := (el G (gp G a0 2) x1)) (x2 := (nI x2)) t0 ht1) q_X8_343 (by rw [t0.1]; decide) (ce_1 t0.1) (ci := 0) rfl hdV_X8_figureOfExporter rfl rfl (Nat.le_of_ble_eq_true rfl) (Nat.le_of_ble_eq_true rfl) (Nat.le_of_ble_eq_true rfl) (Nat.le_of_ble_eq_true rfl) (Nat.le_of_ble_eq_true rfl) (Nat.le_of_ble_eq_true rfl) (Nat.le_of_ble_eq_true rfl) dX8_ofExporter_18 ?_
  exact v_iret hC rfl hQ dX8_ofExporter_21 (congrArg (fun z => some (Value.int z)) hf) rfl rfl rfl rfl
def f_X8_ofPolicy (K : Kt) (F : Ft) (G : Gt) (a0 : Nat) (x1 : Nat) (x2 : Nat) : Int32 := f_X8_figureOfPolicy K F G a0 (el G (gp G a0 3) x1) (nI x2)
theorem hdS_X8_ofPolicy : yX8_ofPolicy.cls ≠ "java/lang/invoke/MethodHandle" ∧ yX8_ofPolicy.cls ≠ "java/lang/invoke/VarHandle" ∧ (parseMethodDescriptor yX8_ofPolicy.desc).map (fun d => d.parameters.length) = some 2 := by decide +kernel
theorem hdV_X8_ofPolicy : yX8_ofPolicy.cls = RX8 ∧ yX8_ofPolicy.cls ≠ "java/lang/invoke/MethodHandle" ∧ yX8_ofPolicy.cls ≠ "java/lang/invoke/VarHandle" ∧ (parseMethodDescriptor yX8_ofPolicy.desc).map (fun d => d.parameters.length) = some 2 := by decide +kernel
set_option maxHeartbeats 4000000 in
set_option maxRecDepth 100000 in
theorem m_X8_ofPolicy (l : Launch) {n : Nat} {K : Kt} {F : Ft} {G : Gt} {a0 : Nat} {x1 : Nat} {x2 : Nat} (t0 : TMain K G a0) (hi : x1 < (K (gp G a0 3)).2) (hw : x2 ≤ 6) : Mw X l yX8_ofPolicy cX8_ofPolicy 4 (some .int) 5 110 0 0 [.ref a0, .int (nI x1), .int (nI x2)] n K F G (some (.int (f_X8_ofPolicy K F G a0 x1 x2))) n K F G := by
  generalize hf : f_X8_ofPolicy K F G a0 x1 x2 = r
  refine Mw.of (lv := [(0, .ref a0), (1, .int (nI x1)), (2, .int (nI x2))]) (by decide) (Nat.le_of_ble_eq_true rfl) rfl ?_
  intro p e s m args below meth c Q hC hin hQ
  have hC : Cx X p s m args meth c RX8 cX8_ofPolicy 4 (some .int) := hC
  rw [f_X8_ofPolicy] at hf
  refine v_aload_n hC dX8_ofPolicy_0 rfl 0 rfl ?_
  refine v_iload_n hC dX8_ofPolicy_1 rfl 1 rfl ?_
  refine v_callV (c2 := 0) (s2 := 0) (As := [.int (nI x1)]) hC (m_X8_policyAt l (n := n) (K := K) (F := F) (G := G) (a0 := a0) (x1 := x1) t0 hi) q_X8_177 (by rw [t0.1]; decide) (ce_1 t0.1) (ci := 0) rfl hdV_X8_policyAt rfl rfl (Nat.le_of_ble_eq_true rfl) (Nat.le_of_ble_eq_true rfl) (Nat.le_of_ble_eq_true rfl) (Nat.le_of_ble_eq_true rfl) (Nat.le_of_ble_eq_true rfl) (Nat.le_of_ble_eq_true rfl) (Nat.le_of_ble_eq_true rfl) dX8_ofPolicy_2 ?_
  have ht1 : TPol K G (el G (gp G a0 3) x1) := t0.2.2.2.2.1.2.el (i := x1) (by omega)
  refine v_astore_n (i := 3) (lv' := [(3, .ref (el G (gp G a0 3) x1)), (0, .ref a0), (1, .int (nI x1)), (2, .int (nI x2))]) hC dX8_ofPolicy_5 rfl (by decide) rfl ?_
  refine v_iload_n hC dX8_ofPolicy_6 rfl 3 rfl ?_
  refine v_iconst (v := 0) hC dX8_ofPolicy_7 (by decide) ?_
  refine v_bipush (v := 6) hC dX8_ofPolicy_8 (by decide) ?_
  refine v_callS (c2 := 0) (s2 := 0) (As := [.int (nI x2), .int 0, .int 6]) hC (m_X8_isWithin l (n := n) (K := K) (F := F) (G := G) (x0 := (nI x2)) (x1 := 0) (x2 := 6) ) q_X8_44 hdS_X8_isWithin rfl rfl (Nat.le_of_ble_eq_true rfl) (Nat.le_of_ble_eq_true rfl) (Nat.le_of_ble_eq_true rfl) (Nat.le_of_ble_eq_true rfl) (Nat.le_of_ble_eq_true rfl) (Nat.le_of_ble_eq_true rfl) (Nat.le_of_ble_eq_true rfl) dX8_ofPolicy_10 ?_
  refine v_callS (c2 := 0) (s2 := 0) (As := [.int (f_X8_isWithin K F G (nI x2) 0 6)]) hC (m_X8_demandArgument l (n := n) (K := K) (F := F) (G := G) (x0 := (f_X8_isWithin K F G (nI x2) 0 6)) (iw_nI (h := 6) hw rfl (by decide))) q_X8_48 hdS_X8_demandArgument rfl rfl (Nat.le_of_ble_eq_true rfl) (Nat.le_of_ble_eq_true rfl) (Nat.le_of_ble_eq_true rfl) (Nat.le_of_ble_eq_true rfl) (Nat.le_of_ble_eq_true rfl) (Nat.le_of_ble_eq_true rfl) (Nat.le_of_ble_eq_true rfl) dX8_ofPolicy_13 ?_
  refine v_aload_n hC dX8_ofPolicy_16 rfl 1 rfl ?_
  refine v_aload_n hC dX8_ofPolicy_17 rfl 0 rfl ?_
  refine v_iload_n hC dX8_ofPolicy_18 rfl 3 rfl ?_
  refine v_callV (c2 := 0) (s2 := 0) (As := [.ref (el G (gp G a0 3) x1), .int (nI x2)]) hC (m_X8_figureOfPolicy l (n := n) (K := K) (F := F) (G := G) (a0 := a0) (a1 := (el G (gp G a0 3) x1)) (x2 := (nI x2)) t0 ht1) q_X8_347 (by rw [t0.1]; decide) (ce_1 t0.1) (ci := 0) rfl hdV_X8_figureOfPolicy rfl rfl (Nat.le_of_ble_eq_true rfl) (Nat.le_of_ble_eq_true rfl) (Nat.le_of_ble_eq_true rfl) (Nat.le_of_ble_eq_true rfl) (Nat.le_of_ble_eq_true rfl) (Nat.le_of_ble_eq_true rfl) (Nat.le_of_ble_eq_true rfl) dX8_ofPolicy_19 ?_
  exact v_iret hC rfl hQ dX8_ofPolicy_22 (congrArg (fun z => some (Value.int z)) hf) rfl rfl rfl rfl
def f_X8_ofShipment (K : Kt) (F : Ft) (G : Gt) (a0 : Nat) (x1 : Nat) (x2 : Nat) : Int32 := f_X8_figureOfShipment K F G a0 (el G (gp G a0 4) x1) (nI x2)
theorem hdS_X8_ofShipment : yX8_ofShipment.cls ≠ "java/lang/invoke/MethodHandle" ∧ yX8_ofShipment.cls ≠ "java/lang/invoke/VarHandle" ∧ (parseMethodDescriptor yX8_ofShipment.desc).map (fun d => d.parameters.length) = some 2 := by decide +kernel
theorem hdV_X8_ofShipment : yX8_ofShipment.cls = RX8 ∧ yX8_ofShipment.cls ≠ "java/lang/invoke/MethodHandle" ∧ yX8_ofShipment.cls ≠ "java/lang/invoke/VarHandle" ∧ (parseMethodDescriptor yX8_ofShipment.desc).map (fun d => d.parameters.length) = some 2 := by decide +kernel
set_option maxHeartbeats 4000000 in
set_option maxRecDepth 100000 in
theorem m_X8_ofShipment (l : Launch) {n : Nat} {K : Kt} {F : Ft} {G : Gt} {a0 : Nat} {x1 : Nat} {x2 : Nat} (t0 : TMain K G a0) (hi : x1 < (K (gp G a0 4)).2) (hw : x2 ≤ 16) : Mw X l yX8_ofShipment cX8_ofShipment 4 (some .int) 5 109 0 0 [.ref a0, .int (nI x1), .int (nI x2)] n K F G (some (.int (f_X8_ofShipment K F G a0 x1 x2))) n K F G := by
  generalize hf : f_X8_ofShipment K F G a0 x1 x2 = r
  refine Mw.of (lv := [(0, .ref a0), (1, .int (nI x1)), (2, .int (nI x2))]) (by decide) (Nat.le_of_ble_eq_true rfl) rfl ?_
  intro p e s m args below meth c Q hC hin hQ
  have hC : Cx X p s m args meth c RX8 cX8_ofShipment 4 (some .int) := hC
  rw [f_X8_ofShipment] at hf
  refine v_aload_n hC dX8_ofShipment_0 rfl 0 rfl ?_
  refine v_iload_n hC dX8_ofShipment_1 rfl 1 rfl ?_
  refine v_callV (c2 := 0) (s2 := 0) (As := [.int (nI x1)]) hC (m_X8_shipmentAt l (n := n) (K := K) (F := F) (G := G) (a0 := a0) (x1 := x1) t0 hi) q_X8_249 (by rw [t0.1]; decide) (ce_1 t0.1) (ci := 0) rfl hdV_X8_shipmentAt rfl rfl (Nat.le_of_ble_eq_true rfl) (Nat.le_of_ble_eq_true rfl) (Nat.le_of_ble_eq_true rfl) (Nat.le_of_ble_eq_true rfl) (Nat.le_of_ble_eq_true rfl) (Nat.le_of_ble_eq_true rfl) (Nat.le_of_ble_eq_true rfl) dX8_ofShipment_2 ?_
  have ht1 : TShip K G (el G (gp G a0 4) x1) := t0.2.2.2.2.2.1.2.el (i := x1) (by omega)
  refine v_astore_n (i := 3) (lv' := [(3, .ref (el G (gp G a0 4) x1)), (0, .ref a0), (1, .int (nI x1)), (2, .int (nI x2))]) hC dX8_ofShipment_5 rfl (by decide) rfl ?_
  refine v_iload_n hC dX8_ofShipment_6 rfl 3 rfl ?_
  refine v_iconst (v := 0) hC dX8_ofShipment_7 (by decide) ?_
  refine v_bipush (v := 16) hC dX8_ofShipment_8 (by decide) ?_
  refine v_callS (c2 := 0) (s2 := 0) (As := [.int (nI x2), .int 0, .int 16]) hC (m_X8_isWithin l (n := n) (K := K) (F := F) (G := G) (x0 := (nI x2)) (x1 := 0) (x2 := 16) ) q_X8_44 hdS_X8_isWithin rfl rfl (Nat.le_of_ble_eq_true rfl) (Nat.le_of_ble_eq_true rfl) (Nat.le_of_ble_eq_true rfl) (Nat.le_of_ble_eq_true rfl) (Nat.le_of_ble_eq_true rfl) (Nat.le_of_ble_eq_true rfl) (Nat.le_of_ble_eq_true rfl) dX8_ofShipment_10 ?_
  refine v_callS (c2 := 0) (s2 := 0) (As := [.int (f_X8_isWithin K F G (nI x2) 0 16)]) hC (m_X8_demandArgument l (n := n) (K := K) (F := F) (G := G) (x0 := (f_X8_isWithin K F G (nI x2) 0 16)) (iw_nI (h := 16) hw rfl (by decide))) q_X8_48 hdS_X8_demandArgument rfl rfl (Nat.le_of_ble_eq_true rfl) (Nat.le_of_ble_eq_true rfl) (Nat.le_of_ble_eq_true rfl) (Nat.le_of_ble_eq_true rfl) (Nat.le_of_ble_eq_true rfl) (Nat.le_of_ble_eq_true rfl) (Nat.le_of_ble_eq_true rfl) dX8_ofShipment_13 ?_
  refine v_aload_n hC dX8_ofShipment_16 rfl 1 rfl ?_
  refine v_aload_n hC dX8_ofShipment_17 rfl 0 rfl ?_
  refine v_iload_n hC dX8_ofShipment_18 rfl 3 rfl ?_
  refine v_callV (c2 := 0) (s2 := 0) (As := [.ref (el G (gp G a0 4) x1), .int (nI x2)]) hC (m_X8_figureOfShipment l (n := n) (K := K) (F := F) (G := G) (a0 := a0) (a1 := (el G (gp G a0 4) x1)) (x2 := (nI x2)) t0 ht1) q_X8_355 (by rw [t0.1]; decide) (ce_1 t0.1) (ci := 0) rfl hdV_X8_figureOfShipment rfl rfl (Nat.le_of_ble_eq_true rfl) (Nat.le_of_ble_eq_true rfl) (Nat.le_of_ble_eq_true rfl) (Nat.le_of_ble_eq_true rfl) (Nat.le_of_ble_eq_true rfl) (Nat.le_of_ble_eq_true rfl) (Nat.le_of_ble_eq_true rfl) dX8_ofShipment_19 ?_
  exact v_iret hC rfl hQ dX8_ofShipment_22 (congrArg (fun z => some (Value.int z)) hf) rfl rfl rfl rfl
def f_X8_part (K : Kt) (F : Ft) (G : Gt) (a0 : Nat) (x1 : Nat) (x2 : Nat) (x3 : Int32) : Int32 := f_X8_figureOfPart K F G (el G (gp G a0 4) x1) (nI x2) x3
theorem hdS_X8_part : yX8_part.cls ≠ "java/lang/invoke/MethodHandle" ∧ yX8_part.cls ≠ "java/lang/invoke/VarHandle" ∧ (parseMethodDescriptor yX8_part.desc).map (fun d => d.parameters.length) = some 3 := by decide +kernel
theorem hdV_X8_part : yX8_part.cls = RX8 ∧ yX8_part.cls ≠ "java/lang/invoke/MethodHandle" ∧ yX8_part.cls ≠ "java/lang/invoke/VarHandle" ∧ (parseMethodDescriptor yX8_part.desc).map (fun d => d.parameters.length) = some 3 := by decide +kernel
set_option maxHeartbeats 4000000 in
set_option maxRecDepth 100000 in
theorem m_X8_part (l : Launch) {n : Nat} {K : Kt} {F : Ft} {G : Gt} {a0 : Nat} {x1 : Nat} {x2 : Nat} {x3 : Int32} (t0 : TMain K G a0) (hi : x1 < (K (gp G a0 4)).2) (hw : x2 ≤ 2) : Mw X l yX8_part cX8_part 5 (some .int) 4 85 0 0 [.ref a0, .int (nI x1), .int (nI x2), .int x3] n K F G (some (.int (f_X8_part K F G a0 x1 x2 x3))) n K F G := by
  generalize hf : f_X8_part K F G a0 x1 x2 x3 = r
  refine Mw.of (lv := [(0, .ref a0), (1, .int (nI x1)), (2, .int (nI x2)), (3, .int x3)]) (by decide) (Nat.le_of_ble_eq_true rfl) rfl ?_
  intro p e s m args below meth c Q hC hin hQ
  have hC : Cx X p s m args meth c RX8 cX8_part 5 (some .int) := hC
  rw [f_X8_part] at hf
  refine v_aload_n hC dX8_part_0 rfl 0 rfl ?_
  refine v_iload_n hC dX8_part_1 rfl 1 rfl ?_
  refine v_callV (c2 := 0) (s2 := 0) (As := [.int (nI x1)]) hC (m_X8_shipmentAt l (n := n) (K := K) (F := F) (G := G) (a0 := a0) (x1 := x1) t0 hi) q_X8_249 (by rw [t0.1]; decide) (ce_1 t0.1) (ci := 0) rfl hdV_X8_shipmentAt rfl rfl (Nat.le_of_ble_eq_true rfl) (Nat.le_of_ble_eq_true rfl) (Nat.le_of_ble_eq_true rfl) (Nat.le_of_ble_eq_true rfl) (Nat.le_of_ble_eq_true rfl) (Nat.le_of_ble_eq_true rfl) (Nat.le_of_ble_eq_true rfl) dX8_part_2 ?_
  have ht1 : TShip K G (el G (gp G a0 4) x1) := t0.2.2.2.2.2.1.2.el (i := x1) (by omega)
  refine v_astore (i := 4) (lv' := [(4, .ref (el G (gp G a0 4) x1)), (0, .ref a0), (1, .int (nI x1)), (2, .int (nI x2)), (3, .int x3)]) hC dX8_part_5 (by decide) rfl ?_
  refine v_iload_n hC dX8_part_7 rfl 3 rfl ?_
  refine v_iconst (v := 0) hC dX8_part_8 (by decide) ?_
  refine v_iconst (v := 2) hC dX8_part_9 (by decide) ?_
  refine v_callS (c2 := 0) (s2 := 0) (As := [.int (nI x2), .int 0, .int 2]) hC (m_X8_isWithin l (n := n) (K := K) (F := F) (G := G) (x0 := (nI x2)) (x1 := 0) (x2 := 2) ) q_X8_44 hdS_X8_isWithin rfl rfl (Nat.le_of_ble_eq_true rfl) (Nat.le_of_ble_eq_true rfl) (Nat.le_of_ble_eq_true rfl) (Nat.le_of_ble_eq_true rfl) (Nat.le_of_ble_eq_true rfl) (Nat.le_of_ble_eq_true rfl) (Nat.le_of_ble_eq_true rfl) dX8_part_10 ?_
  refine v_callS (c2 := 0) (s2 := 0) (As := [.int (f_X8_isWithin K F G (nI x2) 0 2)]) hC (m_X8_demandArgument l (n := n) (K := K) (F := F) (G := G) (x0 := (f_X8_isWithin K F G (nI x2) 0 2)) (iw_nI (h := 2) hw rfl (by decide))) q_X8_48 hdS_X8_demandArgument rfl rfl (Nat.le_of_ble_eq_true rfl) (Nat.le_of_ble_eq_true rfl) (Nat.le_of_ble_eq_true rfl) (Nat.le_of_ble_eq_true rfl) (Nat.le_of_ble_eq_true rfl) (Nat.le_of_ble_eq_true rfl) (Nat.le_of_ble_eq_true rfl) dX8_part_13 ?_
  refine v_aload hC dX8_part_16 0 rfl ?_
  refine v_iload_n hC dX8_part_18 rfl 3 rfl ?_
  refine v_iload_n hC dX8_part_19 rfl 4 rfl ?_
  refine v_callS (c2 := 0) (s2 := 0) (As := [.ref (el G (gp G a0 4) x1), .int (nI x2), .int x3]) hC (m_X8_figureOfPart l (n := n) (K := K) (F := F) (G := G) (a0 := (el G (gp G a0 4) x1)) (x1 := (nI x2)) (x2 := x3) ht1) q_X8_359 hdS_X8_figureOfPart rfl rfl (Nat.le_of_ble_eq_true rfl) (Nat.le_of_ble_eq_true rfl) (Nat.le_of_ble_eq_true rfl) (Nat.le_of_ble_eq_true rfl) (Nat.le_of_ble_eq_true rfl) (Nat.le_of_ble_eq_true rfl) (Nat.le_of_ble_eq_true rfl) dX8_part_20 ?_
  exact v_iret hC rfl hQ dX8_part_23 (congrArg (fun z => some (Value.int z)) hf) rfl rfl rfl rfl
def f_X8_books (K : Kt) (F : Ft) (G : Gt) (a0 : Nat) (x1 : Nat) : Int32 := f_X8_figureOfBooks K F G a0 (nI x1)
theorem hdS_X8_books : yX8_books.cls ≠ "java/lang/invoke/MethodHandle" ∧ yX8_books.cls ≠ "java/lang/invoke/VarHandle" ∧ (parseMethodDescriptor yX8_books.desc).map (fun d => d.parameters.length) = some 1 := by decide +kernel
theorem hdV_X8_books : yX8_books.cls = RX8 ∧ yX8_books.cls ≠ "java/lang/invoke/MethodHandle" ∧ yX8_books.cls ≠ "java/lang/invoke/VarHandle" ∧ (parseMethodDescriptor yX8_books.desc).map (fun d => d.parameters.length) = some 1 := by decide +kernel
set_option maxHeartbeats 4000000 in
set_option maxRecDepth 100000 in
theorem m_X8_books (l : Launch) {n : Nat} {K : Kt} {F : Ft} {G : Gt} {a0 : Nat} {x1 : Nat} (t0 : TMain K G a0) (hw : x1 ≤ 19) : Mw X l yX8_books cX8_books 2 (some .int) 7 155 0 0 [.ref a0, .int (nI x1)] n K F G (some (.int (f_X8_books K F G a0 x1))) n K F G := by
  generalize hf : f_X8_books K F G a0 x1 = r
  refine Mw.of (lv := [(0, .ref a0), (1, .int (nI x1))]) (by decide) (Nat.le_of_ble_eq_true rfl) rfl ?_
  intro p e s m args below meth c Q hC hin hQ
  have hC : Cx X p s m args meth c RX8 cX8_books 2 (some .int) := hC
  rw [f_X8_books] at hf
  refine v_iload_n hC dX8_books_0 rfl 1 rfl ?_
  refine v_iconst (v := 0) hC dX8_books_1 (by decide) ?_
  refine v_bipush (v := 19) hC dX8_books_2 (by decide) ?_
  refine v_callS (c2 := 0) (s2 := 0) (As := [.int (nI x1), .int 0, .int 19]) hC (m_X8_isWithin l (n := n) (K := K) (F := F) (G := G) (x0 := (nI x1)) (x1 := 0) (x2 := 19) ) q_X8_44 hdS_X8_isWithin rfl rfl (Nat.le_of_ble_eq_true rfl) (Nat.le_of_ble_eq_true rfl) (Nat.le_of_ble_eq_true rfl) (Nat.le_of_ble_eq_true rfl) (Nat.le_of_ble_eq_true rfl) (Nat.le_of_ble_eq_true rfl) (Nat.le_of_ble_eq_true rfl) dX8_books_4 ?_
  refine v_callS (c2 := 0) (s2 := 0) (As := [.int (f_X8_isWithin K F G (nI x1) 0 19)]) hC (m_X8_demandArgument l (n := n) (K := K) (F := F) (G := G) (x0 := (f_X8_isWithin K F G (nI x1) 0 19)) (iw_nI (h := 19) hw rfl (by decide))) q_X8_48 hdS_X8_demandArgument rfl rfl (Nat.le_of_ble_eq_true rfl) (Nat.le_of_ble_eq_true rfl) (Nat.le_of_ble_eq_true rfl) (Nat.le_of_ble_eq_true rfl) (Nat.le_of_ble_eq_true rfl) (Nat.le_of_ble_eq_true rfl) (Nat.le_of_ble_eq_true rfl) dX8_books_7 ?_
  refine v_aload_n hC dX8_books_10 rfl 0 rfl ?_
  refine v_iload_n hC dX8_books_11 rfl 1 rfl ?_
  refine v_callV (c2 := 0) (s2 := 0) (As := [.int (nI x1)]) hC (m_X8_figureOfBooks l (n := n) (K := K) (F := F) (G := G) (a0 := a0) (x1 := (nI x1)) t0) q_X8_363 (by rw [t0.1]; decide) (ce_1 t0.1) (ci := 0) rfl hdV_X8_figureOfBooks rfl rfl (Nat.le_of_ble_eq_true rfl) (Nat.le_of_ble_eq_true rfl) (Nat.le_of_ble_eq_true rfl) (Nat.le_of_ble_eq_true rfl) (Nat.le_of_ble_eq_true rfl) (Nat.le_of_ble_eq_true rfl) (Nat.le_of_ble_eq_true rfl) dX8_books_12 ?_
  exact v_iret hC rfl hQ dX8_books_15 (congrArg (fun z => some (Value.int z)) hf) rfl rfl rfl rfl
end Pm3
