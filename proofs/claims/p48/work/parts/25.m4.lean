section Pm4
variable {X : Xt}
theorem z_X0_isBroke {K : Kt} {F : Ft} {G : Gt} {a : Nat} : f_X0_isBroke K F G a = 0 ∨ f_X0_isBroke K F G a = 1 := by
  unfold f_X0_isBroke
  split
  · exact Or.inl rfl
  · exact Or.inr rfl
theorem iw_nI2 {K : Kt} {F : Ft} {G : Gt} {l w h : Nat} {x y : Int32} (hl : l ≤ w) (hw : w ≤ h) (hx : x = nI l) (hy : y = nI h) (hh : h < 2 ^ 31) : ¬ f_X8_isWithin K F G (nI w) x y = 0 := by
  subst hx hy
  unfold f_X8_isWithin
  rw [if_neg (nI_nlt hl (Nat.lt_of_le_of_lt hw hh)), if_neg (nI_nlt hw hh)]
  unfold f_X8_isWithin_J15
  decide
def f_X8_earn_C28 (K : Kt) (G : Gt) (a0 : Nat) (x1 : Nat) (F2 : Ft) : Ft × Int32 := (F2, F2 (gp G (el G (gp G a0 1) x1) 3) 0)
def f_X8_earn (K : Kt) (F : Ft) (G : Gt) (a0 : Nat) (x1 : Nat) (x2 : Int32) : Ft × Int32 := f_X8_earn_C28 K G a0 x1 (f_X1_giveTo K F G (gp G a0 8) (gp G (el G (gp G a0 1) x1) 3) x2)
theorem hdS_X8_earn : yX8_earn.cls ≠ "java/lang/invoke/MethodHandle" ∧ yX8_earn.cls ≠ "java/lang/invoke/VarHandle" ∧ (parseMethodDescriptor yX8_earn.desc).map (fun d => d.parameters.length) = some 2 := by decide +kernel
theorem hdV_X8_earn : yX8_earn.cls = RX8 ∧ yX8_earn.cls ≠ "java/lang/invoke/MethodHandle" ∧ yX8_earn.cls ≠ "java/lang/invoke/VarHandle" ∧ (parseMethodDescriptor yX8_earn.desc).map (fun d => d.parameters.length) = some 2 := by decide +kernel
set_option maxHeartbeats 4000000 in
set_option maxRecDepth 100000 in
theorem m_X8_earn (l : Launch) {n : Nat} {K : Kt} {F : Ft} {G : Gt} {a0 : Nat} {x1 : Nat} {x2 : Int32} (t0 : TMain K G a0) (hi : x1 < (K (gp G a0 1)).2) (h : ¬ f_X8_isWithin K F G x2 1 99999 = 0) : Mw X l yX8_earn cX8_earn 4 (some .int) 4 85 0 0 [.ref a0, .int (nI x1), .int x2] n K F G (some (.int (f_X8_earn K F G a0 x1 x2).2)) n K (f_X8_earn K F G a0 x1 x2).1 G := by
  generalize hf : f_X8_earn K F G a0 x1 x2 = r
  refine Mw.of (lv := [(0, .ref a0), (1, .int (nI x1)), (2, .int x2)]) (by decide) (Nat.le_of_ble_eq_true rfl) rfl ?_
  intro p e s m args below meth c Q hC hin hQ
  have hC : Cx X p s m args meth c RX8 cX8_earn 4 (some .int) := hC
  rw [f_X8_earn] at hf
  refine v_aload_n hC dX8_earn_0 rfl 0 rfl ?_
  refine v_iload_n hC dX8_earn_1 rfl 1 rfl ?_
  refine v_callV (c2 := 0) (s2 := 0) (As := [.int (nI x1)]) hC (m_X8_buyerAt l (n := n) (K := K) (F := F) (G := G) (a0 := a0) (x1 := x1) t0 hi) q_X8_124 (by rw [t0.1]; decide) (ce_1 t0.1) (ci := 0) rfl hdV_X8_buyerAt rfl rfl (Nat.le_of_ble_eq_true rfl) (Nat.le_of_ble_eq_true rfl) (Nat.le_of_ble_eq_true rfl) (Nat.le_of_ble_eq_true rfl) (Nat.le_of_ble_eq_true rfl) (Nat.le_of_ble_eq_true rfl) (Nat.le_of_ble_eq_true rfl) dX8_earn_2 ?_
  have ht1 : TBuyer K G (el G (gp G a0 1) x1) := t0.2.2.1.2.el (i := x1) (by omega)
  refine v_astore_n (i := 3) (lv' := [(3, .ref (el G (gp G a0 1) x1)), (0, .ref a0), (1, .int (nI x1)), (2, .int x2)]) hC dX8_earn_5 rfl (by decide) rfl ?_
  refine v_iload_n hC dX8_earn_6 rfl 3 rfl ?_
  refine v_iconst (v := 1) hC dX8_earn_7 (by decide) ?_
  refine v_ldc (v := 99999) hC aw_1138 dX8_earn_8 ?_
  refine v_callS (c2 := 0) (s2 := 0) (As := [.int x2, .int 1, .int 99999]) hC (m_X8_isWithin l (n := n) (K := K) (F := F) (G := G) (x0 := x2) (x1 := 1) (x2 := 99999) ) q_X8_44 hdS_X8_isWithin rfl rfl (Nat.le_of_ble_eq_true rfl) (Nat.le_of_ble_eq_true rfl) (Nat.le_of_ble_eq_true rfl) (Nat.le_of_ble_eq_true rfl) (Nat.le_of_ble_eq_true rfl) (Nat.le_of_ble_eq_true rfl) (Nat.le_of_ble_eq_true rfl) dX8_earn_10 ?_
  refine v_callS (c2 := 0) (s2 := 0) (As := [.int (f_X8_isWithin K F G x2 1 99999)]) hC (m_X8_demandArgument l (n := n) (K := K) (F := F) (G := G) (x0 := (f_X8_isWithin K F G x2 1 99999)) h) q_X8_48 hdS_X8_demandArgument rfl rfl (Nat.le_of_ble_eq_true rfl) (Nat.le_of_ble_eq_true rfl) (Nat.le_of_ble_eq_true rfl) (Nat.le_of_ble_eq_true rfl) (Nat.le_of_ble_eq_true rfl) (Nat.le_of_ble_eq_true rfl) (Nat.le_of_ble_eq_true rfl) dX8_earn_13 ?_
  refine v_aload_n hC dX8_earn_16 rfl 1 rfl ?_
  refine gf_X8_41 hC t0.1 t0.2.2.2.2.2.2.2.2.2.1 dX8_earn_17 ?_
  refine v_aload_n hC dX8_earn_20 rfl 0 rfl ?_
  refine gf_X8_79 hC ht1.1 ht1.2.2.1 dX8_earn_21 ?_
  refine v_iload_n hC dX8_earn_24 rfl 3 rfl ?_
  refine v_callV (c2 := 0) (s2 := 0) (As := [.ref (gp G (el G (gp G a0 1) x1) 3), .int x2]) hC (m_X1_giveTo l (n := n) (K := K) (F := F) (G := G) (a0 := (gp G a0 8)) (a1 := (gp G (el G (gp G a0 1) x1) 3)) (x2 := x2) t0.2.2.2.2.2.2.2.2.2.2 ht1.2.2.2) q_X8_84 (by rw [t0.2.2.2.2.2.2.2.2.2.2]; decide) (ce_2 t0.2.2.2.2.2.2.2.2.2.2) (ci := 1) rfl hdV_X1_giveTo rfl rfl (Nat.le_of_ble_eq_true rfl) (Nat.le_of_ble_eq_true rfl) (Nat.le_of_ble_eq_true rfl) (Nat.le_of_ble_eq_true rfl) (Nat.le_of_ble_eq_true rfl) (Nat.le_of_ble_eq_true rfl) (Nat.le_of_ble_eq_true rfl) dX8_earn_25 ?_
  have KC28 : ∀ (F2 : Ft), f_X8_earn_C28 K G a0 x1 F2 = r → V X 4 p l e ({ frames := 4, cells := 0, slots := 0, locals := 85 } : Room) s m args below meth c Q 0 0 n K F2 G [(3, .ref (el G (gp G a0 1) x1))] 28 [] := by
    intro F2 hf
    rw [f_X8_earn_C28] at hf
    refine v_aload_n hC dX8_earn_28 rfl 0 rfl ?_
    refine gf_X8_79 hC ht1.1 ht1.2.2.1 dX8_earn_29 ?_
    refine gf_X8_129 hC ht1.2.2.2 dX8_earn_32 ?_
    exact v_iret hC rfl hQ dX8_earn_35 (congrArg (fun z => some (Value.int z.2)) hf) rfl rfl (congrArg Prod.fst hf) rfl
  refine v_sub [0] rfl ?_
  exact KC28 (f_X1_giveTo K F G (gp G a0 8) (gp G (el G (gp G a0 1) x1) 3) x2) hf
def f_X8_stop (K : Kt) (F : Ft) (G : Gt) (a0 : Nat) (x1 : Nat) (x2 : Int32) : Ft × Int32 := (up2 F (el G (gp G a0 0) x1) 4 (f_X8_since K F G a0 (F (el G (gp G a0 0) x1) 4) x2), F (el G (gp G a0 0) x1) 4)
theorem hdS_X8_stop : yX8_stop.cls ≠ "java/lang/invoke/MethodHandle" ∧ yX8_stop.cls ≠ "java/lang/invoke/VarHandle" ∧ (parseMethodDescriptor yX8_stop.desc).map (fun d => d.parameters.length) = some 2 := by decide +kernel
theorem hdV_X8_stop : yX8_stop.cls = RX8 ∧ yX8_stop.cls ≠ "java/lang/invoke/MethodHandle" ∧ yX8_stop.cls ≠ "java/lang/invoke/VarHandle" ∧ (parseMethodDescriptor yX8_stop.desc).map (fun d => d.parameters.length) = some 2 := by decide +kernel
set_option maxHeartbeats 4000000 in
set_option maxRecDepth 100000 in
theorem m_X8_stop (l : Launch) {n : Nat} {K : Kt} {F : Ft} {G : Gt} {a0 : Nat} {x1 : Nat} {x2 : Int32} (t0 : TMain K G a0) (hi : x1 < (K (gp G a0 0)).2) : Mw X l yX8_stop cX8_stop 5 (some .int) 4 85 0 0 [.ref a0, .int (nI x1), .int x2] n K F G (some (.int (f_X8_stop K F G a0 x1 x2).2)) n K (f_X8_stop K F G a0 x1 x2).1 G := by
  generalize hf : f_X8_stop K F G a0 x1 x2 = r
  refine Mw.of (lv := [(0, .ref a0), (1, .int (nI x1)), (2, .int x2)]) (by decide) (Nat.le_of_ble_eq_true rfl) rfl ?_
  intro p e s m args below meth c Q hC hin hQ
  have hC : Cx X p s m args meth c RX8 cX8_stop 5 (some .int) := hC
  rw [f_X8_stop] at hf
  refine v_aload_n hC dX8_stop_0 rfl 0 rfl ?_
  refine v_iload_n hC dX8_stop_1 rfl 1 rfl ?_
  refine v_callV (c2 := 0) (s2 := 0) (As := [.int (nI x1)]) hC (m_X8_landAt l (n := n) (K := K) (F := F) (G := G) (a0 := a0) (x1 := x1) t0 hi) q_X8_71 (by rw [t0.1]; decide) (ce_1 t0.1) (ci := 0) rfl hdV_X8_landAt rfl rfl (Nat.le_of_ble_eq_true rfl) (Nat.le_of_ble_eq_true rfl) (Nat.le_of_ble_eq_true rfl) (Nat.le_of_ble_eq_true rfl) (Nat.le_of_ble_eq_true rfl) (Nat.le_of_ble_eq_true rfl) (Nat.le_of_ble_eq_true rfl) dX8_stop_2 ?_
  have ht1 : (K (el G (gp G a0 0) x1)).1 = 3 := t0.2.1.2.el (i := x1) (by omega)
  refine v_astore_n (i := 3) (lv' := [(3, .ref (el G (gp G a0 0) x1)), (0, .ref a0), (1, .int (nI x1)), (2, .int x2)]) hC dX8_stop_5 rfl (by decide) rfl ?_
  refine v_aload_n hC dX8_stop_6 rfl 0 rfl ?_
  refine gf_X8_113 hC ht1 dX8_stop_7 ?_
  refine v_istore (i := 4) (lv' := [(4, .int (F (el G (gp G a0 0) x1) 4)), (3, .ref (el G (gp G a0 0) x1)), (0, .ref a0), (1, .int (nI x1)), (2, .int x2)]) hC dX8_stop_10 (by decide) rfl ?_
  refine v_aload_n hC dX8_stop_12 rfl 1 rfl ?_
  refine v_aload_n hC dX8_stop_13 rfl 2 rfl ?_
  refine v_iload hC dX8_stop_14 0 rfl ?_
  refine v_iload_n hC dX8_stop_16 rfl 4 rfl ?_
  refine v_callV (c2 := 0) (s2 := 0) (As := [.int (F (el G (gp G a0 0) x1) 4), .int x2]) hC (m_X8_since l (n := n) (K := K) (F := F) (G := G) (a0 := a0) (x1 := (F (el G (gp G a0 0) x1) 4)) (x2 := x2) t0) q_X8_116 (by rw [t0.1]; decide) (ce_1 t0.1) (ci := 0) rfl hdV_X8_since rfl rfl (Nat.le_of_ble_eq_true rfl) (Nat.le_of_ble_eq_true rfl) (Nat.le_of_ble_eq_true rfl) (Nat.le_of_ble_eq_true rfl) (Nat.le_of_ble_eq_true rfl) (Nat.le_of_ble_eq_true rfl) (Nat.le_of_ble_eq_true rfl) dX8_stop_17 ?_
  refine pf_X8_113 hC ht1 dX8_stop_20 ?_
  refine v_iload hC dX8_stop_23 0 rfl ?_
  exact v_iret hC rfl hQ dX8_stop_25 (congrArg (fun z => some (Value.int z.2)) hf) rfl rfl (congrArg Prod.fst hf) rfl
def f_X8_war (K : Kt) (F : Ft) (G : Gt) (a0 : Nat) (x1 : Nat) (x2 : Int32) : Ft × Int32 := (up2 F (el G (gp G a0 0) x1) 5 (f_X8_since K F G a0 (F (el G (gp G a0 0) x1) 5) x2), F (el G (gp G a0 0) x1) 5)
theorem hdS_X8_war : yX8_war.cls ≠ "java/lang/invoke/MethodHandle" ∧ yX8_war.cls ≠ "java/lang/invoke/VarHandle" ∧ (parseMethodDescriptor yX8_war.desc).map (fun d => d.parameters.length) = some 2 := by decide +kernel
theorem hdV_X8_war : yX8_war.cls = RX8 ∧ yX8_war.cls ≠ "java/lang/invoke/MethodHandle" ∧ yX8_war.cls ≠ "java/lang/invoke/VarHandle" ∧ (parseMethodDescriptor yX8_war.desc).map (fun d => d.parameters.length) = some 2 := by decide +kernel
set_option maxHeartbeats 4000000 in
set_option maxRecDepth 100000 in
theorem m_X8_war (l : Launch) {n : Nat} {K : Kt} {F : Ft} {G : Gt} {a0 : Nat} {x1 : Nat} {x2 : Int32} (t0 : TMain K G a0) (hi : x1 < (K (gp G a0 0)).2) : Mw X l yX8_war cX8_war 5 (some .int) 4 85 0 0 [.ref a0, .int (nI x1), .int x2] n K F G (some (.int (f_X8_war K F G a0 x1 x2).2)) n K (f_X8_war K F G a0 x1 x2).1 G := by
  generalize hf : f_X8_war K F G a0 x1 x2 = r
  refine Mw.of (lv := [(0, .ref a0), (1, .int (nI x1)), (2, .int x2)]) (by decide) (Nat.le_of_ble_eq_true rfl) rfl ?_
  intro p e s m args below meth c Q hC hin hQ
  have hC : Cx X p s m args meth c RX8 cX8_war 5 (some .int) := hC
  rw [f_X8_war] at hf
  refine v_aload_n hC dX8_war_0 rfl 0 rfl ?_
  refine v_iload_n hC dX8_war_1 rfl 1 rfl ?_
  refine v_callV (c2 := 0) (s2 := 0) (As := [.int (nI x1)]) hC (m_X8_landAt l (n := n) (K := K) (F := F) (G := G) (a0 := a0) (x1 := x1) t0 hi) q_X8_71 (by rw [t0.1]; decide) (ce_1 t0.1) (ci := 0) rfl hdV_X8_landAt rfl rfl (Nat.le_of_ble_eq_true rfl) (Nat.le_of_ble_eq_true rfl) (Nat.le_of_ble_eq_true rfl) (Nat.le_of_ble_eq_true rfl) (Nat.le_of_ble_eq_true rfl) (Nat.le_of_ble_eq_true rfl) (Nat.le_of_ble_eq_true rfl) dX8_war_2 ?_
  have ht1 : (K (el G (gp G a0 0) x1)).1 = 3 := t0.2.1.2.el (i := x1) (by omega)
  refine v_astore_n (i := 3) (lv' := [(3, .ref (el G (gp G a0 0) x1)), (0, .ref a0), (1, .int (nI x1)), (2, .int x2)]) hC dX8_war_5 rfl (by decide) rfl ?_
  refine v_aload_n hC dX8_war_6 rfl 0 rfl ?_
  refine gf_X8_120 hC ht1 dX8_war_7 ?_
  refine v_istore (i := 4) (lv' := [(4, .int (F (el G (gp G a0 0) x1) 5)), (3, .ref (el G (gp G a0 0) x1)), (0, .ref a0), (1, .int (nI x1)), (2, .int x2)]) hC dX8_war_10 (by decide) rfl ?_
  refine v_aload_n hC dX8_war_12 rfl 1 rfl ?_
  refine v_aload_n hC dX8_war_13 rfl 2 rfl ?_
  refine v_iload hC dX8_war_14 0 rfl ?_
  refine v_iload_n hC dX8_war_16 rfl 4 rfl ?_
  refine v_callV (c2 := 0) (s2 := 0) (As := [.int (F (el G (gp G a0 0) x1) 5), .int x2]) hC (m_X8_since l (n := n) (K := K) (F := F) (G := G) (a0 := a0) (x1 := (F (el G (gp G a0 0) x1) 5)) (x2 := x2) t0) q_X8_116 (by rw [t0.1]; decide) (ce_1 t0.1) (ci := 0) rfl hdV_X8_since rfl rfl (Nat.le_of_ble_eq_true rfl) (Nat.le_of_ble_eq_true rfl) (Nat.le_of_ble_eq_true rfl) (Nat.le_of_ble_eq_true rfl) (Nat.le_of_ble_eq_true rfl) (Nat.le_of_ble_eq_true rfl) (Nat.le_of_ble_eq_true rfl) dX8_war_17 ?_
  refine pf_X8_120 hC ht1 dX8_war_20 ?_
  refine v_iload hC dX8_war_23 0 rfl ?_
  exact v_iret hC rfl hQ dX8_war_25 (congrArg (fun z => some (Value.int z.2)) hf) rfl rfl (congrArg Prod.fst hf) rfl
def f_X8_broke (K : Kt) (F : Ft) (G : Gt) (a0 : Nat) (x1 : Nat) : Ft × Int32 := (up2 F (el G (gp G a0 1) x1) 4 (f_X8_since K F G a0 (F (el G (gp G a0 1) x1) 4) 1), f_X0_isBroke K F G (el G (gp G a0 1) x1))
theorem hdS_X8_broke : yX8_broke.cls ≠ "java/lang/invoke/MethodHandle" ∧ yX8_broke.cls ≠ "java/lang/invoke/VarHandle" ∧ (parseMethodDescriptor yX8_broke.desc).map (fun d => d.parameters.length) = some 1 := by decide +kernel
theorem hdV_X8_broke : yX8_broke.cls = RX8 ∧ yX8_broke.cls ≠ "java/lang/invoke/MethodHandle" ∧ yX8_broke.cls ≠ "java/lang/invoke/VarHandle" ∧ (parseMethodDescriptor yX8_broke.desc).map (fun d => d.parameters.length) = some 1 := by decide +kernel
set_option maxHeartbeats 4000000 in
set_option maxRecDepth 100000 in
theorem m_X8_broke (l : Launch) {n : Nat} {K : Kt} {F : Ft} {G : Gt} {a0 : Nat} {x1 : Nat} (t0 : TMain K G a0) (hi : x1 < (K (gp G a0 1)).2) : Mw X l yX8_broke cX8_broke 4 (some .boolean) 4 85 0 0 [.ref a0, .int (nI x1)] n K F G (some (.int (f_X8_broke K F G a0 x1).2)) n K (f_X8_broke K F G a0 x1).1 G := by
  generalize hf : f_X8_broke K F G a0 x1 = r
  refine Mw.of (lv := [(0, .ref a0), (1, .int (nI x1))]) (by decide) (Nat.le_of_ble_eq_true rfl) rfl ?_
  intro p e s m args below meth c Q hC hin hQ
  have hC : Cx X p s m args meth c RX8 cX8_broke 4 (some .boolean) := hC
  rw [f_X8_broke] at hf
  refine v_aload_n hC dX8_broke_0 rfl 0 rfl ?_
  refine v_iload_n hC dX8_broke_1 rfl 1 rfl ?_
  refine v_callV (c2 := 0) (s2 := 0) (As := [.int (nI x1)]) hC (m_X8_buyerAt l (n := n) (K := K) (F := F) (G := G) (a0 := a0) (x1 := x1) t0 hi) q_X8_124 (by rw [t0.1]; decide) (ce_1 t0.1) (ci := 0) rfl hdV_X8_buyerAt rfl rfl (Nat.le_of_ble_eq_true rfl) (Nat.le_of_ble_eq_true rfl) (Nat.le_of_ble_eq_true rfl) (Nat.le_of_ble_eq_true rfl) (Nat.le_of_ble_eq_true rfl) (Nat.le_of_ble_eq_true rfl) (Nat.le_of_ble_eq_true rfl) dX8_broke_2 ?_
  have ht1 : TBuyer K G (el G (gp G a0 1) x1) := t0.2.2.1.2.el (i := x1) (by omega)
  refine v_astore_n (i := 2) (lv' := [(2, .ref (el G (gp G a0 1) x1)), (0, .ref a0), (1, .int (nI x1))]) hC dX8_broke_5 rfl (by decide) rfl ?_
  refine v_aload_n hC dX8_broke_6 rfl 0 rfl ?_
  refine v_callV (c2 := 0) (s2 := 0) (As := []) hC (m_X0_isBroke l (n := n) (K := K) (F := F) (G := G) (a0 := (el G (gp G a0 1) x1)) ht1) q_X8_132 (by rw [ht1.1]; decide) (ce_4 ht1.1) (ci := 3) rfl hdV_X0_isBroke rfl rfl (Nat.le_of_ble_eq_true rfl) (Nat.le_of_ble_eq_true rfl) (Nat.le_of_ble_eq_true rfl) (Nat.le_of_ble_eq_true rfl) (Nat.le_of_ble_eq_true rfl) (Nat.le_of_ble_eq_true rfl) (Nat.le_of_ble_eq_true rfl) dX8_broke_7 ?_
  refine v_istore_n (i := 3) (lv' := [(3, .int (f_X0_isBroke K F G (el G (gp G a0 1) x1))), (2, .ref (el G (gp G a0 1) x1)), (0, .ref a0), (1, .int (nI x1))]) hC dX8_broke_10 rfl (by decide) rfl ?_
  refine v_aload_n hC dX8_broke_11 rfl 1 rfl ?_
  refine v_aload_n hC dX8_broke_12 rfl 2 rfl ?_
  refine v_aload_n hC dX8_broke_13 rfl 1 rfl ?_
  refine gf_X8_135 hC ht1.1 dX8_broke_14 ?_
  refine v_iconst (v := 1) hC dX8_broke_17 (by decide) ?_
  refine v_callV (c2 := 0) (s2 := 0) (As := [.int (F (el G (gp G a0 1) x1) 4), .int 1]) hC (m_X8_since l (n := n) (K := K) (F := F) (G := G) (a0 := a0) (x1 := (F (el G (gp G a0 1) x1) 4)) (x2 := 1) t0) q_X8_116 (by rw [t0.1]; decide) (ce_1 t0.1) (ci := 0) rfl hdV_X8_since rfl rfl (Nat.le_of_ble_eq_true rfl) (Nat.le_of_ble_eq_true rfl) (Nat.le_of_ble_eq_true rfl) (Nat.le_of_ble_eq_true rfl) (Nat.le_of_ble_eq_true rfl) (Nat.le_of_ble_eq_true rfl) (Nat.le_of_ble_eq_true rfl) dX8_broke_18 ?_
  refine pf_X8_135 hC ht1.1 dX8_broke_21 ?_
  refine v_iload_n hC dX8_broke_24 rfl 0 rfl ?_
  exact v_zret (ty := .boolean) hC rfl (zz_of z_X0_isBroke) hQ dX8_broke_25 (congrArg (fun z => some (Value.int z.2)) hf) rfl rfl (congrArg Prod.fst hf) rfl
def f_X8_notice (K : Kt) (F : Ft) (G : Gt) (a0 : Nat) (x1 : Nat) (x2 : Int32) : Ft × Int32 := (up2 (up2 F (el G (gp G a0 0) x1) 6 x2) (el G (gp G a0 0) x1) 7 ((up2 F (el G (gp G a0 0) x1) 6 x2) a0 9), f_X5_noticeOn K F G (el G (gp G a0 0) x1) (F a0 9))
theorem hdS_X8_notice : yX8_notice.cls ≠ "java/lang/invoke/MethodHandle" ∧ yX8_notice.cls ≠ "java/lang/invoke/VarHandle" ∧ (parseMethodDescriptor yX8_notice.desc).map (fun d => d.parameters.length) = some 2 := by decide +kernel
theorem hdV_X8_notice : yX8_notice.cls = RX8 ∧ yX8_notice.cls ≠ "java/lang/invoke/MethodHandle" ∧ yX8_notice.cls ≠ "java/lang/invoke/VarHandle" ∧ (parseMethodDescriptor yX8_notice.desc).map (fun d => d.parameters.length) = some 2 := by decide +kernel
set_option maxHeartbeats 4000000 in
set_option maxRecDepth 100000 in
theorem m_X8_notice (l : Launch) {n : Nat} {K : Kt} {F : Ft} {G : Gt} {a0 : Nat} {x1 : Nat} {x2 : Int32} (t0 : TMain K G a0) (hi : x1 < (K (gp G a0 0)).2) (h : ¬ f_X8_isWithin K F G x2 1 999 = 0) : Mw X l yX8_notice cX8_notice 5 (some .int) 4 85 0 0 [.ref a0, .int (nI x1), .int x2] n K F G (some (.int (f_X8_notice K F G a0 x1 x2).2)) n K (f_X8_notice K F G a0 x1 x2).1 G := by
  generalize hf : f_X8_notice K F G a0 x1 x2 = r
  refine Mw.of (lv := [(0, .ref a0), (1, .int (nI x1)), (2, .int x2)]) (by decide) (Nat.le_of_ble_eq_true rfl) rfl ?_
  intro p e s m args below meth c Q hC hin hQ
  have hC : Cx X p s m args meth c RX8 cX8_notice 5 (some .int) := hC
  rw [f_X8_notice] at hf
  refine v_aload_n hC dX8_notice_0 rfl 0 rfl ?_
  refine v_iload_n hC dX8_notice_1 rfl 1 rfl ?_
  refine v_callV (c2 := 0) (s2 := 0) (As := [.int (nI x1)]) hC (m_X8_landAt l (n := n) (K := K) (F := F) (G := G) (a0 := a0) (x1 := x1) t0 hi) q_X8_71 (by rw [t0.1]; decide) (ce_1 t0.1) (ci := 0) rfl hdV_X8_landAt rfl rfl (Nat.le_of_ble_eq_true rfl) (Nat.le_of_ble_eq_true rfl) (Nat.le_of_ble_eq_true rfl) (Nat.le_of_ble_eq_true rfl) (Nat.le_of_ble_eq_true rfl) (Nat.le_of_ble_eq_true rfl) (Nat.le_of_ble_eq_true rfl) dX8_notice_2 ?_
  have ht1 : (K (el G (gp G a0 0) x1)).1 = 3 := t0.2.1.2.el (i := x1) (by omega)
  refine v_astore_n (i := 3) (lv' := [(3, .ref (el G (gp G a0 0) x1)), (0, .ref a0), (1, .int (nI x1)), (2, .int x2)]) hC dX8_notice_5 rfl (by decide) rfl ?_
  refine v_iload_n hC dX8_notice_6 rfl 3 rfl ?_
  refine v_iconst (v := 1) hC dX8_notice_7 (by decide) ?_
  refine v_sipush (v := 999) hC dX8_notice_8 (by decide) ?_
  refine v_callS (c2 := 0) (s2 := 0) (As := [.int x2, .int 1, .int 999]) hC (m_X8_isWithin l (n := n) (K := K) (F := F) (G := G) (x0 := x2) (x1 := 1) (x2 := 999) ) q_X8_44 hdS_X8_isWithin rfl rfl (Nat.le_of_ble_eq_true rfl) (Nat.le_of_ble_eq_true rfl) (Nat.le_of_ble_eq_true rfl) (Nat.le_of_ble_eq_true rfl) (Nat.le_of_ble_eq_true rfl) (Nat.le_of_ble_eq_true rfl) (Nat.le_of_ble_eq_true rfl) dX8_notice_11 ?_
  refine v_callS (c2 := 0) (s2 := 0) (As := [.int (f_X8_isWithin K F G x2 1 999)]) hC (m_X8_demandArgument l (n := n) (K := K) (F := F) (G := G) (x0 := (f_X8_isWithin K F G x2 1 999)) h) q_X8_48 hdS_X8_demandArgument rfl rfl (Nat.le_of_ble_eq_true rfl) (Nat.le_of_ble_eq_true rfl) (Nat.le_of_ble_eq_true rfl) (Nat.le_of_ble_eq_true rfl) (Nat.le_of_ble_eq_true rfl) (Nat.le_of_ble_eq_true rfl) (Nat.le_of_ble_eq_true rfl) dX8_notice_14 ?_
  refine v_aload_n hC dX8_notice_17 rfl 0 rfl ?_
  refine v_aload_n hC dX8_notice_18 rfl 1 rfl ?_
  refine gf_X8_151 hC t0.1 dX8_notice_19 ?_
  refine v_callV (c2 := 0) (s2 := 0) (As := [.int (F a0 9)]) hC (m_X5_noticeOn l (n := n) (K := K) (F := F) (G := G) (a0 := (el G (gp G a0 0) x1)) (x1 := (F a0 9)) ht1) q_X8_154 (by rw [ht1]; decide) (ce_3 ht1) (ci := 2) rfl hdV_X5_noticeOn rfl rfl (Nat.le_of_ble_eq_true rfl) (Nat.le_of_ble_eq_true rfl) (Nat.le_of_ble_eq_true rfl) (Nat.le_of_ble_eq_true rfl) (Nat.le_of_ble_eq_true rfl) (Nat.le_of_ble_eq_true rfl) (Nat.le_of_ble_eq_true rfl) dX8_notice_22 ?_
  refine v_istore (i := 4) (lv' := [(4, .int (f_X5_noticeOn K F G (el G (gp G a0 0) x1) (F a0 9))), (3, .ref (el G (gp G a0 0) x1)), (0, .ref a0), (1, .int (nI x1)), (2, .int x2)]) hC dX8_notice_25 (by decide) rfl ?_
  refine v_aload_n hC dX8_notice_27 rfl 1 rfl ?_
  refine v_iload_n hC dX8_notice_28 rfl 4 rfl ?_
  refine pf_X8_157 hC ht1 dX8_notice_29 ?_
  refine v_aload_n hC dX8_notice_32 rfl 1 rfl ?_
  refine v_aload_n hC dX8_notice_33 rfl 2 rfl ?_
  refine gf_X8_151 hC t0.1 dX8_notice_34 ?_
  refine pf_X8_160 hC ht1 dX8_notice_37 ?_
  refine v_iload hC dX8_notice_40 0 rfl ?_
  exact v_iret hC rfl hQ dX8_notice_42 (congrArg (fun z => some (Value.int z.2)) hf) rfl rfl (congrArg Prod.fst hf) rfl
def f_X8_link_C55 (K : Kt) (G : Gt) (a0 : Nat) (x1 : Nat) (F4 : Ft) : Ft × Int32 := (F4, F4 (el G (gp G a0 2) x1) 3)
def f_X8_link_C37 (K : Kt) (G : Gt) (a0 : Nat) (x1 : Nat) (F5 : Ft) : Ft × Int32 := (F5, F5 (el G (gp G a0 2) x1) 2)
def f_X8_link (K : Kt) (F : Ft) (G : Gt) (a0 : Nat) (x1 : Nat) (x2 : Nat) (x3 : Int32) : Ft × Int32 := if x3 = 0 then f_X8_link_C55 K G a0 x1 (up2 F (el G (gp G a0 2) x1) 3 ((F (el G (gp G a0 2) x1) 3) ||| (1 <<< ((F (el G (gp G a0 1) x2) 0) &&& 31)))) else f_X8_link_C37 K G a0 x1 (up2 F (el G (gp G a0 2) x1) 2 ((F (el G (gp G a0 2) x1) 2) ||| (1 <<< ((F (el G (gp G a0 1) x2) 0) &&& 31))))
theorem hdS_X8_link : yX8_link.cls ≠ "java/lang/invoke/MethodHandle" ∧ yX8_link.cls ≠ "java/lang/invoke/VarHandle" ∧ (parseMethodDescriptor yX8_link.desc).map (fun d => d.parameters.length) = some 3 := by decide +kernel
theorem hdV_X8_link : yX8_link.cls = RX8 ∧ yX8_link.cls ≠ "java/lang/invoke/MethodHandle" ∧ yX8_link.cls ≠ "java/lang/invoke/VarHandle" ∧ (parseMethodDescriptor yX8_link.desc).map (fun d => d.parameters.length) = some 3 := by decide +kernel
set_option maxHeartbeats 4000000 in
set_option maxRecDepth 100000 in
theorem m_X8_link (l : Launch) {n : Nat} {K : Kt} {F : Ft} {G : Gt} {a0 : Nat} {x1 : Nat} {x2 : Nat} {x3 : Int32} (t0 : TMain K G a0) (hi : x1 < (K (gp G a0 2)).2) (hj : x2 < (K (gp G a0 1)).2) : Mw X l yX8_link cX8_link 6 (some .int) 4 85 0 0 [.ref a0, .int (nI x1), .int (nI x2), .int x3] n K F G (some (.int (f_X8_link K F G a0 x1 x2 x3).2)) n K (f_X8_link K F G a0 x1 x2 x3).1 G := by
  generalize hf : f_X8_link K F G a0 x1 x2 x3 = r
  refine Mw.of (lv := [(0, .ref a0), (1, .int (nI x1)), (2, .int (nI x2)), (3, .int x3)]) (by decide) (Nat.le_of_ble_eq_true rfl) rfl ?_
  intro p e s m args below meth c Q hC hin hQ
  have hC : Cx X p s m args meth c RX8 cX8_link 6 (some .int) := hC
  rw [f_X8_link] at hf
  refine v_aload_n hC dX8_link_0 rfl 0 rfl ?_
  refine v_iload_n hC dX8_link_1 rfl 1 rfl ?_
  refine v_callV (c2 := 0) (s2 := 0) (As := [.int (nI x1)]) hC (m_X8_exporterAt l (n := n) (K := K) (F := F) (G := G) (a0 := a0) (x1 := x1) t0 hi) q_X8_141 (by rw [t0.1]; decide) (ce_1 t0.1) (ci := 0) rfl hdV_X8_exporterAt rfl rfl (Nat.le_of_ble_eq_true rfl) (Nat.le_of_ble_eq_true rfl) (Nat.le_of_ble_eq_true rfl) (Nat.le_of_ble_eq_true rfl) (Nat.le_of_ble_eq_true rfl) (Nat.le_of_ble_eq_true rfl) (Nat.le_of_ble_eq_true rfl) dX8_link_2 ?_
  have ht1 : TExp K G (el G (gp G a0 2) x1) := t0.2.2.2.1.2.el (i := x1) (by omega)
  refine v_astore (i := 4) (lv' := [(4, .ref (el G (gp G a0 2) x1)), (0, .ref a0), (1, .int (nI x1)), (2, .int (nI x2)), (3, .int x3)]) hC dX8_link_5 (by decide) rfl ?_
  refine v_iconst (v := 1) hC dX8_link_7 (by decide) ?_
  refine v_aload_n hC dX8_link_8 rfl 1 rfl ?_
  refine v_iload_n hC dX8_link_9 rfl 3 rfl ?_
  refine v_callV (c2 := 0) (s2 := 0) (As := [.int (nI x2)]) hC (m_X8_buyerAt l (n := n) (K := K) (F := F) (G := G) (a0 := a0) (x1 := x2) t0 hj) q_X8_124 (by rw [t0.1]; decide) (ce_1 t0.1) (ci := 0) rfl hdV_X8_buyerAt rfl rfl (Nat.le_of_ble_eq_true rfl) (Nat.le_of_ble_eq_true rfl) (Nat.le_of_ble_eq_true rfl) (Nat.le_of_ble_eq_true rfl) (Nat.le_of_ble_eq_true rfl) (Nat.le_of_ble_eq_true rfl) (Nat.le_of_ble_eq_true rfl) dX8_link_10 ?_
  have ht2 : TBuyer K G (el G (gp G a0 1) x2) := t0.2.2.1.2.el (i := x2) (by omega)
  refine gf_X8_123 hC ht2.1 dX8_link_13 ?_
  refine v_ishl hC dX8_link_16 ?_
  refine v_istore (i := 5) (lv' := [(5, .int (1 <<< ((F (el G (gp G a0 1) x2) 0) &&& 31))), (4, .ref (el G (gp G a0 2) x1)), (0, .ref a0), (1, .int (nI x1)), (2, .int (nI x2)), (3, .int x3)]) hC dX8_link_17 (by decide) rfl ?_
  refine v_iload_n hC dX8_link_19 rfl 5 rfl ?_
  refine v_if_eq (tgt := 41) hC dX8_link_20 (by decide) (fun c3 => ?_) (fun c3 => ?_)
  · rw [if_pos c3] at hf
    refine v_aload hC dX8_link_41 1 rfl ?_
    refine v_dup hC dX8_link_43 rfl ?_
    refine gf_X8_148 hC ht1.1 dX8_link_44 ?_
    refine v_iload hC dX8_link_47 0 rfl ?_
    refine v_ior hC dX8_link_49 ?_
    refine pf_X8_148 hC ht1.1 dX8_link_50 ?_
    refine v_aload hC dX8_link_53 1 rfl ?_
    have KC55 : ∀ (F4 : Ft), f_X8_link_C55 K G a0 x1 F4 = r → V X 6 p l e ({ frames := 4, cells := 0, slots := 0, locals := 85 } : Room) s m args below meth c Q 0 0 n K F4 G [] 55 [.ref (el G (gp G a0 2) x1)] := by
      intro F4 hf
      rw [f_X8_link_C55] at hf
      refine gf_X8_148 hC ht1.1 dX8_link_55 ?_
      exact v_iret hC rfl hQ dX8_link_58 (congrArg (fun z => some (Value.int z.2)) hf) rfl rfl (congrArg Prod.fst hf) rfl
    refine v_sub [] rfl ?_
    exact KC55 (up2 F (el G (gp G a0 2) x1) 3 ((F (el G (gp G a0 2) x1) 3) ||| (1 <<< ((F (el G (gp G a0 1) x2) 0) &&& 31)))) hf
  · rw [if_neg c3] at hf
    refine v_aload hC dX8_link_23 1 rfl ?_
    refine v_dup hC dX8_link_25 rfl ?_
    refine gf_X8_145 hC ht1.1 dX8_link_26 ?_
    refine v_iload hC dX8_link_29 0 rfl ?_
    refine v_ior hC dX8_link_31 ?_
    refine pf_X8_145 hC ht1.1 dX8_link_32 ?_
    refine v_aload hC dX8_link_35 1 rfl ?_
    have KC37 : ∀ (F5 : Ft), f_X8_link_C37 K G a0 x1 F5 = r → V X 6 p l e ({ frames := 4, cells := 0, slots := 0, locals := 85 } : Room) s m args below meth c Q 0 0 n K F5 G [] 37 [.ref (el G (gp G a0 2) x1)] := by
      intro F5 hf
      rw [f_X8_link_C37] at hf
      refine gf_X8_145 hC ht1.1 dX8_link_37 ?_
      exact v_iret hC rfl hQ dX8_link_40 (congrArg (fun z => some (Value.int z.2)) hf) rfl rfl (congrArg Prod.fst hf) rfl
    refine v_sub [] rfl ?_
    exact KC37 (up2 F (el G (gp G a0 2) x1) 2 ((F (el G (gp G a0 2) x1) 2) ||| (1 <<< ((F (el G (gp G a0 1) x2) 0) &&& 31)))) hf
def f_X8_cut_C54 (K : Kt) (G : Gt) (a0 : Nat) (x1 : Nat) (x2 : Nat) (y3 : Int32) (F4 : Ft) : Ft × Int32 := (F4, y3 - (f_X6_grantedFor K F4 G (el G (gp G a0 3) x1) (F4 (el G (gp G a0 1) x2) 0)))
def f_X8_cut_N36 (K : Kt) (F : Ft) (G : Gt) (a0 : Nat) (x1 : Nat) (x2 : Nat) (x3 : Int32) (y3 : Int32) : Ft × Int32 := f_X8_cut_C54 K G a0 x1 x2 y3 (f_X6_grant K F G (el G (gp G a0 3) x1) (F (el G (gp G a0 1) x2) 0) (if x3 < y3 then x3 else y3))
def f_X8_cut_J23 (K : Kt) (F : Ft) (G : Gt) (a0 : Nat) (x1 : Nat) (x2 : Nat) (x3 : Int32) : Ft × Int32 := f_X8_cut_N36 K F G a0 x1 x2 x3 (f_X6_grantedFor K F G (el G (gp G a0 3) x1) (F (el G (gp G a0 1) x2) 0))
def f_X8_cut (K : Kt) (F : Ft) (G : Gt) (a0 : Nat) (x1 : Nat) (x2 : Nat) (x3 : Int32) : Ft × Int32 := f_X8_cut_J23 K F G a0 x1 x2 x3
theorem hdS_X8_cut : yX8_cut.cls ≠ "java/lang/invoke/MethodHandle" ∧ yX8_cut.cls ≠ "java/lang/invoke/VarHandle" ∧ (parseMethodDescriptor yX8_cut.desc).map (fun d => d.parameters.length) = some 3 := by decide +kernel
theorem hdV_X8_cut : yX8_cut.cls = RX8 ∧ yX8_cut.cls ≠ "java/lang/invoke/MethodHandle" ∧ yX8_cut.cls ≠ "java/lang/invoke/VarHandle" ∧ (parseMethodDescriptor yX8_cut.desc).map (fun d => d.parameters.length) = some 3 := by decide +kernel
set_option maxHeartbeats 4000000 in
set_option maxRecDepth 100000 in
theorem m_X8_cut (l : Launch) {n : Nat} {K : Kt} {F : Ft} {G : Gt} {a0 : Nat} {x1 : Nat} {x2 : Nat} {x3 : Int32} (t0 : TMain K G a0) (hi : x1 < (K (gp G a0 3)).2) (hj : x2 < (K (gp G a0 1)).2) (h : ¬ x3 < 0) : Mw X l yX8_cut cX8_cut 7 (some .int) 4 85 0 0 [.ref a0, .int (nI x1), .int (nI x2), .int x3] n K F G (some (.int (f_X8_cut K F G a0 x1 x2 x3).2)) n K (f_X8_cut K F G a0 x1 x2 x3).1 G := by
  generalize hf : f_X8_cut K F G a0 x1 x2 x3 = r
  refine Mw.of (lv := [(0, .ref a0), (1, .int (nI x1)), (2, .int (nI x2)), (3, .int x3)]) (by decide) (Nat.le_of_ble_eq_true rfl) rfl ?_
  intro p e s m args below meth c Q hC hin hQ
  have hC : Cx X p s m args meth c RX8 cX8_cut 7 (some .int) := hC
  rw [f_X8_cut] at hf
  refine v_aload_n hC dX8_cut_0 rfl 0 rfl ?_
  refine v_iload_n hC dX8_cut_1 rfl 1 rfl ?_
  refine v_callV (c2 := 0) (s2 := 0) (As := [.int (nI x1)]) hC (m_X8_policyAt l (n := n) (K := K) (F := F) (G := G) (a0 := a0) (x1 := x1) t0 hi) q_X8_177 (by rw [t0.1]; decide) (ce_1 t0.1) (ci := 0) rfl hdV_X8_policyAt rfl rfl (Nat.le_of_ble_eq_true rfl) (Nat.le_of_ble_eq_true rfl) (Nat.le_of_ble_eq_true rfl) (Nat.le_of_ble_eq_true rfl) (Nat.le_of_ble_eq_true rfl) (Nat.le_of_ble_eq_true rfl) (Nat.le_of_ble_eq_true rfl) dX8_cut_2 ?_
  have ht1 : TPol K G (el G (gp G a0 3) x1) := t0.2.2.2.2.1.2.el (i := x1) (by omega)
  refine v_astore (i := 4) (lv' := [(4, .ref (el G (gp G a0 3) x1)), (0, .ref a0), (1, .int (nI x1)), (2, .int (nI x2)), (3, .int x3)]) hC dX8_cut_5 (by decide) rfl ?_
  refine v_aload_n hC dX8_cut_7 rfl 1 rfl ?_
  refine v_iload_n hC dX8_cut_8 rfl 3 rfl ?_
  refine v_callV (c2 := 0) (s2 := 0) (As := [.int (nI x2)]) hC (m_X8_buyerAt l (n := n) (K := K) (F := F) (G := G) (a0 := a0) (x1 := x2) t0 hj) q_X8_124 (by rw [t0.1]; decide) (ce_1 t0.1) (ci := 0) rfl hdV_X8_buyerAt rfl rfl (Nat.le_of_ble_eq_true rfl) (Nat.le_of_ble_eq_true rfl) (Nat.le_of_ble_eq_true rfl) (Nat.le_of_ble_eq_true rfl) (Nat.le_of_ble_eq_true rfl) (Nat.le_of_ble_eq_true rfl) (Nat.le_of_ble_eq_true rfl) dX8_cut_9 ?_
  have ht2 : TBuyer K G (el G (gp G a0 1) x2) := t0.2.2.1.2.el (i := x2) (by omega)
  refine v_astore (i := 5) (lv' := [(5, .ref (el G (gp G a0 1) x2)), (4, .ref (el G (gp G a0 3) x1)), (0, .ref a0), (1, .int (nI x1)), (2, .int (nI x2)), (3, .int x3)]) hC dX8_cut_12 (by decide) rfl ?_
  refine v_iload_n hC dX8_cut_14 rfl 5 rfl ?_
  have KJ23 : f_X8_cut_J23 K F G a0 x1 x2 x3 = r → V X 7 p l e ({ frames := 4, cells := 0, slots := 0, locals := 85 } : Room) s m args below meth c Q 0 0 n K F G [(3, .int x3), (4, .ref (el G (gp G a0 3) x1)), (5, .ref (el G (gp G a0 1) x2))] 23 [.int 1] := by
    intro hf
    rw [f_X8_cut_J23] at hf
    refine v_callS (c2 := 0) (s2 := 0) (As := [.int 1]) hC (m_X8_demandArgument l (n := n) (K := K) (F := F) (G := G) (x0 := 1) (by decide)) q_X8_48 hdS_X8_demandArgument rfl rfl (Nat.le_of_ble_eq_true rfl) (Nat.le_of_ble_eq_true rfl) (Nat.le_of_ble_eq_true rfl) (Nat.le_of_ble_eq_true rfl) (Nat.le_of_ble_eq_true rfl) (Nat.le_of_ble_eq_true rfl) (Nat.le_of_ble_eq_true rfl) dX8_cut_23 ?_
    refine v_aload hC dX8_cut_26 1 rfl ?_
    refine v_aload hC dX8_cut_28 2 rfl ?_
    refine gf_X8_123 hC ht2.1 dX8_cut_30 ?_
    refine v_callV (c2 := 0) (s2 := 0) (As := [.int (F (el G (gp G a0 1) x2) 0)]) hC (m_X6_grantedFor l (n := n) (K := K) (F := F) (G := G) (a0 := (el G (gp G a0 3) x1)) (x1 := (F (el G (gp G a0 1) x2) 0)) ht1) q_X8_195 (by rw [ht1.1]; decide) (ce_6 ht1.1) (ci := 5) rfl hdV_X6_grantedFor rfl rfl (Nat.le_of_ble_eq_true rfl) (Nat.le_of_ble_eq_true rfl) (Nat.le_of_ble_eq_true rfl) (Nat.le_of_ble_eq_true rfl) (Nat.le_of_ble_eq_true rfl) (Nat.le_of_ble_eq_true rfl) (Nat.le_of_ble_eq_true rfl) dX8_cut_33 ?_
    have KN36 : ∀ (y3 : Int32), f_X8_cut_N36 K F G a0 x1 x2 x3 y3 = r → V X 7 p l e ({ frames := 4, cells := 0, slots := 0, locals := 85 } : Room) s m args below meth c Q 0 0 n K F G [(3, .int x3), (4, .ref (el G (gp G a0 3) x1)), (5, .ref (el G (gp G a0 1) x2))] 36 [.int y3] := by
      intro y3 hf
      rw [f_X8_cut_N36] at hf
      refine v_istore (i := 6) (lv' := [(6, .int y3), (3, .int x3), (4, .ref (el G (gp G a0 3) x1)), (5, .ref (el G (gp G a0 1) x2))]) hC dX8_cut_36 (by decide) rfl ?_
      refine v_aload hC dX8_cut_38 2 rfl ?_
      refine v_aload hC dX8_cut_40 3 rfl ?_
      refine gf_X8_123 hC ht2.1 dX8_cut_42 ?_
      refine v_iload hC dX8_cut_45 0 rfl ?_
      refine v_iload_n hC dX8_cut_47 rfl 1 rfl ?_
      refine v_mmin hC aw_236 (Nat.le_of_ble_eq_true rfl) (Nat.le_of_ble_eq_true rfl) (Nat.le_of_ble_eq_true rfl) (Nat.le_of_ble_eq_true rfl) (Nat.le_of_ble_eq_true rfl) dX8_cut_48 ?_
      refine v_callV (c2 := 0) (s2 := 0) (As := [.int (F (el G (gp G a0 1) x2) 0), .int (if x3 < y3 then x3 else y3)]) hC (m_X6_grant l (n := n) (K := K) (F := F) (G := G) (a0 := (el G (gp G a0 3) x1)) (x1 := (F (el G (gp G a0 1) x2) 0)) (x2 := (if x3 < y3 then x3 else y3)) ht1) q_X8_191 (by rw [ht1.1]; decide) (ce_6 ht1.1) (ci := 5) rfl hdV_X6_grant rfl rfl (Nat.le_of_ble_eq_true rfl) (Nat.le_of_ble_eq_true rfl) (Nat.le_of_ble_eq_true rfl) (Nat.le_of_ble_eq_true rfl) (Nat.le_of_ble_eq_true rfl) (Nat.le_of_ble_eq_true rfl) (Nat.le_of_ble_eq_true rfl) dX8_cut_51 ?_
      have KC54 : ∀ (F4 : Ft), f_X8_cut_C54 K G a0 x1 x2 y3 F4 = r → V X 7 p l e ({ frames := 4, cells := 0, slots := 0, locals := 85 } : Room) s m args below meth c Q 0 0 n K F4 G [(4, .ref (el G (gp G a0 3) x1)), (5, .ref (el G (gp G a0 1) x2)), (6, .int y3)] 54 [] := by
        intro F4 hf
        rw [f_X8_cut_C54] at hf
        refine v_iload hC dX8_cut_54 2 rfl ?_
        refine v_aload hC dX8_cut_56 0 rfl ?_
        refine v_aload hC dX8_cut_58 1 rfl ?_
        refine gf_X8_123 hC ht2.1 dX8_cut_60 ?_
        refine v_callV (c2 := 0) (s2 := 0) (As := [.int (F4 (el G (gp G a0 1) x2) 0)]) hC (m_X6_grantedFor l (n := n) (K := K) (F := F4) (G := G) (a0 := (el G (gp G a0 3) x1)) (x1 := (F4 (el G (gp G a0 1) x2) 0)) ht1) q_X8_195 (by rw [ht1.1]; decide) (ce_6 ht1.1) (ci := 5) rfl hdV_X6_grantedFor rfl rfl (Nat.le_of_ble_eq_true rfl) (Nat.le_of_ble_eq_true rfl) (Nat.le_of_ble_eq_true rfl) (Nat.le_of_ble_eq_true rfl) (Nat.le_of_ble_eq_true rfl) (Nat.le_of_ble_eq_true rfl) (Nat.le_of_ble_eq_true rfl) dX8_cut_63 ?_
        refine v_isub hC dX8_cut_66 ?_
        exact v_iret hC rfl hQ dX8_cut_67 (congrArg (fun z => some (Value.int z.2)) hf) rfl rfl (congrArg Prod.fst hf) rfl
      refine v_sub [2, 3, 0] rfl ?_
      exact KC54 (f_X6_grant K F G (el G (gp G a0 3) x1) (F (el G (gp G a0 1) x2) 0) (if x3 < y3 then x3 else y3)) hf
    exact KN36 (f_X6_grantedFor K F G (el G (gp G a0 3) x1) (F (el G (gp G a0 1) x2) 0)) hf
  refine v_if_lt (tgt := 22) hC dX8_cut_15 (by decide) (fun c5 => absurd c5 h) (fun c5 => ?_)
  refine v_iconst (v := 1) hC dX8_cut_18 (by decide) ?_
  refine v_goto (tgt := 23) hC dX8_cut_19 (by decide) ?_
  refine v_sub [5, 1, 0] rfl ?_
  exact KJ23 hf
def f_X8_limit_C70 (K : Kt) (G : Gt) (a0 : Nat) (x1 : Nat) (x2 : Nat) (F5 : Ft) : Ft × Int32 := (F5, f_X6_grantedFor K F5 G (el G (gp G a0 3) x1) (F5 (el G (gp G a0 1) x2) 0))
def f_X8_limit_J37 (K : Kt) (F : Ft) (G : Gt) (a0 : Nat) (x1 : Nat) (x2 : Nat) (x3 : Int32) (u3 : Int32) : Ft × Int32 := if u3 = 0 then (F, 0) else f_X8_limit_C70 K G a0 x1 x2 (f_X6_grant K F G (el G (gp G a0 3) x1) (F (el G (gp G a0 1) x2) 0) (if (2000 * (6 - (F (el G (gp G a0 1) x2) 2))) < x3 then (2000 * (6 - (F (el G (gp G a0 1) x2) 2))) else x3))
def f_X8_limit (K : Kt) (F : Ft) (G : Gt) (a0 : Nat) (x1 : Nat) (x2 : Nat) (x3 : Int32) : Ft × Int32 := if (F (el G (gp G a0 3) x1) 6) = 0 then f_X8_limit_J37 K F G a0 x1 x2 x3 1 else f_X8_limit_J37 K F G a0 x1 x2 x3 0
theorem hdS_X8_limit : yX8_limit.cls ≠ "java/lang/invoke/MethodHandle" ∧ yX8_limit.cls ≠ "java/lang/invoke/VarHandle" ∧ (parseMethodDescriptor yX8_limit.desc).map (fun d => d.parameters.length) = some 3 := by decide +kernel
theorem hdV_X8_limit : yX8_limit.cls = RX8 ∧ yX8_limit.cls ≠ "java/lang/invoke/MethodHandle" ∧ yX8_limit.cls ≠ "java/lang/invoke/VarHandle" ∧ (parseMethodDescriptor yX8_limit.desc).map (fun d => d.parameters.length) = some 3 := by decide +kernel
set_option maxHeartbeats 4000000 in
set_option maxRecDepth 100000 in
theorem m_X8_limit (l : Launch) (hfl : l.stackTraces = false) {n : Nat} {K : Kt} {F : Ft} {G : Gt} {a0 : Nat} {x1 : Nat} {x2 : Nat} {x3 : Int32} (t0 : TMain K G a0) (hi : x1 < (K (gp G a0 3)).2) (hj : x2 < (K (gp G a0 1)).2) (h : ¬ f_X8_isWithin K F G x3 0 99999 = 0) : Mx X True l yX8_limit cX8_limit 7 (some .int) 7 102 1 6 [.ref a0, .int (nI x1), .int (nI x2), .int x3] n K F G (some (.int (f_X8_limit K F G a0 x1 x2 x3).2)) n K (f_X8_limit K F G a0 x1 x2 x3).1 G := by
  generalize hf : f_X8_limit K F G a0 x1 x2 x3 = r
  refine Mx.of (lv := [(0, .ref a0), (1, .int (nI x1)), (2, .int (nI x2)), (3, .int x3)]) (by decide) (Nat.le_of_ble_eq_true rfl) rfl ?_
  intro p e s m args below meth c Q hC hin htb hQ
  have hC : Cx X p s m args meth c RX8 cX8_limit 7 (some .int) := hC
  rw [f_X8_limit] at hf
  refine v_aload_n hC dX8_limit_0 rfl 0 rfl ?_
  refine v_iload_n hC dX8_limit_1 rfl 1 rfl ?_
  refine v_callV (c2 := 0) (s2 := 0) (As := [.int (nI x1)]) hC (m_X8_policyAt l (n := n) (K := K) (F := F) (G := G) (a0 := a0) (x1 := x1) t0 hi) q_X8_177 (by rw [t0.1]; decide) (ce_1 t0.1) (ci := 0) rfl hdV_X8_policyAt rfl rfl (Nat.le_of_ble_eq_true rfl) (Nat.le_of_ble_eq_true rfl) (Nat.le_of_ble_eq_true rfl) (Nat.le_of_ble_eq_true rfl) (Nat.le_of_ble_eq_true rfl) (Nat.le_of_ble_eq_true rfl) (Nat.le_of_ble_eq_true rfl) dX8_limit_2 ?_
  have ht1 : TPol K G (el G (gp G a0 3) x1) := t0.2.2.2.2.1.2.el (i := x1) (by omega)
  refine v_astore (i := 4) (lv' := [(4, .ref (el G (gp G a0 3) x1)), (0, .ref a0), (1, .int (nI x1)), (2, .int (nI x2)), (3, .int x3)]) hC dX8_limit_5 (by decide) rfl ?_
  refine v_aload_n hC dX8_limit_7 rfl 1 rfl ?_
  refine v_iload_n hC dX8_limit_8 rfl 3 rfl ?_
  refine v_callV (c2 := 0) (s2 := 0) (As := [.int (nI x2)]) hC (m_X8_buyerAt l (n := n) (K := K) (F := F) (G := G) (a0 := a0) (x1 := x2) t0 hj) q_X8_124 (by rw [t0.1]; decide) (ce_1 t0.1) (ci := 0) rfl hdV_X8_buyerAt rfl rfl (Nat.le_of_ble_eq_true rfl) (Nat.le_of_ble_eq_true rfl) (Nat.le_of_ble_eq_true rfl) (Nat.le_of_ble_eq_true rfl) (Nat.le_of_ble_eq_true rfl) (Nat.le_of_ble_eq_true rfl) (Nat.le_of_ble_eq_true rfl) dX8_limit_9 ?_
  have ht2 : TBuyer K G (el G (gp G a0 1) x2) := t0.2.2.1.2.el (i := x2) (by omega)
  refine v_astore (i := 5) (lv' := [(5, .ref (el G (gp G a0 1) x2)), (4, .ref (el G (gp G a0 3) x1)), (0, .ref a0), (1, .int (nI x1)), (2, .int (nI x2)), (3, .int x3)]) hC dX8_limit_12 (by decide) rfl ?_
  refine v_iload_n hC dX8_limit_14 rfl 5 rfl ?_
  refine v_iconst (v := 0) hC dX8_limit_15 (by decide) ?_
  refine v_ldc (v := 99999) hC aw_1138 dX8_limit_16 ?_
  refine v_callS (c2 := 0) (s2 := 0) (As := [.int x3, .int 0, .int 99999]) hC (m_X8_isWithin l (n := n) (K := K) (F := F) (G := G) (x0 := x3) (x1 := 0) (x2 := 99999) ) q_X8_44 hdS_X8_isWithin rfl rfl (Nat.le_of_ble_eq_true rfl) (Nat.le_of_ble_eq_true rfl) (Nat.le_of_ble_eq_true rfl) (Nat.le_of_ble_eq_true rfl) (Nat.le_of_ble_eq_true rfl) (Nat.le_of_ble_eq_true rfl) (Nat.le_of_ble_eq_true rfl) dX8_limit_18 ?_
  refine v_callS (c2 := 0) (s2 := 0) (As := [.int (f_X8_isWithin K F G x3 0 99999)]) hC (m_X8_demandArgument l (n := n) (K := K) (F := F) (G := G) (x0 := (f_X8_isWithin K F G x3 0 99999)) h) q_X8_48 hdS_X8_demandArgument rfl rfl (Nat.le_of_ble_eq_true rfl) (Nat.le_of_ble_eq_true rfl) (Nat.le_of_ble_eq_true rfl) (Nat.le_of_ble_eq_true rfl) (Nat.le_of_ble_eq_true rfl) (Nat.le_of_ble_eq_true rfl) (Nat.le_of_ble_eq_true rfl) dX8_limit_21 ?_
  refine v_aload hC dX8_limit_24 1 rfl ?_
  refine gf_X8_181 hC ht1.1 dX8_limit_26 ?_
  have KJ37 : ∀ (u3 : Int32) (tu3 : u3 = 0 ∨ u3 = 1), f_X8_limit_J37 K F G a0 x1 x2 x3 u3 = r → V X 7 p l e ({ frames := 7, cells := 1, slots := 6, locals := 102 } : Room) s m args below meth c Q 0 0 n K F G [(3, .int x3), (4, .ref (el G (gp G a0 3) x1)), (5, .ref (el G (gp G a0 1) x2))] 37 [.int u3] := by
    intro u3 tu3 hf
    rw [f_X8_limit_J37] at hf
    refine v_xcallS (c2 := 1) (s2 := 6) (As := [.int u3]) hC (m_X8_demandState_x l hfl (x0 := u3)) q_X8_56 hdS_X8_demandState rfl rfl (Nat.le_of_ble_eq_true rfl) (Nat.le_of_ble_eq_true rfl) (Nat.le_of_ble_eq_true rfl) (Nat.le_of_ble_eq_true rfl) (Nat.le_of_ble_eq_true rfl) (Nat.le_of_ble_eq_true rfl) (Nat.le_of_ble_eq_true rfl) dX8_limit_37 (v_out hC hQ htb (Nat.le_of_ble_eq_true rfl) (Nat.le_of_ble_eq_true rfl)) (fun c4 => ?_)
    rw [if_neg c4] at hf
    refine v_sipush (v := 2000) hC dX8_limit_40 (by decide) ?_
    refine v_bipush (v := 6) hC dX8_limit_43 (by decide) ?_
    refine v_aload hC dX8_limit_45 2 rfl ?_
    refine gf_X8_184 hC ht2.1 dX8_limit_47 ?_
    refine v_isub hC dX8_limit_50 ?_
    refine v_imul hC dX8_limit_51 ?_
    refine v_istore (i := 6) (lv' := [(6, .int (2000 * (6 - (F (el G (gp G a0 1) x2) 2)))), (3, .int x3), (4, .ref (el G (gp G a0 3) x1)), (5, .ref (el G (gp G a0 1) x2))]) hC dX8_limit_52 (by decide) rfl ?_
    refine v_aload hC dX8_limit_54 2 rfl ?_
    refine v_aload hC dX8_limit_56 3 rfl ?_
    refine gf_X8_123 hC ht2.1 dX8_limit_58 ?_
    refine v_iload_n hC dX8_limit_61 rfl 1 rfl ?_
    refine v_iload hC dX8_limit_62 0 rfl ?_
    refine v_mmin hC aw_236 (Nat.le_of_ble_eq_true rfl) (Nat.le_of_ble_eq_true rfl) (Nat.le_of_ble_eq_true rfl) (Nat.le_of_ble_eq_true rfl) (Nat.le_of_ble_eq_true rfl) dX8_limit_64 ?_
    refine v_callV (c2 := 1) (s2 := 6) (As := [.int (F (el G (gp G a0 1) x2) 0), .int (if (2000 * (6 - (F (el G (gp G a0 1) x2) 2))) < x3 then (2000 * (6 - (F (el G (gp G a0 1) x2) 2))) else x3)]) hC (m_X6_grant l (n := n) (K := K) (F := F) (G := G) (a0 := (el G (gp G a0 3) x1)) (x1 := (F (el G (gp G a0 1) x2) 0)) (x2 := (if (2000 * (6 - (F (el G (gp G a0 1) x2) 2))) < x3 then (2000 * (6 - (F (el G (gp G a0 1) x2) 2))) else x3)) ht1) q_X8_191 (by rw [ht1.1]; decide) (ce_6 ht1.1) (ci := 5) rfl hdV_X6_grant rfl rfl (Nat.le_of_ble_eq_true rfl) (Nat.le_of_ble_eq_true rfl) (Nat.le_of_ble_eq_true rfl) (Nat.le_of_ble_eq_true rfl) (Nat.le_of_ble_eq_true rfl) (Nat.le_of_ble_eq_true rfl) (Nat.le_of_ble_eq_true rfl) dX8_limit_67 ?_
    have KC70 : ∀ (F5 : Ft), f_X8_limit_C70 K G a0 x1 x2 F5 = r → V X 7 p l e ({ frames := 7, cells := 1, slots := 6, locals := 102 } : Room) s m args below meth c Q 1 6 n K F5 G [(4, .ref (el G (gp G a0 3) x1)), (5, .ref (el G (gp G a0 1) x2))] 70 [] := by
      intro F5 hf
      rw [f_X8_limit_C70] at hf
      refine v_aload hC dX8_limit_70 0 rfl ?_
      refine v_aload hC dX8_limit_72 1 rfl ?_
      refine gf_X8_123 hC ht2.1 dX8_limit_74 ?_
      refine v_callV (c2 := 1) (s2 := 6) (As := [.int (F5 (el G (gp G a0 1) x2) 0)]) hC (m_X6_grantedFor l (n := n) (K := K) (F := F5) (G := G) (a0 := (el G (gp G a0 3) x1)) (x1 := (F5 (el G (gp G a0 1) x2) 0)) ht1) q_X8_195 (by rw [ht1.1]; decide) (ce_6 ht1.1) (ci := 5) rfl hdV_X6_grantedFor rfl rfl (Nat.le_of_ble_eq_true rfl) (Nat.le_of_ble_eq_true rfl) (Nat.le_of_ble_eq_true rfl) (Nat.le_of_ble_eq_true rfl) (Nat.le_of_ble_eq_true rfl) (Nat.le_of_ble_eq_true rfl) (Nat.le_of_ble_eq_true rfl) dX8_limit_77 ?_
      refine v_toMQ hQ trivial ?_
      exact v_iret hC rfl rfl dX8_limit_80 (congrArg (fun z => some (Value.int z.2)) hf) rfl rfl (congrArg Prod.fst hf) rfl
    refine v_sub [2, 3] rfl ?_
    exact KC70 (f_X6_grant K F G (el G (gp G a0 3) x1) (F (el G (gp G a0 1) x2) 0) (if (2000 * (6 - (F (el G (gp G a0 1) x2) 2))) < x3 then (2000 * (6 - (F (el G (gp G a0 1) x2) 2))) else x3)) hf
  refine v_if_ne (tgt := 36) hC dX8_limit_29 (by decide) (fun c6 => ?_) (fun c6 => ?_)
  · rw [if_neg c6] at hf
    refine v_iconst (v := 0) hC dX8_limit_36 (by decide) ?_
    refine v_sub [5, 1, 0] rfl ?_
    exact KJ37 0 (Or.inl rfl) hf
  · rw [if_pos c6] at hf
    refine v_iconst (v := 1) hC dX8_limit_32 (by decide) ?_
    refine v_goto (tgt := 37) hC dX8_limit_33 (by decide) ?_
    refine v_sub [5, 1, 0] rfl ?_
    exact KJ37 1 (Or.inr rfl) hf
def f_X8_pay_E116 (K : Kt) (G : Gt) (F_42 : Ft) (w5_42 : Int32) : Ft × Int32 := (F_42, w5_42)
def f_X8_pay_C103 (K : Kt) (G : Gt) (j42 : Nat) (w5_42 : Int32) (rec42 : (Nat → Ft → Int32 → Ft × Int32)) (y9 : Int32) (F10 : Ft) : Ft × Int32 := rec42 (j42 + 1) F10 (w5_42 + y9)
def f_X8_pay_N89 (K : Kt) (G : Gt) (a0 : Nat) (x1 : Nat) (j42 : Nat) (F_42 : Ft) (w5_42 : Int32) (rec42 : (Nat → Ft → Int32 → Ft × Int32)) (y9 : Int32) : Ft × Int32 := f_X8_pay_C103 K G j42 w5_42 rec42 y9 (f_X8_settle K F_42 G a0 ((f_X8_firstToPay K F_42 G a0 (el G (gp G a0 1) x1)).getD 0) (gp G (el G (gp G a0 1) x1) 3) y9)
def f_X8_pay_L42 (K : Kt) (G : Gt) (a0 : Nat) (x1 : Nat) (y3 : Int32) : Nat → Nat → Ft → Int32 → Ft × Int32
  | 0, j42, F_42, w5_42 => f_X8_pay_E116 K G F_42 w5_42
  | k4 + 1, j42, F_42, w5_42 => if y3 ≤ w5_42 then f_X8_pay_E116 K G F_42 w5_42 else if f_X8_firstToPay K F_42 G a0 (el G (gp G a0 1) x1) = none then (F_42, w5_42) else f_X8_pay_N89 K G a0 x1 j42 F_42 w5_42 (f_X8_pay_L42 K G a0 x1 y3 k4) (if (F_42 ((f_X8_firstToPay K F_42 G a0 (el G (gp G a0 1) x1)).getD 0) 10) < (y3 - w5_42) then (F_42 ((f_X8_firstToPay K F_42 G a0 (el G (gp G a0 1) x1)).getD 0) 10) else (y3 - w5_42))
def f_X8_pay_N34 (K : Kt) (F : Ft) (G : Gt) (a0 : Nat) (x1 : Nat) (y3 : Int32) : Ft × Int32 := f_X8_pay_L42 K G a0 x1 y3 ((K (gp G a0 4)).2) 0 F 0
def f_X8_pay (K : Kt) (F : Ft) (G : Gt) (a0 : Nat) (x1 : Nat) (x2 : Int32) : Ft × Int32 := if (f_X0_canPay K F G (el G (gp G a0 1) x1)) = 0 then (F, 0) else f_X8_pay_N34 K F G a0 x1 (if (F (gp G (el G (gp G a0 1) x1) 3) 0) < x2 then (F (gp G (el G (gp G a0 1) x1) 3) 0) else x2)
theorem hdS_X8_pay : yX8_pay.cls ≠ "java/lang/invoke/MethodHandle" ∧ yX8_pay.cls ≠ "java/lang/invoke/VarHandle" ∧ (parseMethodDescriptor yX8_pay.desc).map (fun d => d.parameters.length) = some 2 := by decide +kernel
theorem hdV_X8_pay : yX8_pay.cls = RX8 ∧ yX8_pay.cls ≠ "java/lang/invoke/MethodHandle" ∧ yX8_pay.cls ≠ "java/lang/invoke/VarHandle" ∧ (parseMethodDescriptor yX8_pay.desc).map (fun d => d.parameters.length) = some 2 := by decide +kernel
set_option maxHeartbeats 4000000 in
set_option maxRecDepth 100000 in
theorem m_X8_pay (l : Launch) (hfl : l.stackTraces = false) {n : Nat} {K : Kt} {F : Ft} {G : Gt} {a0 : Nat} {x1 : Nat} {x2 : Int32} (t0 : TMain K G a0) (hi : x1 < (K (gp G a0 1)).2) (h : ¬ f_X8_isWithin K F G x2 1 99999 = 0) : Mx X True l yX8_pay cX8_pay 9 (some .int) 7 102 1 6 [.ref a0, .int (nI x1), .int x2] n K F G (some (.int (f_X8_pay K F G a0 x1 x2).2)) n K (f_X8_pay K F G a0 x1 x2).1 G := by
  generalize hf : f_X8_pay K F G a0 x1 x2 = r
  refine Mx.of (lv := [(0, .ref a0), (1, .int (nI x1)), (2, .int x2)]) (by decide) (Nat.le_of_ble_eq_true rfl) rfl ?_
  intro p e s m args below meth c Q hC hin htb hQ
  have hC : Cx X p s m args meth c RX8 cX8_pay 9 (some .int) := hC
  rw [f_X8_pay] at hf
  refine v_aload_n hC dX8_pay_0 rfl 0 rfl ?_
  refine v_iload_n hC dX8_pay_1 rfl 1 rfl ?_
  refine v_callV (c2 := 0) (s2 := 0) (As := [.int (nI x1)]) hC (m_X8_buyerAt l (n := n) (K := K) (F := F) (G := G) (a0 := a0) (x1 := x1) t0 hi) q_X8_124 (by rw [t0.1]; decide) (ce_1 t0.1) (ci := 0) rfl hdV_X8_buyerAt rfl rfl (Nat.le_of_ble_eq_true rfl) (Nat.le_of_ble_eq_true rfl) (Nat.le_of_ble_eq_true rfl) (Nat.le_of_ble_eq_true rfl) (Nat.le_of_ble_eq_true rfl) (Nat.le_of_ble_eq_true rfl) (Nat.le_of_ble_eq_true rfl) dX8_pay_2 ?_
  have ht1 : TBuyer K G (el G (gp G a0 1) x1) := t0.2.2.1.2.el (i := x1) (by omega)
  refine v_astore_n (i := 3) (lv' := [(3, .ref (el G (gp G a0 1) x1)), (0, .ref a0), (1, .int (nI x1)), (2, .int x2)]) hC dX8_pay_5 rfl (by decide) rfl ?_
  refine v_iload_n hC dX8_pay_6 rfl 3 rfl ?_
  refine v_iconst (v := 1) hC dX8_pay_7 (by decide) ?_
  refine v_ldc (v := 99999) hC aw_1138 dX8_pay_8 ?_
  refine v_callS (c2 := 0) (s2 := 0) (As := [.int x2, .int 1, .int 99999]) hC (m_X8_isWithin l (n := n) (K := K) (F := F) (G := G) (x0 := x2) (x1 := 1) (x2 := 99999) ) q_X8_44 hdS_X8_isWithin rfl rfl (Nat.le_of_ble_eq_true rfl) (Nat.le_of_ble_eq_true rfl) (Nat.le_of_ble_eq_true rfl) (Nat.le_of_ble_eq_true rfl) (Nat.le_of_ble_eq_true rfl) (Nat.le_of_ble_eq_true rfl) (Nat.le_of_ble_eq_true rfl) dX8_pay_10 ?_
  refine v_callS (c2 := 0) (s2 := 0) (As := [.int (f_X8_isWithin K F G x2 1 99999)]) hC (m_X8_demandArgument l (n := n) (K := K) (F := F) (G := G) (x0 := (f_X8_isWithin K F G x2 1 99999)) h) q_X8_48 hdS_X8_demandArgument rfl rfl (Nat.le_of_ble_eq_true rfl) (Nat.le_of_ble_eq_true rfl) (Nat.le_of_ble_eq_true rfl) (Nat.le_of_ble_eq_true rfl) (Nat.le_of_ble_eq_true rfl) (Nat.le_of_ble_eq_true rfl) (Nat.le_of_ble_eq_true rfl) dX8_pay_13 ?_
  refine v_aload_n hC dX8_pay_16 rfl 0 rfl ?_
  refine v_callV (c2 := 0) (s2 := 0) (As := []) hC (m_X0_canPay l (n := n) (K := K) (F := F) (G := G) (a0 := (el G (gp G a0 1) x1)) ht1) q_X8_235 (by rw [ht1.1]; decide) (ce_4 ht1.1) (ci := 3) rfl hdV_X0_canPay rfl rfl (Nat.le_of_ble_eq_true rfl) (Nat.le_of_ble_eq_true rfl) (Nat.le_of_ble_eq_true rfl) (Nat.le_of_ble_eq_true rfl) (Nat.le_of_ble_eq_true rfl) (Nat.le_of_ble_eq_true rfl) (Nat.le_of_ble_eq_true rfl) dX8_pay_17 ?_
  refine v_xcallS (c2 := 1) (s2 := 6) (As := [.int (f_X0_canPay K F G (el G (gp G a0 1) x1))]) hC (m_X8_demandState_x l hfl (x0 := (f_X0_canPay K F G (el G (gp G a0 1) x1)))) q_X8_56 hdS_X8_demandState rfl rfl (Nat.le_of_ble_eq_true rfl) (Nat.le_of_ble_eq_true rfl) (Nat.le_of_ble_eq_true rfl) (Nat.le_of_ble_eq_true rfl) (Nat.le_of_ble_eq_true rfl) (Nat.le_of_ble_eq_true rfl) (Nat.le_of_ble_eq_true rfl) dX8_pay_20 (v_out hC hQ htb (Nat.le_of_ble_eq_true rfl) (Nat.le_of_ble_eq_true rfl)) (fun c2 => ?_)
  rw [if_neg c2] at hf
  refine v_iload_n hC dX8_pay_23 rfl 3 rfl ?_
  refine v_aload_n hC dX8_pay_24 rfl 0 rfl ?_
  refine gf_X8_79 hC ht1.1 ht1.2.2.1 dX8_pay_25 ?_
  refine gf_X8_129 hC ht1.2.2.2 dX8_pay_28 ?_
  refine v_mmin hC aw_236 (Nat.le_of_ble_eq_true rfl) (Nat.le_of_ble_eq_true rfl) (Nat.le_of_ble_eq_true rfl) (Nat.le_of_ble_eq_true rfl) (Nat.le_of_ble_eq_true rfl) dX8_pay_31 ?_
  have KN34 : ∀ (y3 : Int32), f_X8_pay_N34 K F G a0 x1 y3 = r → V X 9 p l e ({ frames := 7, cells := 1, slots := 6, locals := 102 } : Room) s m args below meth c Q 1 6 n K F G [(0, .ref a0), (3, .ref (el G (gp G a0 1) x1))] 34 [.int y3] := by
    intro y3 hf
    rw [f_X8_pay_N34] at hf
    refine v_istore (i := 4) (lv' := [(4, .int y3), (0, .ref a0), (3, .ref (el G (gp G a0 1) x1))]) hC dX8_pay_34 (by decide) rfl ?_
    refine v_iconst (v := 0) hC dX8_pay_36 (by decide) ?_
    refine v_istore (i := 5) (lv' := [(5, .int 0), (4, .int y3), (0, .ref a0), (3, .ref (el G (gp G a0 1) x1))]) hC dX8_pay_37 (by decide) rfl ?_
    refine v_iconst (v := 0) hC dX8_pay_39 (by decide) ?_
    refine v_istore (i := 6) (lv' := [(6, .int 0), (5, .int 0), (4, .int y3), (0, .ref a0), (3, .ref (el G (gp G a0 1) x1))]) hC dX8_pay_40 (by decide) rfl ?_
    refine v_sub [3, 4, 2, 1, 0] rfl ?_
    have KE116 : ∀ (F_42 : Ft) (w5_42 : Int32), f_X8_pay_E116 K G F_42 w5_42 = r → V X 9 p l e ({ frames := 7, cells := 1, slots := 6, locals := 102 } : Room) s m args below meth c Q 1 6 n K F_42 G [(5, .int w5_42)] 116 [] := by
      intro F_42 w5_42 hf
      rw [f_X8_pay_E116] at hf
      refine v_iload hC dX8_pay_116 0 rfl ?_
      refine v_toMQ hQ trivial ?_
      exact v_iret hC rfl rfl dX8_pay_118 (congrArg (fun z => some (Value.int z.2)) hf) rfl rfl (congrArg Prod.fst hf) rfl
    have KL42 : ∀ (k4 j42 : Nat) (F_42 : Ft) (w5_42 : Int32), j42 + k4 = (K (gp G a0 4)).2 → f_X8_pay_L42 K G a0 x1 y3 k4 j42 F_42 w5_42 = r → V X 9 p l e ({ frames := 7, cells := 1, slots := 6, locals := 102 } : Room) s m args below meth c Q 1 6 n K F_42 G [(0, .ref a0), (3, .ref (el G (gp G a0 1) x1)), (4, .int y3), (5, .int w5_42), (6, .int (nI j42))] 42 [] := by
      intro k4
      induction k4 with
      | zero =>
        intro j42 F_42 w5_42 hj42 hf
        rw [f_X8_pay_L42] at hf
        refine v_iload hC dX8_pay_42 4 rfl ?_
        refine v_aload_n hC dX8_pay_44 rfl 0 rfl ?_
        refine gf_X8_25 hC t0.1 t0.2.2.2.2.2.1.1 dX8_pay_45 ?_
        refine v_callV (c2 := 1) (s2 := 6) (As := []) hC (m_Jx4a65c_size_8abf5 l t0.2.2.2.2.2.1.2.1) q_X8_89 (by rw [t0.2.2.2.2.2.1.2.1]; decide) (ce_10 t0.2.2.2.2.2.1.2.1) (ci := 9) rfl hdV_Jx4a65c_size_8abf5 rfl rfl (Nat.le_of_ble_eq_true rfl) (Nat.le_of_ble_eq_true rfl) (Nat.le_of_ble_eq_true rfl) (Nat.le_of_ble_eq_true rfl) (Nat.le_of_ble_eq_true rfl) (Nat.le_of_ble_eq_true rfl) (Nat.le_of_ble_eq_true rfl) dX8_pay_48 ?_
        refine v_icmp_ge (tgt := 116) hC dX8_pay_51 (by decide) (fun c5 => ?_) (fun c5 => absurd (lp_z hj42) c5)
        refine v_sub [3] rfl ?_
        exact KE116 F_42 w5_42 hf
      | succ k4 ihj42 =>
        intro j42 F_42 w5_42 hj42 hf
        rw [f_X8_pay_L42] at hf
        refine v_iload hC dX8_pay_42 4 rfl ?_
        refine v_aload_n hC dX8_pay_44 rfl 0 rfl ?_
        refine gf_X8_25 hC t0.1 t0.2.2.2.2.2.1.1 dX8_pay_45 ?_
        refine v_callV (c2 := 1) (s2 := 6) (As := []) hC (m_Jx4a65c_size_8abf5 l t0.2.2.2.2.2.1.2.1) q_X8_89 (by rw [t0.2.2.2.2.2.1.2.1]; decide) (ce_10 t0.2.2.2.2.2.1.2.1) (ci := 9) rfl hdV_Jx4a65c_size_8abf5 rfl rfl (Nat.le_of_ble_eq_true rfl) (Nat.le_of_ble_eq_true rfl) (Nat.le_of_ble_eq_true rfl) (Nat.le_of_ble_eq_true rfl) (Nat.le_of_ble_eq_true rfl) (Nat.le_of_ble_eq_true rfl) (Nat.le_of_ble_eq_true rfl) dX8_pay_48 ?_
        refine v_icmp_ge (tgt := 116) hC dX8_pay_51 (by decide) (fun c6 => absurd c6 (lp_s hj42 t0.2.2.2.2.2.1.2.lt)) (fun c6 => ?_)
        refine v_iload hC dX8_pay_54 3 rfl ?_
        refine v_iload hC dX8_pay_56 2 rfl ?_
        refine v_icmp_ge (tgt := 116) hC dX8_pay_58 (by decide) (fun c7 => ?_) (fun c7 => ?_)
        · rw [if_pos c7] at hf
          refine v_sub [3] rfl ?_
          exact KE116 F_42 w5_42 hf
        · rw [if_neg c7] at hf
          refine v_aload_n hC dX8_pay_61 rfl 0 rfl ?_
          refine v_aload_n hC dX8_pay_62 rfl 1 rfl ?_
          refine v_callV (c2 := 1) (s2 := 6) (As := [.ref (el G (gp G a0 1) x1)]) hC (m_X8_firstToPay l (n := n) (K := K) (F := F_42) (G := G) (a0 := a0) (a1 := (el G (gp G a0 1) x1)) t0 ht1) q_X8_238 (by rw [t0.1]; decide) (ce_1 t0.1) (ci := 0) rfl hdV_X8_firstToPay rfl rfl (Nat.le_of_ble_eq_true rfl) (Nat.le_of_ble_eq_true rfl) (Nat.le_of_ble_eq_true rfl) (Nat.le_of_ble_eq_true rfl) (Nat.le_of_ble_eq_true rfl) (Nat.le_of_ble_eq_true rfl) (Nat.le_of_ble_eq_true rfl) dX8_pay_63 ?_
          refine v_astoreq (i := 7) (lv' := [(7, va_rf (f_X8_firstToPay K F_42 G a0 (el G (gp G a0 1) x1))), (0, .ref a0), (3, .ref (el G (gp G a0 1) x1)), (4, .int y3), (5, .int w5_42), (6, .int (nI j42))]) hC dX8_pay_66 (by decide) rfl ?_
          refine v_aloadq hC dX8_pay_68 0 rfl ?_
          refine v_ifnonnull (tgt := 76) hC dX8_pay_70 (by decide) (fun c8 => ?_) (fun c8 => ?_)
          · rw [if_neg c8] at hf
            refine v_iload hC dX8_pay_76 3 rfl ?_
            refine v_iload hC dX8_pay_78 4 rfl ?_
            refine v_isub hC dX8_pay_80 ?_
            refine v_aloadq hC dX8_pay_81 0 rfl ?_
            refine v_deref (oget (d := 0) c8) ?_
            refine gf_X8_242 hC (((tr_X8_firstToPay t0 ht1) c8).1) dX8_pay_83 ?_
            refine v_mmin hC aw_236 (Nat.le_of_ble_eq_true rfl) (Nat.le_of_ble_eq_true rfl) (Nat.le_of_ble_eq_true rfl) (Nat.le_of_ble_eq_true rfl) (Nat.le_of_ble_eq_true rfl) dX8_pay_86 ?_
            have KN89 : ∀ (y9 : Int32), f_X8_pay_N89 K G a0 x1 j42 F_42 w5_42 (f_X8_pay_L42 K G a0 x1 y3 k4) y9 = r → V X 9 p l e ({ frames := 7, cells := 1, slots := 6, locals := 102 } : Room) s m args below meth c Q 1 6 n K F_42 G [(0, .ref a0), (3, .ref (el G (gp G a0 1) x1)), (4, .int y3), (5, .int w5_42), (6, .int (nI j42)), (7, va_rf (f_X8_firstToPay K F_42 G a0 (el G (gp G a0 1) x1)))] 89 [.int y9] := by
              intro y9 hf
              rw [f_X8_pay_N89] at hf
              refine v_istore (i := 8) (lv' := [(8, .int y9), (0, .ref a0), (3, .ref (el G (gp G a0 1) x1)), (4, .int y3), (5, .int w5_42), (6, .int (nI j42)), (7, va_rf (f_X8_firstToPay K F_42 G a0 (el G (gp G a0 1) x1)))]) hC dX8_pay_89 (by decide) (by simp [List.filter, vr_cat]) ?_
              refine v_aload_n hC dX8_pay_91 rfl 1 rfl ?_
              refine v_aloadq hC dX8_pay_92 6 rfl ?_
              refine v_deref (oget (d := 0) c8) ?_
              refine v_aload_n hC dX8_pay_94 rfl 2 rfl ?_
              refine gf_X8_79 hC ht1.1 ht1.2.2.1 dX8_pay_95 ?_
              refine v_iload hC dX8_pay_98 0 rfl ?_
              refine v_callV (c2 := 1) (s2 := 6) (As := [.ref ((f_X8_firstToPay K F_42 G a0 (el G (gp G a0 1) x1)).getD 0), .ref (gp G (el G (gp G a0 1) x1) 3), .int y9]) hC (m_X8_settle l (n := n) (K := K) (F := F_42) (G := G) (a0 := a0) (a1 := ((f_X8_firstToPay K F_42 G a0 (el G (gp G a0 1) x1)).getD 0)) (a2 := (gp G (el G (gp G a0 1) x1) 3)) (x3 := y9) t0 ((tr_X8_firstToPay t0 ht1) c8) ht1.2.2.2) q_X8_245 (by rw [t0.1]; decide) (ce_1 t0.1) (ci := 0) rfl hdV_X8_settle rfl rfl (Nat.le_of_ble_eq_true rfl) (Nat.le_of_ble_eq_true rfl) (Nat.le_of_ble_eq_true rfl) (Nat.le_of_ble_eq_true rfl) (Nat.le_of_ble_eq_true rfl) (Nat.le_of_ble_eq_true rfl) (Nat.le_of_ble_eq_true rfl) dX8_pay_100 ?_
              have KC103 : ∀ (F10 : Ft), f_X8_pay_C103 K G j42 w5_42 (f_X8_pay_L42 K G a0 x1 y3 k4) y9 F10 = r → V X 9 p l e ({ frames := 7, cells := 1, slots := 6, locals := 102 } : Room) s m args below meth c Q 1 6 n K F10 G [(0, .ref a0), (3, .ref (el G (gp G a0 1) x1)), (4, .int y3), (5, .int w5_42), (6, .int (nI j42)), (8, .int y9)] 103 [] := by
                intro F10 hf
                rw [f_X8_pay_C103] at hf
                refine v_iload hC dX8_pay_103 3 rfl ?_
                refine v_iload hC dX8_pay_105 5 rfl ?_
                refine v_iadd hC dX8_pay_107 ?_
                refine v_istore (i := 5) (lv' := [(5, .int (w5_42 + y9)), (0, .ref a0), (3, .ref (el G (gp G a0 1) x1)), (4, .int y3), (6, .int (nI j42)), (8, .int y9)]) hC dX8_pay_108 (by decide) rfl ?_
                refine v_iinc (lv' := [(6, .int (nI (j42 + 1))), (5, .int (w5_42 + y9)), (0, .ref a0), (3, .ref (el G (gp G a0 1) x1)), (4, .int y3), (8, .int y9)]) (v := nI (j42 + 1)) hC dX8_pay_110 4 rfl (nI_inc j42) (by decide) rfl ?_
                refine v_goto (tgt := 42) hC dX8_pay_113 (by decide) ?_
                refine v_sub [2, 3, 4, 1, 0] rfl ?_
                exact ihj42 (j42 + 1) F10 (w5_42 + y9) (by omega) hf
              refine v_sub [1, 2, 3, 4, 5, 0] rfl ?_
              exact KC103 (f_X8_settle K F_42 G a0 ((f_X8_firstToPay K F_42 G a0 (el G (gp G a0 1) x1)).getD 0) (gp G (el G (gp G a0 1) x1) 3) y9) hf
            refine v_sub [1, 2, 3, 4, 5, 0] rfl ?_
            exact KN89 (if (F_42 ((f_X8_firstToPay K F_42 G a0 (el G (gp G a0 1) x1)).getD 0) 10) < (y3 - w5_42) then (F_42 ((f_X8_firstToPay K F_42 G a0 (el G (gp G a0 1) x1)).getD 0) 10) else (y3 - w5_42)) hf
          · rw [if_pos c8] at hf
            refine v_iload hC dX8_pay_73 4 rfl ?_
            refine v_toMQ hQ trivial ?_
            exact v_iret hC rfl rfl dX8_pay_75 (congrArg (fun z => some (Value.int z.2)) hf) rfl rfl (congrArg Prod.fst hf) rfl
    exact KL42 ((K (gp G a0 4)).2) 0 F 0 (by omega) hf
  refine v_sub [1, 0] rfl ?_
  exact KN34 (if (F (gp G (el G (gp G a0 1) x1) 3) 0) < x2 then (F (gp G (el G (gp G a0 1) x1) 3) 0) else x2) hf
def f_X8_report_J36 (K : Kt) (F : Ft) (G : Gt) (a0 : Nat) (x1 : Nat) (u3 : Int32) : Ft × Int32 := if u3 = 0 then (F, 0) else (up2 F (el G (gp G a0 4) x1) 11 1, f_X7_causeOn K (up2 F (el G (gp G a0 4) x1) 11 1) G (el G (gp G a0 4) x1) ((up2 F (el G (gp G a0 4) x1) 11 1) a0 9))
def f_X8_report_J35 (K : Kt) (F : Ft) (G : Gt) (a0 : Nat) (x1 : Nat) : Ft × Int32 := f_X8_report_J36 K F G a0 x1 0
def f_X8_report (K : Kt) (F : Ft) (G : Gt) (a0 : Nat) (x1 : Nat) : Ft × Int32 := if (K (gp G a0 4)).2 ≤ x1 then (F, 0) else if (F a0 9) < (F (el G (gp G a0 4) x1) 4) then f_X8_report_J35 K F G a0 x1 else if (F (el G (gp G a0 4) x1) 10) ≤ 0 then f_X8_report_J35 K F G a0 x1 else if (F (el G (gp G a0 4) x1) 11) = 0 then f_X8_report_J36 K F G a0 x1 1 else f_X8_report_J35 K F G a0 x1
theorem hdS_X8_report : yX8_report.cls ≠ "java/lang/invoke/MethodHandle" ∧ yX8_report.cls ≠ "java/lang/invoke/VarHandle" ∧ (parseMethodDescriptor yX8_report.desc).map (fun d => d.parameters.length) = some 1 := by decide +kernel
theorem hdV_X8_report : yX8_report.cls = RX8 ∧ yX8_report.cls ≠ "java/lang/invoke/MethodHandle" ∧ yX8_report.cls ≠ "java/lang/invoke/VarHandle" ∧ (parseMethodDescriptor yX8_report.desc).map (fun d => d.parameters.length) = some 1 := by decide +kernel
set_option maxHeartbeats 4000000 in
set_option maxRecDepth 100000 in
theorem m_X8_report (l : Launch) (hfl : l.stackTraces = false) {n : Nat} {K : Kt} {F : Ft} {G : Gt} {a0 : Nat} {x1 : Nat} (t0 : TMain K G a0) (hx : x1 < 2147483648) : Mx X True l yX8_report cX8_report 3 (some .int) 7 103 2 12 [.ref a0, .int (nI x1)] n K F G (some (.int (f_X8_report K F G a0 x1).2)) n K (f_X8_report K F G a0 x1).1 G := by
  generalize hf : f_X8_report K F G a0 x1 = r
  refine Mx.of (lv := [(0, .ref a0), (1, .int (nI x1))]) (by decide) (Nat.le_of_ble_eq_true rfl) rfl ?_
  intro p e s m args below meth c Q hC hin htb hQ
  have hC : Cx X p s m args meth c RX8 cX8_report 3 (some .int) := hC
  rw [f_X8_report] at hf
  refine v_aload_n hC dX8_report_0 rfl 0 rfl ?_
  refine v_iload_n hC dX8_report_1 rfl 1 rfl ?_
  refine v_xcallV (c2 := 1) (s2 := 6) (As := [.int (nI x1)]) hC (m_X8_shipmentAt_x l hfl t0 (x1 := x1) (by omega)) q_X8_249 (by rw [t0.1]; decide) (ce_1 t0.1) (ci := 0) rfl hdV_X8_shipmentAt rfl rfl (Nat.le_of_ble_eq_true rfl) (Nat.le_of_ble_eq_true rfl) (Nat.le_of_ble_eq_true rfl) (Nat.le_of_ble_eq_true rfl) (Nat.le_of_ble_eq_true rfl) (Nat.le_of_ble_eq_true rfl) (Nat.le_of_ble_eq_true rfl) dX8_report_2 (v_out hC hQ htb (Nat.le_of_ble_eq_true rfl) (Nat.le_of_ble_eq_true rfl)) (fun c2 => ?_)
  rw [if_neg (Nat.not_le.mpr c2)] at hf
  have ht1 : TShip K G (el G (gp G a0 4) x1) := t0.2.2.2.2.2.1.2.el (i := x1) c2
  refine v_astore_n (i := 2) (lv' := [(2, .ref (el G (gp G a0 4) x1)), (0, .ref a0), (1, .int (nI x1))]) hC dX8_report_5 rfl (by decide) rfl ?_
  refine v_aload_n hC dX8_report_6 rfl 1 rfl ?_
  refine gf_X8_151 hC t0.1 dX8_report_7 ?_
  refine v_aload_n hC dX8_report_10 rfl 0 rfl ?_
  refine gf_X8_253 hC ht1.1 dX8_report_11 ?_
  have KJ36 : ∀ (u3 : Int32) (tu3 : u3 = 0 ∨ u3 = 1), f_X8_report_J36 K F G a0 x1 u3 = r → V X 3 p l e ({ frames := 7, cells := 2, slots := 12, locals := 103 } : Room) s m args below meth c Q 1 6 n K F G [(0, .ref a0), (2, .ref (el G (gp G a0 4) x1))] 36 [.int u3] := by
    intro u3 tu3 hf
    rw [f_X8_report_J36] at hf
    refine v_xcallS (c2 := 2) (s2 := 12) (As := [.int u3]) hC (m_X8_demandState_x l hfl (x0 := u3)) q_X8_56 hdS_X8_demandState rfl rfl (Nat.le_of_ble_eq_true rfl) (Nat.le_of_ble_eq_true rfl) (Nat.le_of_ble_eq_true rfl) (Nat.le_of_ble_eq_true rfl) (Nat.le_of_ble_eq_true rfl) (Nat.le_of_ble_eq_true rfl) (Nat.le_of_ble_eq_true rfl) dX8_report_36 (v_out hC hQ htb (Nat.le_of_ble_eq_true rfl) (Nat.le_of_ble_eq_true rfl)) (fun c4 => ?_)
    rw [if_neg c4] at hf
    refine v_aload_n hC dX8_report_39 rfl 1 rfl ?_
    refine v_iconst (v := 1) hC dX8_report_40 (by decide) ?_
    refine pf_X8_256 hC (by decide) (by decide) ht1.1 dX8_report_41 ?_
    refine v_aload_n hC dX8_report_44 rfl 1 rfl ?_
    refine v_aload_n hC dX8_report_45 rfl 0 rfl ?_
    refine gf_X8_151 hC t0.1 dX8_report_46 ?_
    refine v_callV (c2 := 2) (s2 := 12) (As := [.int ((up2 F (el G (gp G a0 4) x1) 11 1) a0 9)]) hC (m_X7_causeOn l (n := n) (K := K) (F := (up2 F (el G (gp G a0 4) x1) 11 1)) (G := G) (a0 := (el G (gp G a0 4) x1)) (x1 := ((up2 F (el G (gp G a0 4) x1) 11 1) a0 9)) ht1) q_X8_259 (by rw [ht1.1]; decide) (ce_7 ht1.1) (ci := 6) rfl hdV_X7_causeOn rfl rfl (Nat.le_of_ble_eq_true rfl) (Nat.le_of_ble_eq_true rfl) (Nat.le_of_ble_eq_true rfl) (Nat.le_of_ble_eq_true rfl) (Nat.le_of_ble_eq_true rfl) (Nat.le_of_ble_eq_true rfl) (Nat.le_of_ble_eq_true rfl) dX8_report_49 ?_
    refine v_toMQ hQ trivial ?_
    exact v_iret hC rfl rfl dX8_report_52 (congrArg (fun z => some (Value.int z.2)) hf) rfl rfl (congrArg Prod.fst hf) rfl
  have KJ35 : f_X8_report_J35 K F G a0 x1 = r → V X 3 p l e ({ frames := 7, cells := 2, slots := 12, locals := 103 } : Room) s m args below meth c Q 1 6 n K F G [(0, .ref a0), (2, .ref (el G (gp G a0 4) x1))] 35 [] := by
    intro hf
    rw [f_X8_report_J35] at hf
    refine v_iconst (v := 0) hC dX8_report_35 (by decide) ?_
    exact KJ36 0 (Or.inl rfl) hf
  refine v_icmp_lt (tgt := 35) hC dX8_report_14 (by decide) (fun c5 => ?_) (fun c5 => ?_)
  · rw [if_pos c5] at hf
    refine v_sub [1, 0] rfl ?_
    exact KJ35 hf
  · rw [if_neg c5] at hf
    refine v_aload_n hC dX8_report_17 rfl 0 rfl ?_
    refine gf_X8_242 hC ht1.1 dX8_report_18 ?_
    refine v_if_le (tgt := 35) hC dX8_report_21 (by decide) (fun c6 => ?_) (fun c6 => ?_)
    · rw [if_pos c6] at hf
      refine v_sub [1, 0] rfl ?_
      exact KJ35 hf
    · rw [if_neg c6] at hf
      refine v_aload_n hC dX8_report_24 rfl 0 rfl ?_
      refine gf_X8_256 hC ht1.1 dX8_report_25 ?_
      refine v_if_ne (tgt := 35) hC dX8_report_28 (by decide) (fun c7 => ?_) (fun c7 => ?_)
      · rw [if_neg c7] at hf
        refine v_sub [1, 0] rfl ?_
        exact KJ35 hf
      · rw [if_pos c7] at hf
        refine v_iconst (v := 1) hC dX8_report_31 (by decide) ?_
        refine v_goto (tgt := 36) hC dX8_report_32 (by decide) ?_
        refine v_sub [1, 0] rfl ?_
        exact KJ36 1 (Or.inr rfl) hf
def f_X8_dispute_J25 (K : Kt) (F : Ft) (G : Gt) (a0 : Nat) (x1 : Nat) (u3 : Int32) : Ft × Int32 := if u3 = 0 then (F, 0) else (up2 F (el G (gp G a0 4) x1) 12 1, (up2 F (el G (gp G a0 4) x1) 12 1) (el G (gp G a0 4) x1) 7)
def f_X8_dispute_J24 (K : Kt) (F : Ft) (G : Gt) (a0 : Nat) (x1 : Nat) : Ft × Int32 := f_X8_dispute_J25 K F G a0 x1 0
def f_X8_dispute (K : Kt) (F : Ft) (G : Gt) (a0 : Nat) (x1 : Nat) : Ft × Int32 := if (K (gp G a0 4)).2 ≤ x1 then (F, 0) else if (f_X7_isOpen K F G (el G (gp G a0 4) x1)) = 0 then f_X8_dispute_J24 K F G a0 x1 else if (F (el G (gp G a0 4) x1) 12) = 0 then f_X8_dispute_J25 K F G a0 x1 1 else f_X8_dispute_J24 K F G a0 x1
theorem hdS_X8_dispute : yX8_dispute.cls ≠ "java/lang/invoke/MethodHandle" ∧ yX8_dispute.cls ≠ "java/lang/invoke/VarHandle" ∧ (parseMethodDescriptor yX8_dispute.desc).map (fun d => d.parameters.length) = some 1 := by decide +kernel
theorem hdV_X8_dispute : yX8_dispute.cls = RX8 ∧ yX8_dispute.cls ≠ "java/lang/invoke/MethodHandle" ∧ yX8_dispute.cls ≠ "java/lang/invoke/VarHandle" ∧ (parseMethodDescriptor yX8_dispute.desc).map (fun d => d.parameters.length) = some 1 := by decide +kernel
set_option maxHeartbeats 4000000 in
set_option maxRecDepth 100000 in
theorem m_X8_dispute (l : Launch) (hfl : l.stackTraces = false) {n : Nat} {K : Kt} {F : Ft} {G : Gt} {a0 : Nat} {x1 : Nat} (t0 : TMain K G a0) (hx : x1 < 2147483648) : Mx X True l yX8_dispute cX8_dispute 3 (some .int) 7 103 2 12 [.ref a0, .int (nI x1)] n K F G (some (.int (f_X8_dispute K F G a0 x1).2)) n K (f_X8_dispute K F G a0 x1).1 G := by
  generalize hf : f_X8_dispute K F G a0 x1 = r
  refine Mx.of (lv := [(0, .ref a0), (1, .int (nI x1))]) (by decide) (Nat.le_of_ble_eq_true rfl) rfl ?_
  intro p e s m args below meth c Q hC hin htb hQ
  have hC : Cx X p s m args meth c RX8 cX8_dispute 3 (some .int) := hC
  rw [f_X8_dispute] at hf
  refine v_aload_n hC dX8_dispute_0 rfl 0 rfl ?_
  refine v_iload_n hC dX8_dispute_1 rfl 1 rfl ?_
  refine v_xcallV (c2 := 1) (s2 := 6) (As := [.int (nI x1)]) hC (m_X8_shipmentAt_x l hfl t0 (x1 := x1) (by omega)) q_X8_249 (by rw [t0.1]; decide) (ce_1 t0.1) (ci := 0) rfl hdV_X8_shipmentAt rfl rfl (Nat.le_of_ble_eq_true rfl) (Nat.le_of_ble_eq_true rfl) (Nat.le_of_ble_eq_true rfl) (Nat.le_of_ble_eq_true rfl) (Nat.le_of_ble_eq_true rfl) (Nat.le_of_ble_eq_true rfl) (Nat.le_of_ble_eq_true rfl) dX8_dispute_2 (v_out hC hQ htb (Nat.le_of_ble_eq_true rfl) (Nat.le_of_ble_eq_true rfl)) (fun c2 => ?_)
  rw [if_neg (Nat.not_le.mpr c2)] at hf
  have ht1 : TShip K G (el G (gp G a0 4) x1) := t0.2.2.2.2.2.1.2.el (i := x1) c2
  refine v_astore_n (i := 2) (lv' := [(2, .ref (el G (gp G a0 4) x1)), (0, .ref a0), (1, .int (nI x1))]) hC dX8_dispute_5 rfl (by decide) rfl ?_
  refine v_aload_n hC dX8_dispute_6 rfl 0 rfl ?_
  refine v_callV (c2 := 1) (s2 := 6) (As := []) hC (m_X7_isOpen l (n := n) (K := K) (F := F) (G := G) (a0 := (el G (gp G a0 4) x1)) ht1) q_X8_262 (by rw [ht1.1]; decide) (ce_7 ht1.1) (ci := 6) rfl hdV_X7_isOpen rfl rfl (Nat.le_of_ble_eq_true rfl) (Nat.le_of_ble_eq_true rfl) (Nat.le_of_ble_eq_true rfl) (Nat.le_of_ble_eq_true rfl) (Nat.le_of_ble_eq_true rfl) (Nat.le_of_ble_eq_true rfl) (Nat.le_of_ble_eq_true rfl) dX8_dispute_7 ?_
  have KJ25 : ∀ (u3 : Int32) (tu3 : u3 = 0 ∨ u3 = 1), f_X8_dispute_J25 K F G a0 x1 u3 = r → V X 3 p l e ({ frames := 7, cells := 2, slots := 12, locals := 103 } : Room) s m args below meth c Q 1 6 n K F G [(2, .ref (el G (gp G a0 4) x1))] 25 [.int u3] := by
    intro u3 tu3 hf
    rw [f_X8_dispute_J25] at hf
    refine v_xcallS (c2 := 2) (s2 := 12) (As := [.int u3]) hC (m_X8_demandState_x l hfl (x0 := u3)) q_X8_56 hdS_X8_demandState rfl rfl (Nat.le_of_ble_eq_true rfl) (Nat.le_of_ble_eq_true rfl) (Nat.le_of_ble_eq_true rfl) (Nat.le_of_ble_eq_true rfl) (Nat.le_of_ble_eq_true rfl) (Nat.le_of_ble_eq_true rfl) (Nat.le_of_ble_eq_true rfl) dX8_dispute_25 (v_out hC hQ htb (Nat.le_of_ble_eq_true rfl) (Nat.le_of_ble_eq_true rfl)) (fun c4 => ?_)
    rw [if_neg c4] at hf
    refine v_aload_n hC dX8_dispute_28 rfl 0 rfl ?_
    refine v_iconst (v := 1) hC dX8_dispute_29 (by decide) ?_
    refine pf_X8_265 hC (by decide) (by decide) ht1.1 dX8_dispute_30 ?_
    refine v_aload_n hC dX8_dispute_33 rfl 0 rfl ?_
    refine gf_X8_268 hC ht1.1 dX8_dispute_34 ?_
    refine v_toMQ hQ trivial ?_
    exact v_iret hC rfl rfl dX8_dispute_37 (congrArg (fun z => some (Value.int z.2)) hf) rfl rfl (congrArg Prod.fst hf) rfl
  have KJ24 : f_X8_dispute_J24 K F G a0 x1 = r → V X 3 p l e ({ frames := 7, cells := 2, slots := 12, locals := 103 } : Room) s m args below meth c Q 1 6 n K F G [(2, .ref (el G (gp G a0 4) x1))] 24 [] := by
    intro hf
    rw [f_X8_dispute_J24] at hf
    refine v_iconst (v := 0) hC dX8_dispute_24 (by decide) ?_
    exact KJ25 0 (Or.inl rfl) hf
  refine v_if_eq (tgt := 24) hC dX8_dispute_10 (by decide) (fun c5 => ?_) (fun c5 => ?_)
  · rw [if_pos c5] at hf
    refine v_sub [0] rfl ?_
    exact KJ24 hf
  · rw [if_neg c5] at hf
    refine v_aload_n hC dX8_dispute_13 rfl 0 rfl ?_
    refine gf_X8_265 hC ht1.1 dX8_dispute_14 ?_
    refine v_if_ne (tgt := 24) hC dX8_dispute_17 (by decide) (fun c6 => ?_) (fun c6 => ?_)
    · rw [if_neg c6] at hf
      refine v_sub [0] rfl ?_
      exact KJ24 hf
    · rw [if_pos c6] at hf
      refine v_iconst (v := 1) hC dX8_dispute_20 (by decide) ?_
      refine v_goto (tgt := 25) hC dX8_dispute_21 (by decide) ?_
      refine v_sub [0] rfl ?_
      exact KJ25 1 (Or.inr rfl) hf
def f_X8_judge_J27 (K : Kt) (G : Gt) (a0 : Nat) (x1 : Nat) (F4 : Ft) : Ft × Int32 := (F4, F4 (el G (gp G a0 4) x1) 7)
def f_X8_judge (K : Kt) (F : Ft) (G : Gt) (a0 : Nat) (x1 : Nat) (x2 : Int32) : Ft × Int32 := if (K (gp G a0 4)).2 ≤ x1 then (F, 0) else if (F (el G (gp G a0 4) x1) 12) = 0 then (F, 0) else if x2 = 0 then f_X8_judge_J27 K G a0 x1 (up2 (up2 F (el G (gp G a0 4) x1) 12 0) (el G (gp G a0 4) x1) 7 0) else f_X8_judge_J27 K G a0 x1 (up2 F (el G (gp G a0 4) x1) 12 0)
theorem hdS_X8_judge : yX8_judge.cls ≠ "java/lang/invoke/MethodHandle" ∧ yX8_judge.cls ≠ "java/lang/invoke/VarHandle" ∧ (parseMethodDescriptor yX8_judge.desc).map (fun d => d.parameters.length) = some 2 := by decide +kernel
theorem hdV_X8_judge : yX8_judge.cls = RX8 ∧ yX8_judge.cls ≠ "java/lang/invoke/MethodHandle" ∧ yX8_judge.cls ≠ "java/lang/invoke/VarHandle" ∧ (parseMethodDescriptor yX8_judge.desc).map (fun d => d.parameters.length) = some 2 := by decide +kernel
set_option maxHeartbeats 4000000 in
set_option maxRecDepth 100000 in
theorem m_X8_judge (l : Launch) (hfl : l.stackTraces = false) {n : Nat} {K : Kt} {F : Ft} {G : Gt} {a0 : Nat} {x1 : Nat} {x2 : Int32} (t0 : TMain K G a0) (hx : x1 < 2147483648) : Mx X True l yX8_judge cX8_judge 4 (some .int) 7 103 2 12 [.ref a0, .int (nI x1), .int x2] n K F G (some (.int (f_X8_judge K F G a0 x1 x2).2)) n K (f_X8_judge K F G a0 x1 x2).1 G := by
  generalize hf : f_X8_judge K F G a0 x1 x2 = r
  refine Mx.of (lv := [(0, .ref a0), (1, .int (nI x1)), (2, .int x2)]) (by decide) (Nat.le_of_ble_eq_true rfl) rfl ?_
  intro p e s m args below meth c Q hC hin htb hQ
  have hC : Cx X p s m args meth c RX8 cX8_judge 4 (some .int) := hC
  rw [f_X8_judge] at hf
  refine v_aload_n hC dX8_judge_0 rfl 0 rfl ?_
  refine v_iload_n hC dX8_judge_1 rfl 1 rfl ?_
  refine v_xcallV (c2 := 1) (s2 := 6) (As := [.int (nI x1)]) hC (m_X8_shipmentAt_x l hfl t0 (x1 := x1) (by omega)) q_X8_249 (by rw [t0.1]; decide) (ce_1 t0.1) (ci := 0) rfl hdV_X8_shipmentAt rfl rfl (Nat.le_of_ble_eq_true rfl) (Nat.le_of_ble_eq_true rfl) (Nat.le_of_ble_eq_true rfl) (Nat.le_of_ble_eq_true rfl) (Nat.le_of_ble_eq_true rfl) (Nat.le_of_ble_eq_true rfl) (Nat.le_of_ble_eq_true rfl) dX8_judge_2 (v_out hC hQ htb (Nat.le_of_ble_eq_true rfl) (Nat.le_of_ble_eq_true rfl)) (fun c2 => ?_)
  rw [if_neg (Nat.not_le.mpr c2)] at hf
  have ht1 : TShip K G (el G (gp G a0 4) x1) := t0.2.2.2.2.2.1.2.el (i := x1) c2
  refine v_astore_n (i := 3) (lv' := [(3, .ref (el G (gp G a0 4) x1)), (0, .ref a0), (1, .int (nI x1)), (2, .int x2)]) hC dX8_judge_5 rfl (by decide) rfl ?_
  refine v_aload_n hC dX8_judge_6 rfl 0 rfl ?_
  refine gf_X8_265 hC ht1.1 dX8_judge_7 ?_
  refine v_xcallS (c2 := 2) (s2 := 12) (As := [.int (F (el G (gp G a0 4) x1) 12)]) hC (m_X8_demandState_x l hfl (x0 := (F (el G (gp G a0 4) x1) 12))) q_X8_56 hdS_X8_demandState rfl rfl (Nat.le_of_ble_eq_true rfl) (Nat.le_of_ble_eq_true rfl) (Nat.le_of_ble_eq_true rfl) (Nat.le_of_ble_eq_true rfl) (Nat.le_of_ble_eq_true rfl) (Nat.le_of_ble_eq_true rfl) (Nat.le_of_ble_eq_true rfl) dX8_judge_10 (v_out hC hQ htb (Nat.le_of_ble_eq_true rfl) (Nat.le_of_ble_eq_true rfl)) (fun c3 => ?_)
  rw [if_neg c3] at hf
  refine v_aload_n hC dX8_judge_13 rfl 0 rfl ?_
  refine v_iconst (v := 0) hC dX8_judge_14 (by decide) ?_
  refine pf_X8_265 hC (by decide) (by decide) ht1.1 dX8_judge_15 ?_
  refine v_iload_n hC dX8_judge_18 rfl 3 rfl ?_
  have KJ27 : ∀ (F4 : Ft), f_X8_judge_J27 K G a0 x1 F4 = r → V X 4 p l e ({ frames := 7, cells := 2, slots := 12, locals := 103 } : Room) s m args below meth c Q 2 12 n K F4 G [(3, .ref (el G (gp G a0 4) x1))] 27 [] := by
    intro F4 hf
    rw [f_X8_judge_J27] at hf
    refine v_aload_n hC dX8_judge_27 rfl 0 rfl ?_
    refine gf_X8_268 hC ht1.1 dX8_judge_28 ?_
    refine v_toMQ hQ trivial ?_
    exact v_iret hC rfl rfl dX8_judge_31 (congrArg (fun z => some (Value.int z.2)) hf) rfl rfl (congrArg Prod.fst hf) rfl
  refine v_if_ne (tgt := 27) hC dX8_judge_19 (by decide) (fun c5 => ?_) (fun c5 => ?_)
  · rw [if_neg c5] at hf
    refine v_sub [0] rfl ?_
    exact KJ27 (up2 F (el G (gp G a0 4) x1) 12 0) hf
  · rw [if_pos c5] at hf
    refine v_aload_n hC dX8_judge_22 rfl 0 rfl ?_
    refine v_iconst (v := 0) hC dX8_judge_23 (by decide) ?_
    refine pf_X8_268 hC ht1.1 dX8_judge_24 ?_
    refine v_sub [0] rfl ?_
    exact KJ27 (up2 (up2 F (el G (gp G a0 4) x1) 12 0) (el G (gp G a0 4) x1) 7 0) hf
def f_X8_salvage_N46 (K : Kt) (F : Ft) (G : Gt) (a0 : Nat) (x1 : Nat) (y5 : Int32) : Ft × Int32 := (f_X8_settle K F G a0 (el G (gp G a0 4) x1) (gp G a0 8) y5, y5)
def f_X8_salvage_J35 (K : Kt) (F : Ft) (G : Gt) (a0 : Nat) (x1 : Nat) (x2 : Int32) (u3 : Int32) : Ft × Int32 := if u3 = 0 then (F, 0) else f_X8_salvage_N46 K F G a0 x1 (if (F (el G (gp G a0 4) x1) 10) < x2 then (F (el G (gp G a0 4) x1) 10) else x2)
def f_X8_salvage_J34 (K : Kt) (F : Ft) (G : Gt) (a0 : Nat) (x1 : Nat) (x2 : Int32) : Ft × Int32 := f_X8_salvage_J35 K F G a0 x1 x2 0
def f_X8_salvage (K : Kt) (F : Ft) (G : Gt) (a0 : Nat) (x1 : Nat) (x2 : Int32) : Ft × Int32 := if (K (gp G a0 4)).2 ≤ x1 then (F, 0) else if G (el G (gp G a0 4) x1) 14 = none then f_X8_salvage_J34 K F G a0 x1 x2 else if (F (el G (gp G a0 4) x1) 13) = 0 then f_X8_salvage_J35 K F G a0 x1 x2 1 else f_X8_salvage_J34 K F G a0 x1 x2
theorem hdS_X8_salvage : yX8_salvage.cls ≠ "java/lang/invoke/MethodHandle" ∧ yX8_salvage.cls ≠ "java/lang/invoke/VarHandle" ∧ (parseMethodDescriptor yX8_salvage.desc).map (fun d => d.parameters.length) = some 2 := by decide +kernel
theorem hdV_X8_salvage : yX8_salvage.cls = RX8 ∧ yX8_salvage.cls ≠ "java/lang/invoke/MethodHandle" ∧ yX8_salvage.cls ≠ "java/lang/invoke/VarHandle" ∧ (parseMethodDescriptor yX8_salvage.desc).map (fun d => d.parameters.length) = some 2 := by decide +kernel
set_option maxHeartbeats 4000000 in
set_option maxRecDepth 100000 in
theorem m_X8_salvage (l : Launch) (hfl : l.stackTraces = false) {n : Nat} {K : Kt} {F : Ft} {G : Gt} {a0 : Nat} {x1 : Nat} {x2 : Int32} (t0 : TMain K G a0) (hx : x1 < 2147483648) (h : ¬ f_X8_isWithin K F G x2 1 99999 = 0) : Mx X True l yX8_salvage cX8_salvage 5 (some .int) 7 103 2 12 [.ref a0, .int (nI x1), .int x2] n K F G (some (.int (f_X8_salvage K F G a0 x1 x2).2)) n K (f_X8_salvage K F G a0 x1 x2).1 G := by
  generalize hf : f_X8_salvage K F G a0 x1 x2 = r
  refine Mx.of (lv := [(0, .ref a0), (1, .int (nI x1)), (2, .int x2)]) (by decide) (Nat.le_of_ble_eq_true rfl) rfl ?_
  intro p e s m args below meth c Q hC hin htb hQ
  have hC : Cx X p s m args meth c RX8 cX8_salvage 5 (some .int) := hC
  rw [f_X8_salvage] at hf
  refine v_aload_n hC dX8_salvage_0 rfl 0 rfl ?_
  refine v_iload_n hC dX8_salvage_1 rfl 1 rfl ?_
  refine v_xcallV (c2 := 1) (s2 := 6) (As := [.int (nI x1)]) hC (m_X8_shipmentAt_x l hfl t0 (x1 := x1) (by omega)) q_X8_249 (by rw [t0.1]; decide) (ce_1 t0.1) (ci := 0) rfl hdV_X8_shipmentAt rfl rfl (Nat.le_of_ble_eq_true rfl) (Nat.le_of_ble_eq_true rfl) (Nat.le_of_ble_eq_true rfl) (Nat.le_of_ble_eq_true rfl) (Nat.le_of_ble_eq_true rfl) (Nat.le_of_ble_eq_true rfl) (Nat.le_of_ble_eq_true rfl) dX8_salvage_2 (v_out hC hQ htb (Nat.le_of_ble_eq_true rfl) (Nat.le_of_ble_eq_true rfl)) (fun c2 => ?_)
  rw [if_neg (Nat.not_le.mpr c2)] at hf
  have ht1 : TShip K G (el G (gp G a0 4) x1) := t0.2.2.2.2.2.1.2.el (i := x1) c2
  refine v_astore_n (i := 3) (lv' := [(3, .ref (el G (gp G a0 4) x1)), (0, .ref a0), (1, .int (nI x1)), (2, .int x2)]) hC dX8_salvage_5 rfl (by decide) rfl ?_
  refine v_iload_n hC dX8_salvage_6 rfl 3 rfl ?_
  refine v_iconst (v := 1) hC dX8_salvage_7 (by decide) ?_
  refine v_ldc (v := 99999) hC aw_1138 dX8_salvage_8 ?_
  refine v_callS (c2 := 1) (s2 := 6) (As := [.int x2, .int 1, .int 99999]) hC (m_X8_isWithin l (n := n) (K := K) (F := F) (G := G) (x0 := x2) (x1 := 1) (x2 := 99999) ) q_X8_44 hdS_X8_isWithin rfl rfl (Nat.le_of_ble_eq_true rfl) (Nat.le_of_ble_eq_true rfl) (Nat.le_of_ble_eq_true rfl) (Nat.le_of_ble_eq_true rfl) (Nat.le_of_ble_eq_true rfl) (Nat.le_of_ble_eq_true rfl) (Nat.le_of_ble_eq_true rfl) dX8_salvage_10 ?_
  refine v_callS (c2 := 1) (s2 := 6) (As := [.int (f_X8_isWithin K F G x2 1 99999)]) hC (m_X8_demandArgument l (n := n) (K := K) (F := F) (G := G) (x0 := (f_X8_isWithin K F G x2 1 99999)) h) q_X8_48 hdS_X8_demandArgument rfl rfl (Nat.le_of_ble_eq_true rfl) (Nat.le_of_ble_eq_true rfl) (Nat.le_of_ble_eq_true rfl) (Nat.le_of_ble_eq_true rfl) (Nat.le_of_ble_eq_true rfl) (Nat.le_of_ble_eq_true rfl) (Nat.le_of_ble_eq_true rfl) dX8_salvage_13 ?_
  refine v_aload_n hC dX8_salvage_16 rfl 0 rfl ?_
  refine gq_X8_288 hC ht1.1 dX8_salvage_17 ?_
  have KJ35 : ∀ (u3 : Int32) (tu3 : u3 = 0 ∨ u3 = 1), f_X8_salvage_J35 K F G a0 x1 x2 u3 = r → V X 5 p l e ({ frames := 7, cells := 2, slots := 12, locals := 103 } : Room) s m args below meth c Q 1 6 n K F G [(0, .ref a0), (2, .int x2), (3, .ref (el G (gp G a0 4) x1))] 35 [.int u3] := by
    intro u3 tu3 hf
    rw [f_X8_salvage_J35] at hf
    refine v_xcallS (c2 := 2) (s2 := 12) (As := [.int u3]) hC (m_X8_demandState_x l hfl (x0 := u3)) q_X8_56 hdS_X8_demandState rfl rfl (Nat.le_of_ble_eq_true rfl) (Nat.le_of_ble_eq_true rfl) (Nat.le_of_ble_eq_true rfl) (Nat.le_of_ble_eq_true rfl) (Nat.le_of_ble_eq_true rfl) (Nat.le_of_ble_eq_true rfl) (Nat.le_of_ble_eq_true rfl) dX8_salvage_35 (v_out hC hQ htb (Nat.le_of_ble_eq_true rfl) (Nat.le_of_ble_eq_true rfl)) (fun c4 => ?_)
    rw [if_neg c4] at hf
    refine v_iload_n hC dX8_salvage_38 rfl 1 rfl ?_
    refine v_aload_n hC dX8_salvage_39 rfl 2 rfl ?_
    refine gf_X8_242 hC ht1.1 dX8_salvage_40 ?_
    refine v_mmin hC aw_236 (Nat.le_of_ble_eq_true rfl) (Nat.le_of_ble_eq_true rfl) (Nat.le_of_ble_eq_true rfl) (Nat.le_of_ble_eq_true rfl) (Nat.le_of_ble_eq_true rfl) dX8_salvage_43 ?_
    have KN46 : ∀ (y5 : Int32), f_X8_salvage_N46 K F G a0 x1 y5 = r → V X 5 p l e ({ frames := 7, cells := 2, slots := 12, locals := 103 } : Room) s m args below meth c Q 2 12 n K F G [(0, .ref a0), (3, .ref (el G (gp G a0 4) x1))] 46 [.int y5] := by
      intro y5 hf
      rw [f_X8_salvage_N46] at hf
      refine v_istore (i := 4) (lv' := [(4, .int y5), (0, .ref a0), (3, .ref (el G (gp G a0 4) x1))]) hC dX8_salvage_46 (by decide) rfl ?_
      refine v_aload_n hC dX8_salvage_48 rfl 1 rfl ?_
      refine v_aload_n hC dX8_salvage_49 rfl 2 rfl ?_
      refine v_aload_n hC dX8_salvage_50 rfl 1 rfl ?_
      refine gf_X8_41 hC t0.1 t0.2.2.2.2.2.2.2.2.2.1 dX8_salvage_51 ?_
      refine v_iload hC dX8_salvage_54 0 rfl ?_
      refine v_callV (c2 := 2) (s2 := 12) (As := [.ref (el G (gp G a0 4) x1), .ref (gp G a0 8), .int y5]) hC (m_X8_settle l (n := n) (K := K) (F := F) (G := G) (a0 := a0) (a1 := (el G (gp G a0 4) x1)) (a2 := (gp G a0 8)) (x3 := y5) t0 ht1 t0.2.2.2.2.2.2.2.2.2.2) q_X8_245 (by rw [t0.1]; decide) (ce_1 t0.1) (ci := 0) rfl hdV_X8_settle rfl rfl (Nat.le_of_ble_eq_true rfl) (Nat.le_of_ble_eq_true rfl) (Nat.le_of_ble_eq_true rfl) (Nat.le_of_ble_eq_true rfl) (Nat.le_of_ble_eq_true rfl) (Nat.le_of_ble_eq_true rfl) (Nat.le_of_ble_eq_true rfl) dX8_salvage_56 ?_
      refine v_iload hC dX8_salvage_59 0 rfl ?_
      refine v_toMQ hQ trivial ?_
      exact v_iret hC rfl rfl dX8_salvage_61 (congrArg (fun z => some (Value.int z.2)) hf) rfl rfl (congrArg Prod.fst hf) rfl
    refine v_sub [0, 2] rfl ?_
    exact KN46 (if (F (el G (gp G a0 4) x1) 10) < x2 then (F (el G (gp G a0 4) x1) 10) else x2) hf
  have KJ34 : f_X8_salvage_J34 K F G a0 x1 x2 = r → V X 5 p l e ({ frames := 7, cells := 2, slots := 12, locals := 103 } : Room) s m args below meth c Q 1 6 n K F G [(0, .ref a0), (2, .int x2), (3, .ref (el G (gp G a0 4) x1))] 34 [] := by
    intro hf
    rw [f_X8_salvage_J34] at hf
    refine v_iconst (v := 0) hC dX8_salvage_34 (by decide) ?_
    exact KJ35 0 (Or.inl rfl) hf
  refine v_ifnull (tgt := 34) hC dX8_salvage_20 (by decide) (fun c6 => ?_) (fun c6 => ?_)
  · rw [if_pos c6] at hf
    refine v_sub [1, 3, 0] rfl ?_
    exact KJ34 hf
  · rw [if_neg c6] at hf
    refine v_aload_n hC dX8_salvage_23 rfl 0 rfl ?_
    refine gf_X8_303 hC ht1.1 dX8_salvage_24 ?_
    refine v_if_ne (tgt := 34) hC dX8_salvage_27 (by decide) (fun c7 => ?_) (fun c7 => ?_)
    · rw [if_neg c7] at hf
      refine v_sub [1, 3, 0] rfl ?_
      exact KJ34 hf
    · rw [if_pos c7] at hf
      refine v_iconst (v := 1) hC dX8_salvage_30 (by decide) ?_
      refine v_goto (tgt := 35) hC dX8_salvage_31 (by decide) ?_
      refine v_sub [1, 3, 0] rfl ?_
      exact KJ35 1 (Or.inr rfl) hf
def f_X8_inspect_C48 (K : Kt) (G : Gt) (F6 : Ft) : Ft × Int32 := (F6, 1)
def f_X8_inspect_J18 (K : Kt) (F : Ft) (G : Gt) (a0 : Nat) (x1 : Nat) (u3 : Int32) : Ft × Int32 := if u3 = 0 then (F, 0) else if (F (el G (gp G a0 4) x1) 5) = 0 then (F, 0) else f_X8_inspect_C48 K G (f_X8_payBack K (up2 (up2 F (el G (gp G a0 4) x1) 13 1) (gp G (el G (gp G a0 4) x1) 0) 6 1) G a0 (el G (gp G a0 4) x1))
def f_X8_inspect (K : Kt) (F : Ft) (G : Gt) (a0 : Nat) (x1 : Nat) : Ft × Int32 := if (K (gp G a0 4)).2 ≤ x1 then (F, 0) else if (F (el G (gp G a0 4) x1) 13) = 0 then f_X8_inspect_J18 K F G a0 x1 1 else f_X8_inspect_J18 K F G a0 x1 0
theorem hdS_X8_inspect : yX8_inspect.cls ≠ "java/lang/invoke/MethodHandle" ∧ yX8_inspect.cls ≠ "java/lang/invoke/VarHandle" ∧ (parseMethodDescriptor yX8_inspect.desc).map (fun d => d.parameters.length) = some 1 := by decide +kernel
theorem hdV_X8_inspect : yX8_inspect.cls = RX8 ∧ yX8_inspect.cls ≠ "java/lang/invoke/MethodHandle" ∧ yX8_inspect.cls ≠ "java/lang/invoke/VarHandle" ∧ (parseMethodDescriptor yX8_inspect.desc).map (fun d => d.parameters.length) = some 1 := by decide +kernel
set_option maxHeartbeats 4000000 in
set_option maxRecDepth 100000 in
theorem m_X8_inspect (l : Launch) (hfl : l.stackTraces = false) {n : Nat} {K : Kt} {F : Ft} {G : Gt} {a0 : Nat} {x1 : Nat} (t0 : TMain K G a0) (hx : x1 < 2147483648) : Mx X True l yX8_inspect cX8_inspect 3 (some .boolean) 7 103 2 12 [.ref a0, .int (nI x1)] n K F G (some (.int (f_X8_inspect K F G a0 x1).2)) n K (f_X8_inspect K F G a0 x1).1 G := by
  generalize hf : f_X8_inspect K F G a0 x1 = r
  refine Mx.of (lv := [(0, .ref a0), (1, .int (nI x1))]) (by decide) (Nat.le_of_ble_eq_true rfl) rfl ?_
  intro p e s m args below meth c Q hC hin htb hQ
  have hC : Cx X p s m args meth c RX8 cX8_inspect 3 (some .boolean) := hC
  rw [f_X8_inspect] at hf
  refine v_aload_n hC dX8_inspect_0 rfl 0 rfl ?_
  refine v_iload_n hC dX8_inspect_1 rfl 1 rfl ?_
  refine v_xcallV (c2 := 1) (s2 := 6) (As := [.int (nI x1)]) hC (m_X8_shipmentAt_x l hfl t0 (x1 := x1) (by omega)) q_X8_249 (by rw [t0.1]; decide) (ce_1 t0.1) (ci := 0) rfl hdV_X8_shipmentAt rfl rfl (Nat.le_of_ble_eq_true rfl) (Nat.le_of_ble_eq_true rfl) (Nat.le_of_ble_eq_true rfl) (Nat.le_of_ble_eq_true rfl) (Nat.le_of_ble_eq_true rfl) (Nat.le_of_ble_eq_true rfl) (Nat.le_of_ble_eq_true rfl) dX8_inspect_2 (v_out hC hQ htb (Nat.le_of_ble_eq_true rfl) (Nat.le_of_ble_eq_true rfl)) (fun c2 => ?_)
  rw [if_neg (Nat.not_le.mpr c2)] at hf
  have ht1 : TShip K G (el G (gp G a0 4) x1) := t0.2.2.2.2.2.1.2.el (i := x1) c2
  refine v_astore_n (i := 2) (lv' := [(2, .ref (el G (gp G a0 4) x1)), (0, .ref a0), (1, .int (nI x1))]) hC dX8_inspect_5 rfl (by decide) rfl ?_
  refine v_aload_n hC dX8_inspect_6 rfl 0 rfl ?_
  refine gf_X8_303 hC ht1.1 dX8_inspect_7 ?_
  have KJ18 : ∀ (u3 : Int32) (tu3 : u3 = 0 ∨ u3 = 1), f_X8_inspect_J18 K F G a0 x1 u3 = r → V X 3 p l e ({ frames := 7, cells := 2, slots := 12, locals := 103 } : Room) s m args below meth c Q 1 6 n K F G [(0, .ref a0), (2, .ref (el G (gp G a0 4) x1))] 18 [.int u3] := by
    intro u3 tu3 hf
    rw [f_X8_inspect_J18] at hf
    refine v_xcallS (c2 := 2) (s2 := 12) (As := [.int u3]) hC (m_X8_demandState_x l hfl (x0 := u3)) q_X8_56 hdS_X8_demandState rfl rfl (Nat.le_of_ble_eq_true rfl) (Nat.le_of_ble_eq_true rfl) (Nat.le_of_ble_eq_true rfl) (Nat.le_of_ble_eq_true rfl) (Nat.le_of_ble_eq_true rfl) (Nat.le_of_ble_eq_true rfl) (Nat.le_of_ble_eq_true rfl) dX8_inspect_18 (v_out hC hQ htb (Nat.le_of_ble_eq_true rfl) (Nat.le_of_ble_eq_true rfl)) (fun c4 => ?_)
    rw [if_neg c4] at hf
    refine v_aload_n hC dX8_inspect_21 rfl 1 rfl ?_
    refine gf_X8_320 hC ht1.1 dX8_inspect_22 ?_
    refine v_if_ne (tgt := 30) hC dX8_inspect_25 (by decide) (fun c5 => ?_) (fun c5 => ?_)
    · rw [if_neg c5] at hf
      refine v_aload_n hC dX8_inspect_30 rfl 1 rfl ?_
      refine v_iconst (v := 1) hC dX8_inspect_31 (by decide) ?_
      refine pf_X8_303 hC (by decide) (by decide) ht1.1 dX8_inspect_32 ?_
      refine v_aload_n hC dX8_inspect_35 rfl 1 rfl ?_
      refine gf_X8_274 hC ht1.1 ht1.2.1.1 dX8_inspect_36 ?_
      refine v_iconst (v := 1) hC dX8_inspect_39 (by decide) ?_
      refine pf_X8_181 hC (by decide) (by decide) ht1.2.1.2.1 dX8_inspect_40 ?_
      refine v_aload_n hC dX8_inspect_43 rfl 0 rfl ?_
      refine v_aload_n hC dX8_inspect_44 rfl 1 rfl ?_
      refine v_callV (c2 := 2) (s2 := 12) (As := [.ref (el G (gp G a0 4) x1)]) hC (m_X8_payBack l (n := n) (K := K) (F := (up2 (up2 F (el G (gp G a0 4) x1) 13 1) (gp G (el G (gp G a0 4) x1) 0) 6 1)) (G := G) (a0 := a0) (a1 := (el G (gp G a0 4) x1)) t0 ht1) q_X8_323 (by rw [t0.1]; decide) (ce_1 t0.1) (ci := 0) rfl hdV_X8_payBack rfl rfl (Nat.le_of_ble_eq_true rfl) (Nat.le_of_ble_eq_true rfl) (Nat.le_of_ble_eq_true rfl) (Nat.le_of_ble_eq_true rfl) (Nat.le_of_ble_eq_true rfl) (Nat.le_of_ble_eq_true rfl) (Nat.le_of_ble_eq_true rfl) dX8_inspect_45 ?_
      have KC48 : ∀ (F6 : Ft), f_X8_inspect_C48 K G F6 = r → V X 3 p l e ({ frames := 7, cells := 2, slots := 12, locals := 103 } : Room) s m args below meth c Q 2 12 n K F6 G [] 48 [] := by
        intro F6 hf
        rw [f_X8_inspect_C48] at hf
        refine v_iconst (v := 1) hC dX8_inspect_48 (by decide) ?_
        refine v_toMQ hQ trivial ?_
        exact v_zret (ty := .boolean) hC rfl rfl rfl dX8_inspect_49 (congrArg (fun z => some (Value.int z.2)) hf) rfl rfl (congrArg Prod.fst hf) rfl
      refine v_sub [] rfl ?_
      exact KC48 (f_X8_payBack K (up2 (up2 F (el G (gp G a0 4) x1) 13 1) (gp G (el G (gp G a0 4) x1) 0) 6 1) G a0 (el G (gp G a0 4) x1)) hf
    · rw [if_pos c5] at hf
      refine v_iconst (v := 0) hC dX8_inspect_28 (by decide) ?_
      refine v_toMQ hQ trivial ?_
      exact v_zret (ty := .boolean) hC rfl rfl rfl dX8_inspect_29 (congrArg (fun z => some (Value.int z.2)) hf) rfl rfl (congrArg Prod.fst hf) rfl
  refine v_if_ne (tgt := 17) hC dX8_inspect_10 (by decide) (fun c7 => ?_) (fun c7 => ?_)
  · rw [if_neg c7] at hf
    refine v_iconst (v := 0) hC dX8_inspect_17 (by decide) ?_
    refine v_sub [1, 0] rfl ?_
    exact KJ18 0 (Or.inl rfl) hf
  · rw [if_pos c7] at hf
    refine v_iconst (v := 1) hC dX8_inspect_13 (by decide) ?_
    refine v_goto (tgt := 18) hC dX8_inspect_14 (by decide) ?_
    refine v_sub [1, 0] rfl ?_
    exact KJ18 1 (Or.inr rfl) hf
def f_X8_pass_J67 (K : Kt) (G : Gt) (a0 : Nat) (j33 : Nat) (F_33 : Ft) (rec33 : (Nat → Ft → Ft × Int32)) : Ft × Int32 := rec33 (j33 + 1) (f_X8_payWhatIsDue K (up2 F_33 a0 9 ((F_33 a0 9) + 1)) G a0)
def f_X8_pass_C67 (K : Kt) (G : Gt) (j33 : Nat) (rec33 : (Nat → Ft → Ft × Int32)) (F5 : Ft) : Ft × Int32 := rec33 (j33 + 1) F5
def f_X8_pass_L33 (K : Kt) (G : Gt) (a0 : Nat) : Nat → Nat → Ft → Ft × Int32
  | 0, j33, F_33 => (F_33, F_33 a0 9)
  | k1 + 1, j33, F_33 => if (((f_X8_payWhatIsDue K (up2 F_33 a0 9 ((F_33 a0 9) + 1)) G a0) a0 9) - ((f_X8_payWhatIsDue K (up2 F_33 a0 9 ((F_33 a0 9) + 1)) G a0) a0 9) / 360 * 360) = 0 then f_X8_pass_C67 K G j33 (f_X8_pass_L33 K G a0 k1) (f_X8_payWhatIsPutOff K (f_X8_payWhatIsDue K (up2 F_33 a0 9 ((F_33 a0 9) + 1)) G a0) G a0) else f_X8_pass_J67 K G a0 j33 F_33 (f_X8_pass_L33 K G a0 k1)
def f_X8_pass_J28 (K : Kt) (F : Ft) (G : Gt) (a0 : Nat) (x1 : Nat) : Ft × Int32 := f_X8_pass_L33 K G a0 x1 0 F
def f_X8_pass (K : Kt) (F : Ft) (G : Gt) (a0 : Nat) (x1 : Nat) : Ft × Int32 := f_X8_pass_J28 K F G a0 x1
theorem hdS_X8_pass : yX8_pass.cls ≠ "java/lang/invoke/MethodHandle" ∧ yX8_pass.cls ≠ "java/lang/invoke/VarHandle" ∧ (parseMethodDescriptor yX8_pass.desc).map (fun d => d.parameters.length) = some 1 := by decide +kernel
theorem hdV_X8_pass : yX8_pass.cls = RX8 ∧ yX8_pass.cls ≠ "java/lang/invoke/MethodHandle" ∧ yX8_pass.cls ≠ "java/lang/invoke/VarHandle" ∧ (parseMethodDescriptor yX8_pass.desc).map (fun d => d.parameters.length) = some 1 := by decide +kernel
set_option maxHeartbeats 4000000 in
set_option maxRecDepth 100000 in
theorem m_X8_pass (l : Launch) {n : Nat} {K : Kt} {F : Ft} {G : Gt} {a0 : Nat} {x1 : Nat} (t0 : TMain K G a0) (h1 : 1 ≤ x1) (h2 : x1 ≤ 720) (hs : ¬ 7200 < (F a0 9) + (nI x1)) : Mw X l yX8_pass cX8_pass 3 (some .int) 5 104 0 0 [.ref a0, .int (nI x1)] n K F G (some (.int (f_X8_pass K F G a0 x1).2)) n K (f_X8_pass K F G a0 x1).1 G := by
  generalize hf : f_X8_pass K F G a0 x1 = r
  refine Mw.of (lv := [(0, .ref a0), (1, .int (nI x1))]) (by decide) (Nat.le_of_ble_eq_true rfl) rfl ?_
  intro p e s m args below meth c Q hC hin hQ
  have hC : Cx X p s m args meth c RX8 cX8_pass 3 (some .int) := hC
  rw [f_X8_pass] at hf
  refine v_iload_n hC dX8_pass_0 rfl 1 rfl ?_
  refine v_iconst (v := 1) hC dX8_pass_1 (by decide) ?_
  refine v_sipush (v := 720) hC dX8_pass_2 (by decide) ?_
  refine v_callS (c2 := 0) (s2 := 0) (As := [.int (nI x1), .int 1, .int 720]) hC (m_X8_isWithin l (n := n) (K := K) (F := F) (G := G) (x0 := (nI x1)) (x1 := 1) (x2 := 720) ) q_X8_44 hdS_X8_isWithin rfl rfl (Nat.le_of_ble_eq_true rfl) (Nat.le_of_ble_eq_true rfl) (Nat.le_of_ble_eq_true rfl) (Nat.le_of_ble_eq_true rfl) (Nat.le_of_ble_eq_true rfl) (Nat.le_of_ble_eq_true rfl) (Nat.le_of_ble_eq_true rfl) dX8_pass_5 ?_
  refine v_callS (c2 := 0) (s2 := 0) (As := [.int (f_X8_isWithin K F G (nI x1) 1 720)]) hC (m_X8_demandArgument l (n := n) (K := K) (F := F) (G := G) (x0 := (f_X8_isWithin K F G (nI x1) 1 720)) (iw_nI2 (l := 1) (h := 720) h1 h2 rfl rfl (by decide))) q_X8_48 hdS_X8_demandArgument rfl rfl (Nat.le_of_ble_eq_true rfl) (Nat.le_of_ble_eq_true rfl) (Nat.le_of_ble_eq_true rfl) (Nat.le_of_ble_eq_true rfl) (Nat.le_of_ble_eq_true rfl) (Nat.le_of_ble_eq_true rfl) (Nat.le_of_ble_eq_true rfl) dX8_pass_8 ?_
  refine v_aload_n hC dX8_pass_11 rfl 0 rfl ?_
  refine gf_X8_151 hC t0.1 dX8_pass_12 ?_
  refine v_iload_n hC dX8_pass_15 rfl 1 rfl ?_
  refine v_iadd hC dX8_pass_16 ?_
  refine v_sipush (v := 7200) hC dX8_pass_17 (by decide) ?_
  have KJ28 : f_X8_pass_J28 K F G a0 x1 = r → V X 3 p l e ({ frames := 5, cells := 0, slots := 0, locals := 104 } : Room) s m args below meth c Q 0 0 n K F G [(0, .ref a0), (1, .int (nI x1))] 28 [.int 1] := by
    intro hf
    rw [f_X8_pass_J28] at hf
    refine v_callS (c2 := 0) (s2 := 0) (As := [.int 1]) hC (m_X8_demandState l (n := n) (K := K) (F := F) (G := G) (x0 := 1) (by decide)) q_X8_56 hdS_X8_demandState rfl rfl (Nat.le_of_ble_eq_true rfl) (Nat.le_of_ble_eq_true rfl) (Nat.le_of_ble_eq_true rfl) (Nat.le_of_ble_eq_true rfl) (Nat.le_of_ble_eq_true rfl) (Nat.le_of_ble_eq_true rfl) (Nat.le_of_ble_eq_true rfl) dX8_pass_28 ?_
    refine v_iconst (v := 0) hC dX8_pass_31 (by decide) ?_
    refine v_istore_n (i := 2) (lv' := [(2, .int 0), (0, .ref a0), (1, .int (nI x1))]) hC dX8_pass_32 rfl (by decide) rfl ?_
    refine v_sub [1, 2, 0] rfl ?_
    have KL33 : ∀ (k1 j33 : Nat) (F_33 : Ft), j33 + k1 = x1 → f_X8_pass_L33 K G a0 k1 j33 F_33 = r → V X 3 p l e ({ frames := 5, cells := 0, slots := 0, locals := 104 } : Room) s m args below meth c Q 0 0 n K F_33 G [(0, .ref a0), (1, .int (nI x1)), (2, .int (nI j33))] 33 [] := by
      intro k1
      induction k1 with
      | zero =>
        intro j33 F_33 hj33 hf
        rw [f_X8_pass_L33] at hf
        refine v_iload_n hC dX8_pass_33 rfl 2 rfl ?_
        refine v_iload_n hC dX8_pass_34 rfl 1 rfl ?_
        refine v_icmp_ge (tgt := 73) hC dX8_pass_35 (by decide) (fun c2 => ?_) (fun c2 => absurd (lp_z hj33) c2)
        refine v_aload_n hC dX8_pass_73 rfl 0 rfl ?_
        refine gf_X8_151 hC t0.1 dX8_pass_74 ?_
        exact v_iret hC rfl hQ dX8_pass_77 (congrArg (fun z => some (Value.int z.2)) hf) rfl rfl (congrArg Prod.fst hf) rfl
      | succ k1 ihj33 =>
        intro j33 F_33 hj33 hf
        rw [f_X8_pass_L33] at hf
        refine v_iload_n hC dX8_pass_33 rfl 2 rfl ?_
        refine v_iload_n hC dX8_pass_34 rfl 1 rfl ?_
        refine v_icmp_ge (tgt := 73) hC dX8_pass_35 (by decide) (fun c3 => absurd c3 (lp_s hj33 (by omega))) (fun c3 => ?_)
        refine v_aload_n hC dX8_pass_38 rfl 0 rfl ?_
        refine v_dup hC dX8_pass_39 rfl ?_
        refine gf_X8_151 hC t0.1 dX8_pass_40 ?_
        refine v_iconst (v := 1) hC dX8_pass_43 (by decide) ?_
        refine v_iadd hC dX8_pass_44 ?_
        refine pf_X8_151 hC t0.1 dX8_pass_45 ?_
        refine v_aload_n hC dX8_pass_48 rfl 0 rfl ?_
        refine v_callV (c2 := 0) (s2 := 0) (As := []) hC (m_X8_payWhatIsDue l (n := n) (K := K) (F := (up2 F_33 a0 9 ((F_33 a0 9) + 1))) (G := G) (a0 := a0) t0) q_X8_326 (by rw [t0.1]; decide) (ce_1 t0.1) (ci := 0) rfl hdV_X8_payWhatIsDue rfl rfl (Nat.le_of_ble_eq_true rfl) (Nat.le_of_ble_eq_true rfl) (Nat.le_of_ble_eq_true rfl) (Nat.le_of_ble_eq_true rfl) (Nat.le_of_ble_eq_true rfl) (Nat.le_of_ble_eq_true rfl) (Nat.le_of_ble_eq_true rfl) dX8_pass_49 ?_
        refine v_aload_n hC dX8_pass_52 rfl 0 rfl ?_
        refine gf_X8_151 hC t0.1 dX8_pass_53 ?_
        refine v_sipush (v := 360) hC dX8_pass_56 (by decide) ?_
        refine v_irem hC dX8_pass_59 (by decide) ?_
        have KJ67 : f_X8_pass_J67 K G a0 j33 F_33 (f_X8_pass_L33 K G a0 k1) = r → V X 3 p l e ({ frames := 5, cells := 0, slots := 0, locals := 104 } : Room) s m args below meth c Q 0 0 n K (f_X8_payWhatIsDue K (up2 F_33 a0 9 ((F_33 a0 9) + 1)) G a0) G [(0, .ref a0), (1, .int (nI x1)), (2, .int (nI j33))] 67 [] := by
          intro hf
          rw [f_X8_pass_J67] at hf
          refine v_iinc (lv' := [(2, .int (nI (j33 + 1))), (0, .ref a0), (1, .int (nI x1))]) (v := nI (j33 + 1)) hC dX8_pass_67 2 rfl (nI_inc j33) (by decide) rfl ?_
          refine v_goto (tgt := 33) hC dX8_pass_70 (by decide) ?_
          refine v_sub [1, 2, 0] rfl ?_
          exact ihj33 (j33 + 1) (f_X8_payWhatIsDue K (up2 F_33 a0 9 ((F_33 a0 9) + 1)) G a0) (by omega) hf
        refine v_if_ne (tgt := 67) hC dX8_pass_60 (by decide) (fun c4 => ?_) (fun c4 => ?_)
        · rw [if_neg c4] at hf
          exact KJ67 hf
        · rw [if_pos c4] at hf
          refine v_aload_n hC dX8_pass_63 rfl 0 rfl ?_
          refine v_callV (c2 := 0) (s2 := 0) (As := []) hC (m_X8_payWhatIsPutOff l (n := n) (K := K) (F := (f_X8_payWhatIsDue K (up2 F_33 a0 9 ((F_33 a0 9) + 1)) G a0)) (G := G) (a0 := a0) t0) q_X8_329 (by rw [t0.1]; decide) (ce_1 t0.1) (ci := 0) rfl hdV_X8_payWhatIsPutOff rfl rfl (Nat.le_of_ble_eq_true rfl) (Nat.le_of_ble_eq_true rfl) (Nat.le_of_ble_eq_true rfl) (Nat.le_of_ble_eq_true rfl) (Nat.le_of_ble_eq_true rfl) (Nat.le_of_ble_eq_true rfl) (Nat.le_of_ble_eq_true rfl) dX8_pass_64 ?_
          have KC67 : ∀ (F5 : Ft), f_X8_pass_C67 K G j33 (f_X8_pass_L33 K G a0 k1) F5 = r → V X 3 p l e ({ frames := 5, cells := 0, slots := 0, locals := 104 } : Room) s m args below meth c Q 0 0 n K F5 G [(0, .ref a0), (1, .int (nI x1)), (2, .int (nI j33))] 67 [] := by
            intro F5 hf
            rw [f_X8_pass_C67] at hf
            refine v_iinc (lv' := [(2, .int (nI (j33 + 1))), (0, .ref a0), (1, .int (nI x1))]) (v := nI (j33 + 1)) hC dX8_pass_67 2 rfl (nI_inc j33) (by decide) rfl ?_
            refine v_goto (tgt := 33) hC dX8_pass_70 (by decide) ?_
            refine v_sub [1, 2, 0] rfl ?_
            exact ihj33 (j33 + 1) F5 (by omega) hf
          exact KC67 (f_X8_payWhatIsPutOff K (f_X8_payWhatIsDue K (up2 F_33 a0 9 ((F_33 a0 9) + 1)) G a0) G a0) hf
    exact KL33 x1 0 F (by omega) hf
  refine v_icmp_gt (tgt := 27) hC dX8_pass_20 (by decide) (fun c6 => absurd c6 hs) (fun c6 => ?_)
  refine v_iconst (v := 1) hC dX8_pass_23 (by decide) ?_
  refine v_goto (tgt := 28) hC dX8_pass_24 (by decide) ?_
  exact KJ28 hf
end Pm4
