section PM7
variable {X : Xt}
theorem hdS_X8_addLand : yX8_addLand.cls ≠ "java/lang/invoke/MethodHandle" ∧ yX8_addLand.cls ≠ "java/lang/invoke/VarHandle" ∧ (parseMethodDescriptor yX8_addLand.desc).map (fun d => d.parameters.length) = some 2 := by decide +kernel
theorem hdV_X8_addLand : yX8_addLand.cls = RX8 ∧ yX8_addLand.cls ≠ "java/lang/invoke/MethodHandle" ∧ yX8_addLand.cls ≠ "java/lang/invoke/VarHandle" ∧ (parseMethodDescriptor yX8_addLand.desc).map (fun d => d.parameters.length) = some 2 := by decide +kernel
theorem hdS_X8_addBuyer : yX8_addBuyer.cls ≠ "java/lang/invoke/MethodHandle" ∧ yX8_addBuyer.cls ≠ "java/lang/invoke/VarHandle" ∧ (parseMethodDescriptor yX8_addBuyer.desc).map (fun d => d.parameters.length) = some 2 := by decide +kernel
theorem hdV_X8_addBuyer : yX8_addBuyer.cls = RX8 ∧ yX8_addBuyer.cls ≠ "java/lang/invoke/MethodHandle" ∧ yX8_addBuyer.cls ≠ "java/lang/invoke/VarHandle" ∧ (parseMethodDescriptor yX8_addBuyer.desc).map (fun d => d.parameters.length) = some 2 := by decide +kernel
theorem hdS_X8_addExporter : yX8_addExporter.cls ≠ "java/lang/invoke/MethodHandle" ∧ yX8_addExporter.cls ≠ "java/lang/invoke/VarHandle" ∧ (parseMethodDescriptor yX8_addExporter.desc).map (fun d => d.parameters.length) = some 0 := by decide +kernel
theorem hdV_X8_addExporter : yX8_addExporter.cls = RX8 ∧ yX8_addExporter.cls ≠ "java/lang/invoke/MethodHandle" ∧ yX8_addExporter.cls ≠ "java/lang/invoke/VarHandle" ∧ (parseMethodDescriptor yX8_addExporter.desc).map (fun d => d.parameters.length) = some 0 := by decide +kernel
theorem PJ.k {K : Kt} {G : Gt} {i x : Nat} (hi : i < 5) (h : PJ i K G x) : (K x).1 = i + 3 := by
  unfold PJ at h
  rcases (show i = 0 ∨ i = 1 ∨ i = 2 ∨ i = 3 ∨ i = 4 by omega) with rfl | rfl | rfl | rfl | rfl
  · exact h
  · exact h.1
  · exact h.1
  · exact h.1
  · exact h.1
theorem ce_j {X : Xt} {K : Kt} {F : Ft} {G : Gt} {i x : Nat} (hi : i < 5) (h : (K x).1 = i + 3) : ∃ fs, ce X K F G x = .inr (i + 2, fs) := by
  rcases (show i = 0 ∨ i = 1 ∨ i = 2 ∨ i = 3 ∨ i = 4 by omega) with rfl | rfl | rfl | rfl | rfl
  · exact ⟨_, ce_3 h⟩
  · exact ⟨_, ce_4 h⟩
  · exact ⟨_, ce_5 h⟩
  · exact ⟨_, ce_6 h⟩
  · exact ⟨_, ce_7 h⟩
theorem EL.j {X : Xt} {K : Kt} {F : Ft} {G : Gt} {i q : Nat} (hi : i < 5) (h : TLst (PJ i K G) K G q) : EL X K F G (i + 2) (gp G q 1) (K q).2 := by
  intro k hk y hy
  obtain ⟨e1, e2⟩ := h.2.2.2.2.2.2 k hk
  have hey : el G q k = y := Option.some.inj (e1.symm.trans hy)
  subst hey
  have hk2 := e2.k hi
  obtain ⟨fs, e3⟩ := ce_j (X := X) (F := F) (G := G) hi hk2
  exact ⟨by omega, by omega, fs, e3⟩
/-- add to a list of the office -/
theorem m_addJ (l : Launch) {n : Nat} {K : Kt} {F : Ft} {G : Gt} {a0 j e : Nat} (h : Str X K G a0) (hj : j < 5) (hs : (K (gp G a0 j)).2 ≤ 47) (he : PJ j K G e) : Mr X l yJx4a65c_add_9ea2d cJx4a65c_add_9ea2d 2 (some .boolean) 6 148 1 49 [.ref (gp G a0 j), .ref e] n K F G (fun o n' K' F' G' => o = some (.int 1) ∧ AddRel K F G (gp G a0 j) e n n' K' F' G') := by
  have hl := (h.1.lst hj).2
  have hk := he.k hj
  obtain ⟨fs, e3⟩ := ce_j (X := X) (F := F) (G := G) hj hk
  have hel := EL.j (X := X) (F := F) hj hl
  have k0 : (K e).1 ≠ 0 := by omega
  have k10 : (K e).1 ≠ 10 := by omega
  rcases (show j = 0 ∨ j = 1 ∨ j = 2 ∨ j = 3 ∨ j = 4 by omega) with rfl | rfl | rfl | rfl | rfl
  · exact m_Jx4a65c_add_9ea2d l (r := (RX5, TX5, 8)) hl.1 hl.2.2.1 hl.2.2.2.1 hl.2.2.2.2.1 hl.2.2.2.2.2.1 hs (h.2.2.2 0 hj) rfl nw_1482 hel k0 k10 e3
  · exact m_Jx4a65c_add_9ea2d l (r := (RX0, TX0, 5)) hl.1 hl.2.2.1 hl.2.2.2.1 hl.2.2.2.2.1 hl.2.2.2.2.2.1 hs (h.2.2.2 1 hj) rfl nw_1485 hel k0 k10 e3
  · exact m_Jx4a65c_add_9ea2d l (r := (RX4, TX4, 5)) hl.1 hl.2.2.1 hl.2.2.2.1 hl.2.2.2.2.1 hl.2.2.2.2.2.1 hs (h.2.2.2 2 hj) rfl nw_1483 hel k0 k10 e3
  · exact m_Jx4a65c_add_9ea2d l (r := (RX6, TX6, 7)) hl.1 hl.2.2.1 hl.2.2.2.1 hl.2.2.2.2.1 hl.2.2.2.2.2.1 hs (h.2.2.2 3 hj) rfl nw_1486 hel k0 k10 e3
  · exact m_Jx4a65c_add_9ea2d l (r := (RX7, TX7, 16)) hl.1 hl.2.2.1 hl.2.2.2.1 hl.2.2.2.2.1 hl.2.2.2.2.2.1 hs (h.2.2.2 4 hj) rfl nw_1487 hel k0 k10 e3
theorem ext_newK2 {K : Kt} {G : Gt} {n : Nat} {x y : Nat × Nat} (hfr : (K n).1 = 0) (hnn : n ≠ n + 1) (hfr2 : (K (n + 1)).1 = 0) : Ext (va_up K n x) (va_up G n (fun _ => none)) (va_up (va_up K n x) (n + 1) y) (va_up (va_up G n (fun _ => none)) (n + 1) (fun _ => none)) := ext_new (by rw [va_up_ne _ _ (Ne.symm hnn)]; exact hfr2)
def KB (K : Kt) (n : Nat) : Kt := va_up (va_up K n (4, 0)) (n + 1) (2, 0)
def GB (G : Gt) (n a1 : Nat) : Gt := up2 (up2 (va_up (va_up G n (fun _ => none)) (n + 1) (fun _ => none)) n 3 (some (n + 1))) n 1 (some a1)
def KE (K : Kt) (n : Nat) : Kt := va_up (va_up K n (5, 0)) (n + 1) (2, 0)
def GE (G : Gt) (n : Nat) : Gt := up2 (va_up (va_up G n (fun _ => none)) (n + 1) (fun _ => none)) n 1 (some (n + 1))
theorem new_buyer {K : Kt} {G : Gt} {n a1 : Nat} (hfr : (K n).1 = 0) (t1 : (K a1).1 = 3) (hfr2 : (K (n + 1)).1 = 0) : TBuyer (KB K n) (GB G n a1) n := by
  have n1 : n ≠ n + 1 := by omega
  have h1 : a1 ≠ n := kne hfr (by rw [t1]; decide)
  have h2 : a1 ≠ n + 1 := kne hfr2 (by rw [t1]; decide)
  have e1 : GB G n a1 n 1 = some a1 := up2_eq _ _ _ _
  have e3 : GB G n a1 n 3 = some (n + 1) := by unfold GB; rw [up2_k _ _ (by decide)]; exact up2_eq _ _ _ _
  refine ⟨by simp [KB, va_up], ⟨by rw [gp_eq e1]; exact e1, ?_⟩, ⟨by rw [gp_eq e3]; exact e3, ?_⟩⟩
  · rw [gp_eq e1]; unfold KB; rw [va_up_ne _ _ h2, va_up_ne _ _ h1]; exact t1
  · rw [gp_eq e3]; simp [KB, va_up]
theorem new_exp {K : Kt} {G : Gt} {n : Nat} : TExp (KE K n) (GE G n) n := by
  have e1 : GE G n n 1 = some (n + 1) := up2_eq _ _ _ _
  exact ⟨by simp [KE, va_up], ⟨by rw [gp_eq e1]; exact e1, by rw [gp_eq e1]; simp [KE, va_up]⟩⟩
theorem ext_B {K : Kt} {G : Gt} {n a1 : Nat} (hfr : (K n).1 = 0) (hfr2 : (K (n + 1)).1 = 0) : Ext K G (KB K n) (GB G n a1) := ext_up2 (ext_up2 ((ext_new hfr).tr (ext_newK2 hfr (by omega) hfr2)) hfr) hfr
theorem ext_E {K : Kt} {G : Gt} {n : Nat} (hfr : (K n).1 = 0) (hfr2 : (K (n + 1)).1 = 0) : Ext K G (KE K n) (GE G n) := ext_up2 ((ext_new hfr).tr (ext_newK2 hfr (by omega) hfr2)) hfr
theorem m_X8_addLand (l : Launch) {n : Nat} {K : Kt} {F : Ft} {G : Gt} {a0 : Nat} {x1 : Int32} {x2 : Int32} (t0 : Str X K G a0) (hs : (K (gp G a0 0)).2 ≤ 47) : Mr X l yX8_addLand cX8_addLand 4 (some (.object "Exportcover$Land")) 7 169 2 57 [.ref a0, .int x1, .int x2] n K F G (fun o n' K' F' G' => o = some (.ref n) ∧ (K n).1 = 0 ∧ ∃ F1 : Ft, (∀ a, a ≠ n → F1 a = F a) ∧ AddRel (va_up K n (3, 0)) F1 (va_up G n (fun _ => none)) (gp (va_up G n (fun _ => none)) a0 0) n (n + 1) n' K' F' G') := by
  refine Mr.of (lv := [(0, .ref a0), (1, .int x1), (2, .int x2)]) (by decide) (Nat.le_of_ble_eq_true rfl) rfl ?_
  intro p e s m args below meth c Q hC hin hQ
  have hC : Cx X p s m args meth c RX8 cX8_addLand 4 (some (.object "Exportcover$Land")) := hC
  refine v_fresh (fun hfr => ?_)
  have E : Ext K G (va_up K n (3, 0)) (va_up G n (fun _ => none)) := ext_new hfr
  have S0 := t0.ext E
  have hz0 : ((va_up K n (3, 0)) (gp (va_up G n (fun _ => none)) a0 0)).2 = (K (gp G a0 0)).2 := by
    rw [E.pp (by rw [t0.1.1]; decide) 0, (E _ (by rw [t0.k10 (i := 0) (by decide)]; decide)).1]
  refine nw_X8_94 hC (Nat.le_of_ble_eq_true rfl) (Nat.le_of_ble_eq_true rfl) dX8_addLand_0 ?_
  refine v_dup hC dX8_addLand_3 rfl ?_
  refine v_aload_n hC dX8_addLand_4 rfl 0 rfl ?_
  refine gf_X8_10 hC S0.1.1 S0.1.2.1.1 dX8_addLand_5 ?_
  refine v_callV (c2 := 1) (s2 := 8) (As := []) hC (m_Jx4a65c_size_8abf5 l S0.1.2.1.2.1) q_X8_89 (by rw [S0.1.2.1.2.1]; decide) (ce_10 S0.1.2.1.2.1) (ci := 9) rfl hdV_Jx4a65c_size_8abf5 rfl rfl (Nat.le_of_ble_eq_true rfl) (Nat.le_of_ble_eq_true rfl) (Nat.le_of_ble_eq_true rfl) (Nat.le_of_ble_eq_true rfl) (Nat.le_of_ble_eq_true rfl) (Nat.le_of_ble_eq_true rfl) (Nat.le_of_ble_eq_true rfl) dX8_addLand_8 ?_
  refine v_iload_n hC dX8_addLand_11 rfl 1 rfl ?_
  refine v_iload_n hC dX8_addLand_12 rfl 2 rfl ?_
  have tk : ((va_up K n (3, 0)) n).1 = 3 := congrArg Prod.fst kat
  refine v_callI (c2 := 1) (s2 := 8) (As := [.int (nI ((va_up K n (3, 0)) (gp (va_up G n (fun _ => none)) a0 0)).2), .int x1, .int x2]) hC (m_X5_init l (K := (va_up K n (3, 0))) (F := va_up F n (fun _ => 0)) (G := (va_up G n (fun _ => none))) (a0 := n) tk) q_X8_470 rfl hdS_X5_init rfl rfl (Nat.le_of_ble_eq_true rfl) (Nat.le_of_ble_eq_true rfl) (Nat.le_of_ble_eq_true rfl) (Nat.le_of_ble_eq_true rfl) (Nat.le_of_ble_eq_true rfl) (Nat.le_of_ble_eq_true rfl) (Nat.le_of_ble_eq_true rfl) dX8_addLand_13 ?_
  refine v_astore_n (i := 3) (lv' := [(3, .ref n), (0, .ref a0), (1, .int x1), (2, .int x2)]) hC dX8_addLand_16 rfl (by decide) rfl ?_
  have S1 : Str X (va_up K n (3, 0)) (va_up G n (fun _ => none)) a0 := t0.ext E
  have hpj : PJ 0 (va_up K n (3, 0)) (va_up G n (fun _ => none)) n := tk
  have hz1 : ((va_up K n (3, 0)) (gp (va_up G n (fun _ => none)) a0 0)).2 ≤ 47 := by
    rw [E.pp (by rw [t0.1.1]; decide) 0, (E _ (by rw [t0.k10 (i := 0) (by decide)]; decide)).1]; exact hs
  refine v_aload_n hC dX8_addLand_17 rfl 1 rfl ?_
  refine gf_X8_10 hC S1.1.1 S1.1.2.1.1 dX8_addLand_18 ?_
  refine v_aload_n hC dX8_addLand_21 rfl 0 rfl ?_
  refine v_rcallV (c2 := 2) (s2 := 57) (As := [.ref n]) hC (m_addJ l S1 (j := 0) (by decide) hz1 hpj) q_X8_172 (by rw [S1.1.2.1.2.1]; decide) (ce_10 S1.1.2.1.2.1) (ci := 9) rfl hdV_Jx4a65c_add_9ea2d rfl rfl (Nat.le_of_ble_eq_true rfl) (Nat.le_of_ble_eq_true rfl) (Nat.le_of_ble_eq_true rfl) (Nat.le_of_ble_eq_true rfl) (Nat.le_of_ble_eq_true rfl) (Nat.le_of_ble_eq_true rfl) (Nat.le_of_ble_eq_true rfl) dX8_addLand_22 ?_
  intro o n' K' F' G' hP
  obtain ⟨rfl, hA⟩ := hP
  refine v_pop hC dX8_addLand_25 rfl ?_
  refine v_aload_n hC dX8_addLand_26 rfl 0 rfl ?_
  refine v_toR hQ ⟨rfl, hfr, _, fun a ha => by simp [up2, va_up, ha], hA⟩ ?_
  exact v_aret hC rfl (Or.inl ⟨_, rfl⟩) rfl dX8_addLand_27 rfl rfl rfl rfl rfl
theorem m_X8_addBuyer (l : Launch) {n : Nat} {K : Kt} {F : Ft} {G : Gt} {a0 : Nat} {a1 : Nat} {x2 : Int32} (t0 : Str X K G a0) (hs : (K (gp G a0 1)).2 ≤ 47) (t1 : (K a1).1 = 3) : Mr X l yX8_addBuyer cX8_addBuyer 4 (some (.object "Exportcover$Buyer")) 7 169 3 55 [.ref a0, .ref a1, .int x2] n K F G (fun o n' K' F' G' => o = some (.ref n) ∧ (K n).1 = 0 ∧ (K (n + 1)).1 = 0 ∧ ∃ F1 : Ft, (∀ a, a ≠ n → a ≠ n + 1 → F1 a = F a) ∧ (F1 (n + 1) 0 = 0) ∧ AddRel (KB K n) F1 (GB G n a1) (gp (GB G n a1) a0 1) n (n + 1 + 1) n' K' F' G') := by
  refine Mr.of (lv := [(0, .ref a0), (1, .ref a1), (2, .int x2)]) (by decide) (Nat.le_of_ble_eq_true rfl) rfl ?_
  intro p e s m args below meth c Q hC hin hQ
  have hC : Cx X p s m args meth c RX8 cX8_addBuyer 4 (some (.object "Exportcover$Buyer")) := hC
  refine v_fresh (fun hfr => ?_)
  have E : Ext K G (va_up K n (4, 0)) (va_up G n (fun _ => none)) := ext_new hfr
  have S0 := t0.ext E
  have hz0 : ((va_up K n (4, 0)) (gp (va_up G n (fun _ => none)) a0 1)).2 = (K (gp G a0 1)).2 := by
    rw [E.pp (by rw [t0.1.1]; decide) 1, (E _ (by rw [t0.k10 (i := 1) (by decide)]; decide)).1]
  refine nw_X8_80 hC (Nat.le_of_ble_eq_true rfl) (Nat.le_of_ble_eq_true rfl) dX8_addBuyer_0 ?_
  refine v_fresh (fun hfrN => ?_)
  have hfr2 : (K (n + 1)).1 = 0 := by rw [va_up_ne _ _ (by omega)] at hfrN; exact hfrN
  refine v_dup hC dX8_addBuyer_3 rfl ?_
  refine v_aload_n hC dX8_addBuyer_4 rfl 0 rfl ?_
  refine gf_X8_16 hC S0.1.1 S0.1.2.2.1.1 dX8_addBuyer_5 ?_
  refine v_callV (c2 := 1) (s2 := 5) (As := []) hC (m_Jx4a65c_size_8abf5 l S0.1.2.2.1.2.1) q_X8_89 (by rw [S0.1.2.2.1.2.1]; decide) (ce_10 S0.1.2.2.1.2.1) (ci := 9) rfl hdV_Jx4a65c_size_8abf5 rfl rfl (Nat.le_of_ble_eq_true rfl) (Nat.le_of_ble_eq_true rfl) (Nat.le_of_ble_eq_true rfl) (Nat.le_of_ble_eq_true rfl) (Nat.le_of_ble_eq_true rfl) (Nat.le_of_ble_eq_true rfl) (Nat.le_of_ble_eq_true rfl) dX8_addBuyer_8 ?_
  refine v_aload_n hC dX8_addBuyer_11 rfl 1 rfl ?_
  refine v_iload_n hC dX8_addBuyer_12 rfl 2 rfl ?_
  have tk : ((va_up K n (4, 0)) n).1 = 4 := congrArg Prod.fst kat
  refine v_callI (c2 := 2) (s2 := 6) (As := [.int (nI ((va_up K n (4, 0)) (gp (va_up G n (fun _ => none)) a0 1)).2), .ref a1, .int x2]) hC (m_X0_init l (K := (va_up K n (4, 0))) (F := va_up F n (fun _ => 0)) (G := (va_up G n (fun _ => none))) (a0 := n) tk (E.k t1 (by decide))) q_X8_471 rfl hdS_X0_init rfl rfl (Nat.le_of_ble_eq_true rfl) (Nat.le_of_ble_eq_true rfl) (Nat.le_of_ble_eq_true rfl) (Nat.le_of_ble_eq_true rfl) (Nat.le_of_ble_eq_true rfl) (Nat.le_of_ble_eq_true rfl) (Nat.le_of_ble_eq_true rfl) dX8_addBuyer_13 ?_
  refine v_astore_n (i := 3) (lv' := [(3, .ref n), (0, .ref a0), (1, .ref a1), (2, .int x2)]) hC dX8_addBuyer_16 rfl (by decide) rfl ?_
  have E2 : Ext K G (KB K n) (GB G n a1) := ext_B hfr hfr2
  have S1 : Str X (KB K n) (GB G n a1) a0 := t0.ext E2
  have hpj : PJ 1 (KB K n) (GB G n a1) n := new_buyer hfr t1 hfr2
  have hz1 : ((KB K n) (gp (GB G n a1) a0 1)).2 ≤ 47 := by
    rw [E2.pp (by rw [t0.1.1]; decide) 1, (E2 _ (by rw [t0.k10 (i := 1) (by decide)]; decide)).1]; exact hs
  refine v_aload_n hC dX8_addBuyer_17 rfl 1 rfl ?_
  refine gf_X8_16 hC S1.1.1 S1.1.2.2.1.1 dX8_addBuyer_18 ?_
  refine v_aload_n hC dX8_addBuyer_21 rfl 0 rfl ?_
  refine v_rcallV (c2 := 3) (s2 := 55) (As := [.ref n]) hC (m_addJ l S1 (j := 1) (by decide) hz1 hpj) q_X8_172 (by rw [S1.1.2.2.1.2.1]; decide) (ce_10 S1.1.2.2.1.2.1) (ci := 9) rfl hdV_Jx4a65c_add_9ea2d rfl rfl (Nat.le_of_ble_eq_true rfl) (Nat.le_of_ble_eq_true rfl) (Nat.le_of_ble_eq_true rfl) (Nat.le_of_ble_eq_true rfl) (Nat.le_of_ble_eq_true rfl) (Nat.le_of_ble_eq_true rfl) (Nat.le_of_ble_eq_true rfl) dX8_addBuyer_22 ?_
  intro o n' K' F' G' hP
  obtain ⟨rfl, hA⟩ := hP
  refine v_pop hC dX8_addBuyer_25 rfl ?_
  refine v_aload_n hC dX8_addBuyer_26 rfl 0 rfl ?_
  refine v_toR hQ ⟨rfl, hfr, hfr2, _, fun a ha hb => by simp [up2, va_up, ha, hb], by simp [up2, va_up], hA⟩ ?_
  exact v_aret hC rfl (Or.inl ⟨_, rfl⟩) rfl dX8_addBuyer_27 rfl rfl rfl rfl rfl
theorem m_X8_addExporter (l : Launch) {n : Nat} {K : Kt} {F : Ft} {G : Gt} {a0 : Nat}  (t0 : Str X K G a0) (hs : (K (gp G a0 2)).2 ≤ 47) : Mr X l yX8_addExporter cX8_addExporter 2 (some (.object "Exportcover$Exporter")) 7 169 3 55 [.ref a0] n K F G (fun o n' K' F' G' => o = some (.ref n) ∧ (K n).1 = 0 ∧ (K (n + 1)).1 = 0 ∧ ∃ F1 : Ft, (∀ a, a ≠ n → a ≠ n + 1 → F1 a = F a) ∧ (F1 (n + 1) 0 = 0) ∧ AddRel (KE K n) F1 (GE G n) (gp (GE G n) a0 2) n (n + 1 + 1) n' K' F' G') := by
  refine Mr.of (lv := [(0, .ref a0)]) (by decide) (Nat.le_of_ble_eq_true rfl) rfl ?_
  intro p e s m args below meth c Q hC hin hQ
  have hC : Cx X p s m args meth c RX8 cX8_addExporter 2 (some (.object "Exportcover$Exporter")) := hC
  refine v_fresh (fun hfr => ?_)
  have E : Ext K G (va_up K n (5, 0)) (va_up G n (fun _ => none)) := ext_new hfr
  have S0 := t0.ext E
  have hz0 : ((va_up K n (5, 0)) (gp (va_up G n (fun _ => none)) a0 2)).2 = (K (gp G a0 2)).2 := by
    rw [E.pp (by rw [t0.1.1]; decide) 2, (E _ (by rw [t0.k10 (i := 2) (by decide)]; decide)).1]
  refine nw_X8_139 hC (Nat.le_of_ble_eq_true rfl) (Nat.le_of_ble_eq_true rfl) dX8_addExporter_0 ?_
  refine v_fresh (fun hfrN => ?_)
  have hfr2 : (K (n + 1)).1 = 0 := by rw [va_up_ne _ _ (by omega)] at hfrN; exact hfrN
  refine v_dup hC dX8_addExporter_3 rfl ?_
  refine v_aload_n hC dX8_addExporter_4 rfl 0 rfl ?_
  refine gf_X8_19 hC S0.1.1 S0.1.2.2.2.1.1 dX8_addExporter_5 ?_
  refine v_callV (c2 := 1) (s2 := 5) (As := []) hC (m_Jx4a65c_size_8abf5 l S0.1.2.2.2.1.2.1) q_X8_89 (by rw [S0.1.2.2.2.1.2.1]; decide) (ce_10 S0.1.2.2.2.1.2.1) (ci := 9) rfl hdV_Jx4a65c_size_8abf5 rfl rfl (Nat.le_of_ble_eq_true rfl) (Nat.le_of_ble_eq_true rfl) (Nat.le_of_ble_eq_true rfl) (Nat.le_of_ble_eq_true rfl) (Nat.le_of_ble_eq_true rfl) (Nat.le_of_ble_eq_true rfl) (Nat.le_of_ble_eq_true rfl) dX8_addExporter_8 ?_
  have tk : ((va_up K n (5, 0)) n).1 = 5 := congrArg Prod.fst kat
  refine v_callI (c2 := 2) (s2 := 6) (As := [.int (nI ((va_up K n (5, 0)) (gp (va_up G n (fun _ => none)) a0 2)).2)]) hC (m_X4_init l (K := (va_up K n (5, 0))) (F := va_up F n (fun _ => 0)) (G := (va_up G n (fun _ => none))) (a0 := n) tk) q_X8_474 rfl hdS_X4_init rfl rfl (Nat.le_of_ble_eq_true rfl) (Nat.le_of_ble_eq_true rfl) (Nat.le_of_ble_eq_true rfl) (Nat.le_of_ble_eq_true rfl) (Nat.le_of_ble_eq_true rfl) (Nat.le_of_ble_eq_true rfl) (Nat.le_of_ble_eq_true rfl) dX8_addExporter_11 ?_
  refine v_astore_n (i := 1) (lv' := [(1, .ref n), (0, .ref a0)]) hC dX8_addExporter_14 rfl (by decide) rfl ?_
  have E2 : Ext K G (KE K n) (GE G n) := ext_E hfr hfr2
  have S1 : Str X (KE K n) (GE G n) a0 := t0.ext E2
  have hpj : PJ 2 (KE K n) (GE G n) n := new_exp
  have hz1 : ((KE K n) (gp (GE G n) a0 2)).2 ≤ 47 := by
    rw [E2.pp (by rw [t0.1.1]; decide) 2, (E2 _ (by rw [t0.k10 (i := 2) (by decide)]; decide)).1]; exact hs
  refine v_aload_n hC dX8_addExporter_15 rfl 1 rfl ?_
  refine gf_X8_19 hC S1.1.1 S1.1.2.2.2.1.1 dX8_addExporter_16 ?_
  refine v_aload_n hC dX8_addExporter_19 rfl 0 rfl ?_
  refine v_rcallV (c2 := 3) (s2 := 55) (As := [.ref n]) hC (m_addJ l S1 (j := 2) (by decide) hz1 hpj) q_X8_172 (by rw [S1.1.2.2.2.1.2.1]; decide) (ce_10 S1.1.2.2.2.1.2.1) (ci := 9) rfl hdV_Jx4a65c_add_9ea2d rfl rfl (Nat.le_of_ble_eq_true rfl) (Nat.le_of_ble_eq_true rfl) (Nat.le_of_ble_eq_true rfl) (Nat.le_of_ble_eq_true rfl) (Nat.le_of_ble_eq_true rfl) (Nat.le_of_ble_eq_true rfl) (Nat.le_of_ble_eq_true rfl) dX8_addExporter_20 ?_
  intro o n' K' F' G' hP
  obtain ⟨rfl, hA⟩ := hP
  refine v_pop hC dX8_addExporter_23 rfl ?_
  refine v_aload_n hC dX8_addExporter_24 rfl 0 rfl ?_
  refine v_toR hQ ⟨rfl, hfr, hfr2, _, fun a ha hb => by simp [up2, va_up, ha, hb], by simp [up2, va_up], hA⟩ ?_
  exact v_aret hC rfl (Or.inl ⟨_, rfl⟩) rfl dX8_addExporter_25 rfl rfl rfl rfl rfl
theorem hdS_X8_land : yX8_land.cls ≠ "java/lang/invoke/MethodHandle" ∧ yX8_land.cls ≠ "java/lang/invoke/VarHandle" ∧ (parseMethodDescriptor yX8_land.desc).map (fun d => d.parameters.length) = some 2 := by decide +kernel
theorem hdV_X8_land : yX8_land.cls = RX8 ∧ yX8_land.cls ≠ "java/lang/invoke/MethodHandle" ∧ yX8_land.cls ≠ "java/lang/invoke/VarHandle" ∧ (parseMethodDescriptor yX8_land.desc).map (fun d => d.parameters.length) = some 2 := by decide +kernel
theorem hdS_X8_buyer : yX8_buyer.cls ≠ "java/lang/invoke/MethodHandle" ∧ yX8_buyer.cls ≠ "java/lang/invoke/VarHandle" ∧ (parseMethodDescriptor yX8_buyer.desc).map (fun d => d.parameters.length) = some 2 := by decide +kernel
theorem hdV_X8_buyer : yX8_buyer.cls = RX8 ∧ yX8_buyer.cls ≠ "java/lang/invoke/MethodHandle" ∧ yX8_buyer.cls ≠ "java/lang/invoke/VarHandle" ∧ (parseMethodDescriptor yX8_buyer.desc).map (fun d => d.parameters.length) = some 2 := by decide +kernel
theorem hdS_X8_exporter : yX8_exporter.cls ≠ "java/lang/invoke/MethodHandle" ∧ yX8_exporter.cls ≠ "java/lang/invoke/VarHandle" ∧ (parseMethodDescriptor yX8_exporter.desc).map (fun d => d.parameters.length) = some 0 := by decide +kernel
theorem hdV_X8_exporter : yX8_exporter.cls = RX8 ∧ yX8_exporter.cls ≠ "java/lang/invoke/MethodHandle" ∧ yX8_exporter.cls ≠ "java/lang/invoke/VarHandle" ∧ (parseMethodDescriptor yX8_exporter.desc).map (fun d => d.parameters.length) = some 0 := by decide +kernel
theorem hdS_X8_policy : yX8_policy.cls ≠ "java/lang/invoke/MethodHandle" ∧ yX8_policy.cls ≠ "java/lang/invoke/VarHandle" ∧ (parseMethodDescriptor yX8_policy.desc).map (fun d => d.parameters.length) = some 4 := by decide +kernel
theorem hdV_X8_policy : yX8_policy.cls = RX8 ∧ yX8_policy.cls ≠ "java/lang/invoke/MethodHandle" ∧ yX8_policy.cls ≠ "java/lang/invoke/VarHandle" ∧ (parseMethodDescriptor yX8_policy.desc).map (fun d => d.parameters.length) = some 4 := by decide +kernel
theorem m_X8_land (l : Launch) {n : Nat} {K : Kt} {F : Ft} {G : Gt} {a0 : Nat} {x1 x2 : Int32} (t0 : Str X K G a0) (hs : (K (gp G a0 0)).2 < 5) (h1 : ¬ f_X8_isWithin K F G x1 0 7 = 0) (h2 : ¬ f_X8_isWithin K F G x2 0 999999 = 0) : Mr X l yX8_land cX8_land 3 (some .int) 8 192 2 57 [.ref a0, .int x1, .int x2] n K F G (fun o n' K' F' G' => (∃ v, o = some (.int v)) ∧ (K n).1 = 0 ∧ ∃ F1 : Ft, (∀ a, a ≠ n → F1 a = F a) ∧ AddRel (va_up K n (3, 0)) F1 (va_up G n (fun _ => none)) (gp (va_up G n (fun _ => none)) a0 0) n (n + 1) n' K' F' G') := by
  refine Mr.of (lv := [(0, .ref a0), (1, .int x1), (2, .int x2)]) (by decide) (Nat.le_of_ble_eq_true rfl) rfl ?_
  intro p e s m args below meth c Q hC hin hQ
  have hC : Cx X p s m args meth c RX8 cX8_land 3 (some .int) := hC
  have tm := t0.1
  refine v_iload_n hC dX8_land_0 rfl 1 rfl ?_
  refine v_iconst (v := 0) hC dX8_land_1 (by decide) ?_
  refine v_bipush (v := 7) hC dX8_land_2 (by decide) ?_
  refine v_callS (c2 := 0) (s2 := 0) (As := [.int x1, .int 0, .int 7]) hC (m_X8_isWithin l) q_X8_44 hdS_X8_isWithin rfl rfl (Nat.le_of_ble_eq_true rfl) (Nat.le_of_ble_eq_true rfl) (Nat.le_of_ble_eq_true rfl) (Nat.le_of_ble_eq_true rfl) (Nat.le_of_ble_eq_true rfl) (Nat.le_of_ble_eq_true rfl) (Nat.le_of_ble_eq_true rfl) dX8_land_4 ?_
  refine v_if_eq (tgt := 24) hC dX8_land_7 (by decide) (fun q => absurd q h1) (fun _ => ?_)
  refine v_iload_n hC dX8_land_10 rfl 2 rfl ?_
  refine v_iconst (v := 0) hC dX8_land_11 (by decide) ?_
  refine v_ldc (v := 999999) hC aw_1120 dX8_land_12 ?_
  refine v_callS (c2 := 0) (s2 := 0) (As := [.int x2, .int 0, .int 999999]) hC (m_X8_isWithin l) q_X8_44 hdS_X8_isWithin rfl rfl (Nat.le_of_ble_eq_true rfl) (Nat.le_of_ble_eq_true rfl) (Nat.le_of_ble_eq_true rfl) (Nat.le_of_ble_eq_true rfl) (Nat.le_of_ble_eq_true rfl) (Nat.le_of_ble_eq_true rfl) (Nat.le_of_ble_eq_true rfl) dX8_land_14 ?_
  refine v_if_eq (tgt := 24) hC dX8_land_17 (by decide) (fun q => absurd q h2) (fun _ => ?_)
  refine v_iconst (v := 1) hC dX8_land_20 (by decide) ?_
  refine v_goto (tgt := 25) hC dX8_land_21 (by decide) ?_
  refine v_callS (c2 := 0) (s2 := 0) (As := [.int 1]) hC (m_X8_demandArgument l (by decide)) q_X8_48 hdS_X8_demandArgument rfl rfl (Nat.le_of_ble_eq_true rfl) (Nat.le_of_ble_eq_true rfl) (Nat.le_of_ble_eq_true rfl) (Nat.le_of_ble_eq_true rfl) (Nat.le_of_ble_eq_true rfl) (Nat.le_of_ble_eq_true rfl) (Nat.le_of_ble_eq_true rfl) dX8_land_25 ?_
  refine v_aload_n hC dX8_land_28 rfl 0 rfl ?_
  refine gf_X8_10 hC tm.1 tm.2.1.1 dX8_land_29 ?_
  refine v_callV (c2 := 0) (s2 := 0) (As := []) hC (m_Jx4a65c_size_8abf5 l tm.2.1.2.1) q_X8_89 (by rw [tm.2.1.2.1]; decide) (ce_10 tm.2.1.2.1) (ci := 9) rfl hdV_Jx4a65c_size_8abf5 rfl rfl (Nat.le_of_ble_eq_true rfl) (Nat.le_of_ble_eq_true rfl) (Nat.le_of_ble_eq_true rfl) (Nat.le_of_ble_eq_true rfl) (Nat.le_of_ble_eq_true rfl) (Nat.le_of_ble_eq_true rfl) (Nat.le_of_ble_eq_true rfl) dX8_land_32 ?_
  refine v_iconst (v := 5) hC dX8_land_35 (by decide) ?_
  refine v_icmp_ge (tgt := 43) hC dX8_land_36 (by decide) (fun q => absurd ((nI_leI (a := 5) (b := (K (gp G a0 0)).2) (by decide) (by omega)).mp q) (by omega)) (fun _ => ?_)
  refine v_iconst (v := 1) hC dX8_land_39 (by decide) ?_
  refine v_goto (tgt := 44) hC dX8_land_40 (by decide) ?_
  refine v_callS (c2 := 0) (s2 := 0) (As := [.int 1]) hC (m_X8_demandState l (by decide)) q_X8_56 hdS_X8_demandState rfl rfl (Nat.le_of_ble_eq_true rfl) (Nat.le_of_ble_eq_true rfl) (Nat.le_of_ble_eq_true rfl) (Nat.le_of_ble_eq_true rfl) (Nat.le_of_ble_eq_true rfl) (Nat.le_of_ble_eq_true rfl) (Nat.le_of_ble_eq_true rfl) dX8_land_44 ?_
  refine v_aload_n hC dX8_land_47 rfl 0 rfl ?_
  refine v_iload_n hC dX8_land_48 rfl 1 rfl ?_
  refine v_iload_n hC dX8_land_49 rfl 2 rfl ?_
  refine v_rcallV (c2 := 2) (s2 := 57) (As := [.int x1, .int x2]) hC (m_X8_addLand l t0 (by omega)) q_X8_63 (by rw [tm.1]; decide) (ce_1 tm.1) (ci := 0) rfl hdV_X8_addLand rfl rfl (Nat.le_of_ble_eq_true rfl) (Nat.le_of_ble_eq_true rfl) (Nat.le_of_ble_eq_true rfl) (Nat.le_of_ble_eq_true rfl) (Nat.le_of_ble_eq_true rfl) (Nat.le_of_ble_eq_true rfl) (Nat.le_of_ble_eq_true rfl) dX8_land_50 ?_
  intro o n' K' F' G' hP
  obtain ⟨rfl, hfr, F1, p1, hA⟩ := hP
  have kn : (K' n).1 = 3 := ((t0.ext (ext_new hfr)).ex2 (j := 0) (by decide) hA).k (congrArg Prod.fst kat)
  refine gf_X8_93 hC kn dX8_land_53 ?_
  refine v_toR hQ ⟨⟨F' n 0, rfl⟩, hfr, F1, p1, hA⟩ ?_
  exact v_iret hC rfl rfl dX8_land_56 rfl rfl rfl rfl rfl
theorem m_X8_buyer (l : Launch) {n : Nat} {K : Kt} {F : Ft} {G : Gt} {a0 x1 : Nat} {x2 : Int32} (t0 : Str X K G a0) (hi : x1 < (K (gp G a0 0)).2) (hs : (K (gp G a0 1)).2 < 12) (h1 : ¬ f_X8_isWithin K F G x2 0 5 = 0) : Mr X l yX8_buyer cX8_buyer 4 (some .int) 8 192 3 55 [.ref a0, .int (nI x1), .int x2] n K F G (fun o n' K' F' G' => (∃ v, o = some (.int v)) ∧ (K n).1 = 0 ∧ (K (n + 1)).1 = 0 ∧ ∃ F1 : Ft, (∀ a, a ≠ n → a ≠ n + 1 → F1 a = F a) ∧ (F1 (n + 1) 0 = 0) ∧ AddRel (KB K n) F1 (GB G n (el G (gp G a0 0) x1)) (gp (GB G n (el G (gp G a0 0) x1)) a0 1) n (n + 1 + 1) n' K' F' G') := by
  refine Mr.of (lv := [(0, .ref a0), (1, .int (nI x1)), (2, .int x2)]) (by decide) (Nat.le_of_ble_eq_true rfl) rfl ?_
  intro p e s m args below meth c Q hC hin hQ
  have hC : Cx X p s m args meth c RX8 cX8_buyer 4 (some .int) := hC
  have tm := t0.1
  have tl : (K (el G (gp G a0 0) x1)).1 = 3 := tm.2.1.2.el hi
  refine v_aload_n hC dX8_buyer_0 rfl 0 rfl ?_
  refine v_iload_n hC dX8_buyer_1 rfl 1 rfl ?_
  refine v_callV (c2 := 0) (s2 := 0) (As := [.int (nI x1)]) hC (m_X8_landAt l tm hi) q_X8_71 (by rw [tm.1]; decide) (ce_1 tm.1) (ci := 0) rfl hdV_X8_landAt rfl rfl (Nat.le_of_ble_eq_true rfl) (Nat.le_of_ble_eq_true rfl) (Nat.le_of_ble_eq_true rfl) (Nat.le_of_ble_eq_true rfl) (Nat.le_of_ble_eq_true rfl) (Nat.le_of_ble_eq_true rfl) (Nat.le_of_ble_eq_true rfl) dX8_buyer_2 ?_
  refine v_astore_n (i := 3) (lv' := [(3, .ref (el G (gp G a0 0) x1)), (0, .ref a0), (1, .int (nI x1)), (2, .int x2)]) hC dX8_buyer_5 rfl (by decide) rfl ?_
  refine v_iload_n hC dX8_buyer_6 rfl 3 rfl ?_
  refine v_iconst (v := 0) hC dX8_buyer_7 (by decide) ?_
  refine v_iconst (v := 5) hC dX8_buyer_8 (by decide) ?_
  refine v_callS (c2 := 0) (s2 := 0) (As := [.int x2, .int 0, .int 5]) hC (m_X8_isWithin l) q_X8_44 hdS_X8_isWithin rfl rfl (Nat.le_of_ble_eq_true rfl) (Nat.le_of_ble_eq_true rfl) (Nat.le_of_ble_eq_true rfl) (Nat.le_of_ble_eq_true rfl) (Nat.le_of_ble_eq_true rfl) (Nat.le_of_ble_eq_true rfl) (Nat.le_of_ble_eq_true rfl) dX8_buyer_9 ?_
  refine v_callS (c2 := 0) (s2 := 0) (As := [.int (f_X8_isWithin K F G x2 0 5)]) hC (m_X8_demandArgument l h1) q_X8_48 hdS_X8_demandArgument rfl rfl (Nat.le_of_ble_eq_true rfl) (Nat.le_of_ble_eq_true rfl) (Nat.le_of_ble_eq_true rfl) (Nat.le_of_ble_eq_true rfl) (Nat.le_of_ble_eq_true rfl) (Nat.le_of_ble_eq_true rfl) (Nat.le_of_ble_eq_true rfl) dX8_buyer_12 ?_
  refine v_aload_n hC dX8_buyer_15 rfl 1 rfl ?_
  refine gf_X8_16 hC tm.1 tm.2.2.1.1 dX8_buyer_16 ?_
  refine v_callV (c2 := 0) (s2 := 0) (As := []) hC (m_Jx4a65c_size_8abf5 l tm.2.2.1.2.1) q_X8_89 (by rw [tm.2.2.1.2.1]; decide) (ce_10 tm.2.2.1.2.1) (ci := 9) rfl hdV_Jx4a65c_size_8abf5 rfl rfl (Nat.le_of_ble_eq_true rfl) (Nat.le_of_ble_eq_true rfl) (Nat.le_of_ble_eq_true rfl) (Nat.le_of_ble_eq_true rfl) (Nat.le_of_ble_eq_true rfl) (Nat.le_of_ble_eq_true rfl) (Nat.le_of_ble_eq_true rfl) dX8_buyer_19 ?_
  refine v_bipush (v := 12) hC dX8_buyer_22 (by decide) ?_
  refine v_icmp_ge (tgt := 31) hC dX8_buyer_24 (by decide) (fun q => absurd ((nI_leI (a := 12) (b := (K (gp G a0 1)).2) (by decide) (by omega)).mp q) (by omega)) (fun _ => ?_)
  refine v_iconst (v := 1) hC dX8_buyer_27 (by decide) ?_
  refine v_goto (tgt := 32) hC dX8_buyer_28 (by decide) ?_
  refine v_callS (c2 := 0) (s2 := 0) (As := [.int 1]) hC (m_X8_demandState l (by decide)) q_X8_56 hdS_X8_demandState rfl rfl (Nat.le_of_ble_eq_true rfl) (Nat.le_of_ble_eq_true rfl) (Nat.le_of_ble_eq_true rfl) (Nat.le_of_ble_eq_true rfl) (Nat.le_of_ble_eq_true rfl) (Nat.le_of_ble_eq_true rfl) (Nat.le_of_ble_eq_true rfl) dX8_buyer_32 ?_
  refine v_aload_n hC dX8_buyer_35 rfl 1 rfl ?_
  refine v_aload_n hC dX8_buyer_36 rfl 0 rfl ?_
  refine v_iload_n hC dX8_buyer_37 rfl 3 rfl ?_
  refine v_rcallV (c2 := 3) (s2 := 55) (As := [.ref (el G (gp G a0 0) x1), .int x2]) hC (m_X8_addBuyer l t0 (by omega) tl) q_X8_75 (by rw [tm.1]; decide) (ce_1 tm.1) (ci := 0) rfl hdV_X8_addBuyer rfl rfl (Nat.le_of_ble_eq_true rfl) (Nat.le_of_ble_eq_true rfl) (Nat.le_of_ble_eq_true rfl) (Nat.le_of_ble_eq_true rfl) (Nat.le_of_ble_eq_true rfl) (Nat.le_of_ble_eq_true rfl) (Nat.le_of_ble_eq_true rfl) dX8_buyer_38 ?_
  intro o n' K' F' G' hP
  obtain ⟨rfl, hfr, hfr2, F1, p1, p2, hA⟩ := hP
  have kn : (K' n).1 = 4 := ((t0.ext (ext_B hfr hfr2)).ex2 (j := 1) (by decide) hA).k (new_buyer (G := G) hfr tl hfr2).1
  refine gf_X8_123 hC kn dX8_buyer_41 ?_
  refine v_toR hQ ⟨⟨F' n 0, rfl⟩, hfr, hfr2, F1, p1, p2, hA⟩ ?_
  exact v_iret hC rfl rfl dX8_buyer_44 rfl rfl rfl rfl rfl
theorem m_X8_exporter (l : Launch) {n : Nat} {K : Kt} {F : Ft} {G : Gt} {a0 : Nat} (t0 : Str X K G a0) (hs : (K (gp G a0 2)).2 < 6) : Mr X l yX8_exporter cX8_exporter 1 (some .int) 8 192 3 55 [.ref a0] n K F G (fun o n' K' F' G' => (∃ v, o = some (.int v)) ∧ (K n).1 = 0 ∧ (K (n + 1)).1 = 0 ∧ ∃ F1 : Ft, (∀ a, a ≠ n → a ≠ n + 1 → F1 a = F a) ∧ (F1 (n + 1) 0 = 0) ∧ AddRel (KE K n) F1 (GE G n) (gp (GE G n) a0 2) n (n + 1 + 1) n' K' F' G') := by
  refine Mr.of (lv := [(0, .ref a0)]) (by decide) (Nat.le_of_ble_eq_true rfl) rfl ?_
  intro p e s m args below meth c Q hC hin hQ
  have hC : Cx X p s m args meth c RX8 cX8_exporter 1 (some .int) := hC
  have tm := t0.1
  refine v_aload_n hC dX8_exporter_0 rfl 0 rfl ?_
  refine gf_X8_19 hC tm.1 tm.2.2.2.1.1 dX8_exporter_1 ?_
  refine v_callV (c2 := 0) (s2 := 0) (As := []) hC (m_Jx4a65c_size_8abf5 l tm.2.2.2.1.2.1) q_X8_89 (by rw [tm.2.2.2.1.2.1]; decide) (ce_10 tm.2.2.2.1.2.1) (ci := 9) rfl hdV_Jx4a65c_size_8abf5 rfl rfl (Nat.le_of_ble_eq_true rfl) (Nat.le_of_ble_eq_true rfl) (Nat.le_of_ble_eq_true rfl) (Nat.le_of_ble_eq_true rfl) (Nat.le_of_ble_eq_true rfl) (Nat.le_of_ble_eq_true rfl) (Nat.le_of_ble_eq_true rfl) dX8_exporter_4 ?_
  refine v_bipush (v := 6) hC dX8_exporter_7 (by decide) ?_
  refine v_icmp_ge (tgt := 16) hC dX8_exporter_9 (by decide) (fun q => absurd ((nI_leI (a := 6) (b := (K (gp G a0 2)).2) (by decide) (by omega)).mp q) (by omega)) (fun _ => ?_)
  refine v_iconst (v := 1) hC dX8_exporter_12 (by decide) ?_
  refine v_goto (tgt := 17) hC dX8_exporter_13 (by decide) ?_
  refine v_callS (c2 := 0) (s2 := 0) (As := [.int 1]) hC (m_X8_demandState l (by decide)) q_X8_56 hdS_X8_demandState rfl rfl (Nat.le_of_ble_eq_true rfl) (Nat.le_of_ble_eq_true rfl) (Nat.le_of_ble_eq_true rfl) (Nat.le_of_ble_eq_true rfl) (Nat.le_of_ble_eq_true rfl) (Nat.le_of_ble_eq_true rfl) (Nat.le_of_ble_eq_true rfl) dX8_exporter_17 ?_
  refine v_aload_n hC dX8_exporter_20 rfl 0 rfl ?_
  refine v_rcallV (c2 := 3) (s2 := 55) (As := []) hC (m_X8_addExporter l t0 (by omega)) q_X8_67 (by rw [tm.1]; decide) (ce_1 tm.1) (ci := 0) rfl hdV_X8_addExporter rfl rfl (Nat.le_of_ble_eq_true rfl) (Nat.le_of_ble_eq_true rfl) (Nat.le_of_ble_eq_true rfl) (Nat.le_of_ble_eq_true rfl) (Nat.le_of_ble_eq_true rfl) (Nat.le_of_ble_eq_true rfl) (Nat.le_of_ble_eq_true rfl) dX8_exporter_21 ?_
  intro o n' K' F' G' hP
  obtain ⟨rfl, hfr, hfr2, F1, p1, p2, hA⟩ := hP
  have kn : (K' n).1 = 5 := ((t0.ext (ext_E hfr hfr2)).ex2 (j := 2) (by decide) hA).k (new_exp (G := G)).1
  refine gf_X8_138 hC kn dX8_exporter_24 ?_
  refine v_toR hQ ⟨⟨F' n 0, rfl⟩, hfr, hfr2, F1, p1, p2, hA⟩ ?_
  exact v_iret hC rfl rfl dX8_exporter_27 rfl rfl rfl rfl rfl

end PM7
