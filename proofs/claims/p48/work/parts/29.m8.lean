section PM8
variable {X : Xt}
theorem hdS_X8_ship : yX8_ship.cls ≠ "java/lang/invoke/MethodHandle" ∧ yX8_ship.cls ≠ "java/lang/invoke/VarHandle" ∧ (parseMethodDescriptor yX8_ship.desc).map (fun d => d.parameters.length) = some 5 := by decide +kernel
theorem hdV_X8_ship : yX8_ship.cls = RX8 ∧ yX8_ship.cls ≠ "java/lang/invoke/MethodHandle" ∧ yX8_ship.cls ≠ "java/lang/invoke/VarHandle" ∧ (parseMethodDescriptor yX8_ship.desc).map (fun d => d.parameters.length) = some 5 := by decide +kernel
def KP (K : Kt) (n : Nat) : Kt := va_up (va_up K n (6, 0)) (n + 1) (20, 12)
def GP (G : Gt) (n ex : Nat) : Gt := up2 (up2 (va_up G n (fun _ => none)) n 5 (some (n + 1))) n 1 (some ex)
theorem ext_P {K : Kt} {G : Gt} {n ex : Nat} (hfr : (K n).1 = 0) (hfr2 : (K (n + 1)).1 = 0) : Ext K G (KP K n) (GP G n ex) := ext_up2 (ext_up2 ((ext_new hfr).tr (ext_newK (by rw [va_up_ne _ _ (by omega)]; exact hfr2))) hfr) hfr
theorem new_pol {K : Kt} {G : Gt} {n ex : Nat} (hfr : (K n).1 = 0) (hfr2 : (K (n + 1)).1 = 0) (t : TExp K G ex) : TPol (KP K n) (GP G n ex) n := by
  have e1 : GP G n ex n 1 = some ex := up2_eq _ _ _ _
  have e5 : GP G n ex n 5 = some (n + 1) := by unfold GP; rw [up2_k _ _ (by decide)]; exact up2_eq _ _ _ _
  refine ⟨by simp [KP, va_up], ⟨by rw [gp_eq e1]; exact e1, ?_⟩, ⟨by rw [gp_eq e5]; exact e5, ?_⟩⟩
  · rw [gp_eq e1]; exact t.ext (ext_P hfr hfr2)
  · rw [gp_eq e5]; simp [KP, va_up]
def KS (K : Kt) (n : Nat) : Kt := va_up K n (7, 0)
def GS (G : Gt) (n po bu : Nat) : Gt := up2 (up2 (va_up G n (fun _ => none)) n 0 (some po)) n 1 (some bu)
theorem ext_S {K : Kt} {G : Gt} {n po bu : Nat} (hfr : (K n).1 = 0) : Ext K G (KS K n) (GS G n po bu) := ext_up2 (ext_up2 (ext_new hfr) hfr) hfr
theorem new_ship {K : Kt} {G : Gt} {n po bu : Nat} (hfr : (K n).1 = 0) (t1 : TPol K G po) (t2 : TBuyer K G bu) : TShip (KS K n) (GS G n po bu) n := by
  have e0 : GS G n po bu n 0 = some po := by unfold GS; rw [up2_k _ _ (by decide)]; exact up2_eq _ _ _ _
  have e1 : GS G n po bu n 1 = some bu := up2_eq _ _ _ _
  have ek : ∀ k, k ≠ 0 → k ≠ 1 → GS G n po bu n k = none := fun k h0 h1 => by simp [GS, up2, va_up, h0, h1]
  refine ⟨by simp [KS, va_up], ⟨by rw [gp_eq e0]; exact e0, ?_⟩, ⟨by rw [gp_eq e1]; exact e1, ?_⟩, fun h => absurd (ek 14 (by decide) (by decide)) h, fun h => absurd (ek 15 (by decide) (by decide)) h⟩
  · rw [gp_eq e0]; exact t1.ext (ext_S hfr)
  · rw [gp_eq e1]; exact t2.ext (ext_S hfr)
theorem m_X8_policy (l : Launch) {n : Nat} {K : Kt} {F : Ft} {G : Gt} {a0 x1 : Nat} {x2 x3 x4 : Int32} (t0 : Str X K G a0) (hi : x1 < (K (gp G a0 2)).2) (hs : (K (gp G a0 3)).2 < 8) (h1 : ¬ f_X8_isWithin K F G x3 (-1) 1 = 0) (h2 : ¬ f_X8_isWithin K F G x2 50 95 = 0) (h3 : ¬ f_X8_isWithin K F G x4 0 (if x3 = -1 then 0 else 60) = 0) : Mr X l yX8_policy cX8_policy 7 (some .int) 7 169 3 68 [.ref a0, .int (nI x1), .int x2, .int x3, .int x4] n K F G (fun o n' K' F' G' => (∃ v, o = some (.int v)) ∧ (K n).1 = 0 ∧ (K (n + 1)).1 = 0 ∧ ∃ F1 : Ft, (∀ a, a ≠ n → a ≠ n + 1 → F1 a = F a) ∧ F1 n 0 = nI (K (gp G a0 3)).2 ∧ F1 n 2 = x2 ∧ F1 n 3 = x3 ∧ F1 n 4 = x4 ∧ F1 n 6 = 0 ∧ AddRel (KP K n) F1 (GP G n (el G (gp G a0 2) x1)) (gp (GP G n (el G (gp G a0 2) x1)) a0 3) n (n + 1 + 1) n' K' F' G') := by
  refine Mr.of (lv := [(0, .ref a0), (1, .int (nI x1)), (2, .int x2), (3, .int x3), (4, .int x4)]) (by decide) (Nat.le_of_ble_eq_true rfl) rfl ?_
  intro p e s m args below meth c Q hC hin hQ
  have hC : Cx X p s m args meth c RX8 cX8_policy 7 (some .int) := hC
  have tm := t0.1
  have te : TExp K G (el G (gp G a0 2) x1) := tm.2.2.2.1.2.el hi
  refine v_aload_n hC dX8_policy_0 rfl 0 rfl ?_
  refine v_iload_n hC dX8_policy_1 rfl 1 rfl ?_
  refine v_callV (c2 := 0) (s2 := 0) (As := [.int (nI x1)]) hC (m_X8_exporterAt l tm hi) q_X8_141 (by rw [tm.1]; decide) (ce_1 tm.1) (ci := 0) rfl hdV_X8_exporterAt rfl rfl (Nat.le_of_ble_eq_true rfl) (Nat.le_of_ble_eq_true rfl) (Nat.le_of_ble_eq_true rfl) (Nat.le_of_ble_eq_true rfl) (Nat.le_of_ble_eq_true rfl) (Nat.le_of_ble_eq_true rfl) (Nat.le_of_ble_eq_true rfl) dX8_policy_2 ?_
  refine v_astore (i := 5) (lv' := [(5, .ref (el G (gp G a0 2) x1)), (0, .ref a0), (1, .int (nI x1)), (2, .int x2), (3, .int x3), (4, .int x4)]) hC dX8_policy_5 (by decide) rfl ?_
  refine v_iload_n hC dX8_policy_7 rfl 4 rfl ?_
  refine v_callS (c2 := 0) (s2 := 0) (As := [.int x3]) hC (m_X8_demandRival l h1) q_X8_163 hdS_X8_demandRival rfl rfl (Nat.le_of_ble_eq_true rfl) (Nat.le_of_ble_eq_true rfl) (Nat.le_of_ble_eq_true rfl) (Nat.le_of_ble_eq_true rfl) (Nat.le_of_ble_eq_true rfl) (Nat.le_of_ble_eq_true rfl) (Nat.le_of_ble_eq_true rfl) dX8_policy_8 ?_
  refine v_iload_n hC dX8_policy_11 rfl 3 rfl ?_
  refine v_bipush (v := 50) hC dX8_policy_12 (by decide) ?_
  refine v_bipush (v := 95) hC dX8_policy_14 (by decide) ?_
  refine v_callS (c2 := 0) (s2 := 0) (As := [.int x2, .int 50, .int 95]) hC (m_X8_isWithin l) q_X8_44 hdS_X8_isWithin rfl rfl (Nat.le_of_ble_eq_true rfl) (Nat.le_of_ble_eq_true rfl) (Nat.le_of_ble_eq_true rfl) (Nat.le_of_ble_eq_true rfl) (Nat.le_of_ble_eq_true rfl) (Nat.le_of_ble_eq_true rfl) (Nat.le_of_ble_eq_true rfl) dX8_policy_16 ?_
  refine v_callS (c2 := 0) (s2 := 0) (As := [.int (f_X8_isWithin K F G x2 50 95)]) hC (m_X8_demandArgument l h2) q_X8_48 hdS_X8_demandArgument rfl rfl (Nat.le_of_ble_eq_true rfl) (Nat.le_of_ble_eq_true rfl) (Nat.le_of_ble_eq_true rfl) (Nat.le_of_ble_eq_true rfl) (Nat.le_of_ble_eq_true rfl) (Nat.le_of_ble_eq_true rfl) (Nat.le_of_ble_eq_true rfl) dX8_policy_19 ?_
  have KJ : ∀ u : Int32, ¬ f_X8_isWithin K F G x4 0 u = 0 → V X 7 p l e ({ frames := 7, cells := 3, slots := 68, locals := 169 } : Room) s m args below meth c Q 0 0 n K F G [(5, .ref (el G (gp G a0 2) x1)), (0, .ref a0), (1, .int (nI x1)), (2, .int x2), (3, .int x3), (4, .int x4)] 36 [.int u, .int 0, .int x4] := by
    intro u hu
    refine v_callS (c2 := 0) (s2 := 0) (As := [.int x4, .int 0, .int u]) hC (m_X8_isWithin l) q_X8_44 hdS_X8_isWithin rfl rfl (Nat.le_of_ble_eq_true rfl) (Nat.le_of_ble_eq_true rfl) (Nat.le_of_ble_eq_true rfl) (Nat.le_of_ble_eq_true rfl) (Nat.le_of_ble_eq_true rfl) (Nat.le_of_ble_eq_true rfl) (Nat.le_of_ble_eq_true rfl) dX8_policy_36 ?_
    refine v_callS (c2 := 0) (s2 := 0) (As := [.int (f_X8_isWithin K F G x4 0 u)]) hC (m_X8_demandArgument l hu) q_X8_48 hdS_X8_demandArgument rfl rfl (Nat.le_of_ble_eq_true rfl) (Nat.le_of_ble_eq_true rfl) (Nat.le_of_ble_eq_true rfl) (Nat.le_of_ble_eq_true rfl) (Nat.le_of_ble_eq_true rfl) (Nat.le_of_ble_eq_true rfl) (Nat.le_of_ble_eq_true rfl) dX8_policy_39 ?_
    refine v_aload_n hC dX8_policy_42 rfl 1 rfl ?_
    refine gf_X8_22 hC tm.1 tm.2.2.2.2.1.1 dX8_policy_43 ?_
    refine v_callV (c2 := 0) (s2 := 0) (As := []) hC (m_Jx4a65c_size_8abf5 l tm.2.2.2.2.1.2.1) q_X8_89 (by rw [tm.2.2.2.2.1.2.1]; decide) (ce_10 tm.2.2.2.2.1.2.1) (ci := 9) rfl hdV_Jx4a65c_size_8abf5 rfl rfl (Nat.le_of_ble_eq_true rfl) (Nat.le_of_ble_eq_true rfl) (Nat.le_of_ble_eq_true rfl) (Nat.le_of_ble_eq_true rfl) (Nat.le_of_ble_eq_true rfl) (Nat.le_of_ble_eq_true rfl) (Nat.le_of_ble_eq_true rfl) dX8_policy_46 ?_
    refine v_bipush (v := 8) hC dX8_policy_49 (by decide) ?_
    refine v_icmp_ge (tgt := 58) hC dX8_policy_51 (by decide) (fun q => absurd ((nI_leI (a := 8) (b := (K (gp G a0 3)).2) (by decide) (by omega)).mp q) (by omega)) (fun _ => ?_)
    refine v_iconst (v := 1) hC dX8_policy_54 (by decide) ?_
    refine v_goto (tgt := 59) hC dX8_policy_55 (by decide) ?_
    refine v_callS (c2 := 0) (s2 := 0) (As := [.int 1]) hC (m_X8_demandState l (by decide)) q_X8_56 hdS_X8_demandState rfl rfl (Nat.le_of_ble_eq_true rfl) (Nat.le_of_ble_eq_true rfl) (Nat.le_of_ble_eq_true rfl) (Nat.le_of_ble_eq_true rfl) (Nat.le_of_ble_eq_true rfl) (Nat.le_of_ble_eq_true rfl) (Nat.le_of_ble_eq_true rfl) dX8_policy_59 ?_
    refine v_fresh (fun hfr => ?_)
    have E : Ext K G (va_up K n (6, 0)) (va_up G n (fun _ => none)) := ext_new hfr
    have S0 := t0.ext E
    have hz0 : ((va_up K n (6, 0)) (gp (va_up G n (fun _ => none)) a0 3)).2 = (K (gp G a0 3)).2 := by
      rw [E.pp (by rw [t0.1.1]; decide) 3, (E _ (by rw [t0.k10 (i := 3) (by decide)]; decide)).1]
    refine nw_X8_167 hC (Nat.le_of_ble_eq_true rfl) (Nat.le_of_ble_eq_true rfl) dX8_policy_62 ?_
    refine v_fresh (fun hfrN => ?_)
    have hfr2 : (K (n + 1)).1 = 0 := by rw [va_up_ne _ _ (by omega)] at hfrN; exact hfrN
    refine v_dup hC dX8_policy_65 rfl ?_
    refine v_aload_n hC dX8_policy_66 rfl 1 rfl ?_
    refine gf_X8_22 hC S0.1.1 S0.1.2.2.2.2.1.1 dX8_policy_67 ?_
    refine v_callV (c2 := 1) (s2 := 7) (As := []) hC (m_Jx4a65c_size_8abf5 l S0.1.2.2.2.2.1.2.1) q_X8_89 (by rw [S0.1.2.2.2.2.1.2.1]; decide) (ce_10 S0.1.2.2.2.2.1.2.1) (ci := 9) rfl hdV_Jx4a65c_size_8abf5 rfl rfl (Nat.le_of_ble_eq_true rfl) (Nat.le_of_ble_eq_true rfl) (Nat.le_of_ble_eq_true rfl) (Nat.le_of_ble_eq_true rfl) (Nat.le_of_ble_eq_true rfl) (Nat.le_of_ble_eq_true rfl) (Nat.le_of_ble_eq_true rfl) dX8_policy_70 ?_
    rw [hz0]
    refine v_aload hC dX8_policy_73 0 rfl ?_
    refine v_iload_n hC dX8_policy_75 rfl 3 rfl ?_
    refine v_iload_n hC dX8_policy_76 rfl 4 rfl ?_
    refine v_iload hC dX8_policy_77 5 rfl ?_
    refine v_callI (c2 := 2) (s2 := 19) (As := [.int (nI (K (gp G a0 3)).2), .ref (el G (gp G a0 2) x1), .int x2, .int x3, .int x4]) hC (m_X6_init l (K := va_up K n (6, 0)) (F := va_up F n (fun _ => 0)) (G := va_up G n (fun _ => none)) (a0 := n) (congrArg Prod.fst kat) (te.ext E)) q_X8_169 rfl hdS_X6_init rfl rfl (Nat.le_of_ble_eq_true rfl) (Nat.le_of_ble_eq_true rfl) (Nat.le_of_ble_eq_true rfl) (Nat.le_of_ble_eq_true rfl) (Nat.le_of_ble_eq_true rfl) (Nat.le_of_ble_eq_true rfl) (Nat.le_of_ble_eq_true rfl) dX8_policy_79 ?_
    refine v_astore (i := 6) (lv' := [(6, .ref n), (5, .ref (el G (gp G a0 2) x1)), (0, .ref a0), (1, .int (nI x1)), (2, .int x2), (3, .int x3), (4, .int x4)]) hC dX8_policy_82 (by decide) rfl ?_
    have E2 : Ext K G (KP K n) (GP G n (el G (gp G a0 2) x1)) := ext_P hfr hfr2
    have S1 : Str X (KP K n) (GP G n (el G (gp G a0 2) x1)) a0 := t0.ext E2
    have hpj : PJ 3 (KP K n) (GP G n (el G (gp G a0 2) x1)) n := new_pol hfr hfr2 te
    have hz1 : ((KP K n) (gp (GP G n (el G (gp G a0 2) x1)) a0 3)).2 ≤ 47 := by
      rw [E2.pp (by rw [t0.1.1]; decide) 3, (E2 _ (by rw [t0.k10 (i := 3) (by decide)]; decide)).1]; omega
    refine v_aload_n hC dX8_policy_84 rfl 2 rfl ?_
    refine gf_X8_22 hC S1.1.1 S1.1.2.2.2.2.1.1 dX8_policy_85 ?_
    refine v_aload hC dX8_policy_88 0 rfl ?_
    refine v_rcallV (c2 := 3) (s2 := 68) (As := [.ref n]) hC (m_addJ l S1 (j := 3) (by decide) hz1 hpj) q_X8_172 (by rw [S1.1.2.2.2.2.1.2.1]; decide) (ce_10 S1.1.2.2.2.2.1.2.1) (ci := 9) rfl hdV_Jx4a65c_add_9ea2d rfl rfl (Nat.le_of_ble_eq_true rfl) (Nat.le_of_ble_eq_true rfl) (Nat.le_of_ble_eq_true rfl) (Nat.le_of_ble_eq_true rfl) (Nat.le_of_ble_eq_true rfl) (Nat.le_of_ble_eq_true rfl) (Nat.le_of_ble_eq_true rfl) dX8_policy_90 ?_
    intro o n' K' F' G' hP
    obtain ⟨rfl, hA⟩ := hP
    have kn : (K' n).1 = 6 := (S1.ex2 (j := 3) (by decide) hA).k hpj.1
    refine v_pop hC dX8_policy_93 rfl ?_
    refine v_aload hC dX8_policy_94 0 rfl ?_
    refine gf_X8_176 hC kn dX8_policy_96 ?_
    refine v_toR hQ ⟨⟨F' n 0, rfl⟩, hfr, hfr2, _, fun a ha hb => by simp [up2, va_up, ha, hb], by simp [up2, va_up], by simp [up2, va_up], by simp [up2, va_up], by simp [up2, va_up], by simp [up2, va_up], hA⟩ ?_
    exact v_iret hC rfl rfl dX8_policy_99 rfl rfl rfl rfl rfl
  refine v_iload hC dX8_policy_22 5 rfl ?_
  refine v_iconst (v := 0) hC dX8_policy_24 (by decide) ?_
  refine v_iload_n hC dX8_policy_25 rfl 4 rfl ?_
  refine v_iconst (v := -1) hC dX8_policy_26 (by decide) ?_
  refine v_icmp_ne (tgt := 34) hC dX8_policy_27 (by decide) (fun q => ?_) (fun q => ?_)
  · refine v_bipush (v := 60) hC dX8_policy_34 (by decide) ?_
    exact KJ 60 (by rw [if_neg q] at h3; exact h3)
  · refine v_iconst (v := 0) hC dX8_policy_30 (by decide) ?_
    refine v_goto (tgt := 36) hC dX8_policy_31 (by decide) ?_
    exact KJ 0 (by rw [if_pos q] at h3; exact h3)
/-- what ship writes into its new cell -/
def FS0 (F : Ft) (n : Nat) (am day due fk : Int32) : Ft := up2 (up2 (up2 (up2 (up2 (va_up F n (fun _ => 0)) n 2 am) n 3 day) n 4 due) n 5 fk) n 10 am
theorem m_X8_ship (l : Launch) {n : Nat} {K : Kt} {F : Ft} {G : Gt} {a0 x1 x2 : Nat} {x3 x4 x5 : Int32} (t0 : Str X K G a0) (hi : x1 < (K (gp G a0 3)).2) (hj : x2 < (K (gp G a0 1)).2) (h1 : ¬ f_X8_isWithin K F G x3 1 99999 = 0) (h2 : ¬ f_X8_isWithin K F G x4 30 3600 = 0) (hs : (K (gp G a0 4)).2 ≤ 47) (t5 : x5 = 0 ∨ x5 = 1) : Mr X l yX8_ship cX8_ship 11 (some .int) 7 169 2 65 [.ref a0, .int (nI x1), .int (nI x2), .int x3, .int x4, .int x5] n K F G (fun o n' K' F' G' => (∃ v, o = some (.int v)) ∧ (K n).1 = 0 ∧ ∃ (F1 F2 : Ft) (r rs w : Int32),
      F1 = f_X7_keepTerms (KS K n) (FS0 F n x3 (F a0 9) (F a0 9 + x4) x5) (GS G n (el G (gp G a0 3) x1) (el G (gp G a0 1) x2)) n r (f_X8_insuredOf (KS K n) (FS0 F n x3 (F a0 9) (F a0 9 + x4) x5) (GS G n (el G (gp G a0 3) x1) (el G (gp G a0 1) x2)) a0 (el G (gp G a0 3) x1) (el G (gp G a0 1) x2) x3 x4) rs ∧
      AddRel (KS K n) F1 (GS G n (el G (gp G a0 3) x1) (el G (gp G a0 1) x2)) (gp (GS G n (el G (gp G a0 3) x1) (el G (gp G a0 1) x2)) a0 4) n (n + 1) n' K' F2 G' ∧
      F' = f_X8_takePremium K' (up2 F2 (gp G' (el G (gp G a0 3) x1) 1) 4 w) G' a0 n) := by
  refine Mr.of (lv := [(0, .ref a0), (1, .int (nI x1)), (2, .int (nI x2)), (3, .int x3), (4, .int x4), (5, .int x5)]) (by decide) (Nat.le_of_ble_eq_true rfl) rfl ?_
  intro p e s m args below meth c Q hC hin hQ
  have hC : Cx X p s m args meth c RX8 cX8_ship 11 (some .int) := hC
  have tm := t0.1
  have tp : TPol K G (el G (gp G a0 3) x1) := tm.2.2.2.2.1.2.el hi
  have tb : TBuyer K G (el G (gp G a0 1) x2) := tm.2.2.1.2.el hj
  generalize hpo : el G (gp G a0 3) x1 = po at tp hQ ⊢
  generalize hbu : el G (gp G a0 1) x2 = bu at tb hQ ⊢
  refine v_aload_n hC dX8_ship_0 rfl 0 rfl ?_
  refine v_iload_n hC dX8_ship_1 rfl 1 rfl ?_
  refine v_callV (c2 := 0) (s2 := 0) (As := [.int (nI x1)]) hC (m_X8_policyAt l tm hi) q_X8_177 (by rw [tm.1]; decide) (ce_1 tm.1) (ci := 0) rfl hdV_X8_policyAt rfl rfl (Nat.le_of_ble_eq_true rfl) (Nat.le_of_ble_eq_true rfl) (Nat.le_of_ble_eq_true rfl) (Nat.le_of_ble_eq_true rfl) (Nat.le_of_ble_eq_true rfl) (Nat.le_of_ble_eq_true rfl) (Nat.le_of_ble_eq_true rfl) dX8_ship_2 ?_
  rw [hpo]
  refine v_astore (i := 6) (lv' := [(6, .ref po), (0, .ref a0), (1, .int (nI x1)), (2, .int (nI x2)), (3, .int x3), (4, .int x4), (5, .int x5)]) hC dX8_ship_5 (by decide) rfl ?_
  refine v_aload_n hC dX8_ship_7 rfl 1 rfl ?_
  refine v_iload_n hC dX8_ship_8 rfl 3 rfl ?_
  refine v_callV (c2 := 0) (s2 := 0) (As := [.int (nI x2)]) hC (m_X8_buyerAt l tm hj) q_X8_124 (by rw [tm.1]; decide) (ce_1 tm.1) (ci := 0) rfl hdV_X8_buyerAt rfl rfl (Nat.le_of_ble_eq_true rfl) (Nat.le_of_ble_eq_true rfl) (Nat.le_of_ble_eq_true rfl) (Nat.le_of_ble_eq_true rfl) (Nat.le_of_ble_eq_true rfl) (Nat.le_of_ble_eq_true rfl) (Nat.le_of_ble_eq_true rfl) dX8_ship_9 ?_
  rw [hbu]
  refine v_astore (i := 7) (lv' := [(7, .ref bu), (6, .ref po), (0, .ref a0), (1, .int (nI x1)), (2, .int (nI x2)), (3, .int x3), (4, .int x4), (5, .int x5)]) hC dX8_ship_12 (by decide) rfl ?_
  refine v_iload_n hC dX8_ship_14 rfl 5 rfl ?_
  refine v_iload hC dX8_ship_15 6 rfl ?_
  refine v_callS (c2 := 0) (s2 := 0) (As := [.int x3, .int x4]) hC (m_X8_demandGoods l h1 h2) q_X8_198 hdS_X8_demandGoods rfl rfl (Nat.le_of_ble_eq_true rfl) (Nat.le_of_ble_eq_true rfl) (Nat.le_of_ble_eq_true rfl) (Nat.le_of_ble_eq_true rfl) (Nat.le_of_ble_eq_true rfl) (Nat.le_of_ble_eq_true rfl) (Nat.le_of_ble_eq_true rfl) dX8_ship_17 ?_
  refine v_aload_n hC dX8_ship_20 rfl 2 rfl ?_
  refine gf_X8_25 hC tm.1 tm.2.2.2.2.2.1.1 dX8_ship_21 ?_
  refine v_callV (c2 := 0) (s2 := 0) (As := []) hC (m_Jx4a65c_size_8abf5 l tm.2.2.2.2.2.1.2.1) q_X8_89 (by rw [tm.2.2.2.2.2.1.2.1]; decide) (ce_10 tm.2.2.2.2.2.1.2.1) (ci := 9) rfl hdV_Jx4a65c_size_8abf5 rfl rfl (Nat.le_of_ble_eq_true rfl) (Nat.le_of_ble_eq_true rfl) (Nat.le_of_ble_eq_true rfl) (Nat.le_of_ble_eq_true rfl) (Nat.le_of_ble_eq_true rfl) (Nat.le_of_ble_eq_true rfl) (Nat.le_of_ble_eq_true rfl) dX8_ship_24 ?_
  refine v_bipush (v := 48) hC dX8_ship_27 (by decide) ?_
  refine v_icmp_ge (tgt := 36) hC dX8_ship_29 (by decide) (fun q => absurd ((nI_leI (a := 48) (b := (K (gp G a0 4)).2) (by decide) (by omega)).mp q) (by omega)) (fun _ => ?_)
  refine v_iconst (v := 1) hC dX8_ship_32 (by decide) ?_
  refine v_goto (tgt := 37) hC dX8_ship_33 (by decide) ?_
  refine v_callS (c2 := 0) (s2 := 0) (As := [.int 1]) hC (m_X8_demandState l (by decide)) q_X8_56 hdS_X8_demandState rfl rfl (Nat.le_of_ble_eq_true rfl) (Nat.le_of_ble_eq_true rfl) (Nat.le_of_ble_eq_true rfl) (Nat.le_of_ble_eq_true rfl) (Nat.le_of_ble_eq_true rfl) (Nat.le_of_ble_eq_true rfl) (Nat.le_of_ble_eq_true rfl) dX8_ship_37 ?_
  refine v_fresh (fun hfr => ?_)
  have E : Ext K G (va_up K n (7, 0)) (va_up G n (fun _ => none)) := ext_new hfr
  have k1 : (K a0).1 ≠ 0 := by rw [tm.1]; decide
  have han : a0 ≠ n := kne hfr k1
  refine nw_X8_201 hC (Nat.le_of_ble_eq_true rfl) (Nat.le_of_ble_eq_true rfl) dX8_ship_40 ?_
  refine v_dup hC dX8_ship_43 rfl ?_
  refine v_aload hC dX8_ship_44 1 rfl ?_
  refine v_aload hC dX8_ship_46 0 rfl ?_
  refine v_iload_n hC dX8_ship_48 rfl 5 rfl ?_
  refine v_aload_n hC dX8_ship_49 rfl 2 rfl ?_
  refine gf_X8_151 hC (E.k tm.1 (by decide)) dX8_ship_50 ?_
  rw [va_up_ne _ _ han]
  refine v_iload hC dX8_ship_53 6 rfl ?_
  refine v_iload hC dX8_ship_55 7 rfl ?_
  refine v_callI (c2 := 1) (s2 := 16) (As := [.ref po, .ref bu, .int x3, .int (F a0 9), .int x4, .int x5]) hC (m_X7_init l (K := va_up K n (7, 0)) (F := va_up F n (fun _ => 0)) (G := va_up G n (fun _ => none)) (a0 := n) (congrArg Prod.fst kat) (tp.ext E) (tb.ext E) t5) q_X8_203 rfl hdS_X7_init rfl rfl (Nat.le_of_ble_eq_true rfl) (Nat.le_of_ble_eq_true rfl) (Nat.le_of_ble_eq_true rfl) (Nat.le_of_ble_eq_true rfl) (Nat.le_of_ble_eq_true rfl) (Nat.le_of_ble_eq_true rfl) (Nat.le_of_ble_eq_true rfl) dX8_ship_57 ?_
  have E2 : Ext K G (KS K n) (GS G n po bu) := ext_S hfr
  have S1 : Str X (KS K n) (GS G n po bu) a0 := t0.ext E2
  have hpj : TShip (KS K n) (GS G n po bu) n := new_ship hfr tp tb
  have tp1 := tp.ext E2
  have tb1 := tb.ext E2
  have hz1 : ((KS K n) (gp (GS G n po bu) a0 4)).2 ≤ 47 := by
    rw [E2.pp k1 4, (E2 _ (by rw [t0.k10 (i := 4) (by decide)]; decide)).1]; exact hs
  refine v_astore (i := 8) (lv' := [(8, .ref n), (7, .ref bu), (6, .ref po), (0, .ref a0), (1, .int (nI x1)), (2, .int (nI x2)), (3, .int x3), (4, .int x4), (5, .int x5)]) hC dX8_ship_60 (by decide) rfl ?_
  show V X 11 p l e _ s m args below meth c Q 1 16 (n + 1) (KS K n) (FS0 F n x3 (F a0 9) (F a0 9 + x4) x5) (GS G n po bu) _ 62 _
  have hFd : FS0 F n x3 (F a0 9) (F a0 9 + x4) x5 a0 9 = F a0 9 := by simp [FS0, up2, va_up, han]
  generalize hF0 : FS0 F n x3 (F a0 9) (F a0 9 + x4) x5 = F0 at hFd ⊢
  refine v_aload hC dX8_ship_62 1 rfl ?_
  refine gf_X8_206 hC tb1.1 tb1.2.1.1 dX8_ship_64 ?_
  refine v_aload_n hC dX8_ship_67 rfl 3 rfl ?_
  refine gf_X8_151 hC S1.1.1 dX8_ship_68 ?_
  refine v_aload hC dX8_ship_71 1 rfl ?_
  refine gf_X8_184 hC tb1.1 dX8_ship_73 ?_
  refine v_iload hC dX8_ship_76 7 rfl ?_
  refine v_callV (c2 := 1) (s2 := 16) (As := [.int (F0 a0 9), .int (F0 bu 2), .int x4]) hC (m_X5_rateOn l tb1.2.1.2) q_X8_210 (by rw [tb1.2.1.2]; decide) (ce_3 tb1.2.1.2) (ci := 2) rfl hdV_X5_rateOn rfl rfl (Nat.le_of_ble_eq_true rfl) (Nat.le_of_ble_eq_true rfl) (Nat.le_of_ble_eq_true rfl) (Nat.le_of_ble_eq_true rfl) (Nat.le_of_ble_eq_true rfl) (Nat.le_of_ble_eq_true rfl) (Nat.le_of_ble_eq_true rfl) dX8_ship_78 ?_
  generalize f_X5_rateOn (KS K n) F0 (GS G n po bu) (gp (GS G n po bu) bu 1) (F0 a0 9) (F0 bu 2) x4 = r
  refine v_istore (i := 9) (lv' := [(9, .int r), (8, .ref n), (7, .ref bu), (6, .ref po), (0, .ref a0), (1, .int (nI x1)), (2, .int (nI x2)), (3, .int x3), (4, .int x4), (5, .int x5)]) hC dX8_ship_81 (by decide) rfl ?_
  refine v_aload_n hC dX8_ship_83 rfl 4 rfl ?_
  refine v_aload hC dX8_ship_84 3 rfl ?_
  refine v_aload hC dX8_ship_86 2 rfl ?_
  refine v_iload_n hC dX8_ship_88 rfl 7 rfl ?_
  refine v_iload hC dX8_ship_89 8 rfl ?_
  refine v_callV (c2 := 1) (s2 := 16) (As := [.ref po, .ref bu, .int x3, .int x4]) hC (m_X8_reasonOf l S1.1 tp1 tb1) q_X8_213 (by rw [S1.1.1]; decide) (ce_1 S1.1.1) (ci := 0) rfl hdV_X8_reasonOf rfl rfl (Nat.le_of_ble_eq_true rfl) (Nat.le_of_ble_eq_true rfl) (Nat.le_of_ble_eq_true rfl) (Nat.le_of_ble_eq_true rfl) (Nat.le_of_ble_eq_true rfl) (Nat.le_of_ble_eq_true rfl) (Nat.le_of_ble_eq_true rfl) dX8_ship_91 ?_
  generalize f_X8_reasonOf (KS K n) F0 (GS G n po bu) a0 po bu x3 x4 = rs
  refine v_istore (i := 10) (lv' := [(10, .int rs), (9, .int r), (8, .ref n), (7, .ref bu), (6, .ref po), (0, .ref a0), (1, .int (nI x1)), (2, .int (nI x2)), (3, .int x3), (4, .int x4), (5, .int x5)]) hC dX8_ship_94 (by decide) rfl ?_
  refine v_aload hC dX8_ship_96 2 rfl ?_
  refine v_iload hC dX8_ship_98 1 rfl ?_
  refine v_aload_n hC dX8_ship_100 rfl 5 rfl ?_
  refine v_aload hC dX8_ship_101 4 rfl ?_
  refine v_aload hC dX8_ship_103 3 rfl ?_
  refine v_iload_n hC dX8_ship_105 rfl 8 rfl ?_
  refine v_iload hC dX8_ship_106 9 rfl ?_
  refine v_callV (c2 := 1) (s2 := 16) (As := [.ref po, .ref bu, .int x3, .int x4]) hC (m_X8_insuredOf l S1.1 tp1 tb1) q_X8_217 (by rw [S1.1.1]; decide) (ce_1 S1.1.1) (ci := 0) rfl hdV_X8_insuredOf rfl rfl (Nat.le_of_ble_eq_true rfl) (Nat.le_of_ble_eq_true rfl) (Nat.le_of_ble_eq_true rfl) (Nat.le_of_ble_eq_true rfl) (Nat.le_of_ble_eq_true rfl) (Nat.le_of_ble_eq_true rfl) (Nat.le_of_ble_eq_true rfl) dX8_ship_108 ?_
  generalize hins : f_X8_insuredOf (KS K n) F0 (GS G n po bu) a0 po bu x3 x4 = ins
  refine v_iload hC dX8_ship_111 0 rfl ?_
  refine v_callV (c2 := 1) (s2 := 16) (As := [.int r, .int ins, .int rs]) hC (m_X7_keepTerms l hpj) q_X8_220 (by rw [hpj.1]; decide) (ce_7 hpj.1) (ci := 6) rfl hdV_X7_keepTerms rfl rfl (Nat.le_of_ble_eq_true rfl) (Nat.le_of_ble_eq_true rfl) (Nat.le_of_ble_eq_true rfl) (Nat.le_of_ble_eq_true rfl) (Nat.le_of_ble_eq_true rfl) (Nat.le_of_ble_eq_true rfl) (Nat.le_of_ble_eq_true rfl) dX8_ship_113 ?_
  generalize hF1 : f_X7_keepTerms (KS K n) F0 (GS G n po bu) n r ins rs = F1
  refine v_aload_n hC dX8_ship_116 rfl 5 rfl ?_
  refine gf_X8_25 hC S1.1.1 S1.1.2.2.2.2.2.1.1 dX8_ship_117 ?_
  refine v_aload hC dX8_ship_120 2 rfl ?_
  refine v_rcallV (c2 := 2) (s2 := 65) (As := [.ref n]) hC (m_addJ l S1 (j := 4) (by decide) hz1 hpj) q_X8_172 (by rw [S1.1.2.2.2.2.2.1.2.1]; decide) (ce_10 S1.1.2.2.2.2.2.1.2.1) (ci := 9) rfl hdV_Jx4a65c_add_9ea2d rfl rfl (Nat.le_of_ble_eq_true rfl) (Nat.le_of_ble_eq_true rfl) (Nat.le_of_ble_eq_true rfl) (Nat.le_of_ble_eq_true rfl) (Nat.le_of_ble_eq_true rfl) (Nat.le_of_ble_eq_true rfl) (Nat.le_of_ble_eq_true rfl) dX8_ship_122 ?_
  intro o n' K' F2 G' hP
  obtain ⟨rfl, hA⟩ := hP
  have X2 := S1.ex2 (j := 4) (by decide) hA
  have tp2 := tp1.ex2 X2
  have tb2 := tb1.ex2 X2
  have ts2 := hpj.ex2 X2
  have S2 : Str X K' G' a0 := S1.add (j := 4) (by decide) hA (by omega) ts2
  refine v_pop hC dX8_ship_125 rfl ?_
  refine v_aload hC dX8_ship_126 4 rfl ?_
  refine gf_X8_224 hC tp2.1 tp2.2.1.1 dX8_ship_128 ?_
  refine v_dup hC dX8_ship_131 rfl ?_
  refine gf_X8_228 hC tp2.2.1.2.1 dX8_ship_132 ?_
  refine v_iconst (v := 1) hC dX8_ship_135 (by decide) ?_
  refine v_aload hC dX8_ship_136 3 rfl ?_
  refine gf_X8_123 hC tb2.1 dX8_ship_138 ?_
  refine v_ishl hC dX8_ship_141 ?_
  refine v_ior hC dX8_ship_142 ?_
  refine pf_X8_228 hC tp2.2.1.2.1 dX8_ship_143 ?_
  refine v_aload_n hC dX8_ship_146 rfl 5 rfl ?_
  refine v_aload hC dX8_ship_147 2 rfl ?_
  refine v_callV (c2 := 2) (s2 := 65) (As := [.ref n]) hC (m_X8_takePremium l S2.1 ts2) q_X8_231 (by rw [S2.1.1]; decide) (ce_1 S2.1.1) (ci := 0) rfl hdV_X8_takePremium rfl rfl (Nat.le_of_ble_eq_true rfl) (Nat.le_of_ble_eq_true rfl) (Nat.le_of_ble_eq_true rfl) (Nat.le_of_ble_eq_true rfl) (Nat.le_of_ble_eq_true rfl) (Nat.le_of_ble_eq_true rfl) (Nat.le_of_ble_eq_true rfl) dX8_ship_149 ?_
  refine v_aload_n hC dX8_ship_152 rfl 5 rfl ?_
  refine gf_X8_25 hC S2.1.1 S2.1.2.2.2.2.2.1.1 dX8_ship_153 ?_
  refine v_callV (c2 := 2) (s2 := 65) (As := []) hC (m_Jx4a65c_size_8abf5 l S2.1.2.2.2.2.2.1.2.1) q_X8_89 (by rw [S2.1.2.2.2.2.2.1.2.1]; decide) (ce_10 S2.1.2.2.2.2.2.1.2.1) (ci := 9) rfl hdV_Jx4a65c_size_8abf5 rfl rfl (Nat.le_of_ble_eq_true rfl) (Nat.le_of_ble_eq_true rfl) (Nat.le_of_ble_eq_true rfl) (Nat.le_of_ble_eq_true rfl) (Nat.le_of_ble_eq_true rfl) (Nat.le_of_ble_eq_true rfl) (Nat.le_of_ble_eq_true rfl) dX8_ship_156 ?_
  refine v_iconst (v := 1) hC dX8_ship_159 (by decide) ?_
  refine v_isub hC dX8_ship_160 ?_
  refine v_toR hQ ⟨⟨nI (K' (gp G' a0 4)).2 - 1, rfl⟩, hfr, F1, F2, r, rs, F2 (gp G' po 1) 4 ||| 1 <<< (F2 bu 0 &&& 31), by rw [hF0, hins, hF1], hA, rfl⟩ ?_
  exact v_iret hC rfl rfl dX8_ship_161 rfl rfl rfl rfl rfl
end PM8
