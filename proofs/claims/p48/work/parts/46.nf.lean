/-! limit, where the policy runs: nothing is thrown -/
section PNF
variable {X : Xt}
theorem m_X8_limit_r (l : Launch) {n : Nat} {K : Kt} {F : Ft} {G : Gt} {a0 : Nat} {x1 : Nat} {x2 : Nat} {x3 : Int32} (t0 : TMain K G a0) (hi : x1 < (K (gp G a0 3)).2) (hj : x2 < (K (gp G a0 1)).2) (h : ¬ f_X8_isWithin K F G x3 0 99999 = 0) (h6 : F (el G (gp G a0 3) x1) 6 = 0) : Mr X l yX8_limit cX8_limit 7 (some .int) 7 102 0 0 [.ref a0, .int (nI x1), .int (nI x2), .int x3] n K F G (fun o n' K' F' G' => (∃ v, o = some (.int v)) ∧ n' = n ∧ K' = K ∧ G' = G ∧ ∃ x y, F' = f_X6_grant K F G (el G (gp G a0 3) x1) x y) := by
  refine Mr.of (lv := [(0, .ref a0), (1, .int (nI x1)), (2, .int (nI x2)), (3, .int x3)]) (by decide) (Nat.le_of_ble_eq_true rfl) rfl ?_
  intro p e s m args below meth c Q hC hin hQ
  have hC : Cx X p s m args meth c RX8 cX8_limit 7 (some .int) := hC
  have ht1 : TPol K G (el G (gp G a0 3) x1) := t0.2.2.2.2.1.2.el (i := x1) (by omega)
  have ht2 : TBuyer K G (el G (gp G a0 1) x2) := t0.2.2.1.2.el (i := x2) (by omega)
  refine v_aload_n hC dX8_limit_0 rfl 0 rfl ?_
  refine v_iload_n hC dX8_limit_1 rfl 1 rfl ?_
  refine v_callV (c2 := 0) (s2 := 0) (As := [.int (nI x1)]) hC (m_X8_policyAt l t0 hi) q_X8_177 (by rw [t0.1]; decide) (ce_1 t0.1) (ci := 0) rfl hdV_X8_policyAt rfl rfl (Nat.le_of_ble_eq_true rfl) (Nat.le_of_ble_eq_true rfl) (Nat.le_of_ble_eq_true rfl) (Nat.le_of_ble_eq_true rfl) (Nat.le_of_ble_eq_true rfl) (Nat.le_of_ble_eq_true rfl) (Nat.le_of_ble_eq_true rfl) dX8_limit_2 ?_
  generalize hpo : el G (gp G a0 3) x1 = po at ht1 h6 hQ ⊢
  refine v_astore (i := 4) (lv' := [(4, .ref po), (0, .ref a0), (1, .int (nI x1)), (2, .int (nI x2)), (3, .int x3)]) hC dX8_limit_5 (by decide) rfl ?_
  refine v_aload_n hC dX8_limit_7 rfl 1 rfl ?_
  refine v_iload_n hC dX8_limit_8 rfl 3 rfl ?_
  refine v_callV (c2 := 0) (s2 := 0) (As := [.int (nI x2)]) hC (m_X8_buyerAt l t0 hj) q_X8_124 (by rw [t0.1]; decide) (ce_1 t0.1) (ci := 0) rfl hdV_X8_buyerAt rfl rfl (Nat.le_of_ble_eq_true rfl) (Nat.le_of_ble_eq_true rfl) (Nat.le_of_ble_eq_true rfl) (Nat.le_of_ble_eq_true rfl) (Nat.le_of_ble_eq_true rfl) (Nat.le_of_ble_eq_true rfl) (Nat.le_of_ble_eq_true rfl) dX8_limit_9 ?_
  generalize hbu : el G (gp G a0 1) x2 = bu at ht2 ⊢
  refine v_astore (i := 5) (lv' := [(5, .ref bu), (4, .ref po), (0, .ref a0), (1, .int (nI x1)), (2, .int (nI x2)), (3, .int x3)]) hC dX8_limit_12 (by decide) rfl ?_
  refine v_iload_n hC dX8_limit_14 rfl 5 rfl ?_
  refine v_iconst (v := 0) hC dX8_limit_15 (by decide) ?_
  refine v_ldc (v := 99999) hC aw_1138 dX8_limit_16 ?_
  refine v_callS (c2 := 0) (s2 := 0) (As := [.int x3, .int 0, .int 99999]) hC (m_X8_isWithin l) q_X8_44 hdS_X8_isWithin rfl rfl (Nat.le_of_ble_eq_true rfl) (Nat.le_of_ble_eq_true rfl) (Nat.le_of_ble_eq_true rfl) (Nat.le_of_ble_eq_true rfl) (Nat.le_of_ble_eq_true rfl) (Nat.le_of_ble_eq_true rfl) (Nat.le_of_ble_eq_true rfl) dX8_limit_18 ?_
  refine v_callS (c2 := 0) (s2 := 0) (As := [.int (f_X8_isWithin K F G x3 0 99999)]) hC (m_X8_demandArgument l h) q_X8_48 hdS_X8_demandArgument rfl rfl (Nat.le_of_ble_eq_true rfl) (Nat.le_of_ble_eq_true rfl) (Nat.le_of_ble_eq_true rfl) (Nat.le_of_ble_eq_true rfl) (Nat.le_of_ble_eq_true rfl) (Nat.le_of_ble_eq_true rfl) (Nat.le_of_ble_eq_true rfl) dX8_limit_21 ?_
  refine v_aload hC dX8_limit_24 1 rfl ?_
  refine gf_X8_181 hC ht1.1 dX8_limit_26 ?_
  refine v_if_ne (tgt := 36) hC dX8_limit_29 (by decide) (fun c6 => absurd h6 c6) (fun _ => ?_)
  refine v_iconst (v := 1) hC dX8_limit_32 (by decide) ?_
  refine v_goto (tgt := 37) hC dX8_limit_33 (by decide) ?_
  refine v_callS (c2 := 0) (s2 := 0) (As := [.int 1]) hC (m_X8_demandState l (by decide)) q_X8_56 hdS_X8_demandState rfl rfl (Nat.le_of_ble_eq_true rfl) (Nat.le_of_ble_eq_true rfl) (Nat.le_of_ble_eq_true rfl) (Nat.le_of_ble_eq_true rfl) (Nat.le_of_ble_eq_true rfl) (Nat.le_of_ble_eq_true rfl) (Nat.le_of_ble_eq_true rfl) dX8_limit_37 ?_
  refine v_sipush (v := 2000) hC dX8_limit_40 (by decide) ?_
  refine v_bipush (v := 6) hC dX8_limit_43 (by decide) ?_
  refine v_aload hC dX8_limit_45 0 rfl ?_
  refine gf_X8_184 hC ht2.1 dX8_limit_47 ?_
  refine v_isub hC dX8_limit_50 ?_
  refine v_imul hC dX8_limit_51 ?_
  refine v_istore (i := 6) (lv' := [(6, .int (2000 * (6 - F bu 2))), (5, .ref bu), (4, .ref po), (0, .ref a0), (1, .int (nI x1)), (2, .int (nI x2)), (3, .int x3)]) hC dX8_limit_52 (by decide) rfl ?_
  refine v_aload hC dX8_limit_54 2 rfl ?_
  refine v_aload hC dX8_limit_56 1 rfl ?_
  refine gf_X8_123 hC ht2.1 dX8_limit_58 ?_
  refine v_iload_n hC dX8_limit_61 rfl 6 rfl ?_
  refine v_iload hC dX8_limit_62 0 rfl ?_
  refine v_mmin hC aw_236 (Nat.le_of_ble_eq_true rfl) (Nat.le_of_ble_eq_true rfl) (Nat.le_of_ble_eq_true rfl) (Nat.le_of_ble_eq_true rfl) (Nat.le_of_ble_eq_true rfl) dX8_limit_64 ?_
  refine v_callV (c2 := 0) (s2 := 0) (As := [.int (F bu 0), .int (if (2000 * (6 - F bu 2)) < x3 then (2000 * (6 - F bu 2)) else x3)]) hC (m_X6_grant l ht1) q_X8_191 (by rw [ht1.1]; decide) (ce_6 ht1.1) (ci := 5) rfl hdV_X6_grant rfl rfl (Nat.le_of_ble_eq_true rfl) (Nat.le_of_ble_eq_true rfl) (Nat.le_of_ble_eq_true rfl) (Nat.le_of_ble_eq_true rfl) (Nat.le_of_ble_eq_true rfl) (Nat.le_of_ble_eq_true rfl) (Nat.le_of_ble_eq_true rfl) dX8_limit_67 ?_
  generalize hF1 : f_X6_grant K F G po (F bu 0) (if (2000 * (6 - F bu 2)) < x3 then (2000 * (6 - F bu 2)) else x3) = F1
  refine v_aload hC dX8_limit_70 2 rfl ?_
  refine v_aload hC dX8_limit_72 1 rfl ?_
  refine gf_X8_123 hC ht2.1 dX8_limit_74 ?_
  refine v_callV (c2 := 0) (s2 := 0) (As := [.int (F1 bu 0)]) hC (m_X6_grantedFor l ht1) q_X8_195 (by rw [ht1.1]; decide) (ce_6 ht1.1) (ci := 5) rfl hdV_X6_grantedFor rfl rfl (Nat.le_of_ble_eq_true rfl) (Nat.le_of_ble_eq_true rfl) (Nat.le_of_ble_eq_true rfl) (Nat.le_of_ble_eq_true rfl) (Nat.le_of_ble_eq_true rfl) (Nat.le_of_ble_eq_true rfl) (Nat.le_of_ble_eq_true rfl) dX8_limit_77 ?_
  generalize f_X6_grantedFor K F1 G po (F1 bu 0) = v
  refine v_toR hQ ⟨⟨v, rfl⟩, rfl, rfl, rfl, _, _, hF1.symm⟩ ?_
  exact v_iret hC rfl rfl dX8_limit_80 rfl rfl rfl rfl rfl
end PNF
