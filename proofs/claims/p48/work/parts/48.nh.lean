/-! market: three lands, three exporters, six buyers -/
section PNH
variable {X : Xt}
theorem hdS_X8_market : yX8_market.cls ≠ "java/lang/invoke/MethodHandle" ∧ yX8_market.cls ≠ "java/lang/invoke/VarHandle" ∧ (parseMethodDescriptor yX8_market.desc).map (fun d => d.parameters.length) = some 1 := by decide +kernel
theorem hdV_X8_market : yX8_market.cls = RX8 ∧ yX8_market.cls ≠ "java/lang/invoke/MethodHandle" ∧ yX8_market.cls ≠ "java/lang/invoke/VarHandle" ∧ (parseMethodDescriptor yX8_market.desc).map (fun d => d.parameters.length) = some 1 := by decide +kernel
theorem m_X8_market (l : Launch) {n : Nat} {K : Kt} {F : Ft} {G : Gt} {a0 : Nat} {x1 : Int32} (h : Off X 0 K F G a0 0 0 0 0) (hx : 0 ≤ x1.toInt ∧ x1.toInt ≤ 99) : Mr X l yX8_market cX8_market 7 (some .int) 8 192 33 666 [.ref a0, .int x1] n K F G (fun o n' K' F' G' => (∃ v, o = some (.int v)) ∧ Off X (99999 * 6) K' F' G' a0 3 6 3 0) := by
  refine Mr.of (lv := [(0, .ref a0), (1, .int x1)]) (by decide) (Nat.le_of_ble_eq_true rfl) rfl ?_
  intro p e s m args below meth c Q hC hin hQ
  have hC : Cx X p s m args meth c RX8 cX8_market 7 (some .int) := hC
  have tm := h.1.1.1
  refine v_iload_n hC dX8_market_0 rfl 1 rfl ?_
  refine v_iconst (v := 0) hC dX8_market_1 (by decide) ?_
  refine v_bipush (v := 99) hC dX8_market_2 (by decide) ?_
  refine v_callS (c2 := 0) (s2 := 0) (As := [.int x1, .int 0, .int 99]) hC (m_X8_isWithin l) q_X8_44 hdS_X8_isWithin rfl rfl (Nat.le_of_ble_eq_true rfl) (Nat.le_of_ble_eq_true rfl) (Nat.le_of_ble_eq_true rfl) (Nat.le_of_ble_eq_true rfl) (Nat.le_of_ble_eq_true rfl) (Nat.le_of_ble_eq_true rfl) (Nat.le_of_ble_eq_true rfl) dX8_market_4 ?_
  refine v_callS (c2 := 0) (s2 := 0) (As := [.int (f_X8_isWithin K F G x1 0 99)]) hC (m_X8_demandArgument l (within_of hx.1 hx.2)) q_X8_48 hdS_X8_demandArgument rfl rfl (Nat.le_of_ble_eq_true rfl) (Nat.le_of_ble_eq_true rfl) (Nat.le_of_ble_eq_true rfl) (Nat.le_of_ble_eq_true rfl) (Nat.le_of_ble_eq_true rfl) (Nat.le_of_ble_eq_true rfl) (Nat.le_of_ble_eq_true rfl) dX8_market_7 ?_
  have em : ∀ i, i < 5 → sz K G a0 i = 0 → ¬ f_Jx4a65c_isEmpty_aae02 K F G (gp G a0 i) = 0 := fun i hi hz => by
    have hz : (K (gp G a0 i)).2 = 0 := hz
    unfold f_Jx4a65c_isEmpty_aae02 f_Jx4a65c_isEmpty_aae02_J12
    rw [hz]
    decide
  refine v_aload_n hC dX8_market_10 rfl 0 rfl ?_
  refine gf_X8_10 hC tm.1 (tm.lst (i := 0) (by decide)).1 dX8_market_11 ?_
  refine v_callV (c2 := 0) (s2 := 0) (As := []) hC (m_Jx4a65c_isEmpty_aae02 l (tm.lst (i := 0) (by decide)).2.1) q_X8_52 (by rw [(tm.lst (i := 0) (by decide)).2.1]; decide) (ce_10 (tm.lst (i := 0) (by decide)).2.1) (ci := 9) rfl hdV_Jx4a65c_isEmpty_aae02 rfl rfl (Nat.le_of_ble_eq_true rfl) (Nat.le_of_ble_eq_true rfl) (Nat.le_of_ble_eq_true rfl) (Nat.le_of_ble_eq_true rfl) (Nat.le_of_ble_eq_true rfl) (Nat.le_of_ble_eq_true rfl) (Nat.le_of_ble_eq_true rfl) dX8_market_14 ?_
  refine v_if_eq (tgt := 44) hC dX8_market_17 (by decide) (fun q => absurd q (em 0 (by decide) h.2.2.1)) (fun _ => ?_)
  refine v_aload_n hC dX8_market_20 rfl 0 rfl ?_
  refine gf_X8_16 hC tm.1 (tm.lst (i := 1) (by decide)).1 dX8_market_21 ?_
  refine v_callV (c2 := 0) (s2 := 0) (As := []) hC (m_Jx4a65c_isEmpty_aae02 l (tm.lst (i := 1) (by decide)).2.1) q_X8_52 (by rw [(tm.lst (i := 1) (by decide)).2.1]; decide) (ce_10 (tm.lst (i := 1) (by decide)).2.1) (ci := 9) rfl hdV_Jx4a65c_isEmpty_aae02 rfl rfl (Nat.le_of_ble_eq_true rfl) (Nat.le_of_ble_eq_true rfl) (Nat.le_of_ble_eq_true rfl) (Nat.le_of_ble_eq_true rfl) (Nat.le_of_ble_eq_true rfl) (Nat.le_of_ble_eq_true rfl) (Nat.le_of_ble_eq_true rfl) dX8_market_24 ?_
  refine v_if_eq (tgt := 44) hC dX8_market_27 (by decide) (fun q => absurd q (em 1 (by decide) h.2.2.2.1)) (fun _ => ?_)
  refine v_aload_n hC dX8_market_30 rfl 0 rfl ?_
  refine gf_X8_19 hC tm.1 (tm.lst (i := 2) (by decide)).1 dX8_market_31 ?_
  refine v_callV (c2 := 0) (s2 := 0) (As := []) hC (m_Jx4a65c_isEmpty_aae02 l (tm.lst (i := 2) (by decide)).2.1) q_X8_52 (by rw [(tm.lst (i := 2) (by decide)).2.1]; decide) (ce_10 (tm.lst (i := 2) (by decide)).2.1) (ci := 9) rfl hdV_Jx4a65c_isEmpty_aae02 rfl rfl (Nat.le_of_ble_eq_true rfl) (Nat.le_of_ble_eq_true rfl) (Nat.le_of_ble_eq_true rfl) (Nat.le_of_ble_eq_true rfl) (Nat.le_of_ble_eq_true rfl) (Nat.le_of_ble_eq_true rfl) (Nat.le_of_ble_eq_true rfl) dX8_market_34 ?_
  refine v_if_eq (tgt := 44) hC dX8_market_37 (by decide) (fun q => absurd q (em 2 (by decide) h.2.2.2.2.1)) (fun _ => ?_)
  refine v_iconst (v := 1) hC dX8_market_40 (by decide) ?_
  refine v_goto (tgt := 45) hC dX8_market_41 (by decide) ?_
  refine v_callS (c2 := 0) (s2 := 0) (As := [.int 1]) hC (m_X8_demandState l (by decide)) q_X8_56 hdS_X8_demandState rfl rfl (Nat.le_of_ble_eq_true rfl) (Nat.le_of_ble_eq_true rfl) (Nat.le_of_ble_eq_true rfl) (Nat.le_of_ble_eq_true rfl) (Nat.le_of_ble_eq_true rfl) (Nat.le_of_ble_eq_true rfl) (Nat.le_of_ble_eq_true rfl) dX8_market_45 ?_
  refine v_iload_n hC dX8_market_48 rfl 1 rfl ?_
  refine v_istore_n (i := 2) (lv' := [(2, .int x1), (0, .ref a0), (1, .int x1)]) hC dX8_market_49 rfl (by decide) rfl ?_
  refine v_iconst (v := 0) hC dX8_market_50 (by decide) ?_
  refine v_istore_n (i := 3) (lv' := [(3, .int 0), (2, .int x1), (0, .ref a0), (1, .int x1)]) hC dX8_market_51 rfl (by decide) rfl ?_
  refine v_iconst (v := 0) hC dX8_market_52 (by decide) ?_
  refine v_istore (i := 4) (lv' := [(4, .int (nI 0)), (3, .int 0), (2, .int x1), (0, .ref a0), (1, .int x1)]) hC dX8_market_53 (by decide) rfl ?_
  refine v_sub [0, 1, 2, 3] rfl ?_
  have KL3 : ∀ (k i n1 : Nat) (K1 : Kt) (F1 : Ft) (G1 : Gt) (d z : Int32), i + k = 6 → 0 ≤ d.toInt ∧ d.toInt ≤ 100 → Off X (99999 * (i : Int)) K1 F1 G1 a0 3 i 3 0 → V X 7 p l e ({ frames := 8, cells := 33, slots := 666, locals := 192 } : Room) s m args below meth c Q (15 + 3 * i) (336 + 55 * i) n1 K1 F1 G1 [(4, .int (nI i)), (3, .int z), (2, .int d), (0, .ref a0)] 126 [] := by
    intro k
    induction k with
    | zero =>
      intro i n1 K1 F1 G1 d z hj hd st
      refine v_iload hC dX8_market_126 0 rfl ?_
      refine v_bipush (v := nI 6) hC dX8_market_128 (by decide) ?_
      refine v_icmp_ge (tgt := 191) hC dX8_market_130 (by decide) (fun _ => ?_) (fun q => absurd (lp_z hj) q)
      refine v_iload_n hC dX8_market_191 rfl 1 rfl ?_
      refine v_widen (k2 := 33) (n2 := 666) (by omega) (by omega) ?_
      have hi6 : i = 6 := by omega
      subst hi6
      refine v_toR (n' := n1) hQ ⟨⟨z, rfl⟩, st⟩ ?_
      exact v_iret hC rfl rfl dX8_market_192 rfl rfl rfl rfl rfl
    | succ k ih =>
      intro i n1 K1 F1 G1 d z hj hd st
      have t1 := st.1.1.1
      refine v_iload hC dX8_market_126 0 rfl ?_
      refine v_bipush (v := nI 6) hC dX8_market_128 (by decide) ?_
      refine v_icmp_ge (tgt := 191) hC dX8_market_130 (by decide) (fun q => absurd q (lp_s hj (by decide))) (fun _ => ?_)
      refine v_iload_n hC dX8_market_133 rfl 2 rfl ?_
      refine v_callS (c2 := 15 + 3 * i) (s2 := 336 + 55 * i) (As := [.int d]) hC (m_X8_nextInRow l) q_X8_59 hdS_X8_nextInRow rfl rfl (Nat.le_of_ble_eq_true rfl) (Nat.le_of_ble_eq_true rfl) (by show 15 + 3 * i + 0 ≤ 33; omega) (by show 336 + 55 * i + 0 ≤ 666; omega) (Nat.le_refl _) (Nat.le_refl _) (Nat.le_of_ble_eq_true rfl) dX8_market_134 ?_
      obtain ⟨d1, hd1⟩ : ∃ w, w = f_X8_nextInRow K1 F1 G1 d := ⟨_, rfl⟩
      have b1 : 0 ≤ d1.toInt ∧ d1.toInt ≤ 100 := by rw [hd1]; exact next_row hd.1 hd.2
      rw [← hd1]
      refine v_istore_n (i := 2) (lv' := [(2, .int d1), (4, .int (nI i)), (3, .int z), (0, .ref a0)]) hC dX8_market_137 rfl (by decide) rfl ?_
      refine v_aload_n hC dX8_market_138 rfl 3 rfl ?_
      refine v_iload_n hC dX8_market_139 rfl 0 rfl ?_
      refine v_iconst (v := 3) hC dX8_market_140 (by decide) ?_
      refine v_irem hC dX8_market_141 (by decide) ?_
      obtain ⟨q3, hq3, eq3⟩ := rem_nI (x := d1) (m := 3) (k := 3) b1.1 rfl (by decide)
      rw [eq3]
      have hl3 : q3 < (K1 (gp G1 a0 0)).2 := by rw [show (K1 (gp G1 a0 0)).2 = 3 from st.2.2.1]; exact hq3
      refine v_callV (c2 := 15 + 3 * i) (s2 := 336 + 55 * i) (As := [.int (nI q3)]) hC (m_X8_landAt l t1 hl3) q_X8_71 (by rw [t1.1]; decide) (ce_1 t1.1) (ci := 0) rfl hdV_X8_landAt rfl rfl (Nat.le_of_ble_eq_true rfl) (Nat.le_of_ble_eq_true rfl) (by show 15 + 3 * i + 0 ≤ 33; omega) (by show 336 + 55 * i + 0 ≤ 666; omega) (Nat.le_refl _) (Nat.le_refl _) (Nat.le_of_ble_eq_true rfl) dX8_market_142 ?_
      have kld : (K1 (el G1 (gp G1 a0 0) q3)).1 = 3 := st.1.land hl3
      generalize hld : el G1 (gp G1 a0 0) q3 = ld at kld ⊢
      refine v_astore (i := 5) (lv' := [(5, .ref ld), (2, .int d1), (4, .int (nI i)), (3, .int z), (0, .ref a0)]) hC dX8_market_145 (by decide) rfl ?_
      refine v_iload_n hC dX8_market_147 rfl 1 rfl ?_
      refine v_callS (c2 := 15 + 3 * i) (s2 := 336 + 55 * i) (As := [.int d1]) hC (m_X8_nextInRow l) q_X8_59 hdS_X8_nextInRow rfl rfl (Nat.le_of_ble_eq_true rfl) (Nat.le_of_ble_eq_true rfl) (by show 15 + 3 * i + 0 ≤ 33; omega) (by show 336 + 55 * i + 0 ≤ 666; omega) (Nat.le_refl _) (Nat.le_refl _) (Nat.le_of_ble_eq_true rfl) dX8_market_148 ?_
      obtain ⟨d2, hd2⟩ : ∃ w, w = f_X8_nextInRow K1 F1 G1 d1 := ⟨_, rfl⟩
      have b2 : 0 ≤ d2.toInt ∧ d2.toInt ≤ 100 := by rw [hd2]; exact next_row b1.1 b1.2
      rw [← hd2]
      refine v_istore_n (i := 2) (lv' := [(2, .int d2), (5, .ref ld), (4, .int (nI i)), (3, .int z), (0, .ref a0)]) hC dX8_market_151 rfl (by decide) rfl ?_
      refine v_aload_n hC dX8_market_152 rfl 4 rfl ?_
      refine v_aload hC dX8_market_153 1 rfl ?_
      refine v_iload_n hC dX8_market_155 rfl 0 rfl ?_
      refine v_bipush (v := 6) hC dX8_market_156 (by decide) ?_
      refine v_irem hC dX8_market_158 (by decide) ?_
      generalize d2 - d2 / 6 * 6 = gr
      have hs1 : (K1 (gp G1 a0 1)).2 ≤ 47 := by rw [show (K1 (gp G1 a0 1)).2 = i from st.2.2.2.1]; omega
      refine v_rcallV (c2 := 15 + 3 * i + 3) (s2 := 336 + 55 * i + 55) (As := [.ref ld, .int gr]) hC (m_X8_addBuyer l st.1.1 hs1 kld) q_X8_75 (by rw [t1.1]; decide) (ce_1 t1.1) (ci := 0) rfl hdV_X8_addBuyer rfl rfl (Nat.le_of_ble_eq_true rfl) (Nat.le_of_ble_eq_true rfl) (by show 15 + 3 * i + 3 ≤ 33; omega) (by show 336 + 55 * i + 55 ≤ 666; omega) (Nat.le_refl _) (Nat.le_refl _) (Nat.le_of_ble_eq_true rfl) dX8_market_159 ?_
      intro o n2 K2 F2 G2 hP
      obtain ⟨rfl, hfr, hfr2, F3, p1, p2, hA⟩ := hP
      obtain ⟨st2, en⟩ := st.buyer (by omega) kld (by omega) hfr hfr2 p1 p2 hA
      have t2 := st2.1.1.1
      have hb2 : i < sz K2 G2 a0 1 := by rw [st2.2.2.2.1]; omega
      have tb : TBuyer K2 G2 n1 := by have z := st2.1.buyer hb2; rw [en] at z; exact z
      have e55 : (15 + 3 * i + 3) = 15 + 3 * (i + 1) := by omega
      have e56 : (336 + 55 * i + 55) = 336 + 55 * (i + 1) := by omega
      rw [e55, e56]
      refine v_astore (i := 6) (lv' := [(6, .ref n1), (2, .int d2), (5, .ref ld), (4, .int (nI i)), (3, .int z), (0, .ref a0)]) hC dX8_market_162 (by decide) rfl ?_
      refine v_iload_n hC dX8_market_164 rfl 1 rfl ?_
      refine v_callS (c2 := 15 + 3 * (i + 1)) (s2 := 336 + 55 * (i + 1)) (As := [.int d2]) hC (m_X8_nextInRow l) q_X8_59 hdS_X8_nextInRow rfl rfl (Nat.le_of_ble_eq_true rfl) (Nat.le_of_ble_eq_true rfl) (by show 15 + 3 * (i + 1) + 0 ≤ 33; omega) (by show 336 + 55 * (i + 1) + 0 ≤ 666; omega) (Nat.le_refl _) (Nat.le_refl _) (Nat.le_of_ble_eq_true rfl) dX8_market_165 ?_
      obtain ⟨d3, hd3⟩ : ∃ w, w = f_X8_nextInRow K2 F2 G2 d2 := ⟨_, rfl⟩
      have b3 : 0 ≤ d3.toInt ∧ d3.toInt ≤ 100 := by rw [hd3]; exact next_row b2.1 b2.2
      rw [← hd3]
      refine v_istore_n (i := 2) (lv' := [(2, .int d3), (6, .ref n1), (5, .ref ld), (4, .int (nI i)), (3, .int z), (0, .ref a0)]) hC dX8_market_168 rfl (by decide) rfl ?_
      refine v_aload_n hC dX8_market_169 rfl 5 rfl ?_
      obtain ⟨o8, k8⟩ := t2.chest (i := 8) (by decide) (by decide)
      refine gf_X8_41 hC t2.1 o8 dX8_market_170 ?_
      refine v_aload hC dX8_market_173 1 rfl ?_
      refine gf_X8_79 hC tb.1 tb.2.2.1 dX8_market_175 ?_
      refine v_bipush (v := 20) hC dX8_market_178 (by decide) ?_
      refine v_iload_n hC dX8_market_180 rfl 0 rfl ?_
      refine v_imul hC dX8_market_181 ?_
      have k20 : (20 : Int32).toInt = 20 := rfl
      have e20 : (20 * d3).toInt = 20 * d3.toInt := by rw [fb_mulI (by rw [k20]; omega) (by rw [k20]; omega), k20]
      refine v_callV (c2 := 15 + 3 * (i + 1)) (s2 := 336 + 55 * (i + 1)) (As := [.ref (gp G2 n1 3), .int (20 * d3)]) hC (m_X1_giveTo l k8 tb.2.2.2) q_X8_84 (by rw [k8]; decide) (ce_2 k8) (ci := 1) rfl hdV_X1_giveTo rfl rfl (Nat.le_of_ble_eq_true rfl) (Nat.le_of_ble_eq_true rfl) (by show 15 + 3 * (i + 1) + 0 ≤ 33; omega) (by show 336 + 55 * (i + 1) + 0 ≤ 666; omega) (Nat.le_refl _) (Nat.le_refl _) (Nat.le_of_ble_eq_true rfl) dX8_market_182 ?_
      have st3 := st2.give (x1 := i) (x2 := 20 * d3) (by omega) (by rw [e20]; omega) (by omega) (by omega)
      rw [en] at st3
      refine v_iinc (lv' := [(4, .int (nI (i + 1))), (2, .int d3), (6, .ref n1), (5, .ref ld), (3, .int z), (0, .ref a0)]) (v := nI (i + 1)) hC dX8_market_185 3 rfl (nI_inc i) (by decide) rfl ?_
      refine v_goto (tgt := 126) hC dX8_market_188 (by decide) ?_
      refine v_sub [0, 4, 1, 5] rfl ?_
      refine ih (i + 1) _ _ _ _ d3 z (by omega) b3 ?_
      exact st3.up (by omega)
  have KL2 : ∀ (k i n1 : Nat) (K1 : Kt) (F1 : Ft) (G1 : Gt) (d z : Int32), i + k = 3 → 0 ≤ d.toInt ∧ d.toInt ≤ 100 → Off X 0 K1 F1 G1 a0 3 0 i 0 → V X 7 p l e ({ frames := 8, cells := 33, slots := 666, locals := 192 } : Room) s m args below meth c Q (6 + 3 * i) (171 + 55 * i) n1 K1 F1 G1 [(4, .int (nI i)), (3, .int z), (2, .int d), (0, .ref a0)] 106 [] := by
    intro k
    induction k with
    | zero =>
      intro i n1 K1 F1 G1 d z hj hd st
      have hi3 : i = 3 := by omega
      subst hi3
      refine v_iload hC dX8_market_106 0 rfl ?_
      refine v_iconst (v := nI 3) hC dX8_market_108 (by decide) ?_
      refine v_icmp_ge (tgt := 123) hC dX8_market_109 (by decide) (fun _ => ?_) (fun q => absurd (Int32.le_refl _) q)
      refine v_iconst (v := 0) hC dX8_market_123 (by decide) ?_
      refine v_istore (i := 4) (lv' := [(4, .int (nI 0)), (3, .int z), (2, .int d), (0, .ref a0)]) hC dX8_market_124 (by decide) rfl ?_
      exact KL3 6 0 n1 K1 F1 G1 d z (by omega) hd st
    | succ k ih =>
      intro i n1 K1 F1 G1 d z hj hd st
      have t1 := st.1.1.1
      refine v_iload hC dX8_market_106 0 rfl ?_
      refine v_iconst (v := nI 3) hC dX8_market_108 (by decide) ?_
      refine v_icmp_ge (tgt := 123) hC dX8_market_109 (by decide) (fun q => absurd q (lp_s hj (by decide))) (fun _ => ?_)
      refine v_aload_n hC dX8_market_112 rfl 3 rfl ?_
      have hs1 : (K1 (gp G1 a0 2)).2 ≤ 47 := by rw [show (K1 (gp G1 a0 2)).2 = i from st.2.2.2.2.1]; omega
      refine v_rcallV (c2 := 6 + 3 * i + 3) (s2 := 171 + 55 * i + 55) (As := []) hC (m_X8_addExporter l st.1.1 hs1) q_X8_67 (by rw [t1.1]; decide) (ce_1 t1.1) (ci := 0) rfl hdV_X8_addExporter rfl rfl (Nat.le_of_ble_eq_true rfl) (Nat.le_of_ble_eq_true rfl) (by show 6 + 3 * i + 3 ≤ 33; omega) (by show 171 + 55 * i + 55 ≤ 666; omega) (Nat.le_refl _) (Nat.le_refl _) (Nat.le_of_ble_eq_true rfl) dX8_market_113 ?_
      intro o n2 K2 F2 G2 hP
      obtain ⟨rfl, hfr, hfr2, F3, p1, p2, hA⟩ := hP
      have st2 := st.exporter (Int.le_refl _) (by omega) hfr hfr2 p1 p2 hA
      refine v_pop hC dX8_market_116 rfl ?_
      refine v_iinc (lv' := [(4, .int (nI (i + 1))), (3, .int z), (2, .int d), (0, .ref a0)]) (v := nI (i + 1)) hC dX8_market_117 0 rfl (nI_inc i) (by decide) rfl ?_
      refine v_goto (tgt := 106) hC dX8_market_120 (by decide) ?_
      exact v_widen (by omega) (by omega) (ih (i + 1) _ _ _ _ d z (by omega) hd st2)
  have KL1 : ∀ (k i n1 : Nat) (K1 : Kt) (F1 : Ft) (G1 : Gt) (d z : Int32), i + k = 3 → 0 ≤ d.toInt ∧ d.toInt ≤ 100 → Off X 0 K1 F1 G1 a0 i 0 0 0 → V X 7 p l e ({ frames := 8, cells := 33, slots := 666, locals := 192 } : Room) s m args below meth c Q (2 * i) (57 * i) n1 K1 F1 G1 [(4, .int (nI i)), (3, .int z), (2, .int d), (0, .ref a0)] 55 [] := by
    intro k
    induction k with
    | zero =>
      intro i n1 K1 F1 G1 d z hj hd st
      have hi3 : i = 3 := by omega
      subst hi3
      refine v_iload hC dX8_market_55 0 rfl ?_
      refine v_iconst (v := nI 3) hC dX8_market_57 (by decide) ?_
      refine v_icmp_ge (tgt := 103) hC dX8_market_58 (by decide) (fun _ => ?_) (fun q => absurd (Int32.le_refl _) q)
      refine v_iconst (v := 0) hC dX8_market_103 (by decide) ?_
      refine v_istore (i := 4) (lv' := [(4, .int (nI 0)), (3, .int z), (2, .int d), (0, .ref a0)]) hC dX8_market_104 (by decide) rfl ?_
      exact KL2 3 0 n1 K1 F1 G1 d z (by omega) hd st
    | succ k ih =>
      intro i n1 K1 F1 G1 d z hj hd st
      have t1 := st.1.1.1
      refine v_iload hC dX8_market_55 0 rfl ?_
      refine v_iconst (v := nI 3) hC dX8_market_57 (by decide) ?_
      refine v_icmp_ge (tgt := 103) hC dX8_market_58 (by decide) (fun q => absurd q (lp_s hj (by decide))) (fun _ => ?_)
      refine v_iload_n hC dX8_market_61 rfl 2 rfl ?_
      refine v_callS (c2 := 2 * i) (s2 := 57 * i) (As := [.int d]) hC (m_X8_nextInRow l) q_X8_59 hdS_X8_nextInRow rfl rfl (Nat.le_of_ble_eq_true rfl) (Nat.le_of_ble_eq_true rfl) (by show 2 * i + 0 ≤ 33; omega) (by show 57 * i + 0 ≤ 666; omega) (Nat.le_refl _) (Nat.le_refl _) (Nat.le_of_ble_eq_true rfl) dX8_market_62 ?_
      obtain ⟨d1, hd1⟩ : ∃ w, w = f_X8_nextInRow K1 F1 G1 d := ⟨_, rfl⟩
      have b1 : 0 ≤ d1.toInt ∧ d1.toInt ≤ 100 := by rw [hd1]; exact next_row hd.1 hd.2
      rw [← hd1]
      refine v_istore_n (i := 2) (lv' := [(2, .int d1), (4, .int (nI i)), (3, .int z), (0, .ref a0)]) hC dX8_market_65 rfl (by decide) rfl ?_
      refine v_iload_n hC dX8_market_66 rfl 0 rfl ?_
      refine v_bipush (v := 8) hC dX8_market_67 (by decide) ?_
      refine v_irem hC dX8_market_69 (by decide) ?_
      generalize d1 - d1 / 8 * 8 = gr
      refine v_istore (i := 5) (lv' := [(5, .int gr), (2, .int d1), (4, .int (nI i)), (3, .int z), (0, .ref a0)]) hC dX8_market_70 (by decide) rfl ?_
      refine v_iload_n hC dX8_market_72 rfl 1 rfl ?_
      refine v_callS (c2 := 2 * i) (s2 := 57 * i) (As := [.int d1]) hC (m_X8_nextInRow l) q_X8_59 hdS_X8_nextInRow rfl rfl (Nat.le_of_ble_eq_true rfl) (Nat.le_of_ble_eq_true rfl) (by show 2 * i + 0 ≤ 33; omega) (by show 57 * i + 0 ≤ 666; omega) (Nat.le_refl _) (Nat.le_refl _) (Nat.le_of_ble_eq_true rfl) dX8_market_73 ?_
      obtain ⟨d2, hd2⟩ : ∃ w, w = f_X8_nextInRow K1 F1 G1 d1 := ⟨_, rfl⟩
      have b2 : 0 ≤ d2.toInt ∧ d2.toInt ≤ 100 := by rw [hd2]; exact next_row b1.1 b1.2
      rw [← hd2]
      refine v_istore_n (i := 2) (lv' := [(2, .int d2), (5, .int gr), (4, .int (nI i)), (3, .int z), (0, .ref a0)]) hC dX8_market_76 rfl (by decide) rfl ?_
      refine v_aload_n hC dX8_market_77 rfl 4 rfl ?_
      refine v_iload hC dX8_market_78 1 rfl ?_
      refine v_sipush (v := 200) hC dX8_market_80 (by decide) ?_
      refine v_iload_n hC dX8_market_83 rfl 0 rfl ?_
      refine v_imul hC dX8_market_84 ?_
      have hs1 : (K1 (gp G1 a0 0)).2 ≤ 47 := by rw [show (K1 (gp G1 a0 0)).2 = i from st.2.2.1]; omega
      refine v_rcallV (c2 := 2 * i + 2) (s2 := 57 * i + 57) (As := [.int gr, .int (200 * d2)]) hC (m_X8_addLand l st.1.1 hs1) q_X8_63 (by rw [t1.1]; decide) (ce_1 t1.1) (ci := 0) rfl hdV_X8_addLand rfl rfl (Nat.le_of_ble_eq_true rfl) (Nat.le_of_ble_eq_true rfl) (by show 2 * i + 2 ≤ 33; omega) (by show 57 * i + 57 ≤ 666; omega) (Nat.le_refl _) (Nat.le_refl _) (Nat.le_of_ble_eq_true rfl) dX8_market_85 ?_
      intro o n2 K2 F2 G2 hP
      obtain ⟨rfl, hfr, F3, p1, hA⟩ := hP
      have st2 := st.land (by omega) hfr p1 hA
      refine v_pop hC dX8_market_88 rfl ?_
      refine v_iload_n hC dX8_market_89 rfl 3 rfl ?_
      refine v_sipush (v := 200) hC dX8_market_90 (by decide) ?_
      refine v_iload_n hC dX8_market_93 rfl 0 rfl ?_
      refine v_imul hC dX8_market_94 ?_
      refine v_iadd hC dX8_market_95 ?_
      refine v_istore_n (i := 3) (lv' := [(3, .int (z + 200 * d2)), (2, .int d2), (5, .int gr), (4, .int (nI i)), (0, .ref a0)]) hC dX8_market_96 rfl (by decide) rfl ?_
      refine v_iinc (lv' := [(4, .int (nI (i + 1))), (3, .int (z + 200 * d2)), (2, .int d2), (5, .int gr), (0, .ref a0)]) (v := nI (i + 1)) hC dX8_market_97 3 rfl (nI_inc i) (by decide) rfl ?_
      refine v_goto (tgt := 55) hC dX8_market_100 (by decide) ?_
      refine v_sub [0, 1, 2, 4] rfl ?_
      exact v_widen (by omega) (by omega) (ih (i + 1) _ _ _ _ d2 (z + 200 * d2) (by omega) b2 st2)
  exact KL1 3 0 n K F G x1 0 (by omega) ⟨hx.1, by omega⟩ h
end PNH
