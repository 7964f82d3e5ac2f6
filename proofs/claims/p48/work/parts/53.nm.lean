/-! isDone: something of any sort -/
section PNM
variable {X : Xt} {K K' : Kt} {F F' : Ft} {G G' : Gt} {a0 n : Nat} {B B' : Int}
/-- a step in which one shipment may come -/
def StD (X : Xt) (B : Int) (K : Kt) (F : Ft) (G : Gt) (K' : Kt) (F' : Ft) (G' : Gt) (a0 : Nat) : Prop := IK X K' G' a0 ∧ IV B K' F' G' a0 ∧ Mono K F G F' G' a0 ∧ F' a0 9 = F a0 9 ∧ (∀ i, i < 4 → sz K' G' a0 i = sz K G a0 i) ∧ (sz K' G' a0 4 = sz K G a0 4 ∨ sz K' G' a0 4 = sz K G a0 4 + 1) ∧ ∀ i k, i < 5 → k < sz K G a0 i → eo G' a0 i k = eo G a0 i k
theorem StG.d (h : StG X B K F G K' F' G' a0) (hb : B ≤ B') : StD X B' K F G K' F' G' a0 := ⟨h.1, h.2.1.mono hb, h.2.2.1, h.2.2.2.1, fun i hi => h.2.2.2.2.1 i (by omega), Or.inl (h.2.2.2.2.1 4 (by decide)), h.2.2.2.2.2⟩
theorem Sto.d (hk : IK X K G a0) (h : Sto B K F G F' a0) (hb : B ≤ B') : StD X B' K F G K F' G a0 := (Sto.g hk h).d hb
theorem hdS_L_isDone : yL_isDone.cls ≠ "java/lang/invoke/MethodHandle" ∧ yL_isDone.cls ≠ "java/lang/invoke/VarHandle" ∧ (parseMethodDescriptor yL_isDone.desc).map (fun d => d.parameters.length) = some 2 := by decide +kernel
theorem hdV_L_isDone : yL_isDone.cls = RL ∧ yL_isDone.cls ≠ "java/lang/invoke/MethodHandle" ∧ yL_isDone.cls ≠ "java/lang/invoke/VarHandle" ∧ (parseMethodDescriptor yL_isDone.desc).map (fun d => d.parameters.length) = some 2 := by decide +kernel
theorem i_max1 (c : Nat) (hc : c < 2147483648) : (if (1 : Int32) < nI c then nI c else 1) = nI (max 1 c) := by
  have e1 : (1 : Int32).toInt = 1 := rfl
  by_cases h : (1 : Int32) < nI c
  · rw [if_pos h]
    rw [Int32.lt_iff_toInt_lt, e1, nI_toInt (by omega)] at h
    rw [show max 1 c = c by omega]
  · rw [if_neg h]
    rw [Int32.lt_iff_toInt_lt, e1, nI_toInt (by omega)] at h
    rw [show max 1 c = 1 by omega]
    rfl
set_option maxHeartbeats 8000000 in
set_option maxRecDepth 100000 in
theorem m_L_isDone (l : Launch) (hfl : l.stackTraces = false) {x : Int32} (hk : IK X K G a0) (h : IV B K F G a0) (z0 : sz K G a0 0 = 3) (z1 : sz K G a0 1 = 6) (z2 : sz K G a0 2 = 3) (z3 : sz K G a0 3 = 3) (z4 : sz K G a0 4 ≤ 47) (hB0 : 0 ≤ B) (hB : B + 720000 < 2147483648) : Mh X l yL_isDone cL_isDone 8 (some .boolean) [(52, 538, 539, 104), (52, 538, 543, 106)] 8 199 48 192 [.ref a0, .int x] n K F G (fun o n' K' F' G' => ∃ r, o = some (.int r) ∧ (r = 0 ∨ r = 1) ∧ (r = 0 → K' = K ∧ F' = F ∧ G' = G) ∧ StD X (B + 720000) K F G K' F' G' a0) := by
  refine Mh.of (lv := [(0, .ref a0), (1, .int x)]) (by decide) (Nat.le_of_ble_eq_true rfl) rfl ?_
  intro p e s m args below meth c Q hC htb hQ
  have hC : Cx X p s m args meth c RL cL_isDone 8 (some .boolean) := hC
  have tm := hk.1.1
  have x0 : (K (gp G a0 0)).2 = 3 := z0
  have x1 : (K (gp G a0 1)).2 = 6 := z1
  have x2 : (K (gp G a0 2)).2 = 3 := z2
  have x3 : (K (gp G a0 3)).2 = 3 := z3
  have k1 : (1 : Int32).toInt = 1 := rfl
  refine v_iload_n hC dL_isDone_0 rfl 1 rfl ?_
  refine v_bipush (v := 6) hC dL_isDone_1 (by decide) ?_
  refine v_ishr hC dL_isDone_3 ?_
  refine v_iconst (v := 3) hC dL_isDone_4 (by decide) ?_
  refine v_bel (k := 3) hC rfl (by decide) (Nat.le_of_ble_eq_true rfl) (Nat.le_of_ble_eq_true rfl) (Nat.le_of_ble_eq_true rfl) (Nat.le_of_ble_eq_true rfl) (Nat.le_of_ble_eq_true rfl) dL_isDone_5 (fun la hla => ?_)
  refine v_istore_n (i := 2) (lv' := [(2, .int (nI la)), (0, .ref a0), (1, .int x)]) hC dL_isDone_8 rfl (by decide) rfl ?_
  refine v_iload_n hC dL_isDone_9 rfl 2 rfl ?_
  refine v_bipush (v := 7) hC dL_isDone_10 (by decide) ?_
  refine v_ishr hC dL_isDone_12 ?_
  refine v_bipush (v := 6) hC dL_isDone_13 (by decide) ?_
  refine v_bel (k := 6) hC rfl (by decide) (Nat.le_of_ble_eq_true rfl) (Nat.le_of_ble_eq_true rfl) (Nat.le_of_ble_eq_true rfl) (Nat.le_of_ble_eq_true rfl) (Nat.le_of_ble_eq_true rfl) dL_isDone_15 (fun bu hbu => ?_)
  refine v_istore_n (i := 3) (lv' := [(3, .int (nI bu)), (2, .int (nI la)), (0, .ref a0), (1, .int x)]) hC dL_isDone_18 rfl (by decide) rfl ?_
  refine v_iload_n hC dL_isDone_19 rfl 3 rfl ?_
  refine v_bipush (v := 9) hC dL_isDone_20 (by decide) ?_
  refine v_ishr hC dL_isDone_22 ?_
  refine v_iconst (v := 3) hC dL_isDone_23 (by decide) ?_
  refine v_bel (k := 3) hC rfl (by decide) (Nat.le_of_ble_eq_true rfl) (Nat.le_of_ble_eq_true rfl) (Nat.le_of_ble_eq_true rfl) (Nat.le_of_ble_eq_true rfl) (Nat.le_of_ble_eq_true rfl) dL_isDone_24 (fun po hpo => ?_)
  refine v_istore (i := 4) (lv' := [(4, .int (nI po)), (3, .int (nI bu)), (2, .int (nI la)), (0, .ref a0), (1, .int x)]) hC dL_isDone_27 (by decide) rfl ?_
  refine v_aload_n hC dL_isDone_29 rfl 3 rfl ?_
  refine v_bipush (v := nI 6) hC dL_isDone_30 (by decide) ?_
  refine v_callV (c2 := 0) (s2 := 0) (As := [.int (nI 6)]) hC (m_X8_books l (x1 := 6) tm (by decide)) q_L_47 (by rw [tm.1]; decide) (ce_1 tm.1) (ci := 0) rfl hdV_X8_books rfl rfl (Nat.le_of_ble_eq_true rfl) (Nat.le_of_ble_eq_true rfl) (Nat.le_of_ble_eq_true rfl) (Nat.le_of_ble_eq_true rfl) (Nat.le_of_ble_eq_true rfl) (Nat.le_of_ble_eq_true rfl) (Nat.le_of_ble_eq_true rfl) dL_isDone_32 ?_
  rw [bk6]
  refine v_istore (i := 5) (lv' := [(5, .int (nI (sz K G a0 4))), (4, .int (nI po)), (3, .int (nI bu)), (2, .int (nI la)), (0, .ref a0), (1, .int x)]) hC dL_isDone_35 (by decide) rfl ?_
  refine v_iload_n hC dL_isDone_37 rfl 5 rfl ?_
  refine v_bipush (v := 8) hC dL_isDone_38 (by decide) ?_
  refine v_ishr hC dL_isDone_40 ?_
  refine v_iconst (v := 1) hC dL_isDone_41 (by decide) ?_
  refine v_iload hC dL_isDone_42 0 rfl ?_
  refine v_mmax hC aw_1197 (Nat.le_of_ble_eq_true rfl) (Nat.le_of_ble_eq_true rfl) (Nat.le_of_ble_eq_true rfl) (Nat.le_of_ble_eq_true rfl) (Nat.le_of_ble_eq_true rfl) dL_isDone_44 ?_
  rw [i_max1 _ (by omega)]
  refine v_bel (k := (max 1 (sz K G a0 4))) hC (nI_toInt (by omega)) (by omega) (Nat.le_of_ble_eq_true rfl) (Nat.le_of_ble_eq_true rfl) (Nat.le_of_ble_eq_true rfl) (Nat.le_of_ble_eq_true rfl) (Nat.le_of_ble_eq_true rfl) dL_isDone_47 (fun sh hsh => ?_)
  have hs31 : sh < 2147483648 := by omega
  have hla3 : la < (K (gp G a0 0)).2 := by rw [x0]; exact hla
  have hbu6 : bu < (K (gp G a0 1)).2 := by rw [x1]; exact hbu
  have hpo3 : po < (K (gp G a0 3)).2 := by rw [x3]; exact hpo
  refine v_istore (i := 6) (lv' := [(6, .int (nI sh)), (5, .int (nI (sz K G a0 4))), (4, .int (nI po)), (3, .int (nI bu)), (2, .int (nI la)), (0, .ref a0), (1, .int x)]) hC dL_isDone_50 (by decide) rfl ?_
  have KOK : ∀ (c9 s9 n9 : Nat) (K9 : Kt) (F9 : Ft) (G9 : Gt), c9 ≤ 48 → s9 ≤ 192 → StD X (B + 720000) K F G K9 F9 G9 a0 → V X 8 p l e ({ frames := 8, cells := 48, slots := 192, locals := 199 } : Room) s m args below meth c Q c9 s9 n9 K9 F9 G9 [(6, .int (nI sh)), (5, .int (nI (sz K G a0 4))), (4, .int (nI po)), (3, .int (nI bu)), (2, .int (nI la)), (0, .ref a0), (1, .int x)] 537 [] := by
    intro c9 s9 n9 K9 F9 G9 hc9 hs9 st
    refine v_iconst (v := 1) hC dL_isDone_537 (by decide) ?_
    refine v_widen (k2 := 48) (n2 := 192) hc9 hs9 ?_
    refine v_toR (n' := n9) hQ ⟨1, rfl, Or.inr rfl, fun q => absurd q (by decide), st⟩ ?_
    exact v_zret hC rfl (by decide) rfl dL_isDone_538 rfl rfl rfl rfl rfl
  have stR : StD X (B + 720000) K F G K F G a0 := (StG.rf hk h).d (by omega)
  have KH1 : ∀ (c9 s9 n9 q9 : Nat), c9 ≤ 48 → s9 ≤ 192 → V X 8 p l e ({ frames := 8, cells := 48, slots := 192, locals := 199 } : Room) s m args below meth c Q c9 s9 n9 K F G [(6, .int (nI sh)), (5, .int (nI (sz K G a0 4))), (4, .int (nI po)), (3, .int (nI bu)), (2, .int (nI la)), (0, .ref a0), (1, .int x)] 539 [.ref q9] := by
    intro c9 s9 n9 q9 hc9 hs9
    refine v_astore (i := 7) (lv' := (7, .ref q9) :: [(6, .int (nI sh)), (5, .int (nI (sz K G a0 4))), (4, .int (nI po)), (3, .int (nI bu)), (2, .int (nI la)), (0, .ref a0), (1, .int x)]) hC dL_isDone_539 (by decide) rfl ?_
    refine v_iconst (v := 0) hC dL_isDone_541 (by decide) ?_
    refine v_widen (k2 := 48) (n2 := 192) hc9 hs9 ?_
    refine v_toR (n' := n9) hQ ⟨0, rfl, Or.inl rfl, fun _ => ⟨rfl, rfl, rfl⟩, stR⟩ ?_
    exact v_zret hC rfl (by decide) rfl dL_isDone_542 rfl rfl rfl rfl rfl
  have KH2 : ∀ (c9 s9 n9 q9 : Nat), c9 ≤ 48 → s9 ≤ 192 → V X 8 p l e ({ frames := 8, cells := 48, slots := 192, locals := 199 } : Room) s m args below meth c Q c9 s9 n9 K F G [(6, .int (nI sh)), (5, .int (nI (sz K G a0 4))), (4, .int (nI po)), (3, .int (nI bu)), (2, .int (nI la)), (0, .ref a0), (1, .int x)] 543 [.ref q9] := by
    intro c9 s9 n9 q9 hc9 hs9
    refine v_astore (i := 7) (lv' := (7, .ref q9) :: [(6, .int (nI sh)), (5, .int (nI (sz K G a0 4))), (4, .int (nI po)), (3, .int (nI bu)), (2, .int (nI la)), (0, .ref a0), (1, .int x)]) hC dL_isDone_543 (by decide) rfl ?_
    refine v_iconst (v := 0) hC dL_isDone_545 (by decide) ?_
    refine v_widen (k2 := 48) (n2 := 192) hc9 hs9 ?_
    refine v_toR (n' := n9) hQ ⟨0, rfl, Or.inl rfl, fun _ => ⟨rfl, rfl, rfl⟩, stR⟩ ?_
    exact v_zret hC rfl (by decide) rfl dL_isDone_546 rfl rfl rfl rfl rfl
  have KER : ∀ (c9 s9 p9 : Nat) (t9 : List Value), c9 ≤ 48 → s9 ≤ 192 → covers ⟨52, 538, 539, 104⟩ p9 = true → covers ⟨52, 538, 543, 106⟩ p9 = true → VE X 8 p l e ({ frames := 8, cells := 48, slots := 192, locals := 199 } : Room) s m args below meth c Q c9 s9 K F G [(6, .int (nI sh)), (5, .int (nI (sz K G a0 4))), (4, .int (nI po)), (3, .int (nI bu)), (2, .int (nI la)), (0, .ref a0), (1, .int x)] p9 t9 := by
    intro c9 s9 p9 t9 hc9 hs9 hv1 hv2
    refine v_catch1 hC ⟨52, 538, 539, 104⟩ ⟨52, 538, 543, 106⟩ (by rw [htb]; rfl) (by decide) (by decide) hv1 hv2 (al_in (i := 1195) (by decide +kernel) (by decide +kernel)) (al_in (i := 1196) (by decide +kernel) (by decide +kernel)) (fun n9 q9 => KH1 c9 s9 n9 q9 hc9 hs9) (fun n9 q9 => KH2 c9 s9 n9 q9 hc9 hs9)
  have C160 : V X 8 p l e ({ frames := 8, cells := 48, slots := 192, locals := 199 } : Room) s m args below meth c Q 0 0 n K F G [(6, .int (nI sh)), (5, .int (nI (sz K G a0 4))), (4, .int (nI po)), (3, .int (nI bu)), (2, .int (nI la)), (0, .ref a0), (1, .int x)] 160 [] := by
    refine v_aload_n hC dL_isDone_160 rfl 5 rfl ?_
    refine v_iload hC dL_isDone_161 2 rfl ?_
    refine v_iload_n hC dL_isDone_163 rfl 3 rfl ?_
    refine v_iconst (v := 1) hC dL_isDone_164 (by decide) ?_
    refine v_iload_n hC dL_isDone_165 rfl 6 rfl ?_
    refine v_iconst (v := 3) hC dL_isDone_166 (by decide) ?_
    refine v_ishr hC dL_isDone_167 ?_
    refine v_sipush (v := 3000) hC dL_isDone_168 (by decide) ?_
    refine v_bel (k := 3000) hC rfl (by decide) (Nat.le_of_ble_eq_true rfl) (Nat.le_of_ble_eq_true rfl) (Nat.le_of_ble_eq_true rfl) (Nat.le_of_ble_eq_true rfl) (Nat.le_of_ble_eq_true rfl) dL_isDone_171 (fun am ham => ?_)
    refine v_iadd hC dL_isDone_174 ?_
    have eamt := i_add_n (a := 1) (x := 1) rfl ham (by decide)
    generalize (1 : Int32) + nI am = amt at eamt ⊢
    refine v_bipush (v := 30) hC dL_isDone_175 (by decide) ?_
    refine v_iload_n hC dL_isDone_177 rfl 6 rfl ?_
    refine v_iconst (v := 5) hC dL_isDone_178 (by decide) ?_
    refine v_ishr hC dL_isDone_179 ?_
    refine v_iload_n hC dL_isDone_180 rfl 6 rfl ?_
    refine v_iconst (v := 4) hC dL_isDone_181 (by decide) ?_
    refine v_ishr hC dL_isDone_182 ?_
    refine v_iconst (v := 4) hC dL_isDone_183 (by decide) ?_
    refine v_bel (k := 4) hC rfl (by decide) (Nat.le_of_ble_eq_true rfl) (Nat.le_of_ble_eq_true rfl) (Nat.le_of_ble_eq_true rfl) (Nat.le_of_ble_eq_true rfl) (Nat.le_of_ble_eq_true rfl) dL_isDone_184 (fun ch hch => ?_)
    have KT : ∀ te : Int32, (30 ≤ te.toInt ∧ te.toInt ≤ 3600) → V X 8 p l e ({ frames := 8, cells := 48, slots := 192, locals := 199 } : Room) s m args below meth c Q 0 0 n K F G [(6, .int (nI sh)), (5, .int (nI (sz K G a0 4))), (4, .int (nI po)), (3, .int (nI bu)), (2, .int (nI la)), (0, .ref a0), (1, .int x)] 203 (.int te :: .int amt :: .int (nI bu) :: .int (nI po) :: .ref a0 :: []) := by
      intro te hte
      refine v_iload_n hC dL_isDone_203 rfl 6 rfl ?_
      refine v_bipush (v := 11) hC dL_isDone_204 (by decide) ?_
      refine v_ishr hC dL_isDone_206 ?_
      refine v_iconst (v := 5) hC dL_isDone_207 (by decide) ?_
      refine v_bel (k := 5) hC rfl (by decide) (Nat.le_of_ble_eq_true rfl) (Nat.le_of_ble_eq_true rfl) (Nat.le_of_ble_eq_true rfl) (Nat.le_of_ble_eq_true rfl) (Nat.le_of_ble_eq_true rfl) dL_isDone_208 (fun fk hfk => ?_)
      have KZ : ∀ z9 : Int32, z9 = 0 ∨ z9 = 1 → V X 8 p l e ({ frames := 8, cells := 48, slots := 192, locals := 199 } : Room) s m args below meth c Q 0 0 n K F G [(6, .int (nI sh)), (5, .int (nI (sz K G a0 4))), (4, .int (nI po)), (3, .int (nI bu)), (2, .int (nI la)), (0, .ref a0), (1, .int x)] 219 (.int z9 :: .int te :: .int amt :: .int (nI bu) :: .int (nI po) :: .ref a0 :: []) := by
        intro z9 hz9
        have w1 : ¬ f_X8_isWithin K F G amt 1 99999 = 0 := within_of (by rw [show (1 : Int32).toInt = 1 from rfl]; omega) (by rw [show (99999 : Int32).toInt = 99999 from rfl]; omega)
        have w2 : ¬ f_X8_isWithin K F G te 30 3600 = 0 := within_of (by rw [show (30 : Int32).toInt = 30 from rfl]; omega) (by rw [show (3600 : Int32).toInt = 3600 from rfl]; omega)
        have hs47 : (K (gp G a0 4)).2 ≤ 47 := z4
        refine v_rcallV (c2 := 2) (s2 := 65) (As := [.int (nI po), .int (nI bu), .int amt, .int te, .int z9]) hC (m_X8_ship l hk.1 hpo3 hbu6 w1 w2 hs47 hz9) q_L_55 (by rw [tm.1]; decide) (ce_1 tm.1) (ci := 0) rfl hdV_X8_ship rfl rfl (Nat.le_of_ble_eq_true rfl) (Nat.le_of_ble_eq_true rfl) (Nat.le_of_ble_eq_true rfl) (Nat.le_of_ble_eq_true rfl) (Nat.le_of_ble_eq_true rfl) (Nat.le_of_ble_eq_true rfl) (Nat.le_of_ble_eq_true rfl) dL_isDone_219 ?_
        intro o n9 K9 F9 G9 hP
        obtain ⟨⟨v9, rfl⟩, hfr, F1, F2, r, rs, w, eF1, hA, eF2⟩ := hP
        obtain ⟨j1, j2, j3, j4, j5, j6, j7⟩ := ship_inv hk h hpo3 hbu6 (by omega) hz9 z4 hB0 (by omega) hfr eF1 hA eF2
        refine v_pop hC dL_isDone_222 rfl ?_
        refine v_goto (tgt := 537) hC dL_isDone_223 (by decide) ?_
        exact KOK 2 65 _ _ _ _ (by decide) (by decide) ⟨j1, j2.mono (by omega), j3, j4, j6, Or.inr j5, j7⟩
      refine v_if_ne (tgt := 218) hC dL_isDone_211 (by decide) (fun _ => ?_) (fun _ => ?_)
      · refine v_iconst (v := 0) hC dL_isDone_218 (by decide) ?_
        exact KZ 0 (Or.inl rfl)
      · refine v_iconst (v := 1) hC dL_isDone_214 (by decide) ?_
        refine v_goto (tgt := 219) hC dL_isDone_215 (by decide) ?_
        exact KZ 1 (Or.inr rfl)
    refine v_if_ne (tgt := 196) hC dL_isDone_187 (by decide) (fun _ => ?_) (fun _ => ?_)
    · refine v_sipush (v := 200) hC dL_isDone_196 (by decide) ?_
      refine v_bel (k := 200) hC rfl (by decide) (Nat.le_of_ble_eq_true rfl) (Nat.le_of_ble_eq_true rfl) (Nat.le_of_ble_eq_true rfl) (Nat.le_of_ble_eq_true rfl) (Nat.le_of_ble_eq_true rfl) dL_isDone_199 (fun t9 ht9 => ?_)
      refine v_iadd hC dL_isDone_202 ?_
      have et := i_add_n (a := 30) (x := 30) rfl ht9 (by decide)
      exact KT _ (by omega)
    · refine v_sipush (v := 3571) hC dL_isDone_190 (by decide) ?_
      refine v_goto (tgt := 199) hC dL_isDone_193 (by decide) ?_
      refine v_bel (k := 3571) hC rfl (by decide) (Nat.le_of_ble_eq_true rfl) (Nat.le_of_ble_eq_true rfl) (Nat.le_of_ble_eq_true rfl) (Nat.le_of_ble_eq_true rfl) (Nat.le_of_ble_eq_true rfl) dL_isDone_199 (fun t9 ht9 => ?_)
      refine v_iadd hC dL_isDone_202 ?_
      have et := i_add_n (a := 30) (x := 30) rfl ht9 (by decide)
      exact KT _ (by omega)
  have C226 : V X 8 p l e ({ frames := 8, cells := 48, slots := 192, locals := 199 } : Room) s m args below meth c Q 0 0 n K F G [(6, .int (nI sh)), (5, .int (nI (sz K G a0 4))), (4, .int (nI po)), (3, .int (nI bu)), (2, .int (nI la)), (0, .ref a0), (1, .int x)] 226 [] := by
    refine v_aload_n hC dL_isDone_226 rfl 5 rfl ?_
    refine v_iload_n hC dL_isDone_227 rfl 3 rfl ?_
    refine v_iconst (v := 1) hC dL_isDone_228 (by decide) ?_
    refine v_iload_n hC dL_isDone_229 rfl 6 rfl ?_
    refine v_iconst (v := 3) hC dL_isDone_230 (by decide) ?_
    refine v_ishr hC dL_isDone_231 ?_
    refine v_sipush (v := 2000) hC dL_isDone_232 (by decide) ?_
    refine v_bel (k := 2000) hC rfl (by decide) (Nat.le_of_ble_eq_true rfl) (Nat.le_of_ble_eq_true rfl) (Nat.le_of_ble_eq_true rfl) (Nat.le_of_ble_eq_true rfl) (Nat.le_of_ble_eq_true rfl) dL_isDone_235 (fun am ham => ?_)
    refine v_iadd hC dL_isDone_238 ?_
    have eamt := i_add_n (a := 1) (x := 1) rfl ham (by decide)
    generalize (1 : Int32) + nI am = amt at eamt ⊢
    have w1 : ¬ f_X8_isWithin K F G amt 1 99999 = 0 := within_of (by rw [show (1 : Int32).toInt = 1 from rfl]; omega) (by rw [show (99999 : Int32).toInt = 99999 from rfl]; omega)
    refine v_callV (c2 := 0) (s2 := 0) (As := [.int (nI bu), .int amt]) hC (m_X8_earn l tm hbu6 w1) q_L_36 (by rw [tm.1]; decide) (ce_1 tm.1) (ci := 0) rfl hdV_X8_earn rfl rfl (Nat.le_of_ble_eq_true rfl) (Nat.le_of_ble_eq_true rfl) (Nat.le_of_ble_eq_true rfl) (Nat.le_of_ble_eq_true rfl) (Nat.le_of_ble_eq_true rfl) (Nat.le_of_ble_eq_true rfl) (Nat.le_of_ble_eq_true rfl) dL_isDone_239 ?_
    refine v_pop hC dL_isDone_242 rfl ?_
    refine v_goto (tgt := 537) hC dL_isDone_243 (by decide) ?_
    exact KOK 0 0 _ _ _ _ (by decide) (by decide) ((earn_stp hk h hbu6 (by omega) hB0 (by omega)).d hk (by omega))
  have C246 : V X 8 p l e ({ frames := 8, cells := 48, slots := 192, locals := 199 } : Room) s m args below meth c Q 0 0 n K F G [(6, .int (nI sh)), (5, .int (nI (sz K G a0 4))), (4, .int (nI po)), (3, .int (nI bu)), (2, .int (nI la)), (0, .ref a0), (1, .int x)] 246 [] := by
    refine v_aload_n hC dL_isDone_246 rfl 5 rfl ?_
    refine v_iload_n hC dL_isDone_247 rfl 3 rfl ?_
    refine v_iconst (v := 1) hC dL_isDone_248 (by decide) ?_
    refine v_iload_n hC dL_isDone_249 rfl 6 rfl ?_
    refine v_iconst (v := 3) hC dL_isDone_250 (by decide) ?_
    refine v_ishr hC dL_isDone_251 ?_
    refine v_sipush (v := 2000) hC dL_isDone_252 (by decide) ?_
    refine v_bel (k := 2000) hC rfl (by decide) (Nat.le_of_ble_eq_true rfl) (Nat.le_of_ble_eq_true rfl) (Nat.le_of_ble_eq_true rfl) (Nat.le_of_ble_eq_true rfl) (Nat.le_of_ble_eq_true rfl) dL_isDone_255 (fun am ham => ?_)
    refine v_iadd hC dL_isDone_258 ?_
    have eamt := i_add_n (a := 1) (x := 1) rfl ham (by decide)
    generalize (1 : Int32) + nI am = amt at eamt ⊢
    have w1 : ¬ f_X8_isWithin K F G amt 1 99999 = 0 := within_of (by rw [show (1 : Int32).toInt = 1 from rfl]; omega) (by rw [show (99999 : Int32).toInt = 99999 from rfl]; omega)
    refine v_xcallV (c2 := 1) (s2 := 6) (As := [.int (nI bu), .int amt]) hC (m_X8_pay l hfl tm hbu6 w1) q_L_59 (by rw [tm.1]; decide) (ce_1 tm.1) (ci := 0) rfl hdV_X8_pay rfl rfl (Nat.le_of_ble_eq_true rfl) (Nat.le_of_ble_eq_true rfl) (Nat.le_of_ble_eq_true rfl) (Nat.le_of_ble_eq_true rfl) (Nat.le_of_ble_eq_true rfl) (Nat.le_of_ble_eq_true rfl) (Nat.le_of_ble_eq_true rfl) dL_isDone_259 (KER _ _ _ _ (by decide) (by decide) (by decide) (by decide)) (fun _ => ?_)
    refine v_pop hC dL_isDone_262 rfl ?_
    refine v_goto (tgt := 537) hC dL_isDone_263 (by decide) ?_
    exact KOK 1 6 _ _ _ _ (by decide) (by decide) ((pay_stp hk h hbu6 (by omega) hB0 (by omega)).d hk (by omega))
  have C266 : V X 8 p l e ({ frames := 8, cells := 48, slots := 192, locals := 199 } : Room) s m args below meth c Q 0 0 n K F G [(6, .int (nI sh)), (5, .int (nI (sz K G a0 4))), (4, .int (nI po)), (3, .int (nI bu)), (2, .int (nI la)), (0, .ref a0), (1, .int x)] 266 [] := by
    refine v_aload_n hC dL_isDone_266 rfl 5 rfl ?_
    refine v_iload hC dL_isDone_267 0 rfl ?_
    refine v_xcallV (c2 := 2) (s2 := 12) (As := [.int (nI sh)]) hC (m_X8_report l hfl tm hs31) q_L_62 (by rw [tm.1]; decide) (ce_1 tm.1) (ci := 0) rfl hdV_X8_report rfl rfl (Nat.le_of_ble_eq_true rfl) (Nat.le_of_ble_eq_true rfl) (Nat.le_of_ble_eq_true rfl) (Nat.le_of_ble_eq_true rfl) (Nat.le_of_ble_eq_true rfl) (Nat.le_of_ble_eq_true rfl) (Nat.le_of_ble_eq_true rfl) dL_isDone_269 (KER _ _ _ _ (by decide) (by decide) (by decide) (by decide)) (fun _ => ?_)
    refine v_pop hC dL_isDone_272 rfl ?_
    refine v_goto (tgt := 537) hC dL_isDone_273 (by decide) ?_
    exact KOK 2 12 _ _ _ _ (by decide) (by decide) ((report_stp hk h).d hk (by omega))
  have C276 : V X 8 p l e ({ frames := 8, cells := 48, slots := 192, locals := 199 } : Room) s m args below meth c Q 0 0 n K F G [(6, .int (nI sh)), (5, .int (nI (sz K G a0 4))), (4, .int (nI po)), (3, .int (nI bu)), (2, .int (nI la)), (0, .ref a0), (1, .int x)] 276 [] := by
    refine v_aload_n hC dL_isDone_276 rfl 5 rfl ?_
    refine v_iload hC dL_isDone_277 0 rfl ?_
    refine v_xcallV (c2 := 2) (s2 := 12) (As := [.int (nI sh)]) hC (m_X8_dispute l hfl tm hs31) q_L_65 (by rw [tm.1]; decide) (ce_1 tm.1) (ci := 0) rfl hdV_X8_dispute rfl rfl (Nat.le_of_ble_eq_true rfl) (Nat.le_of_ble_eq_true rfl) (Nat.le_of_ble_eq_true rfl) (Nat.le_of_ble_eq_true rfl) (Nat.le_of_ble_eq_true rfl) (Nat.le_of_ble_eq_true rfl) (Nat.le_of_ble_eq_true rfl) dL_isDone_279 (KER _ _ _ _ (by decide) (by decide) (by decide) (by decide)) (fun _ => ?_)
    refine v_pop hC dL_isDone_282 rfl ?_
    refine v_goto (tgt := 537) hC dL_isDone_283 (by decide) ?_
    exact KOK 2 12 _ _ _ _ (by decide) (by decide) ((dispute_stp hk h).d hk (by omega))
  have C286 : V X 8 p l e ({ frames := 8, cells := 48, slots := 192, locals := 199 } : Room) s m args below meth c Q 0 0 n K F G [(6, .int (nI sh)), (5, .int (nI (sz K G a0 4))), (4, .int (nI po)), (3, .int (nI bu)), (2, .int (nI la)), (0, .ref a0), (1, .int x)] 286 [] := by
    refine v_aload_n hC dL_isDone_286 rfl 5 rfl ?_
    refine v_iload hC dL_isDone_287 0 rfl ?_
    refine v_iload_n hC dL_isDone_289 rfl 6 rfl ?_
    refine v_iconst (v := 4) hC dL_isDone_290 (by decide) ?_
    refine v_ishr hC dL_isDone_291 ?_
    refine v_iconst (v := 2) hC dL_isDone_292 (by decide) ?_
    refine v_bel (k := 2) hC rfl (by decide) (Nat.le_of_ble_eq_true rfl) (Nat.le_of_ble_eq_true rfl) (Nat.le_of_ble_eq_true rfl) (Nat.le_of_ble_eq_true rfl) (Nat.le_of_ble_eq_true rfl) dL_isDone_293 (fun jd hjd => ?_)
    have KZ : ∀ z9 : Int32, z9 = 0 ∨ z9 = 1 → V X 8 p l e ({ frames := 8, cells := 48, slots := 192, locals := 199 } : Room) s m args below meth c Q 0 0 n K F G [(6, .int (nI sh)), (5, .int (nI (sz K G a0 4))), (4, .int (nI po)), (3, .int (nI bu)), (2, .int (nI la)), (0, .ref a0), (1, .int x)] 304 (.int z9 :: .int (nI sh) :: .ref a0 :: []) := by
      intro z9 hz9
      refine v_xcallV (c2 := 2) (s2 := 12) (As := [.int (nI sh), .int z9]) hC (m_X8_judge l hfl tm hs31) q_L_68 (by rw [tm.1]; decide) (ce_1 tm.1) (ci := 0) rfl hdV_X8_judge rfl rfl (Nat.le_of_ble_eq_true rfl) (Nat.le_of_ble_eq_true rfl) (Nat.le_of_ble_eq_true rfl) (Nat.le_of_ble_eq_true rfl) (Nat.le_of_ble_eq_true rfl) (Nat.le_of_ble_eq_true rfl) (Nat.le_of_ble_eq_true rfl) dL_isDone_304 (KER _ _ _ _ (by decide) (by decide) (by decide) (by decide)) (fun _ => ?_)
      refine v_pop hC dL_isDone_307 rfl ?_
      refine v_goto (tgt := 537) hC dL_isDone_308 (by decide) ?_
      exact KOK 2 12 _ _ _ _ (by decide) (by decide) ((judge_stp hk h).d hk (by omega))
    refine v_if_ne (tgt := 303) hC dL_isDone_296 (by decide) (fun _ => ?_) (fun _ => ?_)
    · refine v_iconst (v := 0) hC dL_isDone_303 (by decide) ?_
      exact KZ 0 (Or.inl rfl)
    · refine v_iconst (v := 1) hC dL_isDone_299 (by decide) ?_
      refine v_goto (tgt := 304) hC dL_isDone_300 (by decide) ?_
      exact KZ 1 (Or.inr rfl)
  have C311 : V X 8 p l e ({ frames := 8, cells := 48, slots := 192, locals := 199 } : Room) s m args below meth c Q 0 0 n K F G [(6, .int (nI sh)), (5, .int (nI (sz K G a0 4))), (4, .int (nI po)), (3, .int (nI bu)), (2, .int (nI la)), (0, .ref a0), (1, .int x)] 311 [] := by
    refine v_aload_n hC dL_isDone_311 rfl 5 rfl ?_
    refine v_iload hC dL_isDone_312 0 rfl ?_
    refine v_xrcallV (c2 := 3) (s2 := 19) (As := [.int (nI sh)]) hC (m_X8_claim l hfl hk.1 hs31) q_L_72 (by rw [tm.1]; decide) (ce_1 tm.1) (ci := 0) rfl hdV_X8_claim rfl rfl (Nat.le_of_ble_eq_true rfl) (Nat.le_of_ble_eq_true rfl) (Nat.le_of_ble_eq_true rfl) (Nat.le_of_ble_eq_true rfl) (Nat.le_of_ble_eq_true rfl) (Nat.le_of_ble_eq_true rfl) (Nat.le_of_ble_eq_true rfl) dL_isDone_314 (KER _ _ _ _ (by decide) (by decide) (by decide) (by decide)) ?_
    intro o n9 K9 F9 G9 hP
    obtain ⟨⟨v9, rfl⟩, hi9, hfr, en, gr, ss, eg, es, h11, hcl, eK, eG, eF⟩ := hP
    have st := claim_inv hk h hi9 hfr h11 hcl hB0 (by omega) eg es
    rw [← eK, ← eG] at st
    have st2 : StG X (B + 6000) K F G K9 F9 G9 a0 := by rw [eF]; exact st
    refine v_pop hC dL_isDone_317 rfl ?_
    refine v_goto (tgt := 537) hC dL_isDone_318 (by decide) ?_
    exact KOK 3 19 _ _ _ _ (by decide) (by decide) (st2.d (by omega))
  have C321 : V X 8 p l e ({ frames := 8, cells := 48, slots := 192, locals := 199 } : Room) s m args below meth c Q 0 0 n K F G [(6, .int (nI sh)), (5, .int (nI (sz K G a0 4))), (4, .int (nI po)), (3, .int (nI bu)), (2, .int (nI la)), (0, .ref a0), (1, .int x)] 321 [] := by
    refine v_aload_n hC dL_isDone_321 rfl 5 rfl ?_
    refine v_iload hC dL_isDone_322 0 rfl ?_
    refine v_iconst (v := 1) hC dL_isDone_324 (by decide) ?_
    refine v_iload_n hC dL_isDone_325 rfl 6 rfl ?_
    refine v_iconst (v := 4) hC dL_isDone_326 (by decide) ?_
    refine v_ishr hC dL_isDone_327 ?_
    refine v_sipush (v := 900) hC dL_isDone_328 (by decide) ?_
    refine v_bel (k := 900) hC rfl (by decide) (Nat.le_of_ble_eq_true rfl) (Nat.le_of_ble_eq_true rfl) (Nat.le_of_ble_eq_true rfl) (Nat.le_of_ble_eq_true rfl) (Nat.le_of_ble_eq_true rfl) dL_isDone_331 (fun am ham => ?_)
    refine v_iadd hC dL_isDone_334 ?_
    have eamt := i_add_n (a := 1) (x := 1) rfl ham (by decide)
    generalize (1 : Int32) + nI am = amt at eamt ⊢
    have w1 : ¬ f_X8_isWithin K F G amt 1 99999 = 0 := within_of (by rw [show (1 : Int32).toInt = 1 from rfl]; omega) (by rw [show (99999 : Int32).toInt = 99999 from rfl]; omega)
    refine v_xcallV (c2 := 2) (s2 := 12) (As := [.int (nI sh), .int amt]) hC (m_X8_salvage l hfl tm hs31 w1) q_L_75 (by rw [tm.1]; decide) (ce_1 tm.1) (ci := 0) rfl hdV_X8_salvage rfl rfl (Nat.le_of_ble_eq_true rfl) (Nat.le_of_ble_eq_true rfl) (Nat.le_of_ble_eq_true rfl) (Nat.le_of_ble_eq_true rfl) (Nat.le_of_ble_eq_true rfl) (Nat.le_of_ble_eq_true rfl) (Nat.le_of_ble_eq_true rfl) dL_isDone_335 (KER _ _ _ _ (by decide) (by decide) (by decide) (by decide)) (fun _ => ?_)
    refine v_pop hC dL_isDone_338 rfl ?_
    refine v_goto (tgt := 537) hC dL_isDone_339 (by decide) ?_
    exact KOK 2 12 _ _ _ _ (by decide) (by decide) ((salvage_stp hk h (by omega) hB0 (by omega)).d hk (by omega))
  have C342 : V X 8 p l e ({ frames := 8, cells := 48, slots := 192, locals := 199 } : Room) s m args below meth c Q 0 0 n K F G [(6, .int (nI sh)), (5, .int (nI (sz K G a0 4))), (4, .int (nI po)), (3, .int (nI bu)), (2, .int (nI la)), (0, .ref a0), (1, .int x)] 342 [] := by
    refine v_aload_n hC dL_isDone_342 rfl 5 rfl ?_
    refine v_iload_n hC dL_isDone_343 rfl 4 rfl ?_
    refine v_bipush (v := 10) hC dL_isDone_344 (by decide) ?_
    refine v_iload_n hC dL_isDone_346 rfl 6 rfl ?_
    refine v_iconst (v := 4) hC dL_isDone_347 (by decide) ?_
    refine v_ishr hC dL_isDone_348 ?_
    refine v_bipush (v := 91) hC dL_isDone_349 (by decide) ?_
    refine v_bel (k := 91) hC rfl (by decide) (Nat.le_of_ble_eq_true rfl) (Nat.le_of_ble_eq_true rfl) (Nat.le_of_ble_eq_true rfl) (Nat.le_of_ble_eq_true rfl) (Nat.le_of_ble_eq_true rfl) dL_isDone_351 (fun hu hhu => ?_)
    refine v_iadd hC dL_isDone_354 ?_
    have ehun := i_add_n (a := 10) (x := 10) rfl hhu (by decide)
    generalize (10 : Int32) + nI hu = hun at ehun ⊢
    refine v_iconst (v := 1) hC dL_isDone_355 (by decide) ?_
    refine v_iload_n hC dL_isDone_356 rfl 6 rfl ?_
    refine v_iconst (v := 3) hC dL_isDone_357 (by decide) ?_
    refine v_ishr hC dL_isDone_358 ?_
    refine v_bipush (v := 10) hC dL_isDone_359 (by decide) ?_
    refine v_bel (k := 10) hC rfl (by decide) (Nat.le_of_ble_eq_true rfl) (Nat.le_of_ble_eq_true rfl) (Nat.le_of_ble_eq_true rfl) (Nat.le_of_ble_eq_true rfl) (Nat.le_of_ble_eq_true rfl) dL_isDone_361 (fun ye hye => ?_)
    refine v_iadd hC dL_isDone_364 ?_
    have eyea := i_add_n (a := 1) (x := 1) rfl hye (by decide)
    generalize (1 : Int32) + nI ye = yea at eyea ⊢
    have w1 : ¬ f_X8_isWithin K F G hun 10 100 = 0 := within_of (by rw [show (10 : Int32).toInt = 10 from rfl]; omega) (by rw [show (100 : Int32).toInt = 100 from rfl]; omega)
    have w2 : ¬ f_X8_isWithin K F G yea 1 10 = 0 := within_of (by rw [show (1 : Int32).toInt = 1 from rfl]; omega) (by rw [show (10 : Int32).toInt = 10 from rfl]; omega)
    refine v_rcallV (c2 := 48) (s2 := 192) (As := [.int (nI la), .int hun, .int yea]) hC (m_X8_club l hk h hla3 w1 w2 (by omega)) q_L_78 (by rw [tm.1]; decide) (ce_1 tm.1) (ci := 0) rfl hdV_X8_club rfl rfl (Nat.le_of_ble_eq_true rfl) (Nat.le_of_ble_eq_true rfl) (Nat.le_of_ble_eq_true rfl) (Nat.le_of_ble_eq_true rfl) (Nat.le_of_ble_eq_true rfl) (Nat.le_of_ble_eq_true rfl) (Nat.le_of_ble_eq_true rfl) dL_isDone_365 ?_
    intro o n9 K9 F9 G9 hP
    obtain ⟨⟨v9, rfl⟩, st⟩ := hP
    refine v_pop hC dL_isDone_368 rfl ?_
    refine v_goto (tgt := 537) hC dL_isDone_369 (by decide) ?_
    exact KOK 48 192 _ _ _ _ (by decide) (by decide) (st.d (by omega))
  have C372 : V X 8 p l e ({ frames := 8, cells := 48, slots := 192, locals := 199 } : Room) s m args below meth c Q 0 0 n K F G [(6, .int (nI sh)), (5, .int (nI (sz K G a0 4))), (4, .int (nI po)), (3, .int (nI bu)), (2, .int (nI la)), (0, .ref a0), (1, .int x)] 372 [] := by
    refine v_aload_n hC dL_isDone_372 rfl 5 rfl ?_
    refine v_iload hC dL_isDone_373 0 rfl ?_
    refine v_xcallV (c2 := 2) (s2 := 12) (As := [.int (nI sh)]) hC (m_X8_inspect l hfl tm hs31) q_L_81 (by rw [tm.1]; decide) (ce_1 tm.1) (ci := 0) rfl hdV_X8_inspect rfl rfl (Nat.le_of_ble_eq_true rfl) (Nat.le_of_ble_eq_true rfl) (Nat.le_of_ble_eq_true rfl) (Nat.le_of_ble_eq_true rfl) (Nat.le_of_ble_eq_true rfl) (Nat.le_of_ble_eq_true rfl) (Nat.le_of_ble_eq_true rfl) dL_isDone_375 (KER _ _ _ _ (by decide) (by decide) (by decide) (by decide)) (fun _ => ?_)
    refine v_pop hC dL_isDone_378 rfl ?_
    refine v_goto (tgt := 537) hC dL_isDone_379 (by decide) ?_
    exact KOK 2 12 _ _ _ _ (by decide) (by decide) ((inspect_stp hk h hB0 (by omega)).d hk (by omega))
  have C382 : V X 8 p l e ({ frames := 8, cells := 48, slots := 192, locals := 199 } : Room) s m args below meth c Q 0 0 n K F G [(6, .int (nI sh)), (5, .int (nI (sz K G a0 4))), (4, .int (nI po)), (3, .int (nI bu)), (2, .int (nI la)), (0, .ref a0), (1, .int x)] 382 [] := by
    refine v_aload_n hC dL_isDone_382 rfl 5 rfl ?_
    refine v_iload_n hC dL_isDone_383 rfl 4 rfl ?_
    refine v_iload_n hC dL_isDone_384 rfl 6 rfl ?_
    refine v_iconst (v := 4) hC dL_isDone_385 (by decide) ?_
    refine v_ishr hC dL_isDone_386 ?_
    refine v_iconst (v := 3) hC dL_isDone_387 (by decide) ?_
    refine v_bel (k := 3) hC rfl (by decide) (Nat.le_of_ble_eq_true rfl) (Nat.le_of_ble_eq_true rfl) (Nat.le_of_ble_eq_true rfl) (Nat.le_of_ble_eq_true rfl) (Nat.le_of_ble_eq_true rfl) dL_isDone_388 (fun sl hsl => ?_)
    have KZ : ∀ z9 : Int32, z9 = 0 ∨ z9 = 1 → V X 8 p l e ({ frames := 8, cells := 48, slots := 192, locals := 199 } : Room) s m args below meth c Q 0 0 n K F G [(6, .int (nI sh)), (5, .int (nI (sz K G a0 4))), (4, .int (nI po)), (3, .int (nI bu)), (2, .int (nI la)), (0, .ref a0), (1, .int x)] 399 (.int z9 :: .int (nI la) :: .ref a0 :: []) := by
      intro z9 hz9
      refine v_callV (c2 := 0) (s2 := 0) (As := [.int (nI la), .int z9]) hC (m_X8_stop l tm hla3) q_L_85 (by rw [tm.1]; decide) (ce_1 tm.1) (ci := 0) rfl hdV_X8_stop rfl rfl (Nat.le_of_ble_eq_true rfl) (Nat.le_of_ble_eq_true rfl) (Nat.le_of_ble_eq_true rfl) (Nat.le_of_ble_eq_true rfl) (Nat.le_of_ble_eq_true rfl) (Nat.le_of_ble_eq_true rfl) (Nat.le_of_ble_eq_true rfl) dL_isDone_399 ?_
      refine v_pop hC dL_isDone_402 rfl ?_
      refine v_goto (tgt := 537) hC dL_isDone_403 (by decide) ?_
      exact KOK 0 0 _ _ _ _ (by decide) (by decide) ((stop_stp hk h hla3).d hk (by omega))
    refine v_if_ne (tgt := 398) hC dL_isDone_391 (by decide) (fun _ => ?_) (fun _ => ?_)
    · refine v_iconst (v := 0) hC dL_isDone_398 (by decide) ?_
      exact KZ 0 (Or.inl rfl)
    · refine v_iconst (v := 1) hC dL_isDone_394 (by decide) ?_
      refine v_goto (tgt := 399) hC dL_isDone_395 (by decide) ?_
      exact KZ 1 (Or.inr rfl)
  have C406 : V X 8 p l e ({ frames := 8, cells := 48, slots := 192, locals := 199 } : Room) s m args below meth c Q 0 0 n K F G [(6, .int (nI sh)), (5, .int (nI (sz K G a0 4))), (4, .int (nI po)), (3, .int (nI bu)), (2, .int (nI la)), (0, .ref a0), (1, .int x)] 406 [] := by
    refine v_aload_n hC dL_isDone_406 rfl 5 rfl ?_
    refine v_iload_n hC dL_isDone_407 rfl 4 rfl ?_
    refine v_iload_n hC dL_isDone_408 rfl 6 rfl ?_
    refine v_iconst (v := 4) hC dL_isDone_409 (by decide) ?_
    refine v_ishr hC dL_isDone_410 ?_
    refine v_iconst (v := 4) hC dL_isDone_411 (by decide) ?_
    refine v_bel (k := 4) hC rfl (by decide) (Nat.le_of_ble_eq_true rfl) (Nat.le_of_ble_eq_true rfl) (Nat.le_of_ble_eq_true rfl) (Nat.le_of_ble_eq_true rfl) (Nat.le_of_ble_eq_true rfl) dL_isDone_412 (fun sl hsl => ?_)
    have KZ : ∀ z9 : Int32, z9 = 0 ∨ z9 = 1 → V X 8 p l e ({ frames := 8, cells := 48, slots := 192, locals := 199 } : Room) s m args below meth c Q 0 0 n K F G [(6, .int (nI sh)), (5, .int (nI (sz K G a0 4))), (4, .int (nI po)), (3, .int (nI bu)), (2, .int (nI la)), (0, .ref a0), (1, .int x)] 423 (.int z9 :: .int (nI la) :: .ref a0 :: []) := by
      intro z9 hz9
      refine v_callV (c2 := 0) (s2 := 0) (As := [.int (nI la), .int z9]) hC (m_X8_war l tm hla3) q_L_88 (by rw [tm.1]; decide) (ce_1 tm.1) (ci := 0) rfl hdV_X8_war rfl rfl (Nat.le_of_ble_eq_true rfl) (Nat.le_of_ble_eq_true rfl) (Nat.le_of_ble_eq_true rfl) (Nat.le_of_ble_eq_true rfl) (Nat.le_of_ble_eq_true rfl) (Nat.le_of_ble_eq_true rfl) (Nat.le_of_ble_eq_true rfl) dL_isDone_423 ?_
      refine v_pop hC dL_isDone_426 rfl ?_
      refine v_goto (tgt := 537) hC dL_isDone_427 (by decide) ?_
      exact KOK 0 0 _ _ _ _ (by decide) (by decide) ((war_stp hk h hla3).d hk (by omega))
    refine v_if_ne (tgt := 422) hC dL_isDone_415 (by decide) (fun _ => ?_) (fun _ => ?_)
    · refine v_iconst (v := 0) hC dL_isDone_422 (by decide) ?_
      exact KZ 0 (Or.inl rfl)
    · refine v_iconst (v := 1) hC dL_isDone_418 (by decide) ?_
      refine v_goto (tgt := 423) hC dL_isDone_419 (by decide) ?_
      exact KZ 1 (Or.inr rfl)
  have C430 : V X 8 p l e ({ frames := 8, cells := 48, slots := 192, locals := 199 } : Room) s m args below meth c Q 0 0 n K F G [(6, .int (nI sh)), (5, .int (nI (sz K G a0 4))), (4, .int (nI po)), (3, .int (nI bu)), (2, .int (nI la)), (0, .ref a0), (1, .int x)] 430 [] := by
    refine v_iload_n hC dL_isDone_430 rfl 6 rfl ?_
    refine v_iconst (v := 4) hC dL_isDone_431 (by decide) ?_
    refine v_ishr hC dL_isDone_432 ?_
    refine v_iconst (v := 3) hC dL_isDone_433 (by decide) ?_
    refine v_bel (k := 3) hC rfl (by decide) (Nat.le_of_ble_eq_true rfl) (Nat.le_of_ble_eq_true rfl) (Nat.le_of_ble_eq_true rfl) (Nat.le_of_ble_eq_true rfl) (Nat.le_of_ble_eq_true rfl) dL_isDone_434 (fun br hbr => ?_)
    refine v_if_ne (tgt := 537) hC dL_isDone_437 (by decide) (fun _ => KOK 0 0 _ _ _ _ (by decide) (by decide) stR) (fun _ => ?_)
    refine v_aload_n hC dL_isDone_440 rfl 5 rfl ?_
    refine v_iload_n hC dL_isDone_441 rfl 3 rfl ?_
    refine v_callV (c2 := 0) (s2 := 0) (As := [.int (nI bu)]) hC (m_X8_broke l tm hbu6) q_L_91 (by rw [tm.1]; decide) (ce_1 tm.1) (ci := 0) rfl hdV_X8_broke rfl rfl (Nat.le_of_ble_eq_true rfl) (Nat.le_of_ble_eq_true rfl) (Nat.le_of_ble_eq_true rfl) (Nat.le_of_ble_eq_true rfl) (Nat.le_of_ble_eq_true rfl) (Nat.le_of_ble_eq_true rfl) (Nat.le_of_ble_eq_true rfl) dL_isDone_442 ?_
    refine v_pop hC dL_isDone_445 rfl ?_
    refine v_goto (tgt := 537) hC dL_isDone_446 (by decide) ?_
    exact KOK 0 0 _ _ _ _ (by decide) (by decide) ((broke_stp hk h hbu6).d hk (by omega))
  have C449 : V X 8 p l e ({ frames := 8, cells := 48, slots := 192, locals := 199 } : Room) s m args below meth c Q 0 0 n K F G [(6, .int (nI sh)), (5, .int (nI (sz K G a0 4))), (4, .int (nI po)), (3, .int (nI bu)), (2, .int (nI la)), (0, .ref a0), (1, .int x)] 449 [] := by
    refine v_aload_n hC dL_isDone_449 rfl 5 rfl ?_
    refine v_iload_n hC dL_isDone_450 rfl 4 rfl ?_
    refine v_iconst (v := 1) hC dL_isDone_451 (by decide) ?_
    refine v_iload_n hC dL_isDone_452 rfl 6 rfl ?_
    refine v_iconst (v := 4) hC dL_isDone_453 (by decide) ?_
    refine v_ishr hC dL_isDone_454 ?_
    refine v_sipush (v := 150) hC dL_isDone_455 (by decide) ?_
    refine v_bel (k := 150) hC rfl (by decide) (Nat.le_of_ble_eq_true rfl) (Nat.le_of_ble_eq_true rfl) (Nat.le_of_ble_eq_true rfl) (Nat.le_of_ble_eq_true rfl) (Nat.le_of_ble_eq_true rfl) dL_isDone_458 (fun ra hra => ?_)
    refine v_iadd hC dL_isDone_461 ?_
    have erat := i_add_n (a := 1) (x := 1) rfl hra (by decide)
    generalize (1 : Int32) + nI ra = rat at erat ⊢
    have w1 : ¬ f_X8_isWithin K F G rat 1 999 = 0 := within_of (by rw [show (1 : Int32).toInt = 1 from rfl]; omega) (by rw [show (999 : Int32).toInt = 999 from rfl]; omega)
    refine v_callV (c2 := 0) (s2 := 0) (As := [.int (nI la), .int rat]) hC (m_X8_notice l tm hla3 w1) q_L_94 (by rw [tm.1]; decide) (ce_1 tm.1) (ci := 0) rfl hdV_X8_notice rfl rfl (Nat.le_of_ble_eq_true rfl) (Nat.le_of_ble_eq_true rfl) (Nat.le_of_ble_eq_true rfl) (Nat.le_of_ble_eq_true rfl) (Nat.le_of_ble_eq_true rfl) (Nat.le_of_ble_eq_true rfl) (Nat.le_of_ble_eq_true rfl) dL_isDone_462 ?_
    refine v_pop hC dL_isDone_465 rfl ?_
    refine v_goto (tgt := 537) hC dL_isDone_466 (by decide) ?_
    exact KOK 0 0 _ _ _ _ (by decide) (by decide) ((notice_stp hk h hla3).d hk (by omega))
  have C469 : V X 8 p l e ({ frames := 8, cells := 48, slots := 192, locals := 199 } : Room) s m args below meth c Q 0 0 n K F G [(6, .int (nI sh)), (5, .int (nI (sz K G a0 4))), (4, .int (nI po)), (3, .int (nI bu)), (2, .int (nI la)), (0, .ref a0), (1, .int x)] 469 [] := by
    refine v_aload_n hC dL_isDone_469 rfl 5 rfl ?_
    refine v_iload_n hC dL_isDone_470 rfl 6 rfl ?_
    refine v_iconst (v := 4) hC dL_isDone_471 (by decide) ?_
    refine v_ishr hC dL_isDone_472 ?_
    refine v_iconst (v := 3) hC dL_isDone_473 (by decide) ?_
    refine v_bel (k := 3) hC rfl (by decide) (Nat.le_of_ble_eq_true rfl) (Nat.le_of_ble_eq_true rfl) (Nat.le_of_ble_eq_true rfl) (Nat.le_of_ble_eq_true rfl) (Nat.le_of_ble_eq_true rfl) dL_isDone_474 (fun ex hex => ?_)
    refine v_iload_n hC dL_isDone_477 rfl 3 rfl ?_
    refine v_iload_n hC dL_isDone_478 rfl 6 rfl ?_
    refine v_iconst (v := 5) hC dL_isDone_479 (by decide) ?_
    refine v_ishr hC dL_isDone_480 ?_
    refine v_iconst (v := 2) hC dL_isDone_481 (by decide) ?_
    refine v_bel (k := 2) hC rfl (by decide) (Nat.le_of_ble_eq_true rfl) (Nat.le_of_ble_eq_true rfl) (Nat.le_of_ble_eq_true rfl) (Nat.le_of_ble_eq_true rfl) (Nat.le_of_ble_eq_true rfl) dL_isDone_482 (fun ow how => ?_)
    have hex3 : ex < (K (gp G a0 2)).2 := by rw [x2]; exact hex
    have KZ : ∀ z9 : Int32, z9 = 0 ∨ z9 = 1 → V X 8 p l e ({ frames := 8, cells := 48, slots := 192, locals := 199 } : Room) s m args below meth c Q 0 0 n K F G [(6, .int (nI sh)), (5, .int (nI (sz K G a0 4))), (4, .int (nI po)), (3, .int (nI bu)), (2, .int (nI la)), (0, .ref a0), (1, .int x)] 493 (.int z9 :: .int (nI bu) :: .int (nI ex) :: .ref a0 :: []) := by
      intro z9 hz9
      refine v_callV (c2 := 0) (s2 := 0) (As := [.int (nI ex), .int (nI bu), .int z9]) hC (m_X8_link l tm hex3 hbu6) q_L_97 (by rw [tm.1]; decide) (ce_1 tm.1) (ci := 0) rfl hdV_X8_link rfl rfl (Nat.le_of_ble_eq_true rfl) (Nat.le_of_ble_eq_true rfl) (Nat.le_of_ble_eq_true rfl) (Nat.le_of_ble_eq_true rfl) (Nat.le_of_ble_eq_true rfl) (Nat.le_of_ble_eq_true rfl) (Nat.le_of_ble_eq_true rfl) dL_isDone_493 ?_
      refine v_pop hC dL_isDone_496 rfl ?_
      refine v_goto (tgt := 537) hC dL_isDone_497 (by decide) ?_
      exact KOK 0 0 _ _ _ _ (by decide) (by decide) ((link_stp hk h hex3).d hk (by omega))
    refine v_if_ne (tgt := 492) hC dL_isDone_485 (by decide) (fun _ => ?_) (fun _ => ?_)
    · refine v_iconst (v := 0) hC dL_isDone_492 (by decide) ?_
      exact KZ 0 (Or.inl rfl)
    · refine v_iconst (v := 1) hC dL_isDone_488 (by decide) ?_
      refine v_goto (tgt := 493) hC dL_isDone_489 (by decide) ?_
      exact KZ 1 (Or.inr rfl)
  have C500 : V X 8 p l e ({ frames := 8, cells := 48, slots := 192, locals := 199 } : Room) s m args below meth c Q 0 0 n K F G [(6, .int (nI sh)), (5, .int (nI (sz K G a0 4))), (4, .int (nI po)), (3, .int (nI bu)), (2, .int (nI la)), (0, .ref a0), (1, .int x)] 500 [] := by
    refine v_aload_n hC dL_isDone_500 rfl 5 rfl ?_
    refine v_iload hC dL_isDone_501 2 rfl ?_
    refine v_iload_n hC dL_isDone_503 rfl 3 rfl ?_
    refine v_iload_n hC dL_isDone_504 rfl 6 rfl ?_
    refine v_iconst (v := 3) hC dL_isDone_505 (by decide) ?_
    refine v_ishr hC dL_isDone_506 ?_
    refine v_sipush (v := 9000) hC dL_isDone_507 (by decide) ?_
    refine v_bel (k := 9000) hC rfl (by decide) (Nat.le_of_ble_eq_true rfl) (Nat.le_of_ble_eq_true rfl) (Nat.le_of_ble_eq_true rfl) (Nat.le_of_ble_eq_true rfl) (Nat.le_of_ble_eq_true rfl) dL_isDone_510 (fun li hli => ?_)
    have e9 : (nI li).toInt = li := nI_toInt (by omega)
    have w1 : ¬ f_X8_isWithin K F G (nI li) 0 99999 = 0 := within_of (by rw [Int32.toInt_zero]; omega) (by rw [show (99999 : Int32).toInt = 99999 from rfl]; omega)
    refine v_xcallV (c2 := 1) (s2 := 6) (As := [.int (nI po), .int (nI bu), .int (nI li)]) hC (m_X8_limit l hfl tm hpo3 hbu6 w1) q_L_43 (by rw [tm.1]; decide) (ce_1 tm.1) (ci := 0) rfl hdV_X8_limit rfl rfl (Nat.le_of_ble_eq_true rfl) (Nat.le_of_ble_eq_true rfl) (Nat.le_of_ble_eq_true rfl) (Nat.le_of_ble_eq_true rfl) (Nat.le_of_ble_eq_true rfl) (Nat.le_of_ble_eq_true rfl) (Nat.le_of_ble_eq_true rfl) dL_isDone_513 (KER _ _ _ _ (by decide) (by decide) (by decide) (by decide)) (fun _ => ?_)
    refine v_pop hC dL_isDone_516 rfl ?_
    refine v_goto (tgt := 537) hC dL_isDone_517 (by decide) ?_
    exact KOK 1 6 _ _ _ _ (by decide) (by decide) ((limit_stp hk h hpo3).d hk (by omega))
  have C520 : V X 8 p l e ({ frames := 8, cells := 48, slots := 192, locals := 199 } : Room) s m args below meth c Q 0 0 n K F G [(6, .int (nI sh)), (5, .int (nI (sz K G a0 4))), (4, .int (nI po)), (3, .int (nI bu)), (2, .int (nI la)), (0, .ref a0), (1, .int x)] 520 [] := by
    refine v_aload_n hC dL_isDone_520 rfl 5 rfl ?_
    refine v_iload hC dL_isDone_521 2 rfl ?_
    refine v_iload_n hC dL_isDone_523 rfl 3 rfl ?_
    refine v_iload_n hC dL_isDone_524 rfl 6 rfl ?_
    refine v_iconst (v := 3) hC dL_isDone_525 (by decide) ?_
    refine v_ishr hC dL_isDone_526 ?_
    refine v_sipush (v := 4000) hC dL_isDone_527 (by decide) ?_
    refine v_bel (k := 4000) hC rfl (by decide) (Nat.le_of_ble_eq_true rfl) (Nat.le_of_ble_eq_true rfl) (Nat.le_of_ble_eq_true rfl) (Nat.le_of_ble_eq_true rfl) (Nat.le_of_ble_eq_true rfl) dL_isDone_530 (fun cu hcu => ?_)
    have w1 : ¬ nI cu < 0 := by rw [Int32.lt_iff_toInt_lt, nI_toInt (by omega), Int32.toInt_zero]; omega
    refine v_callV (c2 := 0) (s2 := 0) (As := [.int (nI po), .int (nI bu), .int (nI cu)]) hC (m_X8_cut l tm hpo3 hbu6 w1) q_L_101 (by rw [tm.1]; decide) (ce_1 tm.1) (ci := 0) rfl hdV_X8_cut rfl rfl (Nat.le_of_ble_eq_true rfl) (Nat.le_of_ble_eq_true rfl) (Nat.le_of_ble_eq_true rfl) (Nat.le_of_ble_eq_true rfl) (Nat.le_of_ble_eq_true rfl) (Nat.le_of_ble_eq_true rfl) (Nat.le_of_ble_eq_true rfl) dL_isDone_533 ?_
    refine v_pop hC dL_isDone_536 rfl ?_
    exact KOK 0 0 _ _ _ _ (by decide) (by decide) ((cut_stp hk h hpo3).d hk (by omega))
  refine v_iload_n hC dL_isDone_52 rfl 6 rfl ?_
  refine v_bipush (v := 23) hC dL_isDone_53 (by decide) ?_
  refine v_bel (k := 23) hC rfl (by decide) (Nat.le_of_ble_eq_true rfl) (Nat.le_of_ble_eq_true rfl) (Nat.le_of_ble_eq_true rfl) (Nat.le_of_ble_eq_true rfl) (Nat.le_of_ble_eq_true rfl) dL_isDone_55 (fun wh hwh => ?_)
  rcases (show wh = 0 ∨ wh = 1 ∨ wh = 2 ∨ wh = 3 ∨ wh = 4 ∨ wh = 5 ∨ wh = 6 ∨ wh = 7 ∨ wh = 8 ∨ wh = 9 ∨ wh = 10 ∨ wh = 11 ∨ wh = 12 ∨ wh = 13 ∨ wh = 14 ∨ wh = 15 ∨ wh = 16 ∨ wh = 17 ∨ wh = 18 ∨ wh = 19 ∨ wh = 20 ∨ wh = 21 ∨ wh = 22 by omega) with rfl | rfl | rfl | rfl | rfl | rfl | rfl | rfl | rfl | rfl | rfl | rfl | rfl | rfl | rfl | rfl | rfl | rfl | rfl | rfl | rfl | rfl | rfl
  · exact v_tabIn (tgt := 160) hC dL_isDone_58 (by decide) (by decide) rfl (by decide) C160
  · exact v_tabIn (tgt := 160) hC dL_isDone_58 (by decide) (by decide) rfl (by decide) C160
  · exact v_tabIn (tgt := 160) hC dL_isDone_58 (by decide) (by decide) rfl (by decide) C160
  · exact v_tabIn (tgt := 160) hC dL_isDone_58 (by decide) (by decide) rfl (by decide) C160
  · exact v_tabIn (tgt := 160) hC dL_isDone_58 (by decide) (by decide) rfl (by decide) C160
  · exact v_tabIn (tgt := 226) hC dL_isDone_58 (by decide) (by decide) rfl (by decide) C226
  · exact v_tabIn (tgt := 246) hC dL_isDone_58 (by decide) (by decide) rfl (by decide) C246
  · exact v_tabIn (tgt := 266) hC dL_isDone_58 (by decide) (by decide) rfl (by decide) C266
  · exact v_tabIn (tgt := 266) hC dL_isDone_58 (by decide) (by decide) rfl (by decide) C266
  · exact v_tabIn (tgt := 276) hC dL_isDone_58 (by decide) (by decide) rfl (by decide) C276
  · exact v_tabIn (tgt := 286) hC dL_isDone_58 (by decide) (by decide) rfl (by decide) C286
  · exact v_tabIn (tgt := 311) hC dL_isDone_58 (by decide) (by decide) rfl (by decide) C311
  · exact v_tabIn (tgt := 311) hC dL_isDone_58 (by decide) (by decide) rfl (by decide) C311
  · exact v_tabIn (tgt := 321) hC dL_isDone_58 (by decide) (by decide) rfl (by decide) C321
  · exact v_tabIn (tgt := 342) hC dL_isDone_58 (by decide) (by decide) rfl (by decide) C342
  · exact v_tabIn (tgt := 372) hC dL_isDone_58 (by decide) (by decide) rfl (by decide) C372
  · exact v_tabIn (tgt := 382) hC dL_isDone_58 (by decide) (by decide) rfl (by decide) C382
  · exact v_tabIn (tgt := 406) hC dL_isDone_58 (by decide) (by decide) rfl (by decide) C406
  · exact v_tabIn (tgt := 430) hC dL_isDone_58 (by decide) (by decide) rfl (by decide) C430
  · exact v_tabIn (tgt := 449) hC dL_isDone_58 (by decide) (by decide) rfl (by decide) C449
  · exact v_tabIn (tgt := 469) hC dL_isDone_58 (by decide) (by decide) rfl (by decide) C469
  · exact v_tabIn (tgt := 500) hC dL_isDone_58 (by decide) (by decide) rfl (by decide) C500
  · exact v_tabOut (tgt := 520) hC dL_isDone_58 (Or.inr (by decide)) (by decide) C520
end PNM
