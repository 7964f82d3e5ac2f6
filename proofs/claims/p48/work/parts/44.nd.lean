/-! claim and club -/
section PND
variable {X : Xt} {K K' : Kt} {F F' F'' F2 : Ft} {G G' G'' : Gt} {a0 n j : Nat} {B B' : Int}
theorem hdS_X8_claim : yX8_claim.cls ≠ "java/lang/invoke/MethodHandle" ∧ yX8_claim.cls ≠ "java/lang/invoke/VarHandle" ∧ (parseMethodDescriptor yX8_claim.desc).map (fun d => d.parameters.length) = some 1 := by decide +kernel
theorem hdV_X8_claim : yX8_claim.cls = RX8 ∧ yX8_claim.cls ≠ "java/lang/invoke/MethodHandle" ∧ yX8_claim.cls ≠ "java/lang/invoke/VarHandle" ∧ (parseMethodDescriptor yX8_claim.desc).map (fun d => d.parameters.length) = some 1 := by decide +kernel
theorem hdS_X8_club : yX8_club.cls ≠ "java/lang/invoke/MethodHandle" ∧ yX8_club.cls ≠ "java/lang/invoke/VarHandle" ∧ (parseMethodDescriptor yX8_club.desc).map (fun d => d.parameters.length) = some 3 := by decide +kernel
theorem hdV_X8_club : yX8_club.cls = RX8 ∧ yX8_club.cls ≠ "java/lang/invoke/MethodHandle" ∧ yX8_club.cls ≠ "java/lang/invoke/VarHandle" ∧ (parseMethodDescriptor yX8_club.desc).map (fun d => d.parameters.length) = some 3 := by decide +kernel
def FD0 (F : Ft) (n : Nat) (le gr sh : Int32) : Ft := up2 (up2 (up2 (va_up F n (fun _ => 0)) n 0 le) n 1 gr) n 2 sh
def GD (G : Gt) (n s : Nat) : Gt := up2 (va_up G n (fun _ => none)) s 14 (some n)
def FC1 (K : Kt) (F : Ft) (G : Gt) (a0 po : Nat) (gr : Int32) : Ft := f_X1_giveTo K F G (gp G a0 5) (gp G (gp G po 1) 1) gr
def FC2 (K : Kt) (F : Ft) (G : Gt) (a0 po : Nat) (gr sh : Int32) : Ft := f_X1_giveTo K (FC1 K F G a0 po gr) G (f_X8_chestOfRival K (FC1 K F G a0 po gr) G a0 (FC1 K F G a0 po gr po 3)) (gp G a0 5) sh
def FC (K : Kt) (F : Ft) (G : Gt) (a0 po : Nat) (gr sh : Int32) : Ft := up2 (FC2 K F G a0 po gr sh) a0 11 (FC2 K F G a0 po gr sh a0 11 + (gr - sh))
theorem m_X8_claim (l : Launch) (hfl : l.stackTraces = false) {n : Nat} {K : Kt} {F : Ft} {G : Gt} {a0 x1 : Nat} (t0 : Str X K G a0) (hx : x1 < 2147483648) : Mxr X l yX8_claim cX8_claim 7 (some .int) 7 104 3 19 [.ref a0, .int (nI x1)] n K F G (fun o n' K' F' G' => (∃ v, o = some (.int v)) ∧ x1 < (K (gp G a0 4)).2 ∧ (K n).1 = 0 ∧ n' = n + 1 ∧ ∃ gr sh : Int32,
      gr = (if F (el G (gp G a0 4) x1) 10 < F (el G (gp G a0 4) x1) 7 then F (el G (gp G a0 4) x1) 10 else F (el G (gp G a0 4) x1) 7) * F (gp G (el G (gp G a0 4) x1) 0) 2 / 100 ∧ sh = gr * F (gp G (el G (gp G a0 4) x1) 0) 4 / 100 ∧ ¬ F (el G (gp G a0 4) x1) 11 = 0 ∧ ¬ f_X7_claimableFrom K F G (el G (gp G a0 4) x1) = -1 ∧
      K' = va_up K n (8, 0) ∧ G' = GD G n (el G (gp G a0 4) x1) ∧ F' = FC K' (FD0 F n (F (el G (gp G a0 4) x1) 10) gr sh) G' a0 (gp G (el G (gp G a0 4) x1) 0) gr sh) := by
  refine Mxr.of (lv := [(0, .ref a0), (1, .int (nI x1))]) (by decide) (Nat.le_of_ble_eq_true rfl) rfl ?_
  intro p e s m args below meth c Q hC hin htb hQ
  have hC : Cx X p s m args meth c RX8 cX8_claim 7 (some .int) := hC
  have tm := t0.1
  refine v_aload_n hC dX8_claim_0 rfl 0 rfl ?_
  refine v_iload_n hC dX8_claim_1 rfl 1 rfl ?_
  refine v_xcallV (c2 := 1) (s2 := 6) (As := [.int (nI x1)]) hC (m_X8_shipmentAt_x l hfl tm (x1 := x1) (by omega)) q_X8_249 (by rw [tm.1]; decide) (ce_1 tm.1) (ci := 0) rfl hdV_X8_shipmentAt rfl rfl (Nat.le_of_ble_eq_true rfl) (Nat.le_of_ble_eq_true rfl) (Nat.le_of_ble_eq_true rfl) (Nat.le_of_ble_eq_true rfl) (Nat.le_of_ble_eq_true rfl) (Nat.le_of_ble_eq_true rfl) (Nat.le_of_ble_eq_true rfl) dX8_claim_2 (v_out hC hQ htb (Nat.le_of_ble_eq_true rfl) (Nat.le_of_ble_eq_true rfl)) (fun c2 => ?_)
  have ts : TShip K G (el G (gp G a0 4) x1) := tm.2.2.2.2.2.1.2.el c2
  generalize hs : el G (gp G a0 4) x1 = sh at ts hQ ⊢
  have tp := ts.2.1.2
  refine v_astore_n (i := 2) (lv' := [(2, .ref sh), (0, .ref a0), (1, .int (nI x1))]) hC dX8_claim_5 rfl (by decide) rfl ?_
  refine v_aload_n hC dX8_claim_6 rfl 0 rfl ?_
  refine v_callV (c2 := 1) (s2 := 6) (As := []) hC (m_X7_claimableFrom l ts) q_X8_271 (by rw [ts.1]; decide) (ce_7 ts.1) (ci := 6) rfl hdV_X7_claimableFrom rfl rfl (Nat.le_of_ble_eq_true rfl) (Nat.le_of_ble_eq_true rfl) (Nat.le_of_ble_eq_true rfl) (Nat.le_of_ble_eq_true rfl) (Nat.le_of_ble_eq_true rfl) (Nat.le_of_ble_eq_true rfl) (Nat.le_of_ble_eq_true rfl) dX8_claim_7 ?_
  refine v_istore_n (i := 3) (lv' := [(3, .int (f_X7_claimableFrom K F G sh)), (2, .ref sh), (0, .ref a0), (1, .int (nI x1))]) hC dX8_claim_10 rfl (by decide) rfl ?_
  refine v_aload_n hC dX8_claim_11 rfl 1 rfl ?_
  refine gf_X8_256 hC ts.1 dX8_claim_12 ?_
  have KJ0 : V X 7 p l e ({ frames := 7, cells := 3, slots := 19, locals := 104 } : Room) s m args below meth c Q 1 6 n K F G [(3, .int (f_X7_claimableFrom K F G sh)), (2, .ref sh), (0, .ref a0), (1, .int (nI x1))] 35 [] := by
    refine v_iconst (v := 0) hC dX8_claim_35 (by decide) ?_
    exact v_xcallS (c2 := 2) (s2 := 12) (As := [.int 0]) hC (m_X8_demandState_x l hfl) q_X8_56 hdS_X8_demandState rfl rfl (Nat.le_of_ble_eq_true rfl) (Nat.le_of_ble_eq_true rfl) (Nat.le_of_ble_eq_true rfl) (Nat.le_of_ble_eq_true rfl) (Nat.le_of_ble_eq_true rfl) (Nat.le_of_ble_eq_true rfl) (Nat.le_of_ble_eq_true rfl) dX8_claim_36 (v_out hC hQ htb (Nat.le_of_ble_eq_true rfl) (Nat.le_of_ble_eq_true rfl)) (fun c4 => absurd rfl c4)
  refine v_if_eq (tgt := 35) hC dX8_claim_15 (by decide) (fun _ => KJ0) (fun c5 => ?_)
  refine v_iload_n hC dX8_claim_18 rfl 0 rfl ?_
  refine v_iconst (v := -1) hC dX8_claim_19 (by decide) ?_
  refine v_icmp_eq (tgt := 35) hC dX8_claim_20 (by decide) (fun _ => KJ0) (fun c6 => ?_)
  refine v_aload_n hC dX8_claim_23 rfl 2 rfl ?_
  refine gf_X8_151 hC tm.1 dX8_claim_24 ?_
  refine v_iload_n hC dX8_claim_27 rfl 0 rfl ?_
  refine v_icmp_lt (tgt := 35) hC dX8_claim_28 (by decide) (fun _ => KJ0) (fun _ => ?_)
  refine v_iconst (v := 1) hC dX8_claim_31 (by decide) ?_
  refine v_goto (tgt := 36) hC dX8_claim_32 (by decide) ?_
  refine v_xcallS (c2 := 2) (s2 := 12) (As := [.int 1]) hC (m_X8_demandState_x l hfl) q_X8_56 hdS_X8_demandState rfl rfl (Nat.le_of_ble_eq_true rfl) (Nat.le_of_ble_eq_true rfl) (Nat.le_of_ble_eq_true rfl) (Nat.le_of_ble_eq_true rfl) (Nat.le_of_ble_eq_true rfl) (Nat.le_of_ble_eq_true rfl) (Nat.le_of_ble_eq_true rfl) dX8_claim_36 (v_out hC hQ htb (Nat.le_of_ble_eq_true rfl) (Nat.le_of_ble_eq_true rfl)) (fun _ => ?_)
  refine v_aload_n hC dX8_claim_39 rfl 1 rfl ?_
  refine gf_X8_274 hC ts.1 ts.2.1.1 dX8_claim_40 ?_
  generalize hpo : gp G sh 0 = po at tp hQ ⊢
  refine v_astore (i := 4) (lv' := [(4, .ref po), (3, .int (f_X7_claimableFrom K F G sh)), (2, .ref sh), (0, .ref a0), (1, .int (nI x1))]) hC dX8_claim_43 (by decide) rfl ?_
  refine v_aload_n hC dX8_claim_45 rfl 2 rfl ?_
  refine gf_X8_268 hC ts.1 dX8_claim_46 ?_
  refine v_aload_n hC dX8_claim_49 rfl 2 rfl ?_
  refine gf_X8_242 hC ts.1 dX8_claim_50 ?_
  refine v_mmin hC aw_236 (Nat.le_of_ble_eq_true rfl) (Nat.le_of_ble_eq_true rfl) (Nat.le_of_ble_eq_true rfl) (Nat.le_of_ble_eq_true rfl) (Nat.le_of_ble_eq_true rfl) dX8_claim_53 ?_
  refine v_aload hC dX8_claim_56 0 rfl ?_
  refine gf_X8_278 hC tp.1 dX8_claim_58 ?_
  refine v_imul hC dX8_claim_61 ?_
  refine v_bipush (v := 100) hC dX8_claim_62 (by decide) ?_
  refine v_idiv hC dX8_claim_64 (by decide) ?_
  generalize hgr : (if F sh 10 < F sh 7 then F sh 10 else F sh 7) * F po 2 / 100 = gr
  refine v_istore (i := 5) (lv' := [(5, .int gr), (4, .ref po), (3, .int (f_X7_claimableFrom K F G sh)), (2, .ref sh), (0, .ref a0), (1, .int (nI x1))]) hC dX8_claim_65 (by decide) rfl ?_
  refine v_iload hC dX8_claim_67 0 rfl ?_
  refine v_aload hC dX8_claim_69 1 rfl ?_
  refine gf_X8_281 hC tp.1 dX8_claim_71 ?_
  refine v_imul hC dX8_claim_74 ?_
  refine v_bipush (v := 100) hC dX8_claim_75 (by decide) ?_
  refine v_idiv hC dX8_claim_77 (by decide) ?_
  generalize hsh : gr * F po 4 / 100 = ss
  refine v_istore (i := 6) (lv' := [(6, .int ss), (5, .int gr), (4, .ref po), (3, .int (f_X7_claimableFrom K F G sh)), (2, .ref sh), (0, .ref a0), (1, .int (nI x1))]) hC dX8_claim_78 (by decide) rfl ?_
  refine v_sub [0, 1, 2, 4, 5] rfl ?_
  refine v_aload_n hC dX8_claim_80 rfl 3 rfl ?_
  refine v_fresh (fun hfr => ?_)
  have E : Ext K G (va_up K n (8, 0)) (va_up G n (fun _ => none)) := ext_new hfr
  have hsn : sh ≠ n := kne hfr (by rw [ts.1]; decide)
  refine nw_X8_284 hC (Nat.le_of_ble_eq_true rfl) (Nat.le_of_ble_eq_true rfl) dX8_claim_81 ?_
  refine v_dup hC dX8_claim_84 rfl ?_
  refine v_aload_n hC dX8_claim_85 rfl 3 rfl ?_
  refine gf_X8_242 hC (E.k ts.1 (by decide)) dX8_claim_86 ?_
  rw [va_up_ne F _ hsn]
  refine v_iload hC dX8_claim_89 1 rfl ?_
  refine v_iload hC dX8_claim_91 0 rfl ?_
  refine v_callI (c2 := 3) (s2 := 19) (As := [.int (F sh 10), .int gr, .int ss]) hC (m_X2_init l (K := va_up K n (8, 0)) (F := va_up F n (fun _ => 0)) (G := va_up G n (fun _ => none)) (a0 := n) (congrArg Prod.fst kat)) q_X8_286 rfl hdS_X2_init rfl rfl (Nat.le_of_ble_eq_true rfl) (Nat.le_of_ble_eq_true rfl) (Nat.le_of_ble_eq_true rfl) (Nat.le_of_ble_eq_true rfl) (Nat.le_of_ble_eq_true rfl) (Nat.le_of_ble_eq_true rfl) (Nat.le_of_ble_eq_true rfl) dX8_claim_93 ?_
  refine pf_X8_288 hC (E.k ts.1 (by decide)) dX8_claim_96 ?_
  have kn : (va_up K n (8, 0) n).1 = 8 := congrArg Prod.fst kat
  have ks : (va_up K n (8, 0) sh).1 = 7 := E.k ts.1 (by decide)
  have S1 : Str X (va_up K n (8, 0)) (GD G n sh) a0 := (t0.ext E).u ks (Or.inl ⟨rfl, kn⟩)
  have tp1 : TPol (va_up K n (8, 0)) (GD G n sh) po := (tp.ext E).u ks
  show V _ _ _ _ _ _ _ _ _ _ _ _ _ _ _ _ (va_up K n (8, 0)) (FD0 F n (F sh 10) gr ss) (GD G n sh) _ _ _
  obtain ⟨o5, k5⟩ := S1.1.chest (i := 5) (by decide) (by decide)
  refine v_aload_n hC dX8_claim_99 rfl 4 rfl ?_
  refine gf_X8_31 hC S1.1.1 o5 dX8_claim_100 ?_
  refine v_aload hC dX8_claim_103 2 rfl ?_
  refine gf_X8_224 hC tp1.1 tp1.2.1.1 dX8_claim_105 ?_
  refine gf_X8_292 hC tp1.2.1.2.1 tp1.2.1.2.2.1 dX8_claim_108 ?_
  refine v_iload hC dX8_claim_111 1 rfl ?_
  refine v_callV (c2 := 3) (s2 := 19) (As := [.ref (gp (GD G n sh) (gp (GD G n sh) po 1) 1), .int gr]) hC (m_X1_giveTo l k5 tp1.2.1.2.2.2) q_X8_84 (by rw [k5]; decide) (ce_2 k5) (ci := 1) rfl hdV_X1_giveTo rfl rfl (Nat.le_of_ble_eq_true rfl) (Nat.le_of_ble_eq_true rfl) (Nat.le_of_ble_eq_true rfl) (Nat.le_of_ble_eq_true rfl) (Nat.le_of_ble_eq_true rfl) (Nat.le_of_ble_eq_true rfl) (Nat.le_of_ble_eq_true rfl) dX8_claim_113 ?_
  show V _ _ _ _ _ _ _ _ _ _ _ _ _ _ _ _ (va_up K n (8, 0)) (FC1 (va_up K n (8, 0)) (FD0 F n (F sh 10) gr ss) (GD G n sh) a0 po gr) (GD G n sh) _ _ _
  refine v_aload_n hC dX8_claim_116 rfl 4 rfl ?_
  refine v_aload hC dX8_claim_117 2 rfl ?_
  refine gf_X8_293 hC tp1.1 dX8_claim_119 ?_
  refine v_callV (c2 := 3) (s2 := 19) (As := [.int (FC1 (va_up K n (8, 0)) (FD0 F n (F sh 10) gr ss) (GD G n sh) a0 po gr po 3)]) hC (m_X8_chestOfRival l S1.1) q_X8_296 (by rw [S1.1.1]; decide) (ce_1 S1.1.1) (ci := 0) rfl hdV_X8_chestOfRival rfl rfl (Nat.le_of_ble_eq_true rfl) (Nat.le_of_ble_eq_true rfl) (Nat.le_of_ble_eq_true rfl) (Nat.le_of_ble_eq_true rfl) (Nat.le_of_ble_eq_true rfl) (Nat.le_of_ble_eq_true rfl) (Nat.le_of_ble_eq_true rfl) dX8_claim_122 ?_
  have kr : (va_up K n (8, 0) (f_X8_chestOfRival (va_up K n (8, 0)) (FC1 (va_up K n (8, 0)) (FD0 F n (F sh 10) gr ss) (GD G n sh) a0 po gr) (GD G n sh) a0 (FC1 (va_up K n (8, 0)) (FD0 F n (F sh 10) gr ss) (GD G n sh) a0 po gr po 3))).1 = 2 := CS.kind S1.1 (CS.rival _)
  refine v_aload_n hC dX8_claim_125 rfl 4 rfl ?_
  refine gf_X8_31 hC S1.1.1 o5 dX8_claim_126 ?_
  refine v_iload hC dX8_claim_129 0 rfl ?_
  refine v_callV (c2 := 3) (s2 := 19) (As := [.ref (gp (GD G n sh) a0 5), .int ss]) hC (m_X1_giveTo l kr k5) q_X8_84 (by rw [kr]; decide) (ce_2 kr) (ci := 1) rfl hdV_X1_giveTo rfl rfl (Nat.le_of_ble_eq_true rfl) (Nat.le_of_ble_eq_true rfl) (Nat.le_of_ble_eq_true rfl) (Nat.le_of_ble_eq_true rfl) (Nat.le_of_ble_eq_true rfl) (Nat.le_of_ble_eq_true rfl) (Nat.le_of_ble_eq_true rfl) dX8_claim_131 ?_
  show V _ _ _ _ _ _ _ _ _ _ _ _ _ _ _ _ (va_up K n (8, 0)) (FC2 (va_up K n (8, 0)) (FD0 F n (F sh 10) gr ss) (GD G n sh) a0 po gr ss) (GD G n sh) _ _ _
  refine v_aload_n hC dX8_claim_134 rfl 4 rfl ?_
  refine v_dup hC dX8_claim_135 rfl ?_
  refine gf_X8_300 hC S1.1.1 dX8_claim_136 ?_
  refine v_iload hC dX8_claim_139 1 rfl ?_
  refine v_iload hC dX8_claim_141 0 rfl ?_
  refine v_isub hC dX8_claim_143 ?_
  refine v_iadd hC dX8_claim_144 ?_
  refine pf_X8_300 hC S1.1.1 dX8_claim_145 ?_
  refine v_iload hC dX8_claim_148 1 rfl ?_
  refine v_toXR hQ ⟨⟨gr, rfl⟩, c2, hfr, rfl, gr, ss, hgr.symm, hsh.symm, c5, c6, rfl, rfl, rfl⟩ ?_
  exact v_iret hC rfl rfl dX8_claim_150 rfl rfl rfl rfl rfl
/-- a step with new cells -/
def StG (X : Xt) (B : Int) (K : Kt) (F : Ft) (G : Gt) (K' : Kt) (F' : Ft) (G' : Gt) (a0 : Nat) : Prop := IK X K' G' a0 ∧ IV B K' F' G' a0 ∧ Mono K F G F' G' a0 ∧ F' a0 9 = F a0 9 ∧ (∀ i, i < 5 → sz K' G' a0 i = sz K G a0 i) ∧ ∀ i k, i < 5 → k < sz K G a0 i → eo G' a0 i k = eo G a0 i k
theorem Mono.u (es : ∀ i, i < 5 → sz K' G' a0 i = sz K G a0 i) (ee : ∀ i k, i < 5 → k < sz K G a0 i → eo G' a0 i k = eo G a0 i k) (h1 : Mono K F G F' G' a0) (h2 : Mono K' F' G' F'' G'' a0) : Mono K F G F'' G'' a0 := ⟨fun i hi => by
    obtain ⟨a1, a2, a3, a4, a5, a6⟩ := h1.1 i hi
    have h := h2.1 i (by rw [es 4 (by decide)]; exact hi)
    rw [ee 4 i (by decide) hi] at h
    obtain ⟨b1, b2, b3, b4, b5, b6⟩ := h
    exact ⟨Int.le_trans b1 a1, fun q => b2 (a2 q), fun q => b3 (a3 q), b4.trans a4, fun q => b5 (a5 q), fun q => b6 (a6 q)⟩, fun i hi q => by
    have h := h2.2 i (by rw [es 3 (by decide)]; exact hi)
    rw [ee 3 i (by decide) hi] at h
    exact h (h1.2 i hi q)⟩
theorem StG.tr {K'' : Kt} (h1 : StG X B K F G K' F' G' a0) (h2 : StG X B' K' F' G' K'' F'' G'' a0) : StG X B' K F G K'' F'' G'' a0 := by
  obtain ⟨a1, a2, a3, a4, a5, a6⟩ := h1
  obtain ⟨b1, b2, b3, b4, b5, b6⟩ := h2
  exact ⟨b1, b2, Mono.u a5 a6 a3 b3, b4.trans a4, fun i hi => (b5 i hi).trans (a5 i hi), fun i k hi hk => (b6 i k hi (by rw [a5 i hi]; exact hk)).trans (a6 i k hi hk)⟩
theorem StG.rf (hk : IK X K G a0) (h : IV B K F G a0) : StG X B K F G K F G a0 := ⟨hk, h, Mono.rf, rfl, fun _ _ => rfl, fun _ _ _ _ => rfl⟩
theorem Sto.g (hk : IK X K G a0) (h : Sto B K F G F' a0) : StG X B K F G K F' G a0 := ⟨hk, h.1, h.2.1, h.2.2, fun _ _ => rfl, fun _ _ _ _ => rfl⟩
/-- new cells, no list gets one more -/
theorem old_new {K1 : Kt} {F1 : Ft} {G1 : Gt} (t0 : Str X K G a0) (E : Ext K G K1 G1) (hF : ∀ x, (K x).1 ≠ 0 → F1 x = F x) : Old K F G K1 F1 G1 a0 7 := by
  have k1 : (K a0).1 ≠ 0 := by rw [t0.1.1]; decide
  have eg1 : ∀ k, gp G1 a0 k = gp G a0 k := fun k => E.pp k1 k
  have kl : ∀ i, i < 5 → (K (gp G a0 i)).1 ≠ 0 := fun i hi => by rw [t0.k10 hi]; decide
  refine ⟨fun i hi => ?_, fun i k hi _ => ?_, fun x h0 _ _ => ⟨(E x h0).1, (E x h0).2, hF x h0⟩, eg1⟩
  · rw [if_neg (by omega)]
    show (K1 (gp G1 a0 i)).2 = _
    rw [eg1, (E _ (kl i hi)).1]
  · show gp G1 (gp G1 (gp G1 a0 i) 1) k = _
    rw [eg1, E.pp (kl i hi) 1, E.pp (by rw [t0.k21 hi]; decide) k]
theorem Old.nol (o : Old K F G K' F2 G' a0 7) (hk : IK X K G a0) (h : IV B K F G a0) (hS : Str X K' G' a0) : IK X K' G' a0 ∧ IV B K' F2 G' a0 := by
  have s1 := o.szn (i := 1) (by decide) (by decide)
  have s3 := o.szn (i := 3) (by decide) (by decide)
  have s4 := o.szn (i := 4) (by decide) (by decide)
  have ecs := o.cs hk (by decide) (by decide)
  have e0 := (o.at hk.1.1.1).2.2
  exact ⟨⟨hS, by rw [ecs]; exact hk.2.1, fun i hi => o.pols hk (by rw [← s3]; exact hi), fun i hi => o.ships hk (by rw [← s4]; exact hi), fun i q hi hq w e => o.dams hk (by rw [← s4]; exact hi) (by rw [← s4]; exact hq) w e⟩, by rw [ecs]; exact h.1.congr (fun c hc => by rw [(o.at (CS.kind hk.1.1 hc)).2.2]), fun i hi => o.bch hk h (by rw [← s1]; exact hi), o.off hk h, fun i hi => o.polv hk h (by rw [← s3]; exact hi), fun i hi => by rw [o.2.1 4 i (by decide) (by rw [← s4]; exact hi)]; exact o.shipV hk h (by rw [← s4]; exact hi), by rw [e0]; exact h.2.2.2.2.2⟩
theorem Old.mono2 (o : Old K F G K' F2 G' a0 j) (hk : IK X K G a0) (m : Mono K' F2 G' F' G'' a0) : Mono K F G F' G'' a0 := by
  refine ⟨fun i hi => ?_, fun i hi => ?_⟩
  · have hi2 : i < sz K' G' a0 4 := by rw [o.1 4 (by decide)]; split <;> omega
    have q := m.1 i hi2
    have e := o.at (hk.ship hi).1
    rw [o.2.1 4 i (by decide) hi, e.2.1, e.2.2] at q
    exact q
  · have hi2 : i < sz K' G' a0 3 := by rw [o.1 3 (by decide)]; split <;> omega
    have q := m.2 i hi2
    have e := o.at (hk.pol hi).1
    rw [o.2.1 3 i (by decide) hi, e.2.2] at q
    exact q
theorem u_some {s f d x k : Nat} (h : ¬ G x k = Option.none) : ¬ up2 G s f (some d) x k = Option.none := by
  by_cases e : x = s
  · by_cases e2 : k = f
    · rw [e, e2, up2_eq]; exact fun q => by cases q
    · rw [e, up2_k _ _ e2, ← e]; exact h
  · rw [up2_a _ _ e]; exact h
/-- a shipment's own cell is written, and one of its references -/
theorem IV.u (hk : IK X K G a0) (h : IV B K F G a0) {i f d : Nat} (hi : i < sz K G a0 4) (hF : ∀ c, c ≠ eo G a0 4 i → F' c = F c) (v : ShipV F' (up2 G (eo G a0 4 i) f (some d)) a0 (eo G a0 4 i)) (w1 : (F' (eo G a0 4 i) 10).toInt ≤ (F (eo G a0 4 i) 10).toInt) (w2 : F (eo G a0 4 i) 11 = 1 → F' (eo G a0 4 i) 11 = 1) (w3 : F (eo G a0 4 i) 13 = 1 → F' (eo G a0 4 i) 13 = 1) (w4 : F' (eo G a0 4 i) 5 = F (eo G a0 4 i) 5) : IV B K F' (up2 G (eo G a0 4 i) f (some d)) a0 ∧ Mono K F G F' (up2 G (eo G a0 4 i) f (some d)) a0 ∧ F' a0 9 = F a0 9 := by
  have ks := (hk.ship hi).1
  obtain ⟨e0, e1, e2, e3⟩ := u_eo (f := f) (v := some d) ks hk.1
  have ecs := u_cs (f := f) (v := some d) ks hk
  have n7 : ∀ c, (K c).1 ≠ 7 → F' c = F c := fun c hc => hF c (ne_kind ks hc)
  have n7g : ∀ c, (K c).1 ≠ 7 → up2 G (eo G a0 4 i) f (some d) c = G c := fun c hc => u_ne ks hc
  have f0 : F' a0 = F a0 := n7 a0 (by rw [hk.1.1.1]; decide)
  refine ⟨⟨by rw [ecs]; exact h.1.congr (fun c hc => by rw [n7 c (by rw [CS.kind hk.1.1 hc]; decide)]), fun q hq => ?_, by rw [e0, n7 _ (by rw [CS.kind hk.1.1 CS.office]; decide), f0]; exact h.2.2.1, fun q hq => ?_, fun q hq => ?_, by rw [f0]; exact h.2.2.2.2.2⟩, ⟨fun q hq => ?_, fun q hq => ?_⟩, by rw [f0]⟩
  · rw [e3] at hq
    rw [e2 1 q (by decide), gp_of (n7g _ (by rw [(hk.buyer hq).1]; decide)), n7 _ (by rw [CS.kind hk.1.1 (CS.buyer hq)]; decide)]
    exact h.2.1 q hq
  · rw [e3] at hq
    rw [e2 3 q (by decide)]
    unfold PolV
    rw [n7 _ (by rw [(hk.pol hq).1]; decide)]
    exact h.2.2.2.1 q hq
  · rw [e3] at hq
    rw [e2 4 q (by decide)]
    by_cases c : eo G a0 4 q = eo G a0 4 i
    · rw [c]; exact v
    · have t := hk.ship hq
      have z := h.2.2.2.2.1 q hq
      unfold ShipV at z ⊢
      have eg : up2 G (eo G a0 4 i) f (some d) (eo G a0 4 q) = G (eo G a0 4 q) := up2_a _ _ c
      rw [hF _ c, f0, eg, gp_of eg, gp_of eg]
      obtain ⟨q1, q2, q3, q4, q5⟩ := z
      refine ⟨q1, q2, q3, fun w => by rw [n7 _ (by rw [t.2.2.2.2 w]; decide)]; exact q4 w, fun w => ?_⟩
      obtain ⟨z1, z2, z3⟩ := q5 w
      have ed := n7 _ (show (K (gp G (eo G a0 4 q) 14)).1 ≠ 7 by rw [t.2.2.2.1 w]; decide)
      refine ⟨z1, by unfold DamOK; rw [ed]; exact z2, ?_⟩
      rw [ed, z3]
      by_cases w2 : G (eo G a0 4 q) 15 = Option.none
      · rw [if_pos w2, if_pos w2]
      · rw [if_neg w2, if_neg w2, n7 _ (by rw [t.2.2.2.2 w2]; decide)]
  · by_cases c : eo G a0 4 q = eo G a0 4 i
    · rw [c]; exact ⟨w1, w2, w3, w4, u_some, u_some⟩
    · rw [hF _ c]; exact ⟨Int.le_refl _, id, id, rfl, u_some, u_some⟩
  · rw [n7 _ (by rw [(hk.pol hq).1]; decide)]
    exact id
theorem pct {x c : Int32} (hx : 0 ≤ x.toInt ∧ x.toInt ≤ 3000) (hc : 0 ≤ c.toInt ∧ c.toInt ≤ 100) : 0 ≤ (x * c / 100).toInt ∧ (x * c / 100).toInt ≤ x.toInt := by
  have m0 : 0 ≤ x.toInt * c.toInt := Int.mul_nonneg hx.1 hc.1
  have m1 : x.toInt * c.toInt ≤ x.toInt * 100 := Int.mul_le_mul_of_nonneg_left hc.2 hx.1
  have e1 : (x * c).toInt = x.toInt * c.toInt := fb_mulI (by omega) (by omega)
  have k100 : (100 : Int32).toInt = 100 := rfl
  have e2 : (x * c / 100).toInt = x.toInt * c.toInt / 100 := by rw [i_div (by rw [e1]; exact m0) (by rw [k100]; decide), e1, k100]
  rw [e2]
  exact ⟨Int.ediv_nonneg m0 (by decide), Int.ediv_le_of_le_mul (by decide) m1⟩
theorem claimable {s : Nat} (h : ¬ f_X7_claimableFrom K F G s = -1) : G s 14 = Option.none ∧ G s 15 = Option.none ∧ 0 < (F s 10).toInt ∧ 0 < (F s 7).toInt := by
  have ho : ¬ f_X7_isOpen K F G s = 0 := fun q => h (by unfold f_X7_claimableFrom; rw [if_pos q]; rfl)
  have h14 : G s 14 = Option.none := Classical.byContradiction (fun c => ho (by unfold f_X7_isOpen; rw [if_neg c]; rfl))
  have h15 : G s 15 = Option.none := Classical.byContradiction (fun c => ho (by unfold f_X7_isOpen; rw [if_pos h14, if_neg c]; rfl))
  unfold f_X7_claimableFrom at h
  rw [if_neg ho] at h
  split at h
  · split at h
    · exact absurd rfl h
    · rename_i c1
      split at h
      · rename_i c2
        rw [Int32.le_iff_toInt_le, Int32.toInt_zero] at c1
        rw [Int32.lt_iff_toInt_lt, Int32.toInt_zero] at c2
        exact ⟨h14, h15, by omega, c2⟩
      · exact absurd rfl h
  · exact absurd rfl h
theorem claim_money (hk : IK X K G a0) (h : IV B K F G a0) {i : Nat} (hi : i < sz K G a0 4) {gr sh : Int32} (hg : 0 ≤ gr.toInt ∧ gr.toInt ≤ 3000) (hs : 0 ≤ sh.toInt ∧ sh.toInt ≤ 3000) (hB0 : 0 ≤ B) (hB : B + 6000 < 2147483648) : Sto (B + 6000) K F G (FC K F G a0 (gp G (eo G a0 4 i) 0) gr sh) a0 := by
  have hec : gp G (gp G (gp G (eo G a0 4 i) 0) 1) 1 ∈ CS K G a0 := hk.schest hi
  obtain ⟨j, hj, ej⟩ := hk.sexp hi
  have hoe : gp G a0 5 ≠ gp G (gp G (gp G (eo G a0 4 i) 0) 1) 1 := by rw [ej]; exact hk.o_e hj
  have heb : ∀ k, k < sz K G a0 1 → gp G (gp G (gp G (eo G a0 4 i) 0) 1) 1 ≠ gp G (eo G a0 1 k) 3 := fun k hk2 => by rw [ej]; exact hk.e_b hj hk2
  have ke := CS.kind hk.1.1 hec
  have ko := CS.kind hk.1.1 (CS.office (K := K) (G := G) (a0 := a0))
  have k1 := hk.1.1.1
  unfold FC FC2
  obtain ⟨F1, hF1⟩ : ∃ f, f = FC1 K F G a0 (gp G (eo G a0 4 i) 0) gr := ⟨_, rfl⟩
  rw [← hF1]
  unfold FC1 at hF1
  obtain ⟨ri, hri⟩ : ∃ f, f = f_X8_chestOfRival K F1 G a0 (F1 (gp G (eo G a0 4 i) 0) 3) := ⟨_, rfl⟩
  rw [← hri]
  have hr : ri ∈ CS K G a0 := by rw [hri]; exact CS.rival _
  have kr := CS.kind hk.1.1 hr
  have hor : gp G a0 5 ≠ ri := by rw [hri]; exact hk.o_r _
  have hrb : ∀ k, k < sz K G a0 1 → ri ≠ gp G (eo G a0 1 k) 3 := fun k hk2 => by rw [hri]; exact hk.r_b hk2 _
  obtain ⟨F3, hF3⟩ : ∃ f, f = f_X1_giveTo K F1 G ri (gp G a0 5) sh := ⟨_, rfl⟩
  rw [← hF3]
  have g3 : ∀ c, (K c).1 ≠ 2 → F3 c = F c := fun c hc => by rw [hF3, give_kk kr ko hc, hF1, give_kk ko ke hc]
  have e3 : F3 a0 = F a0 := g3 a0 (by rw [k1]; decide)
  have mF1 : Mon (B + 3000) F1 (CS K G a0) := by rw [hF1]; exact h.1.give hk.2.1 CS.office hec (M := 3000) (by omega) (by decide) (by omega)
  have mF3 : Mon (B + 3000 + 3000) F3 (CS K G a0) := by rw [hF3]; exact mF1.give hk.2.1 hr CS.office (M := 3000) (by omega) (by decide) (by omega)
  rw [e3]
  have na : ∀ c, (K c).1 ≠ 1 → c ≠ a0 := fun c hc => ne_kind k1 hc
  have cc : ∀ (v : Int32) c, (K c).1 = 2 → up2 F3 a0 11 v c = F3 c := fun v c hc => up2_a _ _ (na c (by rw [hc]; decide))
  refine money_write hk h (fun c h1 h2 => by rw [up2_a _ _ (na c h1), g3 c h2]) (by rw [up2_k _ _ (by decide), e3]) ((mF3.congr (fun c hc => by rw [cc _ c (CS.kind hk.1.1 hc)])).mono (by omega)) (fun j2 hj2 => ?_) ?_
  · rw [cc _ _ (CS.kind hk.1.1 (CS.buyer hj2)), hF3, give_ne (Ne.symm (hrb j2 hj2)) (Ne.symm (hk.o_b hj2)), hF1, give_ne (Ne.symm (hk.o_b hj2)) (Ne.symm (heb j2 hj2))]
    exact h.2.1 j2 hj2
  · rw [cc _ _ ko, up2_k _ _ (by decide), up2_k _ _ (by decide), up2_eq, e3, hF3, give_b (Ne.symm hor), hF1, give_a hoe, h.2.2.1]
    exact i_ring3 _ _ _ _
/-- claim -/
theorem claim_inv (hk : IK X K G a0) (h : IV B K F G a0) {x1 : Nat} (hi : x1 < sz K G a0 4) (hfr : (K n).1 = 0) (h11 : ¬ F (eo G a0 4 x1) 11 = 0) (hcl : ¬ f_X7_claimableFrom K F G (eo G a0 4 x1) = -1) (hB0 : 0 ≤ B) (hB : B + 6000 < 2147483648) {gr sh : Int32} (eg : gr = (if F (eo G a0 4 x1) 10 < F (eo G a0 4 x1) 7 then F (eo G a0 4 x1) 10 else F (eo G a0 4 x1) 7) * F (gp G (eo G a0 4 x1) 0) 2 / 100) (es : sh = gr * F (gp G (eo G a0 4 x1) 0) 4 / 100) :
    StG X (B + 6000) K F G (va_up K n (8, 0)) (FC (va_up K n (8, 0)) (FD0 F n (F (eo G a0 4 x1) 10) gr sh) (GD G n (eo G a0 4 x1)) a0 (gp G (eo G a0 4 x1) 0) gr sh) (GD G n (eo G a0 4 x1)) a0 := by
  have E : Ext K G (va_up K n (8, 0)) (va_up G n (fun _ => Option.none)) := ext_new hfr
  have kn : (va_up K n (8, 0) n).1 = 8 := congrArg Prod.fst kat
  have ts := hk.ship hi
  have hsn : eo G a0 4 x1 ≠ n := kne hfr (by rw [ts.1]; decide)
  obtain ⟨c14, c15, cl, ci⟩ := claimable hcl
  obtain ⟨⟨q1, q2, q3, q4⟩, -, ⟨-, q5, -, -, -⟩, -, -⟩ := h.2.2.2.2.1 x1 hi
  obtain ⟨⟨jp, hjp, ejp⟩, -⟩ := hk.2.2.2.1 x1 hi
  have pv := h.2.2.2.1 jp hjp
  rw [← ejp] at pv
  obtain ⟨-, pv2, pv4, -⟩ := pv
  have hm : 0 ≤ (if F (eo G a0 4 x1) 10 < F (eo G a0 4 x1) 7 then F (eo G a0 4 x1) 10 else F (eo G a0 4 x1) 7).toInt ∧ (if F (eo G a0 4 x1) 10 < F (eo G a0 4 x1) 7 then F (eo G a0 4 x1) 10 else F (eo G a0 4 x1) 7).toInt ≤ (F (eo G a0 4 x1) 10).toInt := by
    rcases i_min (x := F (eo G a0 4 x1) 7) (y := F (eo G a0 4 x1) 10) with ⟨w1, w2⟩ | ⟨w1, w2⟩ <;> rw [w1] <;> omega
  have hg := pct (x := if F (eo G a0 4 x1) 10 < F (eo G a0 4 x1) 7 then F (eo G a0 4 x1) 10 else F (eo G a0 4 x1) 7) (c := F (gp G (eo G a0 4 x1) 0) 2) ⟨hm.1, by omega⟩ ⟨by omega, by omega⟩
  rw [← eg] at hg
  have hh := pct (x := gr) (c := F (gp G (eo G a0 4 x1) 0) 4) ⟨hg.1, by omega⟩ ⟨by omega, by omega⟩
  rw [← es] at hh
  have fne : ∀ x, x ≠ n → FD0 F n (F (eo G a0 4 x1) 10) gr sh x = F x := fun x hx => by simp [FD0, up2, va_up, hx]
  have o : Old K F G (va_up K n (8, 0)) (FD0 F n (F (eo G a0 4 x1) 10) gr sh) (va_up G n (fun _ => Option.none)) a0 7 := old_new hk.1 E (fun x hx => fne x (kne hfr hx))
  obtain ⟨ka, va⟩ := o.nol hk h (hk.1.ext E)
  have ees : eo (va_up G n (fun _ => Option.none)) a0 4 x1 = eo G a0 4 x1 := o.2.1 4 x1 (by decide) hi
  have hi2 : x1 < sz (va_up K n (8, 0)) (va_up G n (fun _ => Option.none)) a0 4 := by rw [o.szn (i := 4) (by decide) (by decide)]; exact hi
  have gne : ∀ x, x ≠ n → va_up G n (fun _ => Option.none) x = G x := fun x hx => va_up_ne _ _ hx
  have k2 : IK X (va_up K n (8, 0)) (GD G n (eo G a0 4 x1)) a0 := by
    have r := ka.u hi2 (f := 14) (d := n) (Or.inl ⟨rfl, kn, fun q hq z => ?_⟩)
    · rw [ees] at r; exact r
    · rw [o.szn (i := 4) (by decide) (by decide)] at hq
      rw [o.2.1 4 q (by decide) hq, gne _ (kne hfr (by rw [(hk.ship hq).1]; decide))] at z
      have t14 := (hk.ship hq).2.2.2.1 (by rw [z]; exact fun w => by cases w)
      rw [gp_eq z, hfr] at t14
      cases t14
  have g15 : GD G n (eo G a0 4 x1) (eo G a0 4 x1) 15 = Option.none := by
    unfold GD; rw [up2_k _ _ (by decide), gne _ hsn]; exact c15
  have g14 : GD G n (eo G a0 4 x1) (eo G a0 4 x1) 14 = some n := up2_eq _ _ _ _
  have v2 := IV.u ka va hi2 (f := 14) (d := n) (F' := FD0 F n (F (eo G a0 4 x1) 10) gr sh) (fun _ _ => rfl) (by
    rw [ees]
    have z := va.2.2.2.2.1 x1 hi2
    rw [ees] at z
    show ShipV _ (GD G n (eo G a0 4 x1)) a0 _
    unfold ShipV at z ⊢
    obtain ⟨z1, z2, z3, -, -⟩ := z
    refine ⟨z1, z2, z3, fun w => absurd g15 w, fun _ => ⟨by rw [fne _ hsn]; exact q5.resolve_left h11, ?_, ?_⟩⟩
    · rw [gp_eq g14]
      unfold DamOK
      rw [show FD0 F n (F (eo G a0 4 x1) 10) gr sh n 0 = F (eo G a0 4 x1) 10 by simp [FD0, up2, va_up], show FD0 F n (F (eo G a0 4 x1) 10) gr sh n 1 = gr by simp [FD0, up2, va_up], show FD0 F n (F (eo G a0 4 x1) 10) gr sh n 2 = sh by simp [FD0, up2, va_up], show FD0 F n (F (eo G a0 4 x1) 10) gr sh n 3 = 0 by simp [FD0, up2, va_up], show FD0 F n (F (eo G a0 4 x1) 10) gr sh n 4 = 0 by simp [FD0, up2, va_up], show FD0 F n (F (eo G a0 4 x1) 10) gr sh n 5 = 0 by simp [FD0, up2, va_up], show FD0 F n (F (eo G a0 4 x1) 10) gr sh n 6 = 0 by simp [FD0, up2, va_up], Int32.toInt_zero]
      refine ⟨cl, by omega, hh.1, by omega, by omega, by omega, by omega, by rw [Int.zero_mul, Int.zero_ediv], by rw [Int.zero_mul, Int.zero_ediv], by omega⟩
    · rw [gp_eq g14, if_pos g15, fne _ hsn, show FD0 F n (F (eo G a0 4 x1) 10) gr sh n 0 = F (eo G a0 4 x1) 10 by simp [FD0, up2, va_up], show FD0 F n (F (eo G a0 4 x1) 10) gr sh n 3 = 0 by simp [FD0, up2, va_up], Int32.toInt_zero]
      omega) (Int.le_refl _) id id rfl
  rw [ees] at v2
  have v3 : IV B (va_up K n (8, 0)) (FD0 F n (F (eo G a0 4 x1) 10) gr sh) (GD G n (eo G a0 4 x1)) a0 := v2.1
  obtain ⟨e0, e1, e2, e3⟩ := u_eo (f := 14) (v := some n) (G := va_up G n (fun _ => Option.none)) (s := eo G a0 4 x1) (E.k ts.1 (by decide)) ka.1
  have es4 : ∀ i, i < 5 → sz (va_up K n (8, 0)) (GD G n (eo G a0 4 x1)) a0 i = sz K G a0 i := fun i hi => (e3 i).trans (o.szn hi (by omega))
  have ee4 : ∀ i k, i < 5 → k < sz K G a0 i → eo (GD G n (eo G a0 4 x1)) a0 i k = eo G a0 i k := fun i k hi hk2 => (e2 i k hi).trans (o.2.1 i k hi hk2)
  have hi3 : x1 < sz (va_up K n (8, 0)) (GD G n (eo G a0 4 x1)) a0 4 := by rw [es4 4 (by decide)]; exact hi
  have mw := claim_money k2 v3 hi3 (gr := gr) (sh := sh) ⟨hg.1, by omega⟩ ⟨hh.1, by omega⟩ hB0 hB
  have ep : gp (GD G n (eo G a0 4 x1)) (eo G a0 4 x1) 0 = gp G (eo G a0 4 x1) 0 := gp_k (by unfold GD; rw [up2_k _ _ (by decide), gne _ hsn])
  rw [ee4 4 x1 (by decide) hi, ep] at mw
  have m1 : Mono K F G (FD0 F n (F (eo G a0 4 x1) 10) gr sh) (GD G n (eo G a0 4 x1)) a0 := o.mono2 hk v2.2.1
  exact ⟨k2, mw.1, Mono.u es4 ee4 m1 mw.2.1, mw.2.2.trans (by rw [fne a0 (kne hfr (by rw [hk.1.1.1]; decide))]), es4, ee4⟩
end PND
