/-! club: what is overdue is put off -/
section PNE
variable {X : Xt} {K K' : Kt} {F F' F'' F2 : Ft} {G G' G'' : Gt} {a0 n j : Nat} {B B' : Int}
def FU (F : Ft) (n s : Nat) (x1 x2 : Int32) : Ft := up2 (up2 (up2 (up2 (va_up F n (fun _ => 0)) n 0 (((F s 10) * x1) / 100)) n 1 (((va_up F n (fun _ => 0)) s 10) - (((F s 10) * x1) / 100))) n 2 x2) s 10 (((F s 10) * x1) / 100)
def GU (G : Gt) (n s : Nat) : Gt := up2 (va_up G n (fun _ => none)) s 15 (some n)
theorem to_pay {s : Nat} (h : ¬ f_X7_isToPay K F G s = 0) : G s 15 = none ∧ 0 < (F s 10).toInt := by
  unfold f_X7_isToPay at h
  split at h
  · split at h
    · split at h
      · rename_i c1
        split at h
        · exact absurd rfl h
        · rename_i c2
          rw [Int32.le_iff_toInt_le, Int32.toInt_zero] at c2
          exact ⟨c1, by omega⟩
      · exact absurd rfl h
    · exact absurd rfl h
  · exact absurd rfl h
/-- what is put off -/
theorem putoff_inv (hk : IK X K G a0) (h : IV B K F G a0) {i : Nat} (hi : i < sz K G a0 4) (hfr : (K n).1 = 0) (hp : ¬ f_X7_isToPay K F G (eo G a0 4 i) = 0) {x1 x2 : Int32} (hx : 0 ≤ x1.toInt ∧ x1.toInt ≤ 100) :
    StG X B K F G (va_up K n (9, 0)) (FU F n (eo G a0 4 i) x1 x2) (GU G n (eo G a0 4 i)) a0 := by
  have E : Ext K G (va_up K n (9, 0)) (va_up G n (fun _ => none)) := ext_new hfr
  have kn : (va_up K n (9, 0) n).1 = 9 := congrArg Prod.fst kat
  have ts := hk.ship hi
  have hsn : eo G a0 4 i ≠ n := kne hfr (by rw [ts.1]; decide)
  obtain ⟨c15, cl⟩ := to_pay hp
  obtain ⟨⟨q1, q2, q3, q4⟩, -, -, -, -⟩ := h.2.2.2.2.1 i hi
  obtain ⟨hw0, hw1⟩ := pct (x := F (eo G a0 4 i) 10) (c := x1) ⟨q1, by omega⟩ hx
  obtain ⟨ow, how⟩ : ∃ w, w = F (eo G a0 4 i) 10 * x1 / 100 := ⟨_, rfl⟩
  rw [← how] at hw0 hw1
  obtain ⟨F1, hF1⟩ : ∃ f, f = up2 (up2 (up2 (va_up F n (fun _ => 0)) n 0 ow) n 1 (F (eo G a0 4 i) 10 - ow)) n 2 x2 := ⟨_, rfl⟩
  have eF : FU F n (eo G a0 4 i) x1 x2 = up2 F1 (eo G a0 4 i) 10 ow := by
    unfold FU
    rw [← how, va_up_ne F _ hsn, hF1]
  rw [eF]
  have fne : ∀ x, x ≠ n → F1 x = F x := fun x hx => by rw [hF1]; simp [up2, va_up, hx]
  have fn0 : F1 n 0 = ow := by rw [hF1]; simp [up2, va_up]
  have fn1 : F1 n 1 = F (eo G a0 4 i) 10 - ow := by rw [hF1]; simp [up2, va_up]
  have o : Old K F G (va_up K n (9, 0)) F1 (va_up G n (fun _ => none)) a0 7 := old_new hk.1 E (fun x hx => fne x (kne hfr hx))
  obtain ⟨ka, va⟩ := o.nol hk h (hk.1.ext E)
  have ees : eo (va_up G n (fun _ => none)) a0 4 i = eo G a0 4 i := o.2.1 4 i (by decide) hi
  have hi2 : i < sz (va_up K n (9, 0)) (va_up G n (fun _ => none)) a0 4 := by rw [o.szn (i := 4) (by decide) (by decide)]; exact hi
  have gne : ∀ x, x ≠ n → va_up G n (fun _ => none) x = G x := fun x hx => va_up_ne _ _ hx
  have k2 : IK X (va_up K n (9, 0)) (GU G n (eo G a0 4 i)) a0 := by
    have r := ka.u hi2 (f := 15) (d := n) (Or.inr ⟨rfl, kn⟩)
    rw [ees] at r; exact r
  have g14 : GU G n (eo G a0 4 i) (eo G a0 4 i) 14 = G (eo G a0 4 i) 14 := by
    unfold GU; rw [up2_k _ _ (by decide), gne _ hsn]
  have g15 : GU G n (eo G a0 4 i) (eo G a0 4 i) 15 = some n := up2_eq _ _ _ _
  have fs : ∀ k, k ≠ 10 → up2 F1 (eo G a0 4 i) 10 ow (eo G a0 4 i) k = F (eo G a0 4 i) k := fun k hk => by rw [up2_k _ _ hk, fne _ hsn]
  have fse : up2 F1 (eo G a0 4 i) 10 ow (eo G a0 4 i) 10 = ow := up2_eq _ _ _ _
  have fo : ∀ c, c ≠ eo G a0 4 i → up2 F1 (eo G a0 4 i) 10 ow c = F1 c := fun c hc => up2_a _ _ hc
  have hsub : (F (eo G a0 4 i) 10 - ow).toInt = (F (eo G a0 4 i) 10).toInt - ow.toInt := fb_subI (by omega) (by omega)
  have na : a0 ≠ eo G a0 4 i := ne_kind ts.1 (by rw [hk.1.1.1]; decide)
  have nn : n ≠ eo G a0 4 i := Ne.symm hsn
  have v2 := IV.u ka va hi2 (f := 15) (d := n) (F' := up2 F1 (eo G a0 4 i) 10 ow) (fun c hc => by rw [ees] at hc; exact fo c hc) (by
    rw [ees]
    have z := h.2.2.2.2.1 i hi
    show ShipV _ (GU G n (eo G a0 4 i)) a0 _
    unfold ShipV at z ⊢
    rw [fse, fs 2 (by decide), fs 7 (by decide), fs 3 (by decide), fs 5 (by decide), fs 11 (by decide), fs 12 (by decide), fs 13 (by decide), fo a0 na, fne a0 (kne hfr (by rw [hk.1.1.1]; decide)), gp_eq g15, fo n nn, fn0, fn1, hsub, g14, gp_k g14]
    obtain ⟨z1, z2, z3, -, z5⟩ := z
    refine ⟨⟨hw0, by omega, q3, q4⟩, z2, z3, fun _ => ⟨by omega, hw0⟩, fun w => ?_⟩
    obtain ⟨y1, y2, y3⟩ := z5 w
    have k8 := ts.2.2.2.1 w
    have ed : up2 F1 (eo G a0 4 i) 10 ow (gp G (eo G a0 4 i) 14) = F (gp G (eo G a0 4 i) 14) := by
      rw [fo _ (ne_kind ts.1 (by rw [k8]; decide)), fne _ (kne hfr (by rw [k8]; decide))]
    refine ⟨y1, by unfold DamOK; rw [ed]; exact y2, ?_⟩
    rw [ed, y3, if_pos c15, if_neg (by rw [g15]; exact fun q => by cases q)]
    omega) (by rw [ees, fse, fne _ hsn]; exact hw1) (by rw [ees, fs 11 (by decide), fne _ hsn]; exact id) (by rw [ees, fs 13 (by decide), fne _ hsn]; exact id) (by rw [ees, fs 5 (by decide), fne _ hsn])
  rw [ees] at v2
  obtain ⟨e0, e1, e2, e3⟩ := u_eo (f := 15) (v := some n) (G := va_up G n (fun _ => none)) (s := eo G a0 4 i) (E.k ts.1 (by decide)) ka.1
  have es4 : ∀ i2, i2 < 5 → sz (va_up K n (9, 0)) (GU G n (eo G a0 4 i)) a0 i2 = sz K G a0 i2 := fun i2 hi => (e3 i2).trans (o.szn hi (by omega))
  have ee4 : ∀ i2 k, i2 < 5 → k < sz K G a0 i2 → eo (GU G n (eo G a0 4 i)) a0 i2 k = eo G a0 i2 k := fun i2 k hi hk2 => (e2 i2 k hi).trans (o.2.1 i2 k hi hk2)
  exact ⟨k2, v2.1, o.mono2 hk v2.2.1, by rw [v2.2.2, fne a0 (kne hfr (by rw [hk.1.1.1]; decide))], es4, ee4⟩
theorem m_X8_club (l : Launch) {n : Nat} {K : Kt} {F : Ft} {G : Gt} {a0 x1 : Nat} {x2 x3 : Int32} (hk : IK X K G a0) (h : IV B K F G a0) (hi : x1 < sz K G a0 0) (h2 : ¬ f_X8_isWithin K F G x2 10 100 = 0) (h3 : ¬ f_X8_isWithin K F G x3 1 10 = 0) (hx : 0 ≤ x2.toInt ∧ x2.toInt ≤ 100) : Mr X l yX8_club cX8_club 8 (some .int) 4 85 48 192 [.ref a0, .int (nI x1), .int x2, .int x3] n K F G (fun o n' K' F' G' => (∃ v, o = some (.int v)) ∧ StG X B K F G K' F' G' a0) := by
  refine Mr.of (lv := [(0, .ref a0), (1, .int (nI x1)), (2, .int x2), (3, .int x3)]) (by decide) (Nat.le_of_ble_eq_true rfl) rfl ?_
  intro p e s m args below meth c Q hC hin hQ
  have hC : Cx X p s m args meth c RX8 cX8_club 8 (some .int) := hC
  have tm := hk.1.1
  refine v_aload_n hC dX8_club_0 rfl 0 rfl ?_
  refine v_iload_n hC dX8_club_1 rfl 1 rfl ?_
  refine v_callV (c2 := 0) (s2 := 0) (As := [.int (nI x1)]) hC (m_X8_landAt l tm hi) q_X8_71 (by rw [tm.1]; decide) (ce_1 tm.1) (ci := 0) rfl hdV_X8_landAt rfl rfl (Nat.le_of_ble_eq_true rfl) (Nat.le_of_ble_eq_true rfl) (Nat.le_of_ble_eq_true rfl) (Nat.le_of_ble_eq_true rfl) (Nat.le_of_ble_eq_true rfl) (Nat.le_of_ble_eq_true rfl) (Nat.le_of_ble_eq_true rfl) dX8_club_2 ?_
  generalize hdl : el G (gp G a0 0) x1 = dl
  refine v_astore (i := 4) (lv' := [(4, .ref dl), (0, .ref a0), (1, .int (nI x1)), (2, .int x2), (3, .int x3)]) hC dX8_club_5 (by decide) rfl ?_
  refine v_iload_n hC dX8_club_7 rfl 3 rfl ?_
  refine v_bipush (v := 10) hC dX8_club_8 (by decide) ?_
  refine v_bipush (v := 100) hC dX8_club_10 (by decide) ?_
  refine v_callS (c2 := 0) (s2 := 0) (As := [.int x2, .int 10, .int 100]) hC (m_X8_isWithin l) q_X8_44 hdS_X8_isWithin rfl rfl (Nat.le_of_ble_eq_true rfl) (Nat.le_of_ble_eq_true rfl) (Nat.le_of_ble_eq_true rfl) (Nat.le_of_ble_eq_true rfl) (Nat.le_of_ble_eq_true rfl) (Nat.le_of_ble_eq_true rfl) (Nat.le_of_ble_eq_true rfl) dX8_club_12 ?_
  refine v_if_eq (tgt := 32) hC dX8_club_15 (by decide) (fun q => absurd q h2) (fun _ => ?_)
  refine v_iload_n hC dX8_club_18 rfl 4 rfl ?_
  refine v_iconst (v := 1) hC dX8_club_19 (by decide) ?_
  refine v_bipush (v := 10) hC dX8_club_20 (by decide) ?_
  refine v_callS (c2 := 0) (s2 := 0) (As := [.int x3, .int 1, .int 10]) hC (m_X8_isWithin l) q_X8_44 hdS_X8_isWithin rfl rfl (Nat.le_of_ble_eq_true rfl) (Nat.le_of_ble_eq_true rfl) (Nat.le_of_ble_eq_true rfl) (Nat.le_of_ble_eq_true rfl) (Nat.le_of_ble_eq_true rfl) (Nat.le_of_ble_eq_true rfl) (Nat.le_of_ble_eq_true rfl) dX8_club_22 ?_
  refine v_if_eq (tgt := 32) hC dX8_club_25 (by decide) (fun q => absurd q h3) (fun _ => ?_)
  refine v_iconst (v := 1) hC dX8_club_28 (by decide) ?_
  refine v_goto (tgt := 33) hC dX8_club_29 (by decide) ?_
  refine v_callS (c2 := 0) (s2 := 0) (As := [.int 1]) hC (m_X8_demandArgument l (by decide)) q_X8_48 hdS_X8_demandArgument rfl rfl (Nat.le_of_ble_eq_true rfl) (Nat.le_of_ble_eq_true rfl) (Nat.le_of_ble_eq_true rfl) (Nat.le_of_ble_eq_true rfl) (Nat.le_of_ble_eq_true rfl) (Nat.le_of_ble_eq_true rfl) (Nat.le_of_ble_eq_true rfl) dX8_club_33 ?_
  refine v_iconst (v := 0) hC dX8_club_36 (by decide) ?_
  refine v_istore (i := 5) (lv' := [(5, .int 0), (4, .ref dl), (0, .ref a0), (1, .int (nI x1)), (2, .int x2), (3, .int x3)]) hC dX8_club_37 (by decide) rfl ?_
  refine v_iconst (v := 0) hC dX8_club_39 (by decide) ?_
  refine v_istore (i := 6) (lv' := [(6, .int (nI 0)), (5, .int 0), (4, .ref dl), (0, .ref a0), (1, .int (nI x1)), (2, .int x2), (3, .int x3)]) hC dX8_club_40 (by decide) rfl ?_
  have hz : sz K G a0 4 ≤ 48 := tm.2.2.2.2.2.1.2.2.1
  have KL : ∀ (k j2 n1 : Nat) (K1 : Kt) (F1 : Ft) (G1 : Gt) (cnt : Int32), j2 + k = sz K G a0 4 → StG X B K F G K1 F1 G1 a0 → V X 8 p l e ({ frames := 4, cells := 48, slots := 192, locals := 85 } : Room) s m args below meth c Q j2 (4 * j2) n1 K1 F1 G1 [(6, .int (nI j2)), (5, .int cnt), (4, .ref dl), (0, .ref a0), (1, .int (nI x1)), (2, .int x2), (3, .int x3)] 42 [] := by
    intro k
    induction k with
    | zero =>
      intro j2 n1 K1 F1 G1 cnt hj st
      have t1 := st.1.1.1
      have es := st.2.2.2.2.1 4 (by decide)
      refine v_iload hC dX8_club_42 0 rfl ?_
      refine v_aload_n hC dX8_club_44 rfl 3 rfl ?_
      refine gf_X8_25 hC t1.1 t1.2.2.2.2.2.1.1 dX8_club_45 ?_
      refine v_callV (c2 := j2) (s2 := 4 * j2) (As := []) hC (m_Jx4a65c_size_8abf5 l t1.2.2.2.2.2.1.2.1) q_X8_89 (by rw [t1.2.2.2.2.2.1.2.1]; decide) (ce_10 t1.2.2.2.2.2.1.2.1) (ci := 9) rfl hdV_Jx4a65c_size_8abf5 rfl rfl (Nat.le_of_ble_eq_true rfl) (Nat.le_of_ble_eq_true rfl) (by show j2 + 0 ≤ 48; omega) (by show 4 * j2 + 0 ≤ 192; omega) (Nat.le_refl _) (Nat.le_refl _) (Nat.le_of_ble_eq_true rfl) dX8_club_48 ?_
      refine v_icmp_ge (tgt := 117) hC dX8_club_51 (by decide) (fun _ => ?_) (fun q => absurd (lp_z (show j2 + 0 = (K1 (gp G1 a0 4)).2 from hj.trans es.symm)) q)
      refine v_iload hC dX8_club_117 1 rfl ?_
      refine v_widen (k2 := 48) (n2 := 192) (by omega) (by omega) ?_
      refine v_toR (n' := n1) hQ ⟨⟨cnt, rfl⟩, st⟩ ?_
      exact v_iret hC rfl rfl dX8_club_119 rfl rfl rfl rfl rfl
    | succ k ih =>
      intro j2 n1 K1 F1 G1 cnt hj st
      have t1 := st.1.1.1
      have es := st.2.2.2.2.1 4 (by decide)
      have hj1 : j2 < sz K1 G1 a0 4 := by rw [es]; omega
      refine v_iload hC dX8_club_42 0 rfl ?_
      refine v_aload_n hC dX8_club_44 rfl 3 rfl ?_
      refine gf_X8_25 hC t1.1 t1.2.2.2.2.2.1.1 dX8_club_45 ?_
      refine v_callV (c2 := j2) (s2 := 4 * j2) (As := []) hC (m_Jx4a65c_size_8abf5 l t1.2.2.2.2.2.1.2.1) q_X8_89 (by rw [t1.2.2.2.2.2.1.2.1]; decide) (ce_10 t1.2.2.2.2.2.1.2.1) (ci := 9) rfl hdV_Jx4a65c_size_8abf5 rfl rfl (Nat.le_of_ble_eq_true rfl) (Nat.le_of_ble_eq_true rfl) (by show j2 + 0 ≤ 48; omega) (by show 4 * j2 + 0 ≤ 192; omega) (Nat.le_refl _) (Nat.le_refl _) (Nat.le_of_ble_eq_true rfl) dX8_club_48 ?_
      refine v_icmp_ge (tgt := 117) hC dX8_club_51 (by decide) (fun q => absurd q (lp_s (show j2 + (k + 1) = (K1 (gp G1 a0 4)).2 from hj.trans es.symm) t1.2.2.2.2.2.1.2.lt)) (fun _ => ?_)
      refine v_aload_n hC dX8_club_54 rfl 3 rfl ?_
      refine gf_X8_25 hC t1.1 t1.2.2.2.2.2.1.1 dX8_club_55 ?_
      refine v_iload hC dX8_club_58 0 rfl ?_
      refine v_callV (c2 := j2) (s2 := 4 * j2) (As := [.int (nI j2)]) hC (m_Jx4a65c_get_915e3 l t1.2.2.2.2.2.1.2 (i := j2) hj1) q_X8_306 (by rw [t1.2.2.2.2.2.1.2.1]; decide) (ce_10 t1.2.2.2.2.2.1.2.1) (ci := 9) rfl hdV_Jx4a65c_get_915e3 rfl rfl (Nat.le_of_ble_eq_true rfl) (Nat.le_of_ble_eq_true rfl) (by show j2 + 0 ≤ 48; omega) (by show 4 * j2 + 0 ≤ 192; omega) (Nat.le_refl _) (Nat.le_refl _) (Nat.le_of_ble_eq_true rfl) dX8_club_60 ?_
      have ts : TShip K1 G1 (eo G1 a0 4 j2) := st.1.ship hj1
      have hiv := st.2.1
      have hik := st.1
      refine v_cast hC (by rw [ts.1]; decide) (ce_7 ts.1) (ci := 6) rfl aw_212 dX8_club_63 ?_
      refine v_astore (i := 7) (lv' := [(7, .ref (eo G1 a0 4 j2)), (6, .int (nI j2)), (5, .int cnt), (4, .ref dl), (0, .ref a0), (1, .int (nI x1)), (2, .int x2), (3, .int x3)]) hC dX8_club_66 (by decide) rfl ?_
      refine v_aload hC dX8_club_68 0 rfl ?_
      refine gf_X8_310 hC ts.1 ts.2.2.1.1 dX8_club_70 ?_
      refine gf_X8_206 hC ts.2.2.1.2.1 ts.2.2.1.2.2.1.1 dX8_club_73 ?_
      refine v_aload hC dX8_club_76 3 rfl ?_
      have KJ : ∀ (c3 s3 n2 : Nat) (K2 : Kt) (F2 : Ft) (G2 : Gt) (cnt2 : Int32), c3 ≤ j2 + 1 → s3 ≤ 4 * (j2 + 1) → StG X B K F G K2 F2 G2 a0 → V X 8 p l e ({ frames := 4, cells := 48, slots := 192, locals := 85 } : Room) s m args below meth c Q c3 s3 n2 K2 F2 G2 [(6, .int (nI j2)), (5, .int cnt2), (4, .ref dl), (0, .ref a0), (1, .int (nI x1)), (2, .int x2), (3, .int x3)] 111 [] := by
        intro c3 s3 n2 K2 F2 G2 cnt2 hc3 hs3 st2
        refine v_iinc (lv' := [(6, .int (nI (j2 + 1))), (5, .int cnt2), (4, .ref dl), (0, .ref a0), (1, .int (nI x1)), (2, .int x2), (3, .int x3)]) (v := nI (j2 + 1)) hC dX8_club_111 0 rfl (nI_inc j2) (by decide) rfl ?_
        refine v_goto (tgt := 42) hC dX8_club_114 (by decide) ?_
        exact v_widen hc3 hs3 (ih (j2 + 1) n2 K2 F2 G2 cnt2 (by omega) st2)
      have KS2 : V X 8 p l e ({ frames := 4, cells := 48, slots := 192, locals := 85 } : Room) s m args below meth c Q j2 (4 * j2) n1 K1 F1 G1 [(7, .ref (eo G1 a0 4 j2)), (6, .int (nI j2)), (5, .int cnt), (4, .ref dl), (0, .ref a0), (1, .int (nI x1)), (2, .int x2), (3, .int x3)] 111 [] := by
        refine v_sub [1, 2, 3, 4, 5, 6, 7] rfl ?_
        exact KJ j2 (4 * j2) n1 K1 F1 G1 cnt (by omega) (by omega) st
      refine v_acmp_ne (tgt := 111) hC dX8_club_78 (by decide) (fun _ => KS2) (fun _ => ?_)
      refine v_aload hC dX8_club_81 0 rfl ?_
      refine v_callV (c2 := j2) (s2 := 4 * j2) (As := []) hC (m_X7_isToPay l ts) q_X8_314 (by rw [ts.1]; decide) (ce_7 ts.1) (ci := 6) rfl hdV_X7_isToPay rfl rfl (Nat.le_of_ble_eq_true rfl) (Nat.le_of_ble_eq_true rfl) (by show j2 + 0 ≤ 48; omega) (by show 4 * j2 + 0 ≤ 192; omega) (Nat.le_refl _) (Nat.le_refl _) (Nat.le_of_ble_eq_true rfl) dX8_club_83 ?_
      refine v_if_eq (tgt := 111) hC dX8_club_86 (by decide) (fun _ => KS2) (fun c7 => ?_)
      refine v_aload hC dX8_club_89 0 rfl ?_
      refine gf_X8_253 hC ts.1 dX8_club_91 ?_
      refine v_aload_n hC dX8_club_94 rfl 4 rfl ?_
      refine gf_X8_151 hC t1.1 dX8_club_95 ?_
      refine v_icmp_gt (tgt := 111) hC dX8_club_98 (by decide) (fun _ => KS2) (fun _ => ?_)
      refine v_fresh (fun hfr => ?_)
      refine v_aload hC dX8_club_101 0 rfl ?_
      refine v_iload_n hC dX8_club_103 rfl 6 rfl ?_
      refine v_iload_n hC dX8_club_104 rfl 7 rfl ?_
      refine v_callV (c2 := j2 + 1) (s2 := 4 * j2 + 4) (As := [.int x2, .int x3]) hC (m_X7_putOff l ts.1) q_X8_317 (by rw [ts.1]; decide) (ce_7 ts.1) (ci := 6) rfl hdV_X7_putOff rfl rfl (Nat.le_of_ble_eq_true rfl) (Nat.le_of_ble_eq_true rfl) (by show j2 + 1 ≤ 48; omega) (by show 4 * j2 + 4 ≤ 192; omega) (Nat.le_refl _) (Nat.le_refl _) (Nat.le_of_ble_eq_true rfl) dX8_club_105 ?_
      refine v_iinc (lv' := [(5, .int (cnt + 1)), (7, .ref (eo G1 a0 4 j2)), (6, .int (nI j2)), (4, .ref dl), (0, .ref a0), (1, .int (nI x1)), (2, .int x2), (3, .int x3)]) (v := cnt + 1) hC dX8_club_108 2 rfl rfl (by decide) rfl ?_
      refine v_sub [2, 0, 3, 4, 5, 6, 7] rfl ?_
      exact KJ (j2 + 1) (4 * j2 + 4) _ _ _ _ (cnt + 1) (by omega) (by omega) (st.tr (putoff_inv hik hiv hj1 hfr c7 hx))
  exact KL (sz K G a0 4) 0 n K F G 0 (by omega) (StG.rf hk h)
end PNE
