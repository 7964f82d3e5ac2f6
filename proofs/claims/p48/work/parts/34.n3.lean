/-! one shipment changes, the others stay -/
section PN3
variable {X : Xt} {K : Kt} {F F' F'' : Ft} {G : Gt} {a0 : Nat} {B B' : Int}
theorem ne_kind {a b k : Nat} (ha : (K a).1 = k) (hb : (K b).1 ≠ k) : b ≠ a := fun z => hb (by rw [z]; exact ha)
theorem IV.at (hk : IK X K G a0) (h : IV B K F G a0) {i : Nat} (hi : i < sz K G a0 4) (m1 : Mon B' F' (CS K G a0)) (m2 : ∀ j, j < sz K G a0 1 → 0 ≤ (F' (gp G (eo G a0 1 j) 3) 0).toInt) (m3 : F' (gp G a0 5) 0 = F' a0 10 + F' a0 12 - F' a0 11) (e9 : F' a0 9 = F a0 9)
    (e6 : ∀ j, j < sz K G a0 3 → PolV F' (eo G a0 3 j) j ∧ (F (eo G a0 3 j) 6 = 1 → F' (eo G a0 3 j) 6 = 1)) (e7 : ∀ c, (K c).1 = 7 → c ≠ eo G a0 4 i → F' c = F c) (e8 : ∀ c, (K c).1 = 8 → (¬ G (eo G a0 4 i) 14 = none → c ≠ gp G (eo G a0 4 i) 14) → F' c = F c) (ed : ∀ c, (K c).1 = 9 → F' c 1 = F c 1 ∧ F' c 0 = F c 0)
    (v : ShipV F' G a0 (eo G a0 4 i)) (w1 : (F' (eo G a0 4 i) 10).toInt ≤ (F (eo G a0 4 i) 10).toInt) (w2 : F (eo G a0 4 i) 11 = 1 → F' (eo G a0 4 i) 11 = 1) (w3 : F (eo G a0 4 i) 13 = 1 → F' (eo G a0 4 i) 13 = 1) (w4 : F' (eo G a0 4 i) 5 = F (eo G a0 4 i) 5) : IV B' K F' G a0 ∧ Mono K F G F' G a0 := by
  obtain ⟨-, -, -, -, h5, h6⟩ := h
  refine ⟨⟨m1, m2, m3, fun j hj => (e6 j hj).1, fun j hj => ?_, by rw [e9]; exact h6⟩, fun j hj => ?_, fun j hj => (e6 j hj).2⟩
  · by_cases hij : eo G a0 4 j = eo G a0 4 i
    · rw [hij]; exact v
    · have t := hk.ship hj
      have q := h5 j hj
      have es := e7 _ t.1 hij
      unfold ShipV at q ⊢
      rw [es, e9]
      obtain ⟨q1, q2, q3, q4, q5⟩ := q
      refine ⟨q1, q2, q3, fun w => by rw [(ed _ (t.2.2.2.2 w)).1, (ed _ (t.2.2.2.2 w)).2]; exact q4 w, fun w => ?_⟩
      have e8' := e8 _ (t.2.2.2.1 w) (fun w2 z => hij (hk.2.2.2.2 j i hj hi w (by rw [gp_some w, gp_some w2, z])))
      obtain ⟨z1, z2, z3⟩ := q5 w
      refine ⟨z1, by unfold DamOK; rw [e8']; exact z2, ?_⟩
      rw [e8', z3]
      by_cases w2 : G (eo G a0 4 j) 15 = none
      · rw [if_pos w2, if_pos w2]
      · rw [if_neg w2, if_neg w2, (ed _ (t.2.2.2.2 w2)).1]
  · by_cases hij : eo G a0 4 j = eo G a0 4 i
    · rw [hij]; exact ⟨w1, w2, w3, w4, id, id⟩
    · rw [e7 _ (hk.ship hj).1 hij]
      exact ⟨Int.le_refl _, id, id, rfl, id, id⟩
theorem PolV.keep (h : IV B K F G a0) (e : ∀ j, j < sz K G a0 3 → F' (eo G a0 3 j) = F (eo G a0 3 j)) : ∀ j, j < sz K G a0 3 → PolV F' (eo G a0 3 j) j ∧ (F (eo G a0 3 j) 6 = 1 → F' (eo G a0 3 j) 6 = 1) := fun j hj => by
  have q := h.2.2.2.1 j hj
  unfold PolV at q ⊢
  rw [e j hj]
  exact ⟨q, id⟩
theorem give_kk {a b c : Nat} {x : Int32} (ha : (K a).1 = 2) (hb : (K b).1 = 2) (hc : (K c).1 ≠ 2) : f_X1_giveTo K F G a b x c = F c := give_ne (ne_kind ha hc) (ne_kind hb hc)
theorem i_ring1 (a b c t : Int32) : a + b - c + t = a + (b + t) - c := by
  simp only [Int32.sub_eq_add_neg]
  ac_rfl
/-- settle keeps the invariant -/
theorem settle_spec (hk : IK X K G a0) (h : IV B K F G a0) {i : Nat} (hi : i < sz K G a0 4) {a2 : Nat} {x : Int32} (hp : Payer K G a0 a2) (hx0 : 0 ≤ x.toInt) (hxl : x.toInt ≤ (F (eo G a0 4 i) 10).toInt) (hxp : (∃ j, j < sz K G a0 1 ∧ a2 = gp G (eo G a0 1 j) 3) → x.toInt ≤ (F a2 0).toInt) (hB0 : 0 ≤ B) (hB : B + 15000 < 2147483648) :
    IV (B + 15000) K (f_X8_settle K F G a0 (eo G a0 4 i) a2 x) G a0 ∧ Mono K F G (f_X8_settle K F G a0 (eo G a0 4 i) a2 x) G a0 ∧ f_X8_settle K F G a0 (eo G a0 4 i) a2 x a0 9 = F a0 9 ∧ (f_X8_settle K F G a0 (eo G a0 4 i) a2 x a2 0).toInt = (F a2 0).toInt - x.toInt := by
  obtain ⟨n1, n2, n3, n4, n5, n6⟩ := id h
  have ts := hk.ship hi
  have q := n5 i hi
  obtain ⟨j, hj, ej⟩ := hk.sexp hi
  have hec : gp G (gp G (gp G (eo G a0 4 i) 0) 1) 1 ∈ CS K G a0 := hk.schest hi
  have hoe : gp G a0 5 ≠ gp G (gp G (gp G (eo G a0 4 i) 0) 1) 1 := by rw [ej]; exact hk.o_e hj
  have hae : a2 ≠ gp G (gp G (gp G (eo G a0 4 i) 0) 1) 1 := by rw [ej]; exact hp.e hk hj
  have heb : ∀ k, k < sz K G a0 1 → gp G (gp G (gp G (eo G a0 4 i) 0) 1) 1 ≠ gp G (eo G a0 1 k) 3 := fun k hk2 => by rw [ej]; exact hk.e_b hj hk2
  have hao := hp.o hk
  have k1 : (K a0).1 = 1 := hk.1.1.1
  have ke := CS.kind hk.1.1 hec
  have ka := CS.kind hk.1.1 hp.mem
  have ko := CS.kind hk.1.1 (CS.office (K := K) (G := G) (a0 := a0))
  generalize hs : eo G a0 4 i = s at *
  generalize hec0 : gp G (gp G (gp G s 0) 1) 1 = ec at *
  obtain ⟨⟨q1, q2, q3, q4⟩, q5, q6, q7, q8⟩ := q
  obtain ⟨F1, hF1⟩ : ∃ f, f = up2 F s 10 (F s 10 - x) := ⟨_, rfl⟩
  have f1n : ∀ c, c ≠ s → F1 c = F c := fun c hc => by rw [hF1]; exact up2_a _ _ hc
  have f1k : ∀ k, k ≠ 10 → F1 s k = F s k := fun k hk => by rw [hF1]; exact up2_k _ _ hk
  have f1e : F1 s 10 = F s 10 - x := by rw [hF1]; exact up2_eq _ _ _ _
  have f1t : (F1 s 10).toInt = (F s 10).toInt - x.toInt := by rw [f1e]; exact fb_subI (by omega) (by omega)
  have n7 : ∀ c, (K c).1 ≠ 7 → c ≠ s := fun c hc => ne_kind ts.1 hc
  have mF1 : Mon B F1 (CS K G a0) := n1.congr (fun c hc => by rw [f1n c (n7 c (by rw [CS.kind hk.1.1 hc]; decide))])
  have cF1 : ∀ c, (K c).1 = 2 → F1 c = F c := fun c hc => f1n c (n7 c (by rw [hc]; decide))
  by_cases hd : G s 14 = none
  · have e : f_X8_settle K F G a0 s a2 x = f_X1_giveTo K F1 G a2 ec x := by
      rw [hF1, ← hec0]
      unfold f_X8_settle
      rw [if_pos hd]
    rw [e]
    have gk : ∀ c, (K c).1 ≠ 2 → f_X1_giveTo K F1 G a2 ec x c = F1 c := fun c hc => give_kk ka ke hc
    have g0 : f_X1_giveTo K F1 G a2 ec x a0 = F a0 := by rw [gk a0 (by rw [k1]; decide), f1n a0 (n7 a0 (by rw [k1]; decide))]
    have gs : f_X1_giveTo K F1 G a2 ec x s = F1 s := gk s (by rw [ts.1]; decide)
    have gt := give_to (K := K) (G := G) mF1 hp.mem hec (x := x) (M := 3000) (by omega) (by omega) hae
    have r := IV.at (B' := B + 15000) (F' := f_X1_giveTo K F1 G a2 ec x) hk h hi ((mF1.give hk.2.1 hp.mem hec (M := 3000) (by omega) (by decide) (by omega)).mono (by omega))
      (fun k hk2 => by
        by_cases hc : gp G (eo G a0 1 k) 3 = a2
        · rw [hc, gt.1, cF1 _ ka]
          have := hxp ⟨k, hk2, hc.symm⟩
          omega
        · rw [give_ne hc (Ne.symm (heb k hk2)), cF1 _ (CS.kind hk.1.1 (CS.buyer hk2))]
          exact n2 k hk2)
      (by rw [g0, give_ne (Ne.symm hao) hoe, cF1 _ ko]; exact n3) (by rw [g0])
      (PolV.keep h (fun k hk2 => by rw [gk _ (by rw [(hk.pol hk2).1]; decide), f1n _ (n7 _ (by rw [(hk.pol hk2).1]; decide))]))
      (fun c hc hcs => by rw [hs] at hcs; rw [gk c (by rw [hc]; decide), f1n c hcs])
      (fun c hc _ => by rw [gk c (by rw [hc]; decide), f1n c (n7 c (by rw [hc]; decide))])
      (fun c hc => by rw [gk c (by rw [hc]; decide), f1n c (n7 c (by rw [hc]; decide))]; exact ⟨rfl, rfl⟩)
      (by
        rw [hs]
        unfold ShipV
        rw [gs, g0, f1t, f1k 2 (by decide), f1k 7 (by decide), f1k 3 (by decide), f1k 5 (by decide), f1k 11 (by decide), f1k 12 (by decide), f1k 13 (by decide)]
        refine ⟨⟨by omega, by omega, q3, q4⟩, q5, q6, fun w => ?_, fun w => absurd hd w⟩
        rw [gk _ (by rw [ts.2.2.2.2 w]; decide), f1n _ (n7 _ (by rw [ts.2.2.2.2 w]; decide))]
        exact q7 w)
      (by rw [hs, gs, f1t]; omega) (by rw [hs, gs, f1k 11 (by decide)]; exact id) (by rw [hs, gs, f1k 13 (by decide)]; exact id) (by rw [hs, gs, f1k 5 (by decide)])
    exact ⟨r.1, r.2, by rw [g0], by rw [gt.1, cF1 _ ka]⟩
  · have kd := ts.2.2.2.1 hd
    obtain ⟨z1, z2, z3⟩ := q8 hd
    generalize hd0 : gp G s 14 = d at *
    have dns : d ≠ s := n7 d (by rw [kd]; decide)
    have fd : F1 d = F d := f1n d dns
    have zf : 0 ≤ (if G s 15 = none then 0 else (F (gp G s 15) 1).toInt) := by
      by_cases w : G s 15 = none
      · rw [if_pos w]; decide
      · rw [if_neg w]; exact (q7 w).1
    have dm1 : DamOK F1 d := by unfold DamOK; rw [fd]; exact z2
    obtain ⟨rs1, rs2, rs3, rs4⟩ := rec_spec (K := K) (G := G) dm1 hx0 (by rw [fd]; omega)
    obtain ⟨F2, hF2⟩ : ∃ f, f = f_X2_recover K F1 G d x := ⟨_, rfl⟩
    rw [← hF2] at rs1 rs2 rs3 rs4
    have f2n : ∀ c, c ≠ d → F2 c = F1 c := fun c hc => by rw [hF2]; exact rec_ne hc
    have n8 : ∀ c, (K c).1 ≠ 8 → c ≠ d := fun c hc => ne_kind kd hc
    have cF2 : ∀ c, (K c).1 = 2 → F2 c = F c := fun c hc => by rw [f2n c (n8 c (by rw [hc]; decide)), cF1 c hc]
    have mF2 : Mon B F2 (CS K G a0) := n1.congr (fun c hc => by rw [cF2 c (CS.kind hk.1.1 hc)])
    generalize htO : F2 d 5 - F1 d 5 = tO at *
    generalize htR : F2 d 6 - F1 d 6 = tR at *
    obtain ⟨F3, hF3⟩ : ∃ f, f = f_X1_giveTo K F2 G a2 (gp G a0 5) tO := ⟨_, rfl⟩
    obtain ⟨ri, hri⟩ : ∃ f, f = f_X8_chestOfRival K F3 G a0 (F3 (gp G s 0) 3) := ⟨_, rfl⟩
    have hr : ri ∈ CS K G a0 := by rw [hri]; exact CS.rival _
    have kr := CS.kind hk.1.1 hr
    have hor : gp G a0 5 ≠ ri := by rw [hri]; exact hk.o_r _
    have har : a2 ≠ ri := by rw [hri]; exact hp.r hk _
    have hrb : ∀ k, k < sz K G a0 1 → ri ≠ gp G (eo G a0 1 k) 3 := fun k hk2 => by rw [hri]; exact hk.r_b hk2 _
    obtain ⟨F4, hF4⟩ : ∃ f, f = f_X1_giveTo K F3 G a2 ri tR := ⟨_, rfl⟩
    obtain ⟨F5, hF5⟩ : ∃ f, f = f_X1_giveTo K F4 G a2 ec (x - tO - tR) := ⟨_, rfl⟩
    have e : f_X8_settle K F G a0 s a2 x = up2 F5 a0 12 (F5 a0 12 + tO) := by
      unfold f_X8_settle
      rw [if_neg hd, hd0, ← hF1, ← hF2]
      unfold f_X8_settle_C61 f_X8_settle_C91 f_X8_settle_C108 f_X8_settle_C124
      rw [hd0, hec0, ← hF1, htO, htR, ← hF3, ← hri, ← hF4, ← hF5]
    have s1 : (x - tO).toInt = x.toInt - tO.toInt := fb_subI (by omega) (by omega)
    have s2 : (x - tO - tR).toInt = x.toInt - tO.toInt - tR.toInt := by rw [fb_subI (by omega) (by omega), s1]
    have mF3 : Mon (B + 3000) F3 (CS K G a0) := by rw [hF3]; exact mF2.give hk.2.1 hp.mem CS.office rs3 (by decide) (by omega)
    have mF4 : Mon (B + 3000 + 3000) F4 (CS K G a0) := by rw [hF4]; exact mF3.give hk.2.1 hp.mem hr rs4 (by decide) (by omega)
    have mF5 : Mon (B + 3000 + 3000 + 9000) F5 (CS K G a0) := by rw [hF5]; exact mF4.give hk.2.1 hp.mem hec (by omega) (by decide) (by omega)
    have gt3 := give_to (K := K) (G := G) mF2 hp.mem CS.office rs3 (by omega) hao
    have gt4 := give_to (K := K) (G := G) mF3 hp.mem hr rs4 (by omega) har
    have gt5 := give_to (K := K) (G := G) mF4 hp.mem hec (x := x - tO - tR) (M := 9000) (by omega) (by omega) hae
    rw [← hF3] at gt3
    rw [← hF4] at gt4
    rw [← hF5] at gt5
    have g5 : ∀ c, (K c).1 ≠ 2 → F5 c = F2 c := fun c hc => by rw [hF5, give_kk ka ke hc, hF4, give_kk ka kr hc, hF3, give_kk ka ko hc]
    have k0 : a0 ≠ s := n7 a0 (by rw [k1]; decide)
    have k0d : a0 ≠ d := n8 a0 (by rw [k1]; decide)
    have g0 : F5 a0 = F a0 := by rw [g5 a0 (by rw [k1]; decide), f2n a0 k0d, f1n a0 k0]
    rw [e]
    generalize hF6 : up2 F5 a0 12 (F5 a0 12 + tO) = F6
    have g6n : ∀ c, c ≠ a0 → F6 c = F5 c := fun c hc => by rw [← hF6]; exact up2_a _ _ hc
    have g6k : ∀ k, k ≠ 12 → F6 a0 k = F a0 k := fun k hk => by rw [← hF6, up2_k _ _ hk, g0]
    have g6e : F6 a0 12 = F a0 12 + tO := by rw [← hF6, up2_eq, g0]
    have na : ∀ c, (K c).1 ≠ 1 → c ≠ a0 := fun c hc => ne_kind k1 hc
    have g6s : F6 s = F1 s := by rw [g6n s (na s (by rw [ts.1]; decide)), g5 s (by rw [ts.1]; decide), f2n s (Ne.symm dns)]
    have g6d : F6 d = F2 d := by rw [g6n d (na d (by rw [kd]; decide)), g5 d (by rw [kd]; decide)]
    have g6o : ∀ c, (K c).1 ≠ 1 → (K c).1 ≠ 2 → c ≠ s → c ≠ d → F6 c = F c := fun c h1 h2 h3 h4 => by rw [g6n c (na c h1), g5 c h2, f2n c h4, f1n c h3]
    have c6 : ∀ c, (K c).1 = 2 → F6 c = F5 c := fun c hc => g6n c (na c (by rw [hc]; decide))
    have r := IV.at (B' := B + 15000) (F' := F6) hk h hi ((mF5.congr (fun c hc => by rw [c6 c (CS.kind hk.1.1 hc)])).mono (by omega))
      (fun k hk2 => by
        rw [c6 _ (CS.kind hk.1.1 (CS.buyer hk2))]
        by_cases hc : gp G (eo G a0 1 k) 3 = a2
        · rw [hc, gt5.1, gt4.1, gt3.1, s2, cF2 _ ka]
          have := hxp ⟨k, hk2, hc.symm⟩
          omega
        · rw [hF5, give_ne hc (Ne.symm (heb k hk2)), hF4, give_ne hc (Ne.symm (hrb k hk2)), hF3, give_ne hc (Ne.symm (hk.o_b hk2)), cF2 _ (CS.kind hk.1.1 (CS.buyer hk2))]
          exact n2 k hk2)
      (by
        rw [c6 _ ko, g6e, g6k 10 (by decide), g6k 11 (by decide), hF5, give_ne (Ne.symm hao) hoe, hF4, give_ne (Ne.symm hao) hor, hF3, give_b hao, cF2 _ ko, n3]
        exact i_ring1 _ _ _ _)
      (g6k 9 (by decide))
      (PolV.keep h (fun k hk2 => by
        have kp := (hk.pol hk2).1
        exact g6o _ (by rw [kp]; decide) (by rw [kp]; decide) (n7 _ (by rw [kp]; decide)) (n8 _ (by rw [kp]; decide))))
      (fun c hc hcs => by rw [hs] at hcs; exact g6o c (by rw [hc]; decide) (by rw [hc]; decide) hcs (n8 c (by rw [hc]; decide)))
      (fun c hc hcd => by rw [hs, hd0] at hcd; exact g6o c (by rw [hc]; decide) (by rw [hc]; decide) (n7 c (by rw [hc]; decide)) (hcd hd))
      (fun c hc => by rw [g6o c (by rw [hc]; decide) (by rw [hc]; decide) (n7 c (by rw [hc]; decide)) (n8 c (by rw [hc]; decide))]; exact ⟨rfl, rfl⟩)
      (by
        rw [hs]
        unfold ShipV
        rw [hd0, g6s, f1t, f1k 2 (by decide), f1k 7 (by decide), f1k 3 (by decide), f1k 5 (by decide), f1k 11 (by decide), f1k 12 (by decide), f1k 13 (by decide), g6k 9 (by decide)]
        have k9 : ∀ w : ¬ G s 15 = none, F6 (gp G s 15) = F (gp G s 15) := fun w => by
          have k9 := ts.2.2.2.2 w
          exact g6o _ (by rw [k9]; decide) (by rw [k9]; decide) (n7 _ (by rw [k9]; decide)) (n8 _ (by rw [k9]; decide))
        refine ⟨⟨by omega, by omega, q3, q4⟩, q5, q6, fun w => by rw [k9 w]; exact q7 w, fun _ => ⟨z1, by unfold DamOK; rw [g6d]; exact rs1, ?_⟩⟩
        have l0 : F2 d 0 = F d 0 := by rw [hF2, rec_k (by decide) (by decide) (by decide) (by decide), fd]
        rw [g6d, l0, rs2, fd, z3]
        by_cases w : G s 15 = none
        · rw [if_pos w, if_pos w]; omega
        · rw [if_neg w, if_neg w, k9 w]; omega)
      (by rw [hs, g6s, f1t]; omega) (by rw [hs, g6s, f1k 11 (by decide)]; exact id) (by rw [hs, g6s, f1k 13 (by decide)]; exact id) (by rw [hs, g6s, f1k 5 (by decide)])
    exact ⟨r.1, r.2, g6k 9 (by decide), by rw [c6 _ ka, gt5.1, gt4.1, gt3.1, s2, cF2 _ ka]; omega⟩
end PN3
