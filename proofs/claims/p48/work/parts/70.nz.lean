/-! the law's own walk -/
section PNZ
theorem lcmp_self (x : Int64) : lg_cmp x x = 0 := by unfold lg_cmp; simp
theorem qh_L_112 : qSh RL 112 yL_isDone cL_isDone 8 (some .boolean) [(52, 538, 539, 104), (52, 538, 543, 106)] := ⟨al_in (i := 1192) (by decide +kernel) (by decide +kernel), al_in (i := 1193) (by decide +kernel) (by decide +kernel), aw_54, al_in (i := 1194) (by decide +kernel) (by decide +kernel)⟩
theorem hdS_L_law : yL_law.cls ≠ "java/lang/invoke/MethodHandle" ∧ yL_law.cls ≠ "java/lang/invoke/VarHandle" ∧ (parseMethodDescriptor yL_law.desc).map (fun d => d.parameters.length) = some 1 := by decide +kernel
theorem hdV_L_law : yL_law.cls = RL ∧ yL_law.cls ≠ "java/lang/invoke/MethodHandle" ∧ yL_law.cls ≠ "java/lang/invoke/VarHandle" ∧ (parseMethodDescriptor yL_law.desc).map (fun d => d.parameters.length) = some 1 := by decide +kernel
def Kz (a3 : Nat) : Kt := fun a => if a = a3 then (23, 3) else (20, 48)
def bb : Nat → Int
  | 0 => 599994
  | t + 1 => bb t + 720000 + 3300000 * (t + 1)
theorem bb_le : ∀ t, t < 31 → 0 ≤ bb t ∧ bb t ≤ 1600000000 := by decide +kernel
section
variable {X : Xt} {K K' : Kt} {F F' F'' : Ft} {G G' G'' : Gt} {a0 a1 a2 a3 n : Nat} {B : Int}
theorem Mono.v (es : ∀ i, i < 5 → sz K G a0 i ≤ sz K' G' a0 i) (ee : ∀ i k, i < 5 → k < sz K G a0 i → eo G' a0 i k = eo G a0 i k) (h1 : Mono K F G F' G' a0) (h2 : Mono K' F' G' F'' G'' a0) : Mono K F G F'' G'' a0 := ⟨fun i hi => by
    obtain ⟨x1, x2, x3, x4, x5, x6⟩ := h1.1 i hi
    have h := h2.1 i (Nat.lt_of_lt_of_le hi (es 4 (by decide)))
    rw [ee 4 i (by decide) hi] at h
    obtain ⟨b1, b2, b3, b4, b5, b6⟩ := h
    exact ⟨Int.le_trans b1 x1, fun q => b2 (x2 q), fun q => b3 (x3 q), b4.trans x4, fun q => b5 (x5 q), fun q => b6 (x6 q)⟩, fun i hi q => by
    have h := h2.2 i (Nat.lt_of_lt_of_le hi (es 3 (by decide)))
    rw [ee 3 i (by decide) hi] at h
    exact h (h1.2 i hi q)⟩
/-- the law's state at the head of its loop -/
def LI (X : Xt) (a0 a1 a2 a3 t d : Nat) (B : Int) (K : Kt) (F : Ft) (G : Gt) (Fa : Ft) : Prop := IK X K G a0 ∧ IV B K F G a0 ∧ (sz K G a0 0 = 3 ∧ sz K G a0 1 = 6 ∧ sz K G a0 2 = 3 ∧ sz K G a0 3 = 3) ∧ sz K G a0 4 ≤ t ∧ F a0 9 = nI d ∧ d ≤ 110 * t ∧ (∀ k, k < sz K G a0 4 → Fa a1 k = f_X7_marks K F G (eo G a0 4 k) ∧ Fa a2 k = F (eo G a0 4 k) 10) ∧ (∀ k, sz K G a0 4 ≤ k → k < 48 → Fa a1 k = 0) ∧ ∀ k, k < 3 → Fa a3 k = if F (eo G a0 3 k) 6 = 0 then 0 else 1
/-- old cells are as they were, and what the law holds beside them -/
theorem LI.old {t d : Nat} {Fa : Ft} (h : LI X a0 a1 a2 a3 t d B K F G Fa) (o : Old K F G K' F' G' a0 7) (k1 : IK X K' G' a0) (v1 : IV B K' F' G' a0) : LI X a0 a1 a2 a3 t d B K' F' G' Fa := by
  obtain ⟨hk, hv, ⟨z0, z1, z2, z3⟩, z4, hd, hd2, h1, h2, h3⟩ := h
  have e4 := o.szn (i := 4) (by decide) (by decide)
  refine ⟨k1, v1, ⟨(o.szn (i := 0) (by decide) (by decide)).trans z0, (o.szn (i := 1) (by decide) (by decide)).trans z1, (o.szn (i := 2) (by decide) (by decide)).trans z2, (o.szn (i := 3) (by decide) (by decide)).trans z3⟩, by rw [e4]; exact z4, by rw [(o.at hk.1.1.1).2.2]; exact hd, hd2, fun k hk2 => ?_, fun k hk2 hk3 => ?_, fun k hk3 => ?_⟩
  · rw [e4] at hk2
    have es := o.at (hk.ship hk2).1
    obtain ⟨q1, q2⟩ := h1 k hk2
    rw [o.2.1 4 k (by decide) hk2]
    refine ⟨?_, by rw [es.2.2]; exact q2⟩
    rw [q1, marks_mk, marks_mk, es.2.2, es.2.1]
  · rw [e4] at hk2; exact h2 k hk2 hk3
  · have hk4 : k < sz K G a0 3 := by rw [z3]; exact hk3
    rw [o.2.1 3 k (by decide) hk4, (o.at (hk.pol hk4).1).2.2]
    exact h3 k hk3
theorem ky_up {f : Ft} {g : Ft} {a k : Nat} {v : Int32} (h : E3 a1 a2 a3 a) : up2 (ky a1 a2 a3 f g) a k v = ky a1 a2 a3 f (up2 g a k v) := by
  funext q
  by_cases e : q = a
  · subst e
    rw [ky_in h]
    funext j
    by_cases ej : j = k
    · rw [ej, up2_eq, up2_eq]
    · rw [up2_k _ _ ej, up2_k _ _ ej, ky_in h]
  · rw [up2_a _ _ e]
    by_cases hq : E3 a1 a2 a3 q
    · rw [ky_in hq, ky_in hq, up2_a _ _ e]
    · rw [ky_out hq, ky_out hq]
theorem Kz_ok : ∀ a, E3 a1 a2 a3 a → ∃ N, (Kz a3 a = (20, N) ∨ Kz a3 a = (23, N)) ∧ N.toInt32 ≠ 0 := fun a _ => by
  unfold Kz
  split
  · exact ⟨3, Or.inr rfl, by decide⟩
  · exact ⟨48, Or.inl rfl, by decide⟩
end
section
variable {X : Xt} {p : Program} {l : Launch} {e : Env} {R : Room} {s : State} {m : MethodId} {args : Array Value} {below : List Frame} {meth : Method} {c : Code} {own : String} {cc : ByteArray} {nL : Nat} {ret : Option FieldType}
variable {Q : State → Prop} {cells slots n : Nat} {K : Kt} {F : Ft} {G : Gt} {lv : List (Nat × Value)} {pc : Nat} {st : List Value} {a1 a2 a3 : Nat} {Ka : Kt} {Fa : Ft} {Ga : Gt}
/-- a call that reads alone -/
theorem v_fread (hC : Cx X p s m args meth c own cc nL ret) (hx0 : ∀ q, ¬ xe X q) (hz : ∀ a, E3 a1 a2 a3 a → (K a).1 = 0) (ha : ∀ a, E3 a1 a2 a3 a → ∃ N, (Ka a = (20, N) ∨ Ka a = (23, N)) ∧ N.toInt32 ≠ 0) {y : MethodName} {bytes : ByteArray} {maxL fr lo index : Nat} {ret1 : Option FieldType} {As : List Value} {a ci nn : Nat} {q : vw_C} {fs : List Value} {v : Value} (hM : Mw (xw X (E3 a1 a2 a3)) l y bytes maxL ret1 fr lo 0 0 (.ref a :: As) n K F G (some v) n K F G) (hq : qV own index q.1 y bytes maxL ret1) (hka : (K a).1 ≠ 0) (he : ce (xw X (E3 a1 a2 a3)) K F G a = .inr (ci, fs)) (hc : cls[ci]? = some q) (hd : y.cls = q.1 ∧ y.cls ≠ "java/lang/invoke/MethodHandle" ∧ y.cls ≠ "java/lang/invoke/VarHandle" ∧ (parseMethodDescriptor y.desc).map (fun d => d.parameters.length) = some nn) (hnn : As.length = nn) {st0 : List Value} (hst0 : st0 = As.reverse ++ .ref a :: st) (hrf : fr + 1 ≤ R.frames) (hrl : 8 + (maxL + 11) + lo ≤ R.locals) (hrc : cells + 0 ≤ R.cells) (hrs : slots + 0 ≤ R.slots) (hst : (st.map fun v => v.category).sum ≤ 8) (hdg : decode cc pc = .ok (.invokevirtual index, 3))
     (kk : V X nL p l e R s m args below meth c Q cells slots n (ky a1 a2 a3 K Ka) (ky a1 a2 a3 F Fa) (ky a1 a2 a3 G Ga) lv (pc + 3) (v :: st)) : V X nL p l e R s m args below meth c Q cells slots n (ky a1 a2 a3 K Ka) (ky a1 a2 a3 F Fa) (ky a1 a2 a3 G Ga) lv pc st0 := by
  refine v_fcallV (c2 := cells) (s2 := slots) hC hx0 hz ha hM.mr hq hka he hc hd hnn hst0 hrf hrl hrc hrs (Nat.le_refl _) (Nat.le_refl _) hst hdg (fun o n' K' F' G' hP _ => ?_)
  obtain ⟨rfl, h2, h3, h4, h5⟩ := hP
  rw [h2, h3, h4, h5]
  exact kk
theorem v_newz (hC : Cx X p s m args meth c own cc nL ret) {z : Int32} {N : Nat} (hn : ¬ z < 0) (hN : z.toNatClampNeg = N) (hb : N * 1 ≤ 536870912) (hcells : cells + 1 ≤ R.cells) (hslots : slots + N ≤ R.slots) (hdg : decode cc pc = .ok (.newarray .boolean, 2))
    (kk : V X nL p l e R s m args below meth c Q (cells + 1) (slots + N) (n + 1) (va_up K n (23, N)) (va_up F n (fun _ => 0)) G lv (pc + 2) (.ref n :: st)) : V X nL p l e R s m args below meth c Q cells slots n K F G lv pc (.int z :: st) :=
  v_newarr hC (atype := .boolean) (ty := .boolean) (t0 := 3) (cA0 := xZ X) (a0 := (N, .inl fun _ => 0)) al_arr_boolean rfl rfl (fun h => h) rfl hn hN hb hcells hslots (fun x hx => ⟨va_up_ne _ _ hx, va_up_ne _ _ hx, rfl⟩) ((ce_23 (by simp [va_up])).trans (by simp [va_up])) hdg kk
end
set_option maxHeartbeats 16000000 in
set_option maxRecDepth 100000 in
theorem law_walk {X : Xt} {p : Program} {l : Launch} {e : Env} {s : State} {m : MethodId} {args : Array Value} {below : List Frame} {meth : Method} {c : Code} {Q : State → Prop} {b L : Nat} {xs : Nat → Int32} {n : Nat} {K : Kt} {F : Ft} {G : Gt} (hC : Cx X p s m args meth c RL cL_law 13 (some .boolean)) (hSc : Sc X b L xs s) (hL : L < 2 ^ 31) (hfl : l.stackTraces = false) (hx0 : ∀ q, ¬ xe X q) (hz : K (xz X) = (21, 0))
    (D : Kt → Ft → Gt → Nat → Int64) (hdig : ∀ (Y : Xt) (n : Nat) (K : Kt) (F : Ft) (G : Gt) (a0 : Nat) (B : Int), IK Y K G a0 → IV B K F G a0 → sz K G a0 0 = 3 → Mr Y l yX8_digest cX8_digest 4 (some .long) 16 700 600 4000 [.ref a0] n K F G (fun o n' K' F' G' => o = some (.long (D K F G a0)) ∧ K' = K ∧ F' = F ∧ G' = G))
    (hret : ∀ (n : Nat) (K : Kt) (F : Ft) (G : Gt) (lv : List (Nat × Value)), V X 13 p l e room_1 s m args below meth c Q 631684 7206647 n K F G lv 392 [.int 1]) : V X 13 p l e room_1 s m args below meth c Q 0 0 n K F G [(0, .ref b)] 0 [] := by
  refine v_aload_n hC dL_law_0 rfl 0 rfl ?_
  refine v_scallS (c2 := 52) (s2 := 903) (As := [.ref b]) hC hSc (m_L_office l hL hz) q_L_108 hdS_L_office rfl rfl (Nat.le_of_ble_eq_true rfl) (Nat.le_of_ble_eq_true rfl) (Nat.le_of_ble_eq_true rfl) (Nat.le_of_ble_eq_true rfl) (Nat.le_of_ble_eq_true rfl) (Nat.le_of_ble_eq_true rfl) (Nat.le_of_ble_eq_true rfl) dL_law_1 (fun o n1 K1 F1 G1 hP => ?_)
  obtain ⟨a0, rfl, st0⟩ := hP
  refine v_astore_n (i := 1) (lv' := [(1, .ref a0), (0, .ref b)]) hC dL_law_4 rfl (by decide) rfl ?_
  refine v_iconst (v := 0) hC dL_law_5 (by decide) ?_
  refine v_istore_n (i := 2) (lv' := [(2, .int 0), (1, .ref a0), (0, .ref b)]) hC dL_law_6 rfl (by decide) rfl ?_
  refine v_bipush (v := 48) hC dL_law_7 (by decide) ?_
  refine v_freshs (fun hfr => ?_)
  have f0 := hfr 0
  have f1 := hfr 1
  have f2 := hfr 2
  generalize ha1 : n1 + 0 = a1 at f0
  have ha1 : n1 = a1 := ha1
  rw [ha1] at f1 f2 ⊢
  refine v_newi (N := 48) hC (by decide) (by decide) (by decide) (Nat.le_of_ble_eq_true rfl) (Nat.le_of_ble_eq_true rfl) dL_law_9 ?_
  refine v_astore_n (i := 3) (lv' := [(3, .ref a1), (2, .int 0), (1, .ref a0), (0, .ref b)]) hC dL_law_11 rfl (by decide) rfl ?_
  refine v_bipush (v := 48) hC dL_law_12 (by decide) ?_
  refine v_newi (N := 48) hC (by decide) (by decide) (by decide) (Nat.le_of_ble_eq_true rfl) (Nat.le_of_ble_eq_true rfl) dL_law_14 ?_
  refine v_astore (i := 4) (lv' := [(4, .ref (a1 + 1)), (3, .ref a1), (2, .int 0), (1, .ref a0), (0, .ref b)]) hC dL_law_16 (by decide) rfl ?_
  refine v_iconst (v := 3) hC dL_law_18 (by decide) ?_
  refine v_newz (N := 3) hC (by decide) (by decide) (by decide) (Nat.le_of_ble_eq_true rfl) (Nat.le_of_ble_eq_true rfl) dL_law_19 ?_
  refine v_astore (i := 5) (lv' := [(5, .ref (a1 + 1 + 1)), (4, .ref (a1 + 1)), (3, .ref a1), (2, .int 0), (1, .ref a0), (0, .ref b)]) hC dL_law_21 (by decide) rfl ?_
  generalize ha2 : a1 + 1 = a2 at f1 ⊢
  have f2 : (K1 (a2 + 1)).1 = 0 := by rw [← ha2]; exact f2
  generalize ha3 : a2 + 1 = a3 at f2 ⊢
  have n12 : a1 ≠ a2 := by omega
  have n13 : a1 ≠ a3 := by omega
  have n23 : a2 ≠ a3 := by omega
  have hz1 : ∀ a, E3 a1 a2 a3 a → (K1 a).1 = 0 := fun a q => by rcases q with rfl | rfl | rfl <;> assumption
  have eK : va_up (va_up (va_up K1 a1 (20, 48)) a2 (20, 48)) a3 (23, 3) = ky a1 a2 a3 K1 (Kz a3) := by
    funext a
    unfold ky Kz
    by_cases c3 : a = a3
    · subst c3; rw [kat, if_pos (Or.inr (Or.inr rfl)), if_pos rfl]
    · rw [va_up_ne _ _ c3]
      by_cases c2 : a = a2
      · subst c2; rw [kat, if_pos (Or.inr (Or.inl rfl)), if_neg c3]
      · rw [va_up_ne _ _ c2]
        by_cases c1 : a = a1
        · subst c1; rw [kat, if_pos (Or.inl rfl), if_neg c3]
        · rw [va_up_ne _ _ c1, if_neg (by rintro (q | q | q) <;> contradiction)]
  have eF : va_up (va_up (va_up F1 a1 (fun _ => 0)) a2 (fun _ => 0)) a3 (fun _ => 0) = ky a1 a2 a3 F1 (fun _ _ => 0) := by
    funext a
    unfold ky
    by_cases c3 : a = a3
    · subst c3; rw [kat, if_pos (Or.inr (Or.inr rfl))]
    · rw [va_up_ne _ _ c3]
      by_cases c2 : a = a2
      · subst c2; rw [kat, if_pos (Or.inr (Or.inl rfl))]
      · rw [va_up_ne _ _ c2]
        by_cases c1 : a = a1
        · subst c1; rw [kat, if_pos (Or.inl rfl)]
        · rw [va_up_ne _ _ c1, if_neg (by rintro (q | q | q) <;> contradiction)]
  have eG : G1 = ky a1 a2 a3 G1 G1 := by
    funext a
    unfold ky
    split <;> rfl
  rw [eK, eF, eG]
  have st0 : Off (xw X (E3 a1 a2 a3)) (99999 * 6) K1 F1 G1 a0 3 6 3 3 := st0
  obtain ⟨hk0, hv0, y0, y1, y2, y3, y4, y9, y6⟩ := st0
  have li0 : LI (xw X (E3 a1 a2 a3)) a0 a1 a2 a3 0 0 (bb 0) K1 F1 G1 (fun _ _ => 0) := ⟨hk0, hv0, ⟨y0, y1, y2, y3⟩, by rw [y4]; exact Nat.le_refl _, y9, by omega, fun k hk => absurd hk (by rw [y4]; omega), fun _ _ _ => rfl, fun k hk => by rw [y6 k hk, if_pos rfl]⟩
  obtain ⟨Ga, hGa⟩ : ∃ g, g = G1 := ⟨_, rfl⟩
  rw [show ky a1 a2 a3 G1 G1 = ky a1 a2 a3 G1 Ga by rw [hGa]]
  clear hGa eG eF eK
  have ka1 : ∀ K : Kt, ky a1 a2 a3 K (Kz a3) a1 = (20, 48) := fun K => by rw [ky_in (Or.inl rfl)]; unfold Kz; rw [if_neg n13]
  have ka2 : ∀ K : Kt, ky a1 a2 a3 K (Kz a3) a2 = (20, 48) := fun K => by rw [ky_in (Or.inr (Or.inl rfl))]; unfold Kz; rw [if_neg n23]
  have ka3 : ∀ K : Kt, ky a1 a2 a3 K (Kz a3) a3 = (23, 3) := fun K => by rw [ky_in (Or.inr (Or.inr rfl))]; unfold Kz; rw [if_pos rfl]
  have fa1 : ∀ F Fa : Ft, ky a1 a2 a3 F Fa a1 = Fa a1 := fun F Fa => ky_in (Or.inl rfl)
  have fa2 : ∀ F Fa : Ft, ky a1 a2 a3 F Fa a2 = Fa a2 := fun F Fa => ky_in (Or.inr (Or.inl rfl))
  have fa3 : ∀ F Fa : Ft, ky a1 a2 a3 F Fa a3 = Fa a3 := fun F Fa => ky_in (Or.inr (Or.inr rfl))
  have KL : ∀ (j t d n1 : Nat) (K1 : Kt) (F1 : Ft) (G1 : Gt) (Fa : Ft), t + j = 30 → LI (xw X (E3 a1 a2 a3)) a0 a1 a2 a3 t d (bb t) K1 F1 G1 Fa → (∀ a, E3 a1 a2 a3 a → (K1 a).1 = 0) → V X 13 p l e room_1 s m args below meth c Q (60 + 60 * t) (1100 + 200 * t) n1 (ky a1 a2 a3 K1 (Kz a3)) (ky a1 a2 a3 F1 Fa) (ky a1 a2 a3 G1 Ga) [(6, .int (nI t)), (5, .ref a3), (4, .ref a2), (3, .ref a1), (2, .int (nI d)), (1, .ref a0), (0, .ref b)] 26 [] := by
    intro j
    induction j with
    | zero =>
      intro t d n1 K1 F1 G1 Fa hj li hz1
      have ht : t = 30 := by omega
      subst ht
      have t1 := li.1.1.1
      have hv := li.2.1
      refine v_iload hC dL_law_26 0 rfl ?_
      refine v_bipush (v := nI 30) hC dL_law_28 (by decide) ?_
      refine v_icmp_ge (tgt := 364) hC dL_law_30 (by decide) (fun _ => ?_) (fun q => absurd (Int32.le_refl _) q)
      refine v_aload_n hC dL_law_364 rfl 5 rfl ?_
      generalize n1 = n9
      refine v_fcallV (c2 := 2460) (s2 := 11100) (As := []) hC hx0 hz1 Kz_ok (hdig _ n9 K1 F1 G1 a0 _ li.1 hv li.2.2.1.1) q_L_129 (by rw [t1.1]; decide) (ce_1 t1.1) (ci := 0) rfl hdV_X8_digest rfl rfl (Nat.le_of_ble_eq_true rfl) (Nat.le_of_ble_eq_true rfl) (Nat.le_of_ble_eq_true rfl) (Nat.le_of_ble_eq_true rfl) (Nat.le_of_ble_eq_true rfl) (Nat.le_of_ble_eq_true rfl) (Nat.le_of_ble_eq_true rfl) dL_law_365 (fun o n9 K9 F9 G9 hP _ => ?_)
      obtain ⟨rfl, eK, eF, eG⟩ := hP
      rw [eK, eF, eG]
      refine v_lstore (i := 6) (lv' := [(6, .long (D K1 F1 G1 a0)), (5, .ref a3), (4, .ref a2), (3, .ref a1), (2, .int (nI d)), (1, .ref a0), (0, .ref b)]) hC dL_law_368 (by decide) rfl ?_
      refine v_aload_n hC dL_law_370 rfl 5 rfl ?_
      refine v_fread (As := []) hC hx0 hz1 Kz_ok (m_X8_isSound l t1) q_L_133 (by rw [t1.1]; decide) (ce_1 t1.1) (ci := 0) rfl hdV_X8_isSound rfl rfl (Nat.le_of_ble_eq_true rfl) (Nat.le_of_ble_eq_true rfl) (by show 2460 + 0 ≤ 631684; omega) (by show 11100 + 0 ≤ 7206647; omega) (Nat.le_of_ble_eq_true rfl) dL_law_371 ?_
      rw [sound_1 hv]
      refine v_if_eq (tgt := 391) hC dL_law_374 (by decide) (fun q => absurd q (by decide)) (fun _ => ?_)
      refine v_aload_n hC dL_law_377 rfl 5 rfl ?_
      refine v_fcallV (c2 := 3060) (s2 := 15100) (As := []) hC hx0 hz1 Kz_ok (hdig _ n9 K1 F1 G1 a0 _ li.1 hv li.2.2.1.1) q_L_129 (by rw [t1.1]; decide) (ce_1 t1.1) (ci := 0) rfl hdV_X8_digest rfl rfl (Nat.le_of_ble_eq_true rfl) (Nat.le_of_ble_eq_true rfl) (Nat.le_of_ble_eq_true rfl) (Nat.le_of_ble_eq_true rfl) (Nat.le_of_ble_eq_true rfl) (Nat.le_of_ble_eq_true rfl) (Nat.le_of_ble_eq_true rfl) dL_law_378 (fun o n9 K9 F9 G9 hP _ => ?_)
      obtain ⟨rfl, eK, eF, eG⟩ := hP
      rw [eK, eF, eG]
      refine v_lload hC dL_law_381 0 rfl ?_
      refine v_lcmp hC dL_law_383 ?_
      rw [show lg_cmp (D K1 F1 G1 a0) (D K1 F1 G1 a0) = 0 from lcmp_self _]
      refine v_if_ne (tgt := 391) hC dL_law_384 (by decide) (fun q => absurd rfl q) (fun _ => ?_)
      refine v_iconst (v := 1) hC dL_law_387 (by decide) ?_
      refine v_goto (tgt := 392) hC dL_law_388 (by decide) ?_
      exact v_widen (by decide) (by decide) (hret _ _ _ _ _)
    | succ j ih =>
      intro t d n1 K1 F1 G1 Fa hj li hz1
      obtain ⟨hk, hv, ⟨z0, z1, z2, z3⟩, z4, hd, hd2, hm, hm0, hen⟩ := id li
      have t1 := hk.1.1
      have hbt := bb_le t (by omega)
      have hbt1 := bb_le (t + 1) (by omega)
      have ebt : bb (t + 1) = bb t + 720000 + 3300000 * ((t : Int) + 1) := rfl
      refine v_iload hC dL_law_26 0 rfl ?_
      refine v_bipush (v := nI 30) hC dL_law_28 (by decide) ?_
      refine v_icmp_ge (tgt := 364) hC dL_law_30 (by decide) (fun q => absurd q (lp_s hj (by decide))) (fun _ => ?_)
      refine v_aload_n hC dL_law_33 rfl 6 rfl ?_
      refine v_bipush (v := 11) hC dL_law_34 (by decide) ?_
      refine v_iload hC dL_law_36 0 rfl ?_
      refine v_bipush (v := 24) hC dL_law_38 (by decide) ?_
      refine v_irem hC dL_law_40 (by decide) ?_
      obtain ⟨rm, hrm, erm⟩ := rem_nI (x := nI t) (m := 24) (k := 24) (by rw [nI_toInt (by omega)]; omega) rfl (by decide)
      rw [erm]
      refine v_iadd hC dL_law_41 ?_
      have e11 := i_add_n (a := 11) (x := 11) rfl hrm (by decide)
      refine v_cell hC hSc hL (by rw [Int32.le_iff_toInt_le, e11, Int32.toInt_zero]; omega) (Nat.le_of_ble_eq_true rfl) (Nat.le_of_ble_eq_true rfl) (by show (60 + 60 * t) + 0 ≤ 631684; omega) (by show (1100 + 200 * t) + 0 ≤ 7206647; omega) (Nat.le_of_ble_eq_true rfl) dL_law_42 (fun w1 => ?_)
      refine v_iload hC dL_law_45 0 rfl ?_
      refine v_bipush (v := 24) hC dL_law_47 (by decide) ?_
      refine v_idiv hC dL_law_49 (by decide) ?_
      refine v_iconst (v := 4) hC dL_law_50 (by decide) ?_
      refine v_imul hC dL_law_51 ?_
      refine v_ishr hC dL_law_52 ?_
      generalize (w1 >>> ((((nI t) / 24) * 4) &&& 31)) = x
      refine v_istore (i := 7) (lv' := [(7, .int x), (6, .int (nI t)), (5, .ref a3), (4, .ref a2), (3, .ref a1), (2, .int (nI d)), (1, .ref a0), (0, .ref b)]) hC dL_law_53 (by decide) rfl ?_
      refine v_aload_n hC dL_law_55 rfl 6 rfl ?_
      refine v_bipush (v := nI 6) hC dL_law_56 (by decide) ?_
      refine v_fread (As := [.int (nI 6)]) hC hx0 hz1 Kz_ok (m_X8_books l (x1 := 6) t1 (by decide)) q_L_47 (by rw [t1.1]; decide) (ce_1 t1.1) (ci := 0) rfl hdV_X8_books rfl rfl (Nat.le_of_ble_eq_true rfl) (Nat.le_of_ble_eq_true rfl) (by show (60 + 60 * t) + 0 ≤ 631684; omega) (by show (1100 + 200 * t) + 0 ≤ 7206647; omega) (Nat.le_of_ble_eq_true rfl) dL_law_58 ?_
      rw [bk6]
      refine v_istore (i := 8) (lv' := [(8, .int (nI (sz K1 G1 a0 4))), (7, .int x), (6, .int (nI t)), (5, .ref a3), (4, .ref a2), (3, .ref a1), (2, .int (nI d)), (1, .ref a0), (0, .ref b)]) hC dL_law_61 (by decide) rfl ?_
      refine v_aload_n hC dL_law_63 rfl 7 rfl ?_
      refine v_bipush (v := nI 7) hC dL_law_64 (by decide) ?_
      refine v_fread (As := [.int (nI 7)]) hC hx0 hz1 Kz_ok (m_X8_books l (x1 := 7) t1 (by decide)) q_L_47 (by rw [t1.1]; decide) (ce_1 t1.1) (ci := 0) rfl hdV_X8_books rfl rfl (Nat.le_of_ble_eq_true rfl) (Nat.le_of_ble_eq_true rfl) (by show (60 + 60 * t) + 0 ≤ 631684; omega) (by show (1100 + 200 * t) + 0 ≤ 7206647; omega) (Nat.le_of_ble_eq_true rfl) dL_law_66 ?_
      rw [bk7]
      refine v_istore (i := 9) (lv' := [(9, .int (F1 (gp G1 a0 5) 0)), (8, .int (nI (sz K1 G1 a0 4))), (7, .int x), (6, .int (nI t)), (5, .ref a3), (4, .ref a2), (3, .ref a1), (2, .int (nI d)), (1, .ref a0), (0, .ref b)]) hC dL_law_69 (by decide) rfl ?_
      refine v_aload_n hC dL_law_71 rfl 8 rfl ?_
      refine v_bipush (v := nI 10) hC dL_law_72 (by decide) ?_
      refine v_fread (As := [.int (nI 10)]) hC hx0 hz1 Kz_ok (m_X8_books l (x1 := 10) t1 (by decide)) q_L_47 (by rw [t1.1]; decide) (ce_1 t1.1) (ci := 0) rfl hdV_X8_books rfl rfl (Nat.le_of_ble_eq_true rfl) (Nat.le_of_ble_eq_true rfl) (by show (60 + 60 * t) + 0 ≤ 631684; omega) (by show (1100 + 200 * t) + 0 ≤ 7206647; omega) (Nat.le_of_ble_eq_true rfl) dL_law_74 ?_
      rw [bk10]
      refine v_istore (i := 10) (lv' := [(10, .int (F1 (gp G1 a0 8) 0)), (9, .int (F1 (gp G1 a0 5) 0)), (8, .int (nI (sz K1 G1 a0 4))), (7, .int x), (6, .int (nI t)), (5, .ref a3), (4, .ref a2), (3, .ref a1), (2, .int (nI d)), (1, .ref a0), (0, .ref b)]) hC dL_law_77 (by decide) rfl ?_
      refine v_aload_n hC dL_law_79 rfl 9 rfl ?_
      refine v_iload hC dL_law_80 3 rfl ?_
      refine v_fcallH (c2 := (60 + 60 * t + 48)) (s2 := (1100 + 200 * t + 192)) (As := [.ref a0, .int x]) hC hx0 hz1 Kz_ok (m_L_isDone l hfl (x := x) hk hv z0 z1 z2 z3 (by omega) hbt.1 (by omega)) qh_L_112 hdS_L_isDone rfl rfl (Nat.le_of_ble_eq_true rfl) (Nat.le_of_ble_eq_true rfl) (by show (60 + 60 * t) + 48 ≤ 631684; omega) (by show (1100 + 200 * t) + 192 ≤ 7206647; omega) (by omega) (by omega) (Nat.le_of_ble_eq_true rfl) dL_law_82 (fun o n2 K2 F2 G2 hP hz2 => ?_)
      obtain ⟨r, rfl, hr01, hr0, st⟩ := hP
      obtain ⟨hk2, hv2, mo2, hd3, zz, zz4, ee⟩ := id st
      have t2 := hk2.1.1
      have zz5 : ∀ i, i < 5 → sz K1 G1 a0 i ≤ sz K2 G2 a0 i := fun i hi => by
        by_cases c : i = 4
        · subst c; omega
        · have := zz i (by omega); omega
      have y4 : sz K2 G2 a0 4 ≤ t + 1 := by omega
      have K123 : V X 13 p l e room_1 s m args below meth c Q (60 + 60 * t + 48) (1100 + 200 * t + 192) n2 (ky a1 a2 a3 K2 (Kz a3)) (ky a1 a2 a3 F2 Fa) (ky a1 a2 a3 G2 Ga) [(10, .int (F1 (gp G1 a0 8) 0)), (9, .int (F1 (gp G1 a0 5) 0)), (8, .int (nI (sz K1 G1 a0 4))), (7, .int x), (6, .int (nI t)), (5, .ref a3), (4, .ref a2), (3, .ref a1), (2, .int (nI d)), (1, .ref a0), (0, .ref b)] 123 [] := by
        refine v_aload_n hC dL_law_123 rfl 9 rfl ?_
        refine v_bipush (v := nI 6) hC dL_law_124 (by decide) ?_
        refine v_fread (As := [.int (nI 6)]) hC hx0 hz2 Kz_ok (m_X8_books l (x1 := 6) t2 (by decide)) q_L_47 (by rw [t2.1]; decide) (ce_1 t2.1) (ci := 0) rfl hdV_X8_books rfl rfl (Nat.le_of_ble_eq_true rfl) (Nat.le_of_ble_eq_true rfl) (by show (60 + 60 * t + 48) + 0 ≤ 631684; omega) (by show (1100 + 200 * t + 192) + 0 ≤ 7206647; omega) (Nat.le_of_ble_eq_true rfl) dL_law_126 ?_
        rw [bk6]
        refine v_iload hC dL_law_129 2 rfl ?_
        have K146 : ∀ Fa1 : Ft, (∀ k, k < sz K1 G1 a0 4 → Fa1 a1 k = f_X7_marks K1 F1 G1 (eo G1 a0 4 k)) → (∀ k, sz K1 G1 a0 4 ≤ k → k < 48 → Fa1 a1 k = 0) → (∀ k, k < sz K2 G2 a0 4 → (F2 (eo G2 a0 4 k) 10).toInt ≤ (Fa1 a2 k).toInt) → (∀ k, k < 3 → Fa1 a3 k = if F1 (eo G1 a0 3 k) 6 = 0 then 0 else 1) → V X 13 p l e room_1 s m args below meth c Q (60 + 60 * t + 48) (1100 + 200 * t + 192) n2 (ky a1 a2 a3 K2 (Kz a3)) (ky a1 a2 a3 F2 Fa1) (ky a1 a2 a3 G2 Ga) [(10, .int (F1 (gp G1 a0 8) 0)), (9, .int (F1 (gp G1 a0 5) 0)), (8, .int (nI (sz K1 G1 a0 4))), (7, .int x), (6, .int (nI t)), (5, .ref a3), (4, .ref a2), (3, .ref a1), (2, .int (nI d)), (1, .ref a0), (0, .ref b)] 146 [] := by
          intro Fa1 g1 g2 g3 g4
          have K189 : ∀ (F3 : Ft) (d3 : Nat), IV (bb (t + 1)) K2 F3 G2 a0 → Mono K2 F2 G2 F3 G2 a0 → F3 a0 9 = nI d3 → d3 ≤ 110 * (t + 1) → V X 13 p l e room_1 s m args below meth c Q (60 + 60 * t + 48) (1100 + 200 * t + 192) n2 (ky a1 a2 a3 K2 (Kz a3)) (ky a1 a2 a3 F3 Fa1) (ky a1 a2 a3 G2 Ga) [(2, .int (nI d3)), (8, .int (nI (sz K1 G1 a0 4))), (7, .int x), (6, .int (nI t)), (5, .ref a3), (4, .ref a2), (3, .ref a1), (1, .ref a0), (0, .ref b)] 189 [] := by
            intro F3 d3 hv3 mo3 hd4 hd5
            have mo : Mono K1 F1 G1 F3 G2 a0 := Mono.v zz5 ee mo2 mo3
            refine v_aload_n hC dL_law_189 rfl 7 rfl ?_
            refine v_iconst (v := nI 0) hC dL_law_190 (by decide) ?_
            refine v_fread (As := [.int (nI 0)]) hC hx0 hz2 Kz_ok (m_X8_books l (x1 := 0) t2 (by decide)) q_L_47 (by rw [t2.1]; decide) (ce_1 t2.1) (ci := 0) rfl hdV_X8_books rfl rfl (Nat.le_of_ble_eq_true rfl) (Nat.le_of_ble_eq_true rfl) (by show (60 + 60 * t + 48) + 0 ≤ 631684; omega) (by show (1100 + 200 * t + 192) + 0 ≤ 7206647; omega) (Nat.le_of_ble_eq_true rfl) dL_law_191 ?_
            rw [bk0]
            refine v_iload_n hC dL_law_194 rfl 0 rfl ?_
            refine v_icmp_ne (tgt := 211) hC dL_law_195 (by decide) (fun q => absurd hd4 q) (fun _ => ?_)
            refine v_aload_n hC dL_law_198 rfl 7 rfl ?_
            refine v_bipush (v := nI 6) hC dL_law_199 (by decide) ?_
            refine v_fread (As := [.int (nI 6)]) hC hx0 hz2 Kz_ok (m_X8_books l (x1 := 6) t2 (by decide)) q_L_47 (by rw [t2.1]; decide) (ce_1 t2.1) (ci := 0) rfl hdV_X8_books rfl rfl (Nat.le_of_ble_eq_true rfl) (Nat.le_of_ble_eq_true rfl) (by show (60 + 60 * t + 48) + 0 ≤ 631684; omega) (by show (1100 + 200 * t + 192) + 0 ≤ 7206647; omega) (Nat.le_of_ble_eq_true rfl) dL_law_201 ?_
            rw [bk6]
            refine v_iload hC dL_law_204 1 rfl ?_
            refine v_iconst (v := nI 1) hC dL_law_206 (by decide) ?_
            refine v_iadd hC dL_law_207 ?_
            rw [nI_add]
            refine v_icmp_le (tgt := 213) hC dL_law_208 (by decide) (fun _ => ?_) (fun q => absurd ((nI_leI (by omega) (by omega)).mpr (by omega)) q)
            have K349 : ∀ Fa3 : Ft, LI (xw X (E3 a1 a2 a3)) a0 a1 a2 a3 (t + 1) d3 (bb (t + 1)) K2 F3 G2 Fa3 → V X 13 p l e room_1 s m args below meth c Q (60 + 60 * t + 48) (1100 + 200 * t + 192) n2 (ky a1 a2 a3 K2 (Kz a3)) (ky a1 a2 a3 F3 Fa3) (ky a1 a2 a3 G2 Ga) [(6, .int (nI t)), (5, .ref a3), (4, .ref a2), (3, .ref a1), (2, .int (nI d3)), (1, .ref a0), (0, .ref b)] 349 [] := by
              intro Fa3 li3
              refine v_aload_n hC dL_law_349 rfl 5 rfl ?_
              refine v_fcallS (c2 := (60 + 60 * t + 48 + 1)) (s2 := (1100 + 200 * t + 192 + 3)) (As := [.ref a0]) hC hx0 hz2 Kz_ok (m_L_isSo l li3.1 li3.2.1 li3.2.2.1.2.1 li3.2.2.1.2.2.1 li3.2.2.1.2.2.2) q_L_125 hdS_L_isSo rfl rfl (Nat.le_of_ble_eq_true rfl) (Nat.le_of_ble_eq_true rfl) (by show (60 + 60 * t + 48) + 1 ≤ 631684; omega) (by show (1100 + 200 * t + 192) + 3 ≤ 7206647; omega) (by omega) (by omega) (Nat.le_of_ble_eq_true rfl) dL_law_350 (fun o n4 K4 F4 G4 hP hz4 => ?_)
              obtain ⟨rfl, o4, hk4, hv4⟩ := hP
              refine v_if_ne (tgt := 358) hC dL_law_353 (by decide) (fun _ => ?_) (fun q => absurd q (by decide))
              refine v_iinc (lv' := [(6, .int (nI (t + 1))), (5, .ref a3), (4, .ref a2), (3, .ref a1), (2, .int (nI d3)), (1, .ref a0), (0, .ref b)]) (v := nI (t + 1)) hC dL_law_358 0 rfl (nI_inc t) (by decide) rfl ?_
              refine v_goto (tgt := 26) hC dL_law_361 (by decide) ?_
              exact v_widen (by omega) (by omega) (ih (t + 1) d3 n4 K4 F4 G4 Fa3 (by omega) (li3.old o4 hk4 hv4) hz4)
            have y3 : sz K2 G2 a0 3 = 3 := (zz 3 (by decide)).trans z3
            have K296 : ∀ (j2 k : Nat) (Fa3 : Ft), k + j2 = 3 → (∀ k, k < sz K2 G2 a0 4 → Fa3 a1 k = f_X7_marks K2 F3 G2 (eo G2 a0 4 k) ∧ Fa3 a2 k = F3 (eo G2 a0 4 k) 10) → (∀ k, sz K2 G2 a0 4 ≤ k → k < 48 → Fa3 a1 k = 0) → (∀ q, q < k → Fa3 a3 q = if F3 (eo G2 a0 3 q) 6 = 0 then 0 else 1) → (∀ q, k ≤ q → q < 3 → Fa3 a3 q = if F1 (eo G1 a0 3 q) 6 = 0 then 0 else 1) → V X 13 p l e room_1 s m args below meth c Q (60 + 60 * t + 48) (1100 + 200 * t + 192) n2 (ky a1 a2 a3 K2 (Kz a3)) (ky a1 a2 a3 F3 Fa3) (ky a1 a2 a3 G2 Ga) [(11, .int (nI k)), (6, .int (nI t)), (5, .ref a3), (4, .ref a2), (3, .ref a1), (2, .int (nI d3)), (1, .ref a0), (0, .ref b)] 296 [] := by
              intro j2
              induction j2 with
              | zero =>
                intro k Fa3 hj2 e1 e2 e3 e4
                refine v_iload hC dL_law_296 0 rfl ?_
                refine v_iconst (v := nI 3) hC dL_law_298 (by decide) ?_
                refine v_icmp_ge (tgt := 349) hC dL_law_299 (by decide) (fun _ => ?_) (fun q => absurd (lp_z hj2) q)
                refine v_sub [1, 2, 3, 4, 5, 6, 7] rfl ?_
                refine K349 Fa3 ⟨hk2, hv3, ⟨(zz 0 (by decide)).trans z0, (zz 1 (by decide)).trans z1, (zz 2 (by decide)).trans z2, y3⟩, y4, hd4, hd5, e1, e2, fun q hq => e3 q (by omega)⟩
              | succ j2 ih2 =>
                intro k Fa3 hj2 e1 e2 e3 e4
                refine v_iload hC dL_law_296 0 rfl ?_
                refine v_iconst (v := nI 3) hC dL_law_298 (by decide) ?_
                refine v_icmp_ge (tgt := 349) hC dL_law_299 (by decide) (fun q => absurd q (lp_s hj2 (by decide))) (fun _ => ?_)
                have hk3 : k < sz K2 G2 a0 3 := by omega
                have ek : Fa3 a3 k = if F1 (eo G1 a0 3 k) 6 = 0 then 0 else 1 := e4 k (Nat.le_refl _) (by omega)
                refine v_aload hC dL_law_302 2 rfl ?_
                refine v_iload hC dL_law_304 0 rfl ?_
                refine v_zald (N := 3) hC (ka3 K2) (vp_nI (by omega) (by decide)) dL_law_306 ?_
                rw [nI_clamp (by omega), fa3]
                have K322 : V X 13 p l e room_1 s m args below meth c Q (60 + 60 * t + 48) (1100 + 200 * t + 192) n2 (ky a1 a2 a3 K2 (Kz a3)) (ky a1 a2 a3 F3 Fa3) (ky a1 a2 a3 G2 Ga) [(11, .int (nI k)), (6, .int (nI t)), (5, .ref a3), (4, .ref a2), (3, .ref a1), (2, .int (nI d3)), (1, .ref a0), (0, .ref b)] 322 [] := by
                  refine v_aload hC dL_law_322 2 rfl ?_
                  refine v_iload hC dL_law_324 0 rfl ?_
                  refine v_aload_n hC dL_law_326 rfl 6 rfl ?_
                  refine v_iload hC dL_law_327 0 rfl ?_
                  refine v_iconst (v := nI 4) hC dL_law_329 (by decide) ?_
                  refine v_fread (As := [.int (nI k), .int (nI 4)]) hC hx0 hz2 Kz_ok (m_X8_ofPolicy l (x1 := k) (x2 := 4) t2 hk3 (by decide)) q_L_122 (by rw [t2.1]; decide) (ce_1 t2.1) (ci := 0) rfl hdV_X8_ofPolicy rfl rfl (Nat.le_of_ble_eq_true rfl) (Nat.le_of_ble_eq_true rfl) (by show (60 + 60 * t + 48) + 0 ≤ 631684; omega) (by show (1100 + 200 * t + 192) + 0 ≤ 7206647; omega) (Nat.le_of_ble_eq_true rfl) dL_law_330 ?_
                  rw [po4]
                  refine v_iconst (v := 1) hC dL_law_333 (by decide) ?_
                  have KW : ∀ z9 : Int32, z9 = (if F3 (eo G2 a0 3 k) 6 = 0 then 0 else 1) → V X 13 p l e room_1 s m args below meth c Q (60 + 60 * t + 48) (1100 + 200 * t + 192) n2 (ky a1 a2 a3 K2 (Kz a3)) (ky a1 a2 a3 F3 Fa3) (ky a1 a2 a3 G2 Ga) [(11, .int (nI k)), (6, .int (nI t)), (5, .ref a3), (4, .ref a2), (3, .ref a1), (2, .int (nI d3)), (1, .ref a0), (0, .ref b)] 342 [.int z9, .int (nI k), .ref a3] := by
                    intro z9 hz9
                    have hz01 : z9 = 0 ∨ z9 = 1 := by rw [hz9]; by_cases c : F3 (eo G2 a0 3 k) 6 = 0; (rw [if_pos c]; exact Or.inl rfl); (rw [if_neg c]; exact Or.inr rfl)
                    refine v_zast (N := 3) hC (ka3 K2) (vp_nI (by omega) (by decide)) dL_law_342 ?_
                    rw [nI_clamp (by omega), ky_up (Or.inr (Or.inr rfl)), show vp_nar .boolean z9 = z9 by rcases hz01 with rfl | rfl <;> rfl]
                    refine v_iinc (lv' := [(11, .int (nI (k + 1))), (6, .int (nI t)), (5, .ref a3), (4, .ref a2), (3, .ref a1), (2, .int (nI d3)), (1, .ref a0), (0, .ref b)]) (v := nI (k + 1)) hC dL_law_343 0 rfl (nI_inc k) (by decide) rfl ?_
                    refine v_goto (tgt := 296) hC dL_law_346 (by decide) ?_
                    refine ih2 (k + 1) (up2 Fa3 a3 k z9) (by omega) (fun q hq => ?_) (fun q hq hq2 => ?_) (fun q hq => ?_) (fun q hq hq2 => ?_)
                    · rw [up2_a _ _ n13, up2_a _ _ n23]; exact e1 q hq
                    · rw [up2_a _ _ n13]; exact e2 q hq hq2
                    · by_cases c : q = k
                      · rw [c, up2_eq]; exact hz9
                      · rw [up2_k _ _ c]; exact e3 q (by omega)
                    · rw [up2_k _ _ (by omega)]; exact e4 q (by omega) hq2
                  refine v_icmp_ne (tgt := 341) hC dL_law_334 (by decide) (fun c => ?_) (fun c => ?_)
                  · refine v_iconst (v := 0) hC dL_law_341 (by decide) ?_
                    refine KW 0 ?_
                    by_cases c2 : F3 (eo G2 a0 3 k) 6 = 0
                    · rw [if_pos c2]
                    · rw [if_neg c2] at c; exact absurd rfl c
                  · refine v_iconst (v := 1) hC dL_law_337 (by decide) ?_
                    refine v_goto (tgt := 342) hC dL_law_338 (by decide) ?_
                    exact KW 1 c.symm
                refine v_if_eq (tgt := 322) hC dL_law_307 (by decide) (fun _ => K322) (fun c1 => ?_)
                refine v_aload_n hC dL_law_310 rfl 6 rfl ?_
                refine v_iload hC dL_law_311 0 rfl ?_
                refine v_iconst (v := nI 4) hC dL_law_313 (by decide) ?_
                refine v_fread (As := [.int (nI k), .int (nI 4)]) hC hx0 hz2 Kz_ok (m_X8_ofPolicy l (x1 := k) (x2 := 4) t2 hk3 (by decide)) q_L_122 (by rw [t2.1]; decide) (ce_1 t2.1) (ci := 0) rfl hdV_X8_ofPolicy rfl rfl (Nat.le_of_ble_eq_true rfl) (Nat.le_of_ble_eq_true rfl) (by show (60 + 60 * t + 48) + 0 ≤ 631684; omega) (by show (1100 + 200 * t + 192) + 0 ≤ 7206647; omega) (Nat.le_of_ble_eq_true rfl) dL_law_314 ?_
                rw [po4]
                refine v_if_ne (tgt := 322) hC dL_law_317 (by decide) (fun _ => K322) (fun q => absurd q ?_)
                have p1 : F1 (eo G1 a0 3 k) 6 = 1 := by
                  by_cases c2 : F1 (eo G1 a0 3 k) 6 = 0
                  · rw [ek, if_pos c2] at c1; exact absurd rfl c1
                  · exact (hv.2.2.2.1 k (by rw [z3]; omega)).2.2.2.resolve_left c2
                have p2 := mo.2 k (by rw [z3]; omega) p1
                rw [← ee 3 k (by decide) (by rw [z3]; omega)] at p2
                rw [if_neg (by rw [p2]; decide)]; decide
            have K216 : ∀ (j2 k : Nat) (Fa3 : Ft), k + j2 = sz K2 G2 a0 4 → (∀ q, q < k → Fa3 a1 q = f_X7_marks K2 F3 G2 (eo G2 a0 4 q) ∧ Fa3 a2 q = F3 (eo G2 a0 4 q) 10) → (∀ q, k ≤ q → Fa3 a1 q = Fa1 a1 q ∧ Fa3 a2 q = Fa1 a2 q) → Fa3 a3 = Fa1 a3 → V X 13 p l e room_1 s m args below meth c Q (60 + 60 * t + 48) (1100 + 200 * t + 192) n2 (ky a1 a2 a3 K2 (Kz a3)) (ky a1 a2 a3 F3 Fa3) (ky a1 a2 a3 G2 Ga) [(11, .int (nI k)), (6, .int (nI t)), (5, .ref a3), (4, .ref a2), (3, .ref a1), (2, .int (nI d3)), (1, .ref a0), (0, .ref b)] 216 [] := by
              intro j2
              induction j2 with
              | zero =>
                intro k Fa3 hj2 e1 e2 e3
                refine v_iload hC dL_law_216 0 rfl ?_
                refine v_aload_n hC dL_law_218 rfl 6 rfl ?_
                refine v_bipush (v := nI 6) hC dL_law_219 (by decide) ?_
                refine v_fread (As := [.int (nI 6)]) hC hx0 hz2 Kz_ok (m_X8_books l (x1 := 6) t2 (by decide)) q_L_47 (by rw [t2.1]; decide) (ce_1 t2.1) (ci := 0) rfl hdV_X8_books rfl rfl (Nat.le_of_ble_eq_true rfl) (Nat.le_of_ble_eq_true rfl) (by show (60 + 60 * t + 48) + 0 ≤ 631684; omega) (by show (1100 + 200 * t + 192) + 0 ≤ 7206647; omega) (Nat.le_of_ble_eq_true rfl) dL_law_221 ?_
                rw [bk6]
                refine v_icmp_ge (tgt := 293) hC dL_law_224 (by decide) (fun _ => ?_) (fun q => absurd (lp_z hj2) q)
                refine v_iconst (v := nI 0) hC dL_law_293 (by decide) ?_
                refine v_istore (i := 11) (lv' := [(11, .int (nI 0)), (6, .int (nI t)), (5, .ref a3), (4, .ref a2), (3, .ref a1), (2, .int (nI d3)), (1, .ref a0), (0, .ref b)]) hC dL_law_294 (by decide) rfl ?_
                refine K296 3 0 Fa3 (by omega) (fun q hq => e1 q (by omega)) (fun q hq hq2 => ?_) (fun q hq => absurd hq (Nat.not_lt_zero q)) (fun q _ hq2 => ?_)
                · rw [(e2 q (by omega)).1]; exact g2 q (by have := zz5 4 (by decide); omega) hq2
                · rw [e3]; exact g4 q hq2
              | succ j2 ih2 =>
                intro k Fa3 hj2 e1 e2 e3
                refine v_iload hC dL_law_216 0 rfl ?_
                refine v_aload_n hC dL_law_218 rfl 6 rfl ?_
                refine v_bipush (v := nI 6) hC dL_law_219 (by decide) ?_
                refine v_fread (As := [.int (nI 6)]) hC hx0 hz2 Kz_ok (m_X8_books l (x1 := 6) t2 (by decide)) q_L_47 (by rw [t2.1]; decide) (ce_1 t2.1) (ci := 0) rfl hdV_X8_books rfl rfl (Nat.le_of_ble_eq_true rfl) (Nat.le_of_ble_eq_true rfl) (by show (60 + 60 * t + 48) + 0 ≤ 631684; omega) (by show (1100 + 200 * t + 192) + 0 ≤ 7206647; omega) (Nat.le_of_ble_eq_true rfl) dL_law_221 ?_
                rw [bk6]
                refine v_icmp_ge (tgt := 293) hC dL_law_224 (by decide) (fun q => absurd q (lp_s hj2 (by omega))) (fun _ => ?_)
                have hk4 : k < sz K2 G2 a0 4 := by omega
                have hk48 : k < 48 := by omega
                refine v_aload_n hC dL_law_227 rfl 6 rfl ?_
                refine v_iload hC dL_law_228 0 rfl ?_
                refine v_bipush (v := nI 11) hC dL_law_230 (by decide) ?_
                refine v_fread (As := [.int (nI k), .int (nI 11)]) hC hx0 hz2 Kz_ok (m_X8_ofShipment l (x1 := k) (x2 := 11) t2 hk4 (by decide)) q_L_116 (by rw [t2.1]; decide) (ce_1 t2.1) (ci := 0) rfl hdV_X8_ofShipment rfl rfl (Nat.le_of_ble_eq_true rfl) (Nat.le_of_ble_eq_true rfl) (by show (60 + 60 * t + 48) + 0 ≤ 631684; omega) (by show (1100 + 200 * t + 192) + 0 ≤ 7206647; omega) (Nat.le_of_ble_eq_true rfl) dL_law_232 ?_
                rw [sh11]
                refine v_istore (i := 12) (lv' := [(12, .int (f_X7_marks K2 F3 G2 (eo G2 a0 4 k))), (11, .int (nI k)), (6, .int (nI t)), (5, .ref a3), (4, .ref a2), (3, .ref a1), (2, .int (nI d3)), (1, .ref a0), (0, .ref b)]) hC dL_law_235 (by decide) rfl ?_
                refine v_aload_n hC dL_law_237 rfl 5 rfl ?_
                refine v_iload hC dL_law_238 1 rfl ?_
                refine v_iald (N := 48) hC (ka1 K2) (vp_nI hk48 (by decide)) dL_law_240 ?_
                rw [nI_clamp (by omega), fa1, (e2 k (Nat.le_refl _)).1]
                refine v_iload hC dL_law_241 0 rfl ?_
                refine v_iconst (v := (-1)) hC dL_law_243 (by decide) ?_
                refine v_ixor hC dL_law_244 ?_
                refine v_iand hC dL_law_245 ?_
                refine v_bipush (v := 61) hC dL_law_246 (by decide) ?_
                refine v_iand hC dL_law_248 ?_
                have hmk : Fa1 a1 k &&& (f_X7_marks K2 F3 G2 (eo G2 a0 4 k) ^^^ -1) &&& 61 = 0 := by
                  by_cases c : k < sz K1 G1 a0 4
                  · rw [g1 k c, ee 4 k (by decide) c]
                    have vs := (hv.2.2.2.2.1 k c).2.2.1
                    obtain ⟨-, m11, m13, m5, m14, m15⟩ := mo.1 k c
                    exact marks_le vs.2.1 vs.2.2.2.1 m11 m13 m5 m14 m15
                  · rw [g2 k (by omega) hk48, Int32.zero_and, Int32.zero_and]
                refine v_if_ne (tgt := 267) hC dL_law_249 (by decide) (fun q => absurd hmk q) (fun _ => ?_)
                refine v_aload_n hC dL_law_252 rfl 7 rfl ?_
                refine v_iload hC dL_law_253 1 rfl ?_
                refine v_iconst (v := nI 5) hC dL_law_255 (by decide) ?_
                refine v_fread (As := [.int (nI k), .int (nI 5)]) hC hx0 hz2 Kz_ok (m_X8_ofShipment l (x1 := k) (x2 := 5) t2 hk4 (by decide)) q_L_116 (by rw [t2.1]; decide) (ce_1 t2.1) (ci := 0) rfl hdV_X8_ofShipment rfl rfl (Nat.le_of_ble_eq_true rfl) (Nat.le_of_ble_eq_true rfl) (by show (60 + 60 * t + 48) + 0 ≤ 631684; omega) (by show (1100 + 200 * t + 192) + 0 ≤ 7206647; omega) (Nat.le_of_ble_eq_true rfl) dL_law_256 ?_
                rw [sh5]
                refine v_aload hC dL_law_259 4 rfl ?_
                refine v_iload hC dL_law_261 1 rfl ?_
                refine v_iald (N := 48) hC (ka2 K2) (vp_nI hk48 (by decide)) dL_law_263 ?_
                rw [nI_clamp (by omega), fa2, (e2 k (Nat.le_refl _)).2]
                have hle : (F3 (eo G2 a0 4 k) 10).toInt ≤ (Fa1 a2 k).toInt := Int.le_trans (mo3.1 k hk4).1 (g3 k hk4)
                refine v_icmp_le (tgt := 269) hC dL_law_264 (by decide) (fun _ => ?_) (fun q => absurd (by rw [Int32.le_iff_toInt_le]; exact hle) q)
                refine v_aload_n hC dL_law_269 rfl 5 rfl ?_
                refine v_iload hC dL_law_270 1 rfl ?_
                refine v_iload hC dL_law_272 0 rfl ?_
                refine v_iast (N := 48) hC (ka1 K2) (vp_nI hk48 (by decide)) dL_law_274 ?_
                rw [nI_clamp (by omega), ky_up (Or.inl rfl)]
                refine v_aload hC dL_law_275 4 rfl ?_
                refine v_iload hC dL_law_277 1 rfl ?_
                refine v_aload_n hC dL_law_279 rfl 7 rfl ?_
                refine v_iload hC dL_law_280 1 rfl ?_
                refine v_iconst (v := nI 5) hC dL_law_282 (by decide) ?_
                refine v_fread (As := [.int (nI k), .int (nI 5)]) hC hx0 hz2 Kz_ok (m_X8_ofShipment l (x1 := k) (x2 := 5) t2 hk4 (by decide)) q_L_116 (by rw [t2.1]; decide) (ce_1 t2.1) (ci := 0) rfl hdV_X8_ofShipment rfl rfl (Nat.le_of_ble_eq_true rfl) (Nat.le_of_ble_eq_true rfl) (by show (60 + 60 * t + 48) + 0 ≤ 631684; omega) (by show (1100 + 200 * t + 192) + 0 ≤ 7206647; omega) (Nat.le_of_ble_eq_true rfl) dL_law_283 ?_
                rw [sh5]
                refine v_iast (N := 48) hC (ka2 K2) (vp_nI hk48 (by decide)) dL_law_286 ?_
                rw [nI_clamp (by omega), ky_up (Or.inr (Or.inl rfl))]
                refine v_iinc (lv' := [(11, .int (nI (k + 1))), (12, .int (f_X7_marks K2 F3 G2 (eo G2 a0 4 k))), (6, .int (nI t)), (5, .ref a3), (4, .ref a2), (3, .ref a1), (2, .int (nI d3)), (1, .ref a0), (0, .ref b)]) (v := nI (k + 1)) hC dL_law_287 1 rfl (nI_inc k) (by decide) rfl ?_
                refine v_goto (tgt := 216) hC dL_law_290 (by decide) ?_
                refine v_sub [0, 2, 3, 4, 5, 6, 7, 8] rfl ?_
                refine ih2 (k + 1) _ (by omega) (fun q hq => ?_) (fun q hq => ?_) ?_
                · by_cases cq : q = k
                  · rw [cq, up2_eq, up2_a _ _ n12, up2_eq]; exact ⟨rfl, rfl⟩
                  · rw [up2_k _ _ cq, up2_a _ _ n12, up2_k _ _ cq, up2_a _ _ (Ne.symm n12)]; exact e1 q (by omega)
                · rw [up2_k _ _ (by omega), up2_a _ _ n12, up2_k _ _ (by omega), up2_a _ _ (Ne.symm n12)]; exact e2 q (by omega)
                · rw [up2_a _ _ (Ne.symm n23), up2_a _ _ (Ne.symm n13)]; exact e3
            refine v_iconst (v := nI 0) hC dL_law_213 (by decide) ?_
            refine v_istore (i := 11) (lv' := [(11, .int (nI 0)), (2, .int (nI d3)), (8, .int (nI (sz K1 G1 a0 4))), (7, .int x), (6, .int (nI t)), (5, .ref a3), (4, .ref a2), (3, .ref a1), (1, .ref a0), (0, .ref b)]) hC dL_law_214 (by decide) rfl ?_
            refine v_sub [0, 4, 5, 6, 7, 1, 8, 9] rfl ?_
            exact K216 (sz K2 G2 a0 4) 0 Fa1 (by omega) (fun q hq => absurd hq (Nat.not_lt_zero q)) (fun q _ => ⟨rfl, rfl⟩) rfl
          refine v_iload hC dL_law_146 3 rfl ?_
          refine v_iconst (v := 4) hC dL_law_148 (by decide) ?_
          refine v_ishr hC dL_law_149 ?_
          refine v_iconst (v := 3) hC dL_law_150 (by decide) ?_
          refine v_bel (k := 3) hC rfl (by decide) (Nat.le_of_ble_eq_true rfl) (Nat.le_of_ble_eq_true rfl) (by show (60 + 60 * t + 48) + 0 ≤ 631684; omega) (by show (1100 + 200 * t + 192) + 0 ≤ 7206647; omega) (Nat.le_of_ble_eq_true rfl) dL_law_151 (fun i1 hi1 => ?_)
          have e9 : F2 a0 9 = nI d := by rw [hd3]; exact hd
          refine v_if_ne (tgt := 189) hC dL_law_154 (by decide) (fun _ => ?_) (fun _ => ?_)
          · refine v_sub [8, 2, 3, 4, 5, 6, 7, 9, 10] rfl ?_
            exact K189 F2 d (hv2.mono (by omega)) Mono.rf e9 (by omega)
          refine v_iload_n hC dL_law_157 rfl 8 rfl ?_
          refine v_iconst (v := nI 1) hC dL_law_158 (by decide) ?_
          refine v_iload hC dL_law_159 3 rfl ?_
          refine v_bipush (v := 10) hC dL_law_161 (by decide) ?_
          refine v_ishr hC dL_law_163 ?_
          refine v_bipush (v := 110) hC dL_law_164 (by decide) ?_
          refine v_bel (k := 110) hC rfl (by decide) (Nat.le_of_ble_eq_true rfl) (Nat.le_of_ble_eq_true rfl) (by show (60 + 60 * t + 48) + 0 ≤ 631684; omega) (by show (1100 + 200 * t + 192) + 0 ≤ 7206647; omega) (Nat.le_of_ble_eq_true rfl) dL_law_166 (fun i2 hi2 => ?_)
          refine v_iadd hC dL_law_169 ?_
          refine v_iadd hC dL_law_170 ?_
          rw [nI_add, nI_add]
          generalize hd6 : d + (1 + i2) = d6
          refine v_istore_n (i := 2) (lv' := [(2, .int (nI d6)), (10, .int (F1 (gp G1 a0 8) 0)), (9, .int (F1 (gp G1 a0 5) 0)), (8, .int (nI (sz K1 G1 a0 4))), (7, .int x), (6, .int (nI t)), (5, .ref a3), (4, .ref a2), (3, .ref a1), (1, .ref a0), (0, .ref b)]) hC dL_law_171 rfl (by decide) rfl ?_
          refine v_aload_n hC dL_law_172 rfl 9 rfl ?_
          refine v_iload_n hC dL_law_173 rfl 0 rfl ?_
          refine v_aload_n hC dL_law_174 rfl 9 rfl ?_
          refine v_iconst (v := nI 0) hC dL_law_175 (by decide) ?_
          refine v_fread (As := [.int (nI 0)]) hC hx0 hz2 Kz_ok (m_X8_books l (x1 := 0) t2 (by decide)) q_L_47 (by rw [t2.1]; decide) (ce_1 t2.1) (ci := 0) rfl hdV_X8_books rfl rfl (Nat.le_of_ble_eq_true rfl) (Nat.le_of_ble_eq_true rfl) (by show (60 + 60 * t + 48) + 0 ≤ 631684; omega) (by show (1100 + 200 * t + 192) + 0 ≤ 7206647; omega) (Nat.le_of_ble_eq_true rfl) dL_law_176 ?_
          rw [bk0]
          refine v_isub hC dL_law_179 ?_
          have esub : nI d6 - F2 a0 9 = nI (1 + i2) := by
            rw [e9]
            refine Int32.toInt_inj.mp ?_
            rw [fb_subI (by rw [nI_toInt (by omega), nI_toInt (by omega)]; omega) (by rw [nI_toInt (by omega), nI_toInt (by omega)]; omega), nI_toInt (by omega), nI_toInt (by omega), nI_toInt (by omega)]
            omega
          rw [esub]
          have hs72 : ¬ 7200 < F2 a0 9 + nI (1 + i2) := by
            rw [e9, nI_add, Int32.lt_iff_toInt_lt, show (7200 : Int32).toInt = 7200 from rfl, nI_toInt (by omega)]
            omega
          refine v_fcallV (c2 := (60 + 60 * t + 48)) (s2 := (1100 + 200 * t + 192)) (As := [.int (nI (1 + i2))]) hC hx0 hz2 Kz_ok (Mw.mr (m_X8_pass l (x1 := 1 + i2) t2 (by omega) (by omega) hs72)) q_L_119 (by rw [t2.1]; decide) (ce_1 t2.1) (ci := 0) rfl hdV_X8_pass rfl rfl (Nat.le_of_ble_eq_true rfl) (Nat.le_of_ble_eq_true rfl) (by show (60 + 60 * t + 48) + 0 ≤ 631684; omega) (by show (1100 + 200 * t + 192) + 0 ≤ 7206647; omega) (by omega) (by omega) (Nat.le_of_ble_eq_true rfl) dL_law_180 (fun o n9 K9 F9 G9 hP _ => ?_)
          obtain ⟨rfl, q2, q3, q4, q5⟩ := hP
          rw [q2, q3, q4, q5]
          have hs0 : (0 : Int) ≤ (sz K2 G2 a0 4 : Int) := Int.natCast_nonneg _
          have hb1 : 30000 * (sz K2 G2 a0 4 : Int) * ((1 + i2 : Nat) : Int) ≤ 3300000 * ((t : Int) + 1) := by
            have m1 : 30000 * (sz K2 G2 a0 4 : Int) * ((1 + i2 : Nat) : Int) ≤ 30000 * (sz K2 G2 a0 4 : Int) * 110 := Int.mul_le_mul_of_nonneg_left (by omega) (by omega)
            omega
          have ep : f_X8_pass K2 F2 G2 a0 (1 + i2) = f_X8_pass_L33 K2 G2 a0 (1 + i2) 0 F2 := rfl
          obtain ⟨u1, u2, u3, u4⟩ := pass_L hk2 (1 + i2) 0 F2 (bb t + 720000) (by omega) (by omega) (by rw [e9, nI_toInt (by omega)]; omega) hv2
          rw [← ep] at u1 u2 u3 u4
          have e6 : (f_X8_pass K2 F2 G2 a0 (1 + i2)).1 a0 9 = nI d6 := by
            refine Int32.toInt_inj.mp ?_
            rw [u3, e9, nI_toInt (by omega), nI_toInt (by omega)]
            omega
          refine v_iload_n hC dL_law_183 rfl 0 rfl ?_
          refine v_icmp_eq (tgt := 189) hC dL_law_184 (by decide) (fun _ => ?_) (fun q => absurd (u4.trans e6) q)
          refine v_sub [0, 3, 4, 5, 6, 7, 8, 9, 10] rfl ?_
          exact K189 _ d6 (u1.mono (by omega)) u2 e6 (by omega)
        refine v_icmp_le (tgt := 146) hC dL_law_131 (by decide) (fun c => ?_) (fun c => ?_)
        · have es : sz K2 G2 a0 4 = sz K1 G1 a0 4 := by
            have := (nI_leI (by omega) (by omega)).mp c
            have := zz5 4 (by decide)
            omega
          refine K146 Fa (fun k hk9 => (hm k hk9).1) hm0 (fun k hk9 => ?_) hen
          rw [es] at hk9
          rw [(hm k hk9).2, ee 4 k (by decide) hk9]
          exact (mo2.1 k hk9).1
        have es : sz K2 G2 a0 4 = sz K1 G1 a0 4 + 1 := by
          rcases zz4 with q | q
          · exact absurd ((nI_leI (by omega) (by omega)).mpr (by omega)) c
          · exact q
        have hk4 : sz K1 G1 a0 4 < sz K2 G2 a0 4 := by omega
        have hk48 : sz K1 G1 a0 4 < 48 := by omega
        refine v_aload hC dL_law_134 6 rfl ?_
        refine v_iload hC dL_law_136 2 rfl ?_
        refine v_aload_n hC dL_law_138 rfl 9 rfl ?_
        refine v_iload hC dL_law_139 2 rfl ?_
        refine v_iconst (v := nI 5) hC dL_law_141 (by decide) ?_
        refine v_fread (As := [.int (nI (sz K1 G1 a0 4)), .int (nI 5)]) hC hx0 hz2 Kz_ok (m_X8_ofShipment l (x1 := sz K1 G1 a0 4) (x2 := 5) t2 hk4 (by decide)) q_L_116 (by rw [t2.1]; decide) (ce_1 t2.1) (ci := 0) rfl hdV_X8_ofShipment rfl rfl (Nat.le_of_ble_eq_true rfl) (Nat.le_of_ble_eq_true rfl) (by show (60 + 60 * t + 48) + 0 ≤ 631684; omega) (by show (1100 + 200 * t + 192) + 0 ≤ 7206647; omega) (Nat.le_of_ble_eq_true rfl) dL_law_142 ?_
        rw [sh5]
        refine v_iast (N := 48) hC (ka2 K2) (vp_nI hk48 (by decide)) dL_law_145 ?_
        rw [nI_clamp (by omega), ky_up (Or.inr (Or.inl rfl))]
        refine K146 _ (fun k hk9 => by rw [up2_a _ _ n12]; exact (hm k hk9).1) (fun k hk9 hk10 => by rw [up2_a _ _ n12]; exact hm0 k hk9 hk10) (fun k hk9 => ?_) (fun k hk9 => by rw [up2_a _ _ (Ne.symm n23)]; exact hen k hk9)
        by_cases ck : k = sz K1 G1 a0 4
        · rw [ck, up2_eq]; exact Int.le_refl _
        · have hk9 : k < sz K1 G1 a0 4 := by omega
          rw [up2_k _ _ ck, (hm k hk9).2, ee 4 k (by decide) hk9]
          exact (mo2.1 k hk9).1
      refine v_if_ne (tgt := 123) hC dL_law_85 (by decide) (fun _ => K123) (fun c0 => ?_)
      have hr1 : r = 0 := c0
      obtain ⟨e1, e2, e3⟩ := hr0 hr1
      refine v_aload_n hC dL_law_88 rfl 9 rfl ?_
      refine v_bipush (v := nI 7) hC dL_law_89 (by decide) ?_
      refine v_fread (As := [.int (nI 7)]) hC hx0 hz2 Kz_ok (m_X8_books l (x1 := 7) t2 (by decide)) q_L_47 (by rw [t2.1]; decide) (ce_1 t2.1) (ci := 0) rfl hdV_X8_books rfl rfl (Nat.le_of_ble_eq_true rfl) (Nat.le_of_ble_eq_true rfl) (by show (60 + 60 * t + 48) + 0 ≤ 631684; omega) (by show (1100 + 200 * t + 192) + 0 ≤ 7206647; omega) (Nat.le_of_ble_eq_true rfl) dL_law_91 ?_
      rw [bk7]
      refine v_iload hC dL_law_94 1 rfl ?_
      refine v_icmp_ne (tgt := 121) hC dL_law_96 (by decide) (fun q => absurd (by rw [e2, e3]) q) (fun _ => ?_)
      refine v_aload_n hC dL_law_99 rfl 9 rfl ?_
      refine v_bipush (v := nI 10) hC dL_law_100 (by decide) ?_
      refine v_fread (As := [.int (nI 10)]) hC hx0 hz2 Kz_ok (m_X8_books l (x1 := 10) t2 (by decide)) q_L_47 (by rw [t2.1]; decide) (ce_1 t2.1) (ci := 0) rfl hdV_X8_books rfl rfl (Nat.le_of_ble_eq_true rfl) (Nat.le_of_ble_eq_true rfl) (by show (60 + 60 * t + 48) + 0 ≤ 631684; omega) (by show (1100 + 200 * t + 192) + 0 ≤ 7206647; omega) (Nat.le_of_ble_eq_true rfl) dL_law_102 ?_
      rw [bk10]
      refine v_iload hC dL_law_105 0 rfl ?_
      refine v_icmp_ne (tgt := 121) hC dL_law_107 (by decide) (fun q => absurd (by rw [e2, e3]) q) (fun _ => ?_)
      refine v_aload_n hC dL_law_110 rfl 9 rfl ?_
      refine v_bipush (v := nI 6) hC dL_law_111 (by decide) ?_
      refine v_fread (As := [.int (nI 6)]) hC hx0 hz2 Kz_ok (m_X8_books l (x1 := 6) t2 (by decide)) q_L_47 (by rw [t2.1]; decide) (ce_1 t2.1) (ci := 0) rfl hdV_X8_books rfl rfl (Nat.le_of_ble_eq_true rfl) (Nat.le_of_ble_eq_true rfl) (by show (60 + 60 * t + 48) + 0 ≤ 631684; omega) (by show (1100 + 200 * t + 192) + 0 ≤ 7206647; omega) (Nat.le_of_ble_eq_true rfl) dL_law_113 ?_
      rw [bk6]
      refine v_iload hC dL_law_116 2 rfl ?_
      refine v_icmp_eq (tgt := 123) hC dL_law_118 (by decide) (fun _ => K123) (fun q => absurd (by rw [e1, e3]) q)
  refine v_iconst (v := nI 0) hC dL_law_23 (by decide) ?_
  refine v_istore (i := 6) (lv' := [(6, .int (nI 0)), (5, .ref a3), (4, .ref a2), (3, .ref a1), (2, .int 0), (1, .ref a0), (0, .ref b)]) hC dL_law_24 (by decide) rfl ?_
  refine v_sub [0, 1, 2, 3, 4, 5, 6] rfl ?_
  exact v_widen (by omega) (by omega) (KL 30 0 0 _ K1 F1 G1 _ (by omega) li0 hz1)
end PNZ
