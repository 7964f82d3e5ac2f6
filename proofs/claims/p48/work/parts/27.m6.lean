section PM6
variable {X : Xt}
theorem hdS_Jx4a65c_grow_92f84 : yJx4a65c_grow_92f84.cls ≠ "java/lang/invoke/MethodHandle" ∧ yJx4a65c_grow_92f84.cls ≠ "java/lang/invoke/VarHandle" ∧ (parseMethodDescriptor yJx4a65c_grow_92f84.desc).map (fun d => d.parameters.length) = some 1 := by decide +kernel
theorem hdV_Jx4a65c_grow_92f84 : yJx4a65c_grow_92f84.cls = RJx4a65c ∧ yJx4a65c_grow_92f84.cls ≠ "java/lang/invoke/MethodHandle" ∧ yJx4a65c_grow_92f84.cls ≠ "java/lang/invoke/VarHandle" ∧ (parseMethodDescriptor yJx4a65c_grow_92f84.desc).map (fun d => d.parameters.length) = some 1 := by decide +kernel
theorem hdS_Jx4a65c_grow_d5877 : yJx4a65c_grow_d5877.cls ≠ "java/lang/invoke/MethodHandle" ∧ yJx4a65c_grow_d5877.cls ≠ "java/lang/invoke/VarHandle" ∧ (parseMethodDescriptor yJx4a65c_grow_d5877.desc).map (fun d => d.parameters.length) = some 0 := by decide +kernel
theorem hdV_Jx4a65c_grow_d5877 : yJx4a65c_grow_d5877.cls = RJx4a65c ∧ yJx4a65c_grow_d5877.cls ≠ "java/lang/invoke/MethodHandle" ∧ yJx4a65c_grow_d5877.cls ≠ "java/lang/invoke/VarHandle" ∧ (parseMethodDescriptor yJx4a65c_grow_d5877.desc).map (fun d => d.parameters.length) = some 0 := by decide +kernel
theorem hdS_Jx4a65c_add_72be8 : yJx4a65c_add_72be8.cls ≠ "java/lang/invoke/MethodHandle" ∧ yJx4a65c_add_72be8.cls ≠ "java/lang/invoke/VarHandle" ∧ (parseMethodDescriptor yJx4a65c_add_72be8.desc).map (fun d => d.parameters.length) = some 3 := by decide +kernel
theorem hdV_Jx4a65c_add_72be8 : yJx4a65c_add_72be8.cls = RJx4a65c ∧ yJx4a65c_add_72be8.cls ≠ "java/lang/invoke/MethodHandle" ∧ yJx4a65c_add_72be8.cls ≠ "java/lang/invoke/VarHandle" ∧ (parseMethodDescriptor yJx4a65c_add_72be8.desc).map (fun d => d.parameters.length) = some 3 := by decide +kernel
theorem hdS_Jx4a65c_add_9ea2d : yJx4a65c_add_9ea2d.cls ≠ "java/lang/invoke/MethodHandle" ∧ yJx4a65c_add_9ea2d.cls ≠ "java/lang/invoke/VarHandle" ∧ (parseMethodDescriptor yJx4a65c_add_9ea2d.desc).map (fun d => d.parameters.length) = some 1 := by decide +kernel
theorem hdV_Jx4a65c_add_9ea2d : yJx4a65c_add_9ea2d.cls = RJx4a65c ∧ yJx4a65c_add_9ea2d.cls ≠ "java/lang/invoke/MethodHandle" ∧ yJx4a65c_add_9ea2d.cls ≠ "java/lang/invoke/VarHandle" ∧ (parseMethodDescriptor yJx4a65c_add_9ea2d.desc).map (fun d => d.parameters.length) = some 1 := by decide +kernel
theorem hdS_J7_copyOf_1904c : yJ7_copyOf_1904c.cls ≠ "java/lang/invoke/MethodHandle" ∧ yJ7_copyOf_1904c.cls ≠ "java/lang/invoke/VarHandle" ∧ (parseMethodDescriptor yJ7_copyOf_1904c.desc).map (fun d => d.parameters.length) = some 2 := by decide +kernel
theorem hdV_J7_copyOf_1904c : yJ7_copyOf_1904c.cls = RJ7 ∧ yJ7_copyOf_1904c.cls ≠ "java/lang/invoke/MethodHandle" ∧ yJ7_copyOf_1904c.cls ≠ "java/lang/invoke/VarHandle" ∧ (parseMethodDescriptor yJ7_copyOf_1904c.desc).map (fun d => d.parameters.length) = some 2 := by decide +kernel
theorem hdS_J7_copyOf_6403c : yJ7_copyOf_6403c.cls ≠ "java/lang/invoke/MethodHandle" ∧ yJ7_copyOf_6403c.cls ≠ "java/lang/invoke/VarHandle" ∧ (parseMethodDescriptor yJ7_copyOf_6403c.desc).map (fun d => d.parameters.length) = some 3 := by decide +kernel
theorem hdV_J7_copyOf_6403c : yJ7_copyOf_6403c.cls = RJ7 ∧ yJ7_copyOf_6403c.cls ≠ "java/lang/invoke/MethodHandle" ∧ yJ7_copyOf_6403c.cls ≠ "java/lang/invoke/VarHandle" ∧ (parseMethodDescriptor yJ7_copyOf_6403c.desc).map (fun d => d.parameters.length) = some 3 := by decide +kernel
def cpyO (G : Gt) (arr c : Nat) : Nat → Option Nat := va_cpy (G arr) (fun _ => none) 0 0 c
theorem cpyO_0 (G : Gt) (arr : Nat) : cpyO G arr 0 = fun _ => none := by
  funext k
  simp [cpyO, va_cpy]
theorem cpyO_lt {G : Gt} {arr c i : Nat} (h : i < c) : cpyO G arr c i = G arr i := by
  simp [cpyO, va_cpy, h]
def nextCap (c : Nat) : Nat := if c = 0 then 10 else c + c / 2
theorem cap_next {c : Nat} (h : capOK c) (h1 : c ≤ 47) : capOK (nextCap c) ∧ c + 1 ≤ nextCap c ∧ nextCap c ≤ 49 := by
  unfold capOK at h
  rcases h with rfl | rfl | rfl | rfl | rfl | rfl
  · exact ⟨by simp [capOK, nextCap], by decide, by decide⟩
  · exact ⟨by simp [capOK, nextCap], by decide, by decide⟩
  · exact ⟨by simp [capOK, nextCap], by decide, by decide⟩
  · exact ⟨by simp [capOK, nextCap], by decide, by decide⟩
  · exact ⟨by simp [capOK, nextCap], by decide, by decide⟩
  · omega
theorem nl_eq {K : Kt} {F : Ft} {G : Gt} {c : Nat} {x y z : Int32} (h : capOK c) (h0 : ¬ c = 0) (h1 : c ≤ 47) (hx : x = nI c) (hy : y = nI (c + 1) - nI c) (hz : z = nI c >>> ((1 : Int32) &&& (31 : Int32))) : (¬ x + (if y < z then z else y) ≤ 0) ∧ (¬ 2147483639 < x + (if y < z then z else y)) ∧ f_J8_newLength_cabcc K F G x y z = nI (nextCap c) := by
  subst hx hy hz
  unfold capOK at h
  rcases h with rfl | rfl | rfl | rfl | rfl | rfl
  · exact absurd rfl h0
  · exact ⟨by decide, by decide, by unfold f_J8_newLength_cabcc; decide⟩
  · exact ⟨by decide, by decide, by unfold f_J8_newLength_cabcc; decide⟩
  · exact ⟨by decide, by decide, by unfold f_J8_newLength_cabcc; decide⟩
  · exact ⟨by decide, by decide, by unfold f_J8_newLength_cabcc; decide⟩
  · omega
/-- all that lies in the array is of one class -/
def EL (X : Xt) (K : Kt) (F : Ft) (G : Gt) (ci arr N : Nat) : Prop := ∀ i, i < N → ∀ y, G arr i = some y → (K y).1 ≠ 0 ∧ (K y).1 ≠ 10 ∧ ∃ fs, ce X K F G y = .inr (ci, fs)
theorem m_J7_copyOf_6403c (l : Launch) {n : Nat} {K : Kt} {F : Ft} {G : Gt} {arr c c2 ci : Nat} {r : vw_C} (ha : K arr = (21, c)) (h0 : 0 < c) (hcc : c ≤ c2) (hc2 : c2 ≤ 49) (hc : cls[ci]? = some r) (hca : Cond.castable r.1 "java/lang/Object" ∈ Nwl) (hel : EL X K F G ci arr c) : Mw X l yJ7_copyOf_6403c cJ7_copyOf_6403c 4 (some (.array (.object "java/lang/Object"))) 1 38 1 49 [.ref arr, .int (nI c2), .ref (xmi X)] n K F G (some (.ref n)) (n + 1) (va_up K n (21, c2)) F (va_up G n (cpyO G arr c)) := by
  refine Mw.of (lv := [(0, .ref arr), (1, .int (nI c2)), (2, .ref (xmi X))]) (by decide) (Nat.le_of_ble_eq_true rfl) rfl ?_
  intro p e s m args below meth c' Q hC hin hQ
  have hC : Cx X p s m args meth c' RJ7 cJ7_copyOf_6403c 4 (some (.array (.object "java/lang/Object"))) := hC
  have hb2 : c2 < 2147483648 := by omega
  have hb : c < 2147483648 := by omega
  refine v_fresh (fun hfr => ?_)
  have har : arr ≠ n := kne hfr (by rw [ha]; exact (by decide : (21 : Nat) ≠ 0))
  refine v_aload_n hC dJ7_copyOf_6403c_0 rfl 2 rfl ?_
  refine v_ldcM hC al_c110 dJ7_copyOf_6403c_1 ?_
  refine v_acmp_ne (tgt := 13) hC dJ7_copyOf_6403c_3 (by decide) (fun q => absurd rfl q) (fun _ => ?_)
  refine v_iload_n hC dJ7_copyOf_6403c_6 rfl 1 rfl ?_
  refine v_anewO (N := c2) (K' := va_up K n (21, c2)) (F' := F) (G' := va_up G n (fun _ => none)) hC al_c2 (nI_pos hb2) (nI_clamp hb2) (by omega) (by show 0 + 1 ≤ 1; omega) (by show 0 + c2 ≤ 49; omega) (fun x hx => ⟨va_up_ne _ _ hx, rfl, va_up_ne _ _ hx⟩) ((ce_21 (by simp [va_up])).trans (by simp [va_up])) dJ7_copyOf_6403c_7 ?_
  refine v_goto (tgt := 24) hC dJ7_copyOf_6403c_10 (by decide) ?_
  refine v_astore_n (i := 3) (lv' := [(3, .ref n), (0, .ref arr), (1, .int (nI c2)), (2, .ref (xmi X))]) hC dJ7_copyOf_6403c_24 rfl (by decide) rfl ?_
  refine v_aload_n hC dJ7_copyOf_6403c_25 rfl 1 rfl ?_
  refine v_iconst (v := 0) hC dJ7_copyOf_6403c_26 (by decide) ?_
  refine v_aload_n hC dJ7_copyOf_6403c_27 rfl 0 rfl ?_
  refine v_iconst (v := 0) hC dJ7_copyOf_6403c_28 (by decide) ?_
  refine v_aload_n hC dJ7_copyOf_6403c_29 rfl 1 rfl ?_
  refine v_alen_21 (N := c) hC ((va_up_ne _ _ har).trans ha) dJ7_copyOf_6403c_30 ?_
  refine v_iload_n hC dJ7_copyOf_6403c_31 rfl 2 rfl ?_
  refine v_mmin hC aw_580 (Nat.le_of_ble_eq_true rfl) (Nat.le_of_ble_eq_true rfl) (Nat.le_of_ble_eq_true rfl) (by show 0 + c2 ≤ 49; omega) (Nat.le_of_ble_eq_true rfl) dJ7_copyOf_6403c_32 ?_
  rw [if_neg (nI_nlt hcc hb2)]
  refine v_acopyO (N0 := c) (N1 := c2) (ci := ci) (r := r) hC al_ac3 ((va_up_ne _ _ har).trans ha) (by simp [va_up]) (by omega) (by omega) (nI_pos hb) (by rw [nI_clamp hb]; exact Nat.le_refl _) (by rw [nI_clamp hb]; exact hcc) hc hca (fun i hi y hy => ?_) (Nat.le_of_ble_eq_true rfl) (Nat.le_of_ble_eq_true rfl) (Nat.le_of_ble_eq_true rfl) dJ7_copyOf_6403c_35 ?_
  · rw [va_up_ne _ _ har] at hy
    rw [nI_clamp hb] at hi
    obtain ⟨y1, -, fs, y2⟩ := hel i hi y hy
    have hy3 := kne hfr y1
    exact ⟨by rw [va_up_ne _ _ hy3]; exact y1, fs, (ce_congr (va_up_ne _ _ hy3) rfl (va_up_ne _ _ hy3)).trans y2⟩
  refine v_aload_n hC dJ7_copyOf_6403c_38 rfl 0 rfl ?_
  refine v_widen (k2 := 1) (n2 := 49) (Nat.le_of_ble_eq_true rfl) (by omega) ?_
  refine v_aret hC rfl (Or.inr ⟨_, rfl⟩) hQ dJ7_copyOf_6403c_39 rfl rfl rfl rfl ?_
  rw [nI_clamp hb, va_up_ne _ _ har]
  funext x
  by_cases hx : x = n
  · subst hx
    simp [va_up, cpyO]
  · simp [va_up, hx]
theorem m_J7_copyOf_1904c (l : Launch) {n : Nat} {K : Kt} {F : Ft} {G : Gt} {arr c c2 ci : Nat} {r : vw_C} (ha : K arr = (21, c)) (h0 : 0 < c) (hcc : c ≤ c2) (hc2 : c2 ≤ 49) (hc : cls[ci]? = some r) (hca : Cond.castable r.1 "java/lang/Object" ∈ Nwl) (hel : EL X K F G ci arr c) : Mw X l yJ7_copyOf_1904c cJ7_copyOf_1904c 2 (some (.array (.object "java/lang/Object"))) 2 61 1 49 [.ref arr, .int (nI c2)] n K F G (some (.ref n)) (n + 1) (va_up K n (21, c2)) F (va_up G n (cpyO G arr c)) := by
  refine Mw.of (lv := [(0, .ref arr), (1, .int (nI c2))]) (by decide) (Nat.le_of_ble_eq_true rfl) rfl ?_
  intro p e s m args below meth c' Q hC hin hQ
  have hC : Cx X p s m args meth c' RJ7 cJ7_copyOf_1904c 2 (some (.array (.object "java/lang/Object"))) := hC
  refine v_aload_n hC dJ7_copyOf_1904c_0 rfl 0 rfl ?_
  refine v_iload_n hC dJ7_copyOf_1904c_1 rfl 1 rfl ?_
  refine v_aload_n hC dJ7_copyOf_1904c_2 rfl 0 rfl ?_
  refine v_getC (N := c) hC al_gc4 ha (by omega) (Nat.le_of_ble_eq_true rfl) (Nat.le_of_ble_eq_true rfl) (Nat.le_of_ble_eq_true rfl) dJ7_copyOf_1904c_3 ?_
  refine v_callS (c2 := 1) (s2 := 49) (As := [.ref arr, .int (nI c2), .ref (xmi X)]) hC (m_J7_copyOf_6403c l ha h0 hcc hc2 hc hca hel) q_J7_300 hdS_J7_copyOf_6403c rfl rfl (Nat.le_of_ble_eq_true rfl) (Nat.le_of_ble_eq_true rfl) (Nat.le_of_ble_eq_true rfl) (Nat.le_of_ble_eq_true rfl) (Nat.le_of_ble_eq_true rfl) (Nat.le_of_ble_eq_true rfl) (Nat.le_of_ble_eq_true rfl) dJ7_copyOf_1904c_6 ?_
  exact v_aret hC rfl (Or.inr ⟨_, rfl⟩) hQ dJ7_copyOf_1904c_9 rfl rfl rfl rfl rfl
theorem m_Jx4a65c_grow_92f84 (l : Launch) {n : Nat} {K : Kt} {F : Ft} {G : Gt} {q c ci : Nat} {r : vw_C} (hq : K q = (10, c)) (hg : G q 1 = some (gp G q 1)) (ha : K (gp G q 1) = (21, c)) (hcap : capOK c) (hle : c ≤ 47) (hz : c = 0 → gp G q 1 = xz X) (hc : cls[ci]? = some r) (hca : Cond.castable r.1 "java/lang/Object" ∈ Nwl) (hel : EL X K F G ci (gp G q 1) c) : Mw X l yJx4a65c_grow_92f84 cJx4a65c_grow_92f84 4 (some (.array (.object "java/lang/Object"))) 3 82 1 49 [.ref q, .int (nI (c + 1))] n K F G (some (.ref n)) (n + 1) (va_up K n (21, nextCap c)) F (up2 (va_up G n (cpyO G (gp G q 1) c)) q 1 (some n)) := by
  refine Mw.of (lv := [(0, .ref q), (1, .int (nI (c + 1)))]) (by decide) (Nat.le_of_ble_eq_true rfl) rfl ?_
  intro p e s m args below meth c' Q hC hin hQ
  have hC : Cx X p s m args meth c' RJx4a65c cJx4a65c_grow_92f84 4 (some (.array (.object "java/lang/Object"))) := hC
  have hb : c < 2147483648 := by omega
  have t0 : (K q).1 = 10 := by rw [hq]
  obtain ⟨n1, n2, n3⟩ := cap_next hcap hle
  refine v_fresh (fun hfr => ?_)
  refine v_aload_n hC dJx4a65c_grow_92f84_0 rfl 0 rfl ?_
  refine gf_Jx4a65c_9 hC t0 hg dJx4a65c_grow_92f84_1 ?_
  refine v_alen_21 (N := c) hC ha dJx4a65c_grow_92f84_4 ?_
  refine v_istore_n (i := 2) (lv' := [(2, .int (nI c)), (0, .ref q), (1, .int (nI (c + 1)))]) hC dJx4a65c_grow_92f84_5 rfl (by decide) rfl ?_
  refine v_iload_n hC dJx4a65c_grow_92f84_6 rfl 0 rfl ?_
  refine v_if_gt (tgt := 20) hC dJx4a65c_grow_92f84_7 (by decide) (fun w => ?_) (fun w => ?_)
  · have h0 : ¬ c = 0 := fun z => by subst z; exact absurd w (by decide)
    obtain ⟨e1, e2, e3⟩ := nl_eq (K := K) (F := F) (G := G) hcap h0 hle rfl rfl rfl
    refine v_iload_n hC dJx4a65c_grow_92f84_20 rfl 0 rfl ?_
    refine v_iload_n hC dJx4a65c_grow_92f84_21 rfl 2 rfl ?_
    refine v_iload_n hC dJx4a65c_grow_92f84_22 rfl 0 rfl ?_
    refine v_isub hC dJx4a65c_grow_92f84_23 ?_
    refine v_iload_n hC dJx4a65c_grow_92f84_24 rfl 0 rfl ?_
    refine v_iconst (v := 1) hC dJx4a65c_grow_92f84_25 (by decide) ?_
    refine v_ishr hC dJx4a65c_grow_92f84_26 ?_
    refine v_callS (c2 := 0) (s2 := 0) (As := [.int (nI c), .int (nI (c + 1) - nI c), .int (nI c >>> (1 &&& 31))]) hC (m_J8_newLength_cabcc l e1 e2) q_Jx4a65c_73 hdS_J8_newLength_cabcc rfl rfl (Nat.le_of_ble_eq_true rfl) (Nat.le_of_ble_eq_true rfl) (Nat.le_of_ble_eq_true rfl) (Nat.le_of_ble_eq_true rfl) (Nat.le_of_ble_eq_true rfl) (Nat.le_of_ble_eq_true rfl) (Nat.le_of_ble_eq_true rfl) dJx4a65c_grow_92f84_27 ?_
    rw [e3]
    refine v_istore_n (i := 3) (lv' := [(3, .int (nI (nextCap c))), (2, .int (nI c)), (0, .ref q), (1, .int (nI (c + 1)))]) hC dJx4a65c_grow_92f84_30 rfl (by decide) rfl ?_
    refine v_aload_n hC dJx4a65c_grow_92f84_31 rfl 2 rfl ?_
    refine v_aload_n hC dJx4a65c_grow_92f84_32 rfl 2 rfl ?_
    refine gf_Jx4a65c_9 hC t0 hg dJx4a65c_grow_92f84_33 ?_
    refine v_iload_n hC dJx4a65c_grow_92f84_36 rfl 0 rfl ?_
    refine v_callS (c2 := 1) (s2 := 49) (As := [.ref (gp G q 1), .int (nI (nextCap c))]) hC (m_J7_copyOf_1904c l ha (Nat.pos_of_ne_zero h0) (Nat.le_of_succ_le n2) n3 hc hca hel) q_Jx4a65c_66 hdS_J7_copyOf_1904c rfl rfl (Nat.le_of_ble_eq_true rfl) (Nat.le_of_ble_eq_true rfl) (Nat.le_of_ble_eq_true rfl) (Nat.le_of_ble_eq_true rfl) (Nat.le_of_ble_eq_true rfl) (Nat.le_of_ble_eq_true rfl) (Nat.le_of_ble_eq_true rfl) dJx4a65c_grow_92f84_37 ?_
    refine v_dup_x1 hC dJx4a65c_grow_92f84_40 rfl rfl ?_
    refine pf_Jx4a65c_9 hC (kup hfr t0 (by decide)) dJx4a65c_grow_92f84_41 ?_
    exact v_aret hC rfl (Or.inr ⟨_, rfl⟩) hQ dJx4a65c_grow_92f84_44 rfl rfl rfl rfl rfl
  · have h0 : c = 0 := by
      by_cases z : c = 0
      · exact z
      · exact absurd (show (0 : Int32) < nI c from nI_lt (a := 0) (Nat.pos_of_ne_zero z) hb) w
    subst h0
    refine v_aload_n hC dJx4a65c_grow_92f84_10 rfl 1 rfl ?_
    refine gf_Jx4a65c_9 hC t0 hg dJx4a65c_grow_92f84_11 ?_
    refine v_getsD hC al_s39 dJx4a65c_grow_92f84_14 ?_
    refine v_acmp_eq (tgt := 45) hC dJx4a65c_grow_92f84_17 (by decide) (fun _ => ?_) (fun z => absurd (hz rfl) z)
    refine v_aload_n hC dJx4a65c_grow_92f84_45 rfl 1 rfl ?_
    refine v_bipush (v := 10) hC dJx4a65c_grow_92f84_46 (by decide) ?_
    refine v_iload_n hC dJx4a65c_grow_92f84_48 rfl 2 rfl ?_
    refine v_mmax hC aw_1044 (Nat.le_of_ble_eq_true rfl) (Nat.le_of_ble_eq_true rfl) (Nat.le_of_ble_eq_true rfl) (Nat.le_of_ble_eq_true rfl) (Nat.le_of_ble_eq_true rfl) dJx4a65c_grow_92f84_49 ?_
    rw [if_neg (by decide)]
    refine v_anewO (N := 10) (K' := va_up K n (21, 10)) (F' := F) (G' := va_up G n (fun _ => none)) hC al_c7 (by decide) rfl (by omega) (Nat.le_of_ble_eq_true rfl) (Nat.le_of_ble_eq_true rfl) (fun x hx => ⟨va_up_ne _ _ hx, rfl, va_up_ne _ _ hx⟩) ((ce_21 (by simp [va_up])).trans (by simp [va_up])) dJx4a65c_grow_92f84_52 ?_
    refine v_dup_x1 hC dJx4a65c_grow_92f84_55 rfl rfl ?_
    refine pf_Jx4a65c_9 hC (kup hfr t0 (by decide)) dJx4a65c_grow_92f84_56 ?_
    refine v_widen (k2 := 1) (n2 := 49) (Nat.le_of_ble_eq_true rfl) (Nat.le_of_ble_eq_true rfl) ?_
    exact v_aret hC rfl (Or.inr ⟨_, rfl⟩) hQ dJx4a65c_grow_92f84_59 rfl rfl rfl rfl (by rw [cpyO_0])
theorem m_Jx4a65c_grow_d5877 (l : Launch) {n : Nat} {K : Kt} {F : Ft} {G : Gt} {q c ci : Nat} {r : vw_C} (hq : K q = (10, c)) (hg : G q 1 = some (gp G q 1)) (ha : K (gp G q 1) = (21, c)) (hcap : capOK c) (hle : c ≤ 47) (hz : c = 0 → gp G q 1 = xz X) (hc : cls[ci]? = some r) (hca : Cond.castable r.1 "java/lang/Object" ∈ Nwl) (hel : EL X K F G ci (gp G q 1) c) : Mw X l yJx4a65c_grow_d5877 cJx4a65c_grow_d5877 1 (some (.array (.object "java/lang/Object"))) 4 105 1 49 [.ref q] n K F G (some (.ref n)) (n + 1) (va_up K n (21, nextCap c)) F (up2 (va_up G n (cpyO G (gp G q 1) c)) q 1 (some n)) := by
  refine Mw.of (lv := [(0, .ref q)]) (by decide) (Nat.le_of_ble_eq_true rfl) rfl ?_
  intro p e s m args below meth c' Q hC hin hQ
  have hC : Cx X p s m args meth c' RJx4a65c cJx4a65c_grow_d5877 1 (some (.array (.object "java/lang/Object"))) := hC
  have t0 : (K q).1 = 10 := by rw [hq]
  refine v_aload_n hC dJx4a65c_grow_d5877_0 rfl 0 rfl ?_
  refine v_aload_n hC dJx4a65c_grow_d5877_1 rfl 0 rfl ?_
  refine gf_Jx4a65c_48 hC t0 dJx4a65c_grow_d5877_2 ?_
  refine v_iconst (v := 1) hC dJx4a65c_grow_d5877_5 (by decide) ?_
  refine v_iadd hC dJx4a65c_grow_d5877_6 ?_
  rw [nI_1, hq]
  refine v_callV (c2 := 1) (s2 := 49) (As := [.int (nI (c + 1))]) hC (m_Jx4a65c_grow_92f84 l hq hg ha hcap hle hz hc hca hel) q_Jx4a65c_69 (by rw [t0]; decide) (ce_10 t0) (ci := 9) rfl hdV_Jx4a65c_grow_92f84 rfl rfl (Nat.le_of_ble_eq_true rfl) (Nat.le_of_ble_eq_true rfl) (Nat.le_of_ble_eq_true rfl) (Nat.le_of_ble_eq_true rfl) (Nat.le_of_ble_eq_true rfl) (Nat.le_of_ble_eq_true rfl) (Nat.le_of_ble_eq_true rfl) dJx4a65c_grow_d5877_7 ?_
  exact v_aret hC rfl (Or.inr ⟨_, rfl⟩) hQ dJx4a65c_grow_d5877_10 rfl rfl rfl rfl rfl
theorem addrel_in {K : Kt} {F : Ft} {G : Gt} {q e n N c : Nat} (hq : K q = (10, N)) (hg : G q 1 = some (gp G q 1)) (ha : K (gp G q 1) = (21, c)) (hcap : capOK c) (hN : N < c) : AddRel K F G q e n n (va_up K q (10, N + 1)) F (up2 G (gp G q 1) N (some e)) := by
  have hne : q ≠ gp G q 1 := fun z => by rw [← z, hq] at ha; cases ha
  have e1 : gp (up2 G (gp G q 1) N (some e)) q 1 = gp G q 1 := by
    show ((up2 G (gp G q 1) N (some e)) q 1).getD 0 = _
    rw [up2_a _ _ hne]
    rfl
  refine ⟨Nat.le_refl _, by simp [va_up, hq], fun x _ hx => ⟨va_up_ne _ _ hx, rfl⟩, fun x _ _ hx => up2_a _ _ hx, ?_, ?_, ?_, ?_, ?_, ?_, ?_⟩
  · rw [e1, up2_a _ _ hne]; exact hg
  · rw [e1, va_up_ne _ _ (Ne.symm hne), ha]
  · rw [e1, va_up_ne _ _ (Ne.symm hne), ha]; exact hcap
  · rw [e1, va_up_ne _ _ (Ne.symm hne), ha, hq]; exact hN
  · intro i hi
    rw [hq] at hi
    rw [e1, up2_k _ _ (Nat.ne_of_lt hi)]
  · rw [e1, hq]; exact up2_eq _ _ _ _
  · exact Or.inl e1
theorem addrel_grow {K : Kt} {F : Ft} {G : Gt} {q e n c : Nat} (hfr : (K n).1 = 0) (hq : K q = (10, c)) (ha : K (gp G q 1) = (21, c)) (hcap : capOK c) (hle : c ≤ 47) : AddRel K F G q e n (n + 1) (va_up (va_up K n (21, nextCap c)) q (10, c + 1)) F (up2 (up2 (va_up G n (cpyO G (gp G q 1) c)) q 1 (some n)) n c (some e)) := by
  obtain ⟨n1, n2, n3⟩ := cap_next hcap hle
  have hqn : q ≠ n := kne hfr (by rw [hq]; exact (by decide : (10 : Nat) ≠ 0))
  have hna : gp G q 1 ≠ n := kne hfr (by rw [ha]; exact (by decide : (21 : Nat) ≠ 0))
  have hqa : gp G q 1 ≠ q := fun z => by rw [z, hq] at ha; cases ha
  have e0 : (up2 (up2 (va_up G n (cpyO G (gp G q 1) c)) q 1 (some n)) n c (some e)) q 1 = some n := by
    rw [up2_a _ _ hqn]; exact up2_eq _ _ _ _
  have e1 : gp (up2 (up2 (va_up G n (cpyO G (gp G q 1) c)) q 1 (some n)) n c (some e)) q 1 = n := gp_eq e0
  have e2 : (va_up (va_up K n (21, nextCap c)) q (10, c + 1)) n = (21, nextCap c) := by
    rw [va_up_ne _ _ (Ne.symm hqn)]; simp [va_up]
  refine ⟨Nat.le_succ _, by simp [va_up, hq], fun x hx1 hx => ⟨?_, rfl⟩, fun x hx1 hx2 _ => ?_, ?_, ?_, ?_, ?_, ?_, ?_, ?_⟩
  · rw [va_up_ne _ _ hx, va_up_ne _ _ (kne hfr hx1)]
  · rw [up2_a _ _ (kne hfr hx1), up2_a _ _ hx2, va_up_ne _ _ (kne hfr hx1)]
  · rw [e1]; exact e0
  · rw [e1, e2]
  · rw [e1, e2]; exact n1
  · rw [e1, e2, hq]; exact n2
  · intro i hi
    rw [hq] at hi
    have hi : i < c := hi
    rw [e1, up2_k _ _ (Nat.ne_of_lt hi), up2_a _ _ (Ne.symm hqn)]
    rw [show va_up G n (cpyO G (gp G q 1) c) n = cpyO G (gp G q 1) c by simp [va_up]]
    exact cpyO_lt hi
  · rw [e1, hq]; exact up2_eq _ _ _ _
  · refine Or.inr ⟨by rw [e1]; exact hfr, ?_⟩
    rw [up2_a _ _ hna, up2_a _ _ hqa, va_up_ne _ _ hna]
theorem m_Jx4a65c_add_72be8 (l : Launch) {n : Nat} {K : Kt} {F : Ft} {G : Gt} {q e N c ci : Nat} {r : vw_C} {fs : List Value} (hq : K q = (10, N)) (hg : G q 1 = some (gp G q 1)) (ha : K (gp G q 1) = (21, c)) (hcap : capOK c) (hNc : N ≤ c) (hN : N ≤ 47) (hz : c = 0 → gp G q 1 = xz X) (hc : cls[ci]? = some r) (hca : Cond.castable r.1 "java/lang/Object" ∈ Nwl) (hel : EL X K F G ci (gp G q 1) N) (he : (K e).1 ≠ 0) (he0 : (K e).1 ≠ 10) (he2 : ce X K F G e = .inr (ci, fs)) : Mr X l yJx4a65c_add_72be8 cJx4a65c_add_72be8 4 none 5 125 1 49 [.ref q, .ref e, .ref (gp G q 1), .int (nI N)] n K F G (fun o n' K' F' G' => o = none ∧ AddRel K F G q e n n' K' F' G') := by
  refine Mr.of (lv := [(0, .ref q), (1, .ref e), (2, .ref (gp G q 1)), (3, .int (nI N))]) (by decide) (Nat.le_of_ble_eq_true rfl) rfl ?_
  intro p en s m args below meth c' Q hC hin hQ
  have hC : Cx X p s m args meth c' RJx4a65c cJx4a65c_add_72be8 4 none := hC
  have hNb : N < 2147483648 := by omega
  have hcb : c < 2147483648 := by unfold capOK at hcap; omega
  have t0 : (K q).1 = 10 := by rw [hq]
  refine v_fresh (fun hfr => ?_)
  refine v_iload_n hC dJx4a65c_add_72be8_0 rfl 3 rfl ?_
  refine v_aload_n hC dJx4a65c_add_72be8_1 rfl 2 rfl ?_
  refine v_alen_21 (N := c) hC ha dJx4a65c_add_72be8_2 ?_
  refine v_icmp_ne (tgt := 11) hC dJx4a65c_add_72be8_3 (by decide) (fun w => ?_) (fun w => ?_)
  · have hlt : N < c := Nat.lt_of_le_of_ne hNc (fun z => w (by rw [z]))
    refine v_aload_n hC dJx4a65c_add_72be8_11 rfl 2 rfl ?_
    refine v_iload_n hC dJx4a65c_add_72be8_12 rfl 3 rfl ?_
    refine v_aload_n hC dJx4a65c_add_72be8_13 rfl 1 rfl ?_
    refine v_aastO (N := c) (ci := ci) (r := r) hC ha he he2 hc hca (vp_in_nI hlt hcb) dJx4a65c_add_72be8_14 ?_
    rw [nI_clamp hNb]
    refine v_aload_n hC dJx4a65c_add_72be8_15 rfl 0 rfl ?_
    refine v_iload_n hC dJx4a65c_add_72be8_16 rfl 3 rfl ?_
    refine v_iconst (v := 1) hC dJx4a65c_add_72be8_17 (by decide) ?_
    refine v_iadd hC dJx4a65c_add_72be8_18 ?_
    refine pf_Jx4a65c_48 (N2 := N + 1) hC hq (nI_1 N) dJx4a65c_add_72be8_19 ?_
    refine v_toR hQ ⟨rfl, addrel_in hq hg ha hcap hlt⟩ ?_
    refine v_widen (k2 := 1) (n2 := 49) (Nat.le_of_ble_eq_true rfl) (Nat.le_of_ble_eq_true rfl) ?_
    exact v_vret hC rfl rfl dJx4a65c_add_72be8_22 rfl rfl rfl rfl rfl
  · have hNe : N = c := (nI_eq hNb hcb).mp w
    subst hNe
    obtain ⟨n1, n2, n3⟩ := cap_next hcap hN
    have hen : e ≠ n := kne hfr he
    have heq : e ≠ q := fun z => he0 (by rw [z, hq])
    have hqn : q ≠ n := kne hfr (by rw [hq]; exact (by decide : (10 : Nat) ≠ 0))
    refine v_aload_n hC dJx4a65c_add_72be8_6 rfl 0 rfl ?_
    refine v_callV (c2 := 1) (s2 := 49) (As := []) hC (m_Jx4a65c_grow_d5877 l hq hg ha hcap hN hz hc hca hel) q_Jx4a65c_129 (by rw [t0]; decide) (ce_10 t0) (ci := 9) rfl hdV_Jx4a65c_grow_d5877 rfl rfl (Nat.le_of_ble_eq_true rfl) (Nat.le_of_ble_eq_true rfl) (Nat.le_of_ble_eq_true rfl) (Nat.le_of_ble_eq_true rfl) (Nat.le_of_ble_eq_true rfl) (Nat.le_of_ble_eq_true rfl) (Nat.le_of_ble_eq_true rfl) dJx4a65c_add_72be8_7 ?_
    refine v_astore_n (i := 2) (lv' := [(2, .ref n), (0, .ref q), (1, .ref e), (3, .int (nI N))]) hC dJx4a65c_add_72be8_10 rfl (by decide) rfl ?_
    refine v_aload_n hC dJx4a65c_add_72be8_11 rfl 0 rfl ?_
    refine v_iload_n hC dJx4a65c_add_72be8_12 rfl 3 rfl ?_
    refine v_aload_n hC dJx4a65c_add_72be8_13 rfl 2 rfl ?_
    refine v_aastO (N := nextCap N) (ci := ci) (r := r) (fs := fs) hC (by simp [va_up]) (by rw [va_up_ne _ _ hen]; exact he) ((ce_congr (va_up_ne _ _ hen) rfl (by rw [up2_a _ _ heq, va_up_ne _ _ hen])).trans he2) hc hca (vp_in_nI n2 (by omega)) dJx4a65c_add_72be8_14 ?_
    rw [nI_clamp hNb]
    refine v_aload_n hC dJx4a65c_add_72be8_15 rfl 1 rfl ?_
    refine v_iload_n hC dJx4a65c_add_72be8_16 rfl 3 rfl ?_
    refine v_iconst (v := 1) hC dJx4a65c_add_72be8_17 (by decide) ?_
    refine v_iadd hC dJx4a65c_add_72be8_18 ?_
    refine pf_Jx4a65c_48 (N := N) (N2 := N + 1) hC ((va_up_ne _ _ hqn).trans hq) (nI_1 N) dJx4a65c_add_72be8_19 ?_
    refine v_toR hQ ⟨rfl, addrel_grow hfr hq ha hcap hN⟩ ?_
    exact v_vret hC rfl rfl dJx4a65c_add_72be8_22 rfl rfl rfl rfl rfl
theorem m_Jx4a65c_add_9ea2d (l : Launch) {n : Nat} {K : Kt} {F : Ft} {G : Gt} {q e ci : Nat} {r : vw_C} {fs : List Value} (t0 : (K q).1 = 10) (hg : G q 1 = some (gp G q 1)) (ha : (K (gp G q 1)).1 = 21) (hcap : capOK (K (gp G q 1)).2) (hNc : (K q).2 ≤ (K (gp G q 1)).2) (hN : (K q).2 ≤ 47) (hz : (K (gp G q 1)).2 = 0 → gp G q 1 = xz X) (hc : cls[ci]? = some r) (hca : Cond.castable r.1 "java/lang/Object" ∈ Nwl) (hel : EL X K F G ci (gp G q 1) (K q).2) (he : (K e).1 ≠ 0) (he0 : (K e).1 ≠ 10) (he2 : ce X K F G e = .inr (ci, fs)) : Mr X l yJx4a65c_add_9ea2d cJx4a65c_add_9ea2d 2 (some .boolean) 6 148 1 49 [.ref q, .ref e] n K F G (fun o n' K' F' G' => o = some (.int 1) ∧ AddRel K F G q e n n' K' F' G') := by
  refine Mr.of (lv := [(0, .ref q), (1, .ref e)]) (by decide) (Nat.le_of_ble_eq_true rfl) rfl ?_
  intro p en s m args below meth c' Q hC hin hQ
  have hC : Cx X p s m args meth c' RJx4a65c cJx4a65c_add_9ea2d 2 (some .boolean) := hC
  have hq : K q = (10, (K q).2) := Prod.ext t0 rfl
  have ha2 : K (gp G q 1) = (21, (K (gp G q 1)).2) := Prod.ext ha rfl
  have hF : ∀ y, (K y).1 ≠ 10 → up2 F q 0 (F q 0 + 1) y = F y := fun y hy => up2_a _ _ (fun z => hy (by rw [z]; exact t0))
  refine v_aload_n hC dJx4a65c_add_9ea2d_0 rfl 0 rfl ?_
  refine v_dup hC dJx4a65c_add_9ea2d_1 rfl ?_
  refine gf_Jx4a65c_63 hC t0 dJx4a65c_add_9ea2d_2 ?_
  refine v_iconst (v := 1) hC dJx4a65c_add_9ea2d_5 (by decide) ?_
  refine v_iadd hC dJx4a65c_add_9ea2d_6 ?_
  refine pf_Jx4a65c_63 hC t0 dJx4a65c_add_9ea2d_7 ?_
  refine v_aload_n hC dJx4a65c_add_9ea2d_10 rfl 0 rfl ?_
  refine v_aload_n hC dJx4a65c_add_9ea2d_11 rfl 1 rfl ?_
  refine v_aload_n hC dJx4a65c_add_9ea2d_12 rfl 0 rfl ?_
  refine gf_Jx4a65c_9 hC t0 hg dJx4a65c_add_9ea2d_13 ?_
  refine v_aload_n hC dJx4a65c_add_9ea2d_16 rfl 0 rfl ?_
  refine gf_Jx4a65c_48 hC t0 dJx4a65c_add_9ea2d_17 ?_
  refine v_rcallV (c2 := 1) (s2 := 49) (As := [.ref e, .ref (gp G q 1), .int (nI (K q).2)]) hC (m_Jx4a65c_add_72be8 l (F := up2 F q 0 (F q 0 + 1)) (fs := fs) hq hg ha2 hcap hNc hN hz hc hca (fun i hi y hy => ?_) he he0 ((ce_congr rfl (hF e he0) rfl).trans he2)) q_Jx4a65c_131 (by rw [t0]; decide) (ce_10 t0) (ci := 9) rfl hdV_Jx4a65c_add_72be8 rfl rfl (Nat.le_of_ble_eq_true rfl) (Nat.le_of_ble_eq_true rfl) (Nat.le_of_ble_eq_true rfl) (Nat.le_of_ble_eq_true rfl) (Nat.le_of_ble_eq_true rfl) (Nat.le_of_ble_eq_true rfl) (Nat.le_of_ble_eq_true rfl) dJx4a65c_add_9ea2d_20 ?_
  · obtain ⟨y1, y2, fs2, y3⟩ := hel i hi y hy
    exact ⟨y1, y2, fs2, (ce_congr rfl (hF y y2) rfl).trans y3⟩
  intro o n' K' F' G' hP
  obtain ⟨rfl, b1, b2, b3, b4⟩ := hP
  refine v_iconst (v := 1) hC dJx4a65c_add_9ea2d_23 (by decide) ?_
  refine v_toR hQ ⟨rfl, b1, b2, fun x hx1 hx2 => ⟨(b3 x hx1 hx2).1, ((b3 x hx1 hx2).2).trans (up2_a _ _ hx2)⟩, b4⟩ ?_
  exact v_zret (ty := .boolean) hC rfl rfl rfl dJx4a65c_add_9ea2d_24 rfl rfl rfl rfl rfl
end PM6
