section PH0
variable {X : Xt}
theorem hdS_Jx4a65c_size_8abf5 : yJx4a65c_size_8abf5.cls ≠ "java/lang/invoke/MethodHandle" ∧ yJx4a65c_size_8abf5.cls ≠ "java/lang/invoke/VarHandle" ∧ (parseMethodDescriptor yJx4a65c_size_8abf5.desc).map (fun d => d.parameters.length) = some 0 := by decide +kernel
theorem hdV_Jx4a65c_size_8abf5 : yJx4a65c_size_8abf5.cls = RJx4a65c ∧ yJx4a65c_size_8abf5.cls ≠ "java/lang/invoke/MethodHandle" ∧ yJx4a65c_size_8abf5.cls ≠ "java/lang/invoke/VarHandle" ∧ (parseMethodDescriptor yJx4a65c_size_8abf5.desc).map (fun d => d.parameters.length) = some 0 := by decide +kernel
theorem hdS_J3_checkIndex_8e157 : yJ3_checkIndex_8e157.cls ≠ "java/lang/invoke/MethodHandle" ∧ yJ3_checkIndex_8e157.cls ≠ "java/lang/invoke/VarHandle" ∧ (parseMethodDescriptor yJ3_checkIndex_8e157.desc).map (fun d => d.parameters.length) = some 3 := by decide +kernel
theorem hdV_J3_checkIndex_8e157 : yJ3_checkIndex_8e157.cls = RJ3 ∧ yJ3_checkIndex_8e157.cls ≠ "java/lang/invoke/MethodHandle" ∧ yJ3_checkIndex_8e157.cls ≠ "java/lang/invoke/VarHandle" ∧ (parseMethodDescriptor yJ3_checkIndex_8e157.desc).map (fun d => d.parameters.length) = some 3 := by decide +kernel
theorem hdS_J15_checkIndex_7cf53 : yJ15_checkIndex_7cf53.cls ≠ "java/lang/invoke/MethodHandle" ∧ yJ15_checkIndex_7cf53.cls ≠ "java/lang/invoke/VarHandle" ∧ (parseMethodDescriptor yJ15_checkIndex_7cf53.desc).map (fun d => d.parameters.length) = some 2 := by decide +kernel
theorem hdV_J15_checkIndex_7cf53 : yJ15_checkIndex_7cf53.cls = RJ15 ∧ yJ15_checkIndex_7cf53.cls ≠ "java/lang/invoke/MethodHandle" ∧ yJ15_checkIndex_7cf53.cls ≠ "java/lang/invoke/VarHandle" ∧ (parseMethodDescriptor yJ15_checkIndex_7cf53.desc).map (fun d => d.parameters.length) = some 2 := by decide +kernel
theorem hdS_Jx4a65c_elementData_915e3 : yJx4a65c_elementData_915e3.cls ≠ "java/lang/invoke/MethodHandle" ∧ yJx4a65c_elementData_915e3.cls ≠ "java/lang/invoke/VarHandle" ∧ (parseMethodDescriptor yJx4a65c_elementData_915e3.desc).map (fun d => d.parameters.length) = some 1 := by decide +kernel
theorem hdV_Jx4a65c_elementData_915e3 : yJx4a65c_elementData_915e3.cls = RJx4a65c ∧ yJx4a65c_elementData_915e3.cls ≠ "java/lang/invoke/MethodHandle" ∧ yJx4a65c_elementData_915e3.cls ≠ "java/lang/invoke/VarHandle" ∧ (parseMethodDescriptor yJx4a65c_elementData_915e3.desc).map (fun d => d.parameters.length) = some 1 := by decide +kernel
theorem hdS_Jx4a65c_get_915e3 : yJx4a65c_get_915e3.cls ≠ "java/lang/invoke/MethodHandle" ∧ yJx4a65c_get_915e3.cls ≠ "java/lang/invoke/VarHandle" ∧ (parseMethodDescriptor yJx4a65c_get_915e3.desc).map (fun d => d.parameters.length) = some 1 := by decide +kernel
theorem hdV_Jx4a65c_get_915e3 : yJx4a65c_get_915e3.cls = RJx4a65c ∧ yJx4a65c_get_915e3.cls ≠ "java/lang/invoke/MethodHandle" ∧ yJx4a65c_get_915e3.cls ≠ "java/lang/invoke/VarHandle" ∧ (parseMethodDescriptor yJx4a65c_get_915e3.desc).map (fun d => d.parameters.length) = some 1 := by decide +kernel
theorem ix_pos {j b : Nat} (h : j < b) (hb : b < 2147483648) : ¬ nI j < 0 := nI_pos (Nat.lt_trans h hb)
theorem m_Jx4a65c_size_8abf5 (l : Launch) {n : Nat} {K : Kt} {F : Ft} {G : Gt} {a0 : Nat} (t0 : (K a0).1 = 10) : Mw X l yJx4a65c_size_8abf5 cJx4a65c_size_8abf5 1 (some .int) 0 0 0 0 [.ref a0] n K F G (some (.int (nI (K a0).2))) n K F G := by
  refine Mw.of (lv := [(0, .ref a0)]) (by decide) (Nat.le_of_ble_eq_true rfl) rfl ?_
  intro p e s m args below meth c Q hC hin hQ
  have hC : Cx X p s m args meth c RJx4a65c cJx4a65c_size_8abf5 1 (some .int) := hC
  refine v_aload_n hC dJx4a65c_size_8abf5_0 rfl 0 rfl ?_
  refine gf_Jx4a65c_48 hC t0 dJx4a65c_size_8abf5_1 ?_
  exact v_iret hC rfl hQ dJx4a65c_size_8abf5_4 rfl rfl rfl rfl rfl
theorem m_J3_checkIndex_8e157 (l : Launch) {n : Nat} {K : Kt} {F : Ft} {G : Gt} {i b : Nat} (h : i < b) (hb : b < 2147483648) : Mw X l yJ3_checkIndex_8e157 cJ3_checkIndex_8e157 3 (some .int) 0 0 0 0 [.int (nI i), .int (nI b), va_rf none] n K F G (some (.int (nI i))) n K F G := by
  refine Mw.of (lv := [(0, .int (nI i)), (1, .int (nI b)), (2, va_rf none)]) (by decide) (Nat.le_of_ble_eq_true rfl) rfl ?_
  intro p e s m args below meth c Q hC hin hQ
  have hC : Cx X p s m args meth c RJ3 cJ3_checkIndex_8e157 3 (some .int) := hC
  refine v_iload_n hC dJ3_checkIndex_8e157_0 rfl 0 rfl ?_
  refine v_if_lt (tgt := 9) hC dJ3_checkIndex_8e157_1 (by decide) (fun q => absurd q (ix_pos h hb)) (fun _ => ?_)
  refine v_iload_n hC dJ3_checkIndex_8e157_4 rfl 0 rfl ?_
  refine v_iload_n hC dJ3_checkIndex_8e157_5 rfl 1 rfl ?_
  refine v_icmp_lt (tgt := 16) hC dJ3_checkIndex_8e157_6 (by decide) (fun _ => ?_) (fun q => absurd (nI_lt h hb) q)
  refine v_iload_n hC dJ3_checkIndex_8e157_16 rfl 0 rfl ?_
  exact v_iret hC rfl hQ dJ3_checkIndex_8e157_17 rfl rfl rfl rfl rfl
theorem m_J15_checkIndex_7cf53 (l : Launch) {n : Nat} {K : Kt} {F : Ft} {G : Gt} {i b : Nat} (h : i < b) (hb : b < 2147483648) : Mw X l yJ15_checkIndex_7cf53 cJ15_checkIndex_7cf53 2 (some .int) 1 22 0 0 [.int (nI i), .int (nI b)] n K F G (some (.int (nI i))) n K F G := by
  refine Mw.of (lv := [(0, .int (nI i)), (1, .int (nI b))]) (by decide) (Nat.le_of_ble_eq_true rfl) rfl ?_
  intro p e s m args below meth c Q hC hin hQ
  have hC : Cx X p s m args meth c RJ15 cJ15_checkIndex_7cf53 2 (some .int) := hC
  refine v_iload_n hC dJ15_checkIndex_7cf53_0 rfl 0 rfl ?_
  refine v_iload_n hC dJ15_checkIndex_7cf53_1 rfl 1 rfl ?_
  refine v_null hC dJ15_checkIndex_7cf53_2 ?_
  refine v_callS (c2 := 0) (s2 := 0) (As := [.int (nI i), .int (nI b), va_rf none]) hC (m_J3_checkIndex_8e157 l h hb) q_J15_105 hdS_J3_checkIndex_8e157 rfl rfl (Nat.le_of_ble_eq_true rfl) (Nat.le_of_ble_eq_true rfl) (Nat.le_of_ble_eq_true rfl) (Nat.le_of_ble_eq_true rfl) (Nat.le_of_ble_eq_true rfl) (Nat.le_of_ble_eq_true rfl) (Nat.le_of_ble_eq_true rfl) dJ15_checkIndex_7cf53_3 ?_
  exact v_iret hC rfl hQ dJ15_checkIndex_7cf53_6 rfl rfl rfl rfl rfl
theorem m_Jx4a65c_elementData_915e3 (l : Launch) {n : Nat} {K : Kt} {F : Ft} {G : Gt} {P : Nat → Prop} {a0 i : Nat} (t0 : TLst P K G a0) (h : i < (K a0).2) : Mw X l yJx4a65c_elementData_915e3 cJx4a65c_elementData_915e3 2 (some (.object "java/lang/Object")) 0 0 0 0 [.ref a0, .int (nI i)] n K F G (some (.ref (el G a0 i))) n K F G := by
  refine Mw.of (lv := [(0, .ref a0), (1, .int (nI i))]) (by decide) (Nat.le_of_ble_eq_true rfl) rfl ?_
  intro p e s m args below meth c Q hC hin hQ
  have hC : Cx X p s m args meth c RJx4a65c cJx4a65c_elementData_915e3 2 (some (.object "java/lang/Object")) := hC
  have hi : i < 2147483648 := Nat.lt_trans h t0.lt
  have hN : (K (gp G a0 1)).2 < 2147483648 := by have := t0.2.2.2.2.1; unfold capOK at this; omega
  refine v_aload_n hC dJx4a65c_elementData_915e3_0 rfl 0 rfl ?_
  refine gf_Jx4a65c_9 hC t0.1 t0.2.2.1 dJx4a65c_elementData_915e3_1 ?_
  refine v_iload_n hC dJx4a65c_elementData_915e3_4 rfl 1 rfl ?_
  refine v_aald (N := (K (gp G a0 1)).2) hC (Prod.ext t0.2.2.2.1 rfl) (vp_in_nI (Nat.lt_of_lt_of_le h t0.2.2.2.2.2.1) hN) dJx4a65c_elementData_915e3_5 ?_
  rw [nI_clamp hi, (t0.2.2.2.2.2.2 i h).1]
  exact v_aret hC rfl (Or.inl ⟨_, rfl⟩) hQ dJx4a65c_elementData_915e3_6 rfl rfl rfl rfl rfl
theorem m_Jx4a65c_get_915e3 (l : Launch) {n : Nat} {K : Kt} {F : Ft} {G : Gt} {P : Nat → Prop} {a0 i : Nat} (t0 : TLst P K G a0) (h : i < (K a0).2) : Mw X l yJx4a65c_get_915e3 cJx4a65c_get_915e3 2 (some (.object "java/lang/Object")) 2 43 0 0 [.ref a0, .int (nI i)] n K F G (some (.ref (el G a0 i))) n K F G := by
  refine Mw.of (lv := [(0, .ref a0), (1, .int (nI i))]) (by decide) (Nat.le_of_ble_eq_true rfl) rfl ?_
  intro p e s m args below meth c Q hC hin hQ
  have hC : Cx X p s m args meth c RJx4a65c cJx4a65c_get_915e3 2 (some (.object "java/lang/Object")) := hC
  refine v_iload_n hC dJx4a65c_get_915e3_0 rfl 1 rfl ?_
  refine v_aload_n hC dJx4a65c_get_915e3_1 rfl 0 rfl ?_
  refine gf_Jx4a65c_48 hC t0.1 dJx4a65c_get_915e3_2 ?_
  refine v_callS (c2 := 0) (s2 := 0) (As := [.int (nI i), .int (nI (K a0).2)]) hC (m_J15_checkIndex_7cf53 l h t0.lt) q_Jx4a65c_118 hdS_J15_checkIndex_7cf53 rfl rfl (Nat.le_of_ble_eq_true rfl) (Nat.le_of_ble_eq_true rfl) (Nat.le_of_ble_eq_true rfl) (Nat.le_of_ble_eq_true rfl) (Nat.le_of_ble_eq_true rfl) (Nat.le_of_ble_eq_true rfl) (Nat.le_of_ble_eq_true rfl) dJx4a65c_get_915e3_5 ?_
  refine v_pop hC dJx4a65c_get_915e3_8 rfl ?_
  refine v_aload_n hC dJx4a65c_get_915e3_9 rfl 0 rfl ?_
  refine v_iload_n hC dJx4a65c_get_915e3_10 rfl 1 rfl ?_
  refine v_callV (c2 := 0) (s2 := 0) (As := [.int (nI i)]) hC (m_Jx4a65c_elementData_915e3 l t0 h) q_Jx4a65c_123 (by rw [t0.1]; decide) (ce_10 t0.1) (ci := 9) rfl hdV_Jx4a65c_elementData_915e3 rfl rfl (Nat.le_of_ble_eq_true rfl) (Nat.le_of_ble_eq_true rfl) (Nat.le_of_ble_eq_true rfl) (Nat.le_of_ble_eq_true rfl) (Nat.le_of_ble_eq_true rfl) (Nat.le_of_ble_eq_true rfl) (Nat.le_of_ble_eq_true rfl) dJx4a65c_get_915e3_11 ?_
  exact v_aret hC rfl (Or.inl ⟨_, rfl⟩) hQ dJx4a65c_get_915e3_14 rfl rfl rfl rfl rfl
end PH0
