/-! the text of a slip: what is appended -/
section PNQ
section
variable {X : Xt} {p : Program} {l : Launch} {e : Env} {R : Room} {s : State} {m : MethodId} {args : Array Value} {below : List Frame} {meth : Method} {c : Code} {own : String} {cc : ByteArray} {nL : Nat} {ret : Option FieldType}
variable {Q : State → Prop} {cells slots n : Nat} {K : Kt} {F : Ft} {G : Gt} {lv : List (Nat × Value)} {pc : Nat} {st : List Value} {S : State → Prop}
theorem v_i2b (hC : Cx X p s m args meth c own cc nL ret) {x : Int32} (hdg : decode cc pc = .ok (.i2b, 1)) (k : V X nL p l e R s m args below meth c Q cells slots n K F G lv (pc + 1) (.int x.toInt8.toInt32 :: st)) : V X nL p l e R s m args below meth c Q cells slots n K F G lv pc (.int x :: st) := fun H locs ls h1 h2 h3 => lv_i2b hC.hx hC.hb hdg rfl (k H locs ls h1 h2 h3)
theorem v_ifnn (hC : Cx X p s m args meth c own cc nL ret) {x : Nat} {off : Int} {tgt : Nat} (hdg : decode cc pc = .ok (.ifnonnull off, 3)) (ht : (pc : Int) + off = (tgt : Int)) (k : V X nL p l e R s m args below meth c Q cells slots n K F G lv tgt st) : V X nL p l e R s m args below meth c Q cells slots n K F G lv pc (.ref x :: st) := fun H locs ls h1 h2 h3 => lv_ifnonnull hC.hx hC.hb hdg ht (k H locs ls h1 h2 h3)
/-- a string of w letters, never written -/
def Sx (X : Xt) (sa V w : Nat) (f : Nat → Int32) (U : State) : Prop := va_O "java/lang/String" sa (Aft X) U U.heap ∧ va_OF "java/lang/String" "coder" "B" (.int 0) sa (Aft X) U U.heap ∧ va_OF "java/lang/String" "value" "[B" (.ref V) sa (Aft X) U U.heap ∧ va_T .byte V w (fun j => .int (f j)) (Aft X) U U.heap
theorem Sx_st {sa V w : Nat} {f : Nat → Int32} : Stab X (Sx X sa V w f) := by
  refine ⟨fun s U H locs h h2 hU hW => ?_, fun U g mk a h => ?_⟩
  · subst hU
    have hvm := hW.alike
    exact ⟨va_O.moved hvm (h.1.kept h2.2.1), va_OF.moved hvm (h.2.1.kept h2.2.1), va_OF.moved hvm (h.2.2.1.kept h2.2.1), va_T.moved hvm (h.2.2.2.kept h2.2.1)⟩
  · have hvm := Vm.Alike.refl U.vm
    exact ⟨va_O.moved (U := U.calling g mk a) hvm h.1, va_OF.moved (U := U.calling g mk a) hvm h.2.1, va_OF.moved (U := U.calling g mk a) hvm h.2.2.1, va_T.moved (U := U.calling g mk a) hvm h.2.2.2⟩
section
variable {P : Pt5} {y : MethodName} {bytes : ByteArray} {maxL fr lo mc ms index c2 s2 : Nat} {ret1 : Option FieldType} {As : List Value} {a nn : Nat} {st0 : List Value}
/-- a call on a string -/
theorem v_gcallO (hC : Cx X p s m args meth c own cc nL ret) (hSs : S s) (hSt : Stab X S) (hM : Mg X S l y bytes maxL ret1 fr lo mc ms (.ref a :: As) n K F G P) (hq : qV own index RJ0 y bytes maxL ret1) (ha : va_O "java/lang/String" a (Aft X) s s.heap) (hd : y.cls = RJ0 ∧ y.cls ≠ "java/lang/invoke/MethodHandle" ∧ y.cls ≠ "java/lang/invoke/VarHandle" ∧ (parseMethodDescriptor y.desc).map (fun d => d.parameters.length) = some nn) (hnn : As.length = nn) (hst0 : st0 = As.reverse ++ .ref a :: st) (hrf : fr + 1 ≤ R.frames) (hrl : 8 + (maxL + 11) + lo ≤ R.locals) (hrc : cells + mc ≤ R.cells) (hrs : slots + ms ≤ R.slots) (hc2 : cells + mc ≤ c2) (hs2 : slots + ms ≤ s2) (hst : (st.map fun v => v.category).sum ≤ 8) (hdg : decode cc pc = .ok (.invokevirtual index, 3))
     (kk : ∀ (o : Option Value) (n' : Nat) (K' : Kt) (F' : Ft) (G' : Gt), P o n' K' F' G' → V X nL p l e R s m args below meth c Q c2 s2 n' K' F' G' lv (pc + 3) (o.toList ++ st)) : V X nL p l e R s m args below meth c Q cells slots n K F G lv pc st0 := by
  intro H locs ls h1 h2 h3
  refine v_rafter (va_runV (C := RJ0) (As := As) (rest := st) hC.fix hM (cwV nn hC.hts hq.good rfl rfl rfl hd ⟨hrf, hrl⟩) ⟨Wd.blindg hSt, ?_, fun U hU hW => ⟨rfl, Wd.of hC h1 h2 hU hW, hSt.1 s U H locs hSs h2 hU hW⟩⟩ rfl hnn h3.1 hst0 (lv_room hst) hdg ⟨hrc, hrs⟩) h2 h3 hc2 hs2 kk
  obtain ⟨cell, g1, g2, g3, -⟩ := ha.kept h2.2.1
  exact ⟨cell, g1, g2, g3⟩
end
theorem v_sgetf (hC : Cx X p s m args meth c own cc nL ret) {o1 n1 d1 : String} {index q : Nat} {v : Value} (hE : va_OF o1 n1 d1 v q (Aft X) s s.heap) (hlink : Cond.fieldLink own index o1 n1 d1 ∈ Al) (hdg : decode cc pc = .ok (.getfield index, 3)) (kk : V X nL p l e R s m args below meth c Q cells slots n K F G lv (pc + 3) (v :: st)) : V X nL p l e R s m args below meth c Q cells slots n K F G lv pc (.ref q :: st) := fun H locs ls h1 h2 h3 =>
  vk_getf hC.hx hC.hb hE h2 hC.hown (hC.hts _ hlink) (fun _ h => h) hdg (kk H locs ls h1 h2 h3)
theorem v_salen (hC : Cx X p s m args meth c own cc nL ret) {t N : Nat} {f : Nat → Int32} (hT : va_T .byte t N (fun j => .int (f j)) (Aft X) s s.heap) (hdg : decode cc pc = .ok (.arraylength, 1)) (kk : V X nL p l e R s m args below meth c Q cells slots n K F G lv (pc + 1) (.int (nI N) :: st)) : V X nL p l e R s m args below meth c Q cells slots n K F G lv pc (.ref t :: st) := fun H locs ls h1 h2 h3 =>
  va_tlen hC.hx hC.hb hT h2 rfl hdg (kk H locs ls h1 h2 h3)
theorem src_str {t N : Nat} {f : Nat → Int32} (hT : va_T .byte t N (fun j => .int (f j)) (Aft X) s s.heap) : ∀ (H : Heap) (locs : List Loc), Hd X n K F G H → va_S (Aft X) s.heap H locs → ∃ scr : Cell, H[t]? = some scr ∧ s.isArrayOf scr .byte ∧ scr.vm ≠ .unknown ∧ N ≤ scr.slots.size ∧ ∀ j, j < N → scr.slots[j]? = some (.int (f j)) := by
  intro H locs _ h2
  obtain ⟨scr, g1, g2, g3, g4, -, g6, -⟩ := hT.kept h2.2.1
  exact ⟨scr, g1, g2, g3, g4, g6⟩
end
variable {X : Xt}
theorem Sbf.by {K0 K : Kt} {F0 F F' : Ft} {G0 G : Gt} {q len cap arr : Nat} (h : Sbf K0 F0 G0 K F G q len cap) (hg : G q 0 = some arr) (hB : By F F' arr) : Sbf K0 F0 G0 K F' G q len cap := by
  obtain ⟨h1, h2, h3, h4, h5, h6, h7, arr1, h8, h9, h10, h11⟩ := h
  have e : arr1 = arr := Option.some.inj (h8.symm.trans hg)
  subst e
  have hqa : q ≠ arr1 := fun e => by rw [e, h10] at h3; cases h3
  refine ⟨fun x hx => ?_, h2, h3, by rw [hB.1 q hqa]; exact h4, by rw [hB.1 q hqa]; exact h5, h6, h7, arr1, h8, h9, h10, hB.2⟩
  obtain ⟨g1, g2, g3⟩ := h1 x hx
  exact ⟨g1, (hB.1 x (fun e => hx (by rw [e]; exact h9))).trans g2, g3⟩
theorem aw_656 : Cond.methodLink RJ0 212 arraycopyName ∈ Al := al_in (i := 656) (by decide +kernel) (by decide +kernel)
theorem hdS_J5_append_c97b9 : yJ5_append_c97b9.cls ≠ "java/lang/invoke/MethodHandle" ∧ yJ5_append_c97b9.cls ≠ "java/lang/invoke/VarHandle" ∧ (parseMethodDescriptor yJ5_append_c97b9.desc).map (fun d => d.parameters.length) = some 1 := by decide +kernel
theorem hdV_J5_append_c97b9 : yJ5_append_c97b9.cls = RJ5 ∧ yJ5_append_c97b9.cls ≠ "java/lang/invoke/MethodHandle" ∧ yJ5_append_c97b9.cls ≠ "java/lang/invoke/VarHandle" ∧ (parseMethodDescriptor yJ5_append_c97b9.desc).map (fun d => d.parameters.length) = some 1 := by decide +kernel
theorem hdS_J4_append_bf812 : yJ4_append_bf812.cls ≠ "java/lang/invoke/MethodHandle" ∧ yJ4_append_bf812.cls ≠ "java/lang/invoke/VarHandle" ∧ (parseMethodDescriptor yJ4_append_bf812.desc).map (fun d => d.parameters.length) = some 1 := by decide +kernel
theorem hdV_J4_append_bf812 : yJ4_append_bf812.cls = RJ4 ∧ yJ4_append_bf812.cls ≠ "java/lang/invoke/MethodHandle" ∧ yJ4_append_bf812.cls ≠ "java/lang/invoke/VarHandle" ∧ (parseMethodDescriptor yJ4_append_bf812.desc).map (fun d => d.parameters.length) = some 1 := by decide +kernel
theorem hdS_J1_canEncode_fc78d : yJ1_canEncode_fc78d.cls ≠ "java/lang/invoke/MethodHandle" ∧ yJ1_canEncode_fc78d.cls ≠ "java/lang/invoke/VarHandle" ∧ (parseMethodDescriptor yJ1_canEncode_fc78d.desc).map (fun d => d.parameters.length) = some 1 := by decide +kernel
theorem hdV_J1_canEncode_fc78d : yJ1_canEncode_fc78d.cls = RJ1 ∧ yJ1_canEncode_fc78d.cls ≠ "java/lang/invoke/MethodHandle" ∧ yJ1_canEncode_fc78d.cls ≠ "java/lang/invoke/VarHandle" ∧ (parseMethodDescriptor yJ1_canEncode_fc78d.desc).map (fun d => d.parameters.length) = some 1 := by decide +kernel
theorem hdS_J5_append_3fe6f : yJ5_append_3fe6f.cls ≠ "java/lang/invoke/MethodHandle" ∧ yJ5_append_3fe6f.cls ≠ "java/lang/invoke/VarHandle" ∧ (parseMethodDescriptor yJ5_append_3fe6f.desc).map (fun d => d.parameters.length) = some 1 := by decide +kernel
theorem hdV_J5_append_3fe6f : yJ5_append_3fe6f.cls = RJ5 ∧ yJ5_append_3fe6f.cls ≠ "java/lang/invoke/MethodHandle" ∧ yJ5_append_3fe6f.cls ≠ "java/lang/invoke/VarHandle" ∧ (parseMethodDescriptor yJ5_append_3fe6f.desc).map (fun d => d.parameters.length) = some 1 := by decide +kernel
theorem hdS_J4_append_cf468 : yJ4_append_cf468.cls ≠ "java/lang/invoke/MethodHandle" ∧ yJ4_append_cf468.cls ≠ "java/lang/invoke/VarHandle" ∧ (parseMethodDescriptor yJ4_append_cf468.desc).map (fun d => d.parameters.length) = some 1 := by decide +kernel
theorem hdV_J4_append_cf468 : yJ4_append_cf468.cls = RJ4 ∧ yJ4_append_cf468.cls ≠ "java/lang/invoke/MethodHandle" ∧ yJ4_append_cf468.cls ≠ "java/lang/invoke/VarHandle" ∧ (parseMethodDescriptor yJ4_append_cf468.desc).map (fun d => d.parameters.length) = some 1 := by decide +kernel
theorem hdS_J0_coder_7d493 : yJ0_coder_7d493.cls ≠ "java/lang/invoke/MethodHandle" ∧ yJ0_coder_7d493.cls ≠ "java/lang/invoke/VarHandle" ∧ (parseMethodDescriptor yJ0_coder_7d493.desc).map (fun d => d.parameters.length) = some 0 := by decide +kernel
theorem hdV_J0_coder_7d493 : yJ0_coder_7d493.cls = RJ0 ∧ yJ0_coder_7d493.cls ≠ "java/lang/invoke/MethodHandle" ∧ yJ0_coder_7d493.cls ≠ "java/lang/invoke/VarHandle" ∧ (parseMethodDescriptor yJ0_coder_7d493.desc).map (fun d => d.parameters.length) = some 0 := by decide +kernel
theorem hdS_J0_length_8abf5 : yJ0_length_8abf5.cls ≠ "java/lang/invoke/MethodHandle" ∧ yJ0_length_8abf5.cls ≠ "java/lang/invoke/VarHandle" ∧ (parseMethodDescriptor yJ0_length_8abf5.desc).map (fun d => d.parameters.length) = some 0 := by decide +kernel
theorem hdV_J0_length_8abf5 : yJ0_length_8abf5.cls = RJ0 ∧ yJ0_length_8abf5.cls ≠ "java/lang/invoke/MethodHandle" ∧ yJ0_length_8abf5.cls ≠ "java/lang/invoke/VarHandle" ∧ (parseMethodDescriptor yJ0_length_8abf5.desc).map (fun d => d.parameters.length) = some 0 := by decide +kernel
theorem hdS_J0_getBytes_840e7 : yJ0_getBytes_840e7.cls ≠ "java/lang/invoke/MethodHandle" ∧ yJ0_getBytes_840e7.cls ≠ "java/lang/invoke/VarHandle" ∧ (parseMethodDescriptor yJ0_getBytes_840e7.desc).map (fun d => d.parameters.length) = some 3 := by decide +kernel
theorem hdV_J0_getBytes_840e7 : yJ0_getBytes_840e7.cls = RJ0 ∧ yJ0_getBytes_840e7.cls ≠ "java/lang/invoke/MethodHandle" ∧ yJ0_getBytes_840e7.cls ≠ "java/lang/invoke/VarHandle" ∧ (parseMethodDescriptor yJ0_getBytes_840e7.desc).map (fun d => d.parameters.length) = some 3 := by decide +kernel
theorem hdS_J5_inflateIfNeededFor_a7421 : yJ5_inflateIfNeededFor_a7421.cls ≠ "java/lang/invoke/MethodHandle" ∧ yJ5_inflateIfNeededFor_a7421.cls ≠ "java/lang/invoke/VarHandle" ∧ (parseMethodDescriptor yJ5_inflateIfNeededFor_a7421.desc).map (fun d => d.parameters.length) = some 1 := by decide +kernel
theorem hdV_J5_inflateIfNeededFor_a7421 : yJ5_inflateIfNeededFor_a7421.cls = RJ5 ∧ yJ5_inflateIfNeededFor_a7421.cls ≠ "java/lang/invoke/MethodHandle" ∧ yJ5_inflateIfNeededFor_a7421.cls ≠ "java/lang/invoke/VarHandle" ∧ (parseMethodDescriptor yJ5_inflateIfNeededFor_a7421.desc).map (fun d => d.parameters.length) = some 1 := by decide +kernel
theorem hdS_J5_putStringAt_47b60 : yJ5_putStringAt_47b60.cls ≠ "java/lang/invoke/MethodHandle" ∧ yJ5_putStringAt_47b60.cls ≠ "java/lang/invoke/VarHandle" ∧ (parseMethodDescriptor yJ5_putStringAt_47b60.desc).map (fun d => d.parameters.length) = some 2 := by decide +kernel
theorem hdV_J5_putStringAt_47b60 : yJ5_putStringAt_47b60.cls = RJ5 ∧ yJ5_putStringAt_47b60.cls ≠ "java/lang/invoke/MethodHandle" ∧ yJ5_putStringAt_47b60.cls ≠ "java/lang/invoke/VarHandle" ∧ (parseMethodDescriptor yJ5_putStringAt_47b60.desc).map (fun d => d.parameters.length) = some 2 := by decide +kernel
theorem hdS_J5_append_cf1ce : yJ5_append_cf1ce.cls ≠ "java/lang/invoke/MethodHandle" ∧ yJ5_append_cf1ce.cls ≠ "java/lang/invoke/VarHandle" ∧ (parseMethodDescriptor yJ5_append_cf1ce.desc).map (fun d => d.parameters.length) = some 1 := by decide +kernel
theorem hdV_J5_append_cf1ce : yJ5_append_cf1ce.cls = RJ5 ∧ yJ5_append_cf1ce.cls ≠ "java/lang/invoke/MethodHandle" ∧ yJ5_append_cf1ce.cls ≠ "java/lang/invoke/VarHandle" ∧ (parseMethodDescriptor yJ5_append_cf1ce.desc).map (fun d => d.parameters.length) = some 1 := by decide +kernel
theorem hdS_J4_append_15ec4 : yJ4_append_15ec4.cls ≠ "java/lang/invoke/MethodHandle" ∧ yJ4_append_15ec4.cls ≠ "java/lang/invoke/VarHandle" ∧ (parseMethodDescriptor yJ4_append_15ec4.desc).map (fun d => d.parameters.length) = some 1 := by decide +kernel
theorem hdV_J4_append_15ec4 : yJ4_append_15ec4.cls = RJ4 ∧ yJ4_append_15ec4.cls ≠ "java/lang/invoke/MethodHandle" ∧ yJ4_append_15ec4.cls ≠ "java/lang/invoke/VarHandle" ∧ (parseMethodDescriptor yJ4_append_15ec4.desc).map (fun d => d.parameters.length) = some 1 := by decide +kernel
set_option maxRecDepth 100000 in
set_option maxHeartbeats 4000000 in
theorem m_J5_append_c97b9 (l : Launch) {n : Nat} {K : Kt} {F : Ft} {G : Gt} {K0 : Kt} {F0 : Ft} {G0 : Gt} {q len cap : Nat} (hS : Sbf K0 F0 G0 K F G q len cap) {v : Int32} (hb : len + ssz v ≤ 286) : Mr X l yJ5_append_c97b9 cJ5_append_c97b9 4 (some (.object "java/lang/AbstractStringBuilder")) 4 200 (eC cap (len + ssz v)) (eS cap (len + ssz v)) [.ref q, .int v] n K F G (fun o n' K' F' G' => o = some (.ref q) ∧ Sbf K0 F0 G0 K' F' G' q (len + ssz v) (gw cap (len + ssz v))) := by
  have hz := ssz_b v
  obtain ⟨k1, k2, k3, k4, k5⟩ := gw_ok (m := len + ssz v) hS.2.2.2.2.2.2.1 hS.2.2.2.2.2.1 (by omega) hb
  obtain ⟨b1, b2⟩ := capS_b hS.2.2.2.2.2.2.1
  refine Mr.of (lv := [(0, .ref q), (1, .int v)]) (by decide) (Nat.le_of_ble_eq_true rfl) rfl ?_
  intro p e s m args below meth c Q hC hin hQ
  have hC : Cx X p s m args meth c RJ5 cJ5_append_c97b9 4 (some (.object "java/lang/AbstractStringBuilder")) := hC
  refine v_aload_n hC dJ5_append_c97b9_0 rfl 0 rfl ?_
  refine gz79 hC hS.2.2.1 hS.2.2.2.2.1 dJ5_append_c97b9_1 ?_
  refine v_istore_n (i := 2) (lv' := [(2, .int (nI len)), (0, .ref q), (1, .int v)]) hC dJ5_append_c97b9_4 rfl (by decide) rfl ?_
  refine v_iload_n hC dJ5_append_c97b9_5 rfl 0 rfl ?_
  refine v_iload_n hC dJ5_append_c97b9_6 rfl 2 rfl ?_
  refine v_callS (c2 := 0) (s2 := 0) (As := [.int v]) hC (m_J6_stringSize_0f7a4 l) q_J5_245 hdS_J6_stringSize_0f7a4 rfl rfl (Nat.le_of_ble_eq_true rfl) (Nat.le_of_ble_eq_true rfl) (Nat.zero_le _) (Nat.zero_le _) (Nat.le_of_ble_eq_true rfl) (Nat.le_of_ble_eq_true rfl) (Nat.le_of_ble_eq_true rfl) dJ5_append_c97b9_7 ?_
  refine v_iadd hC dJ5_append_c97b9_10 ?_
  refine v_cst (congrArg Value.int (nI_add _ _)) ?_
  refine v_istore_n (i := 3) (lv' := [(3, .int (nI (len + ssz v))), (2, .int (nI len)), (0, .ref q), (1, .int v)]) hC dJ5_append_c97b9_11 rfl (by decide) rfl ?_
  refine v_aload_n hC dJ5_append_c97b9_12 rfl 2 rfl ?_
  refine v_iload_n hC dJ5_append_c97b9_13 rfl 0 rfl ?_
  refine v_gcallP (S := Tr) (c2 := 0 + eC cap (len + ssz v)) (s2 := 0 + eS cap (len + ssz v)) (As := [.int (nI (len + ssz v))]) hC trivial Tr_st (m_J5_ensureCapacityInternal_d00df l hS (by omega) hb).g qp_100 hS.2.2.1 ⟨hdS_J5_ensureCapacityInternal_d00df.1, hdS_J5_ensureCapacityInternal_d00df.2⟩ rfl rfl (Nat.le_of_ble_eq_true rfl) (Nat.le_of_ble_eq_true rfl) (by show 0 + eC cap (len + ssz v) ≤ eC cap (len + ssz v); omega) (by show 0 + eS cap (len + ssz v) ≤ eS cap (len + ssz v); omega) (Nat.le_refl _) (Nat.le_refl _) (Nat.le_of_ble_eq_true rfl) dJ5_append_c97b9_14 (fun o1 n1 K1 F1 G1 hP => ?_)
  obtain ⟨rfl, S1⟩ := hP
  obtain ⟨arr, j8, j9, j10, j11⟩ := S1.2.2.2.2.2.2.2
  refine v_aload_n hC dJ5_append_c97b9_17 rfl 2 rfl ?_
  refine v_gcallP (S := Tr) (c2 := eC cap (len + ssz v)) (s2 := eS cap (len + ssz v)) (As := []) hC trivial Tr_st (m_J5_isLatin1_aae02 l S1.2.2.1 S1.2.2.2.1).mr.g qp_83 S1.2.2.1 ⟨hdS_J5_isLatin1_aae02.1, hdS_J5_isLatin1_aae02.2⟩ rfl rfl (Nat.le_of_ble_eq_true rfl) (Nat.le_of_ble_eq_true rfl) (by show 0 + eC cap (len + ssz v) + 0 ≤ eC cap (len + ssz v); omega) (by show 0 + eS cap (len + ssz v) + 0 ≤ eS cap (len + ssz v); omega) (by omega) (by omega) (Nat.le_of_ble_eq_true rfl) dJ5_append_c97b9_18 (fun o2 n2 K2 F2 G2 hP => ?_)
  obtain ⟨rfl, rfl, rfl, rfl, rfl⟩ := hP
  refine v_if_eq (tgt := 37) hC dJ5_append_c97b9_21 (by decide) (fun q => absurd q (by decide)) (fun _ => ?_)
  refine v_iload_n hC dJ5_append_c97b9_24 rfl 3 rfl ?_
  refine v_iload_n hC dJ5_append_c97b9_25 rfl 0 rfl ?_
  refine v_aload_n hC dJ5_append_c97b9_26 rfl 2 rfl ?_
  refine gf_J5_15 (q := arr) hC S1.2.2.1 j8 dJ5_append_c97b9_27 ?_
  have b3 := capS_b k1
  refine v_rcallS (c2 := eC cap (len + ssz v)) (s2 := eS cap (len + ssz v)) (As := [.int v, .int (nI (len + ssz v)), .ref arr]) hC (m_J6_getChars_ba4f3 l j10 (by omega) (by omega) k2 j11) q_J5_248 hdS_J6_getChars_ba4f3 rfl rfl (Nat.le_of_ble_eq_true rfl) (Nat.le_of_ble_eq_true rfl) (Nat.le_refl _) (Nat.le_refl _) (Nat.le_refl _) (Nat.le_refl _) (Nat.le_of_ble_eq_true rfl) dJ5_append_c97b9_30 (fun o3 n3 K3 F3 G3 hP => ?_)
  obtain ⟨⟨i, rfl⟩, rfl, rfl, rfl, hB⟩ := hP
  have S2 := S1.by j8 hB
  refine v_pop hC dJ5_append_c97b9_33 rfl ?_
  refine v_goto (tgt := 48) hC dJ5_append_c97b9_34 (by decide) ?_
  refine v_aload_n hC dJ5_append_c97b9_48 rfl 2 rfl ?_
  refine v_iload_n hC dJ5_append_c97b9_49 rfl 0 rfl ?_
  refine pf_J5_79 hC S2.2.2.1 dJ5_append_c97b9_50 ?_
  refine v_aload_n hC dJ5_append_c97b9_53 rfl 2 rfl ?_
  refine v_toC (o := some (.ref q)) hQ ⟨rfl, S2.cnt k2⟩ ?_
  exact v_aret hC rfl (Or.inl ⟨_, rfl⟩) rfl dJ5_append_c97b9_54 rfl rfl rfl rfl rfl
set_option maxRecDepth 100000 in
set_option maxHeartbeats 4000000 in
theorem m_J4_append_bf812 (l : Launch) {n : Nat} {K : Kt} {F : Ft} {G : Gt} {K0 : Kt} {F0 : Ft} {G0 : Gt} {q len cap : Nat} (hS : Sbf K0 F0 G0 K F G q len cap) {v : Int32} (hb : len + ssz v ≤ 286) : Mr X l yJ4_append_bf812 cJ4_append_bf812 2 (some (.object "java/lang/StringBuilder")) 5 230 (eC cap (len + ssz v)) (eS cap (len + ssz v)) [.ref q, .int v] n K F G (fun o n' K' F' G' => o = some (.ref q) ∧ Sbf K0 F0 G0 K' F' G' q (len + ssz v) (gw cap (len + ssz v))) := by
  refine Mr.of (lv := [(0, .ref q), (1, .int v)]) (by decide) (Nat.le_of_ble_eq_true rfl) rfl ?_
  intro p e s m args below meth c Q hC hin hQ
  have hC : Cx X p s m args meth c RJ4 cJ4_append_bf812 2 (some (.object "java/lang/StringBuilder")) := hC
  refine v_aload_n hC dJ4_append_bf812_0 rfl 0 rfl ?_
  refine v_iload_n hC dJ4_append_bf812_1 rfl 1 rfl ?_
  refine v_gcallU (S := Tr) (c2 := eC cap (len + ssz v)) (s2 := eS cap (len + ssz v)) (As := [.int v]) hC trivial Tr_st (m_J5_append_c97b9 l hS hb).g qu_53 hS.2.2.1 ⟨by decide, hdS_J5_append_c97b9.2.2⟩ rfl rfl (Nat.le_of_ble_eq_true rfl) (Nat.le_of_ble_eq_true rfl) (by show 0 + eC cap (len + ssz v) ≤ eC cap (len + ssz v); omega) (by show 0 + eS cap (len + ssz v) ≤ eS cap (len + ssz v); omega) (by omega) (by omega) (Nat.le_of_ble_eq_true rfl) dJ4_append_bf812_2 (fun o1 n1 K1 F1 G1 hP => ?_)
  obtain ⟨rfl, S1⟩ := hP
  refine v_pop hC dJ4_append_bf812_5 rfl ?_
  refine v_aload_n hC dJ4_append_bf812_6 rfl 0 rfl ?_
  refine v_toC (o := some (.ref q)) hQ ⟨rfl, S1⟩ ?_
  exact v_aret hC rfl (Or.inl ⟨_, rfl⟩) rfl dJ4_append_bf812_7 rfl rfl rfl rfl rfl
set_option maxRecDepth 100000 in
set_option maxHeartbeats 4000000 in
theorem m_J1_canEncode_fc78d (l : Launch) {n : Nat} {K : Kt} {F : Ft} {G : Gt} {v : Int32} (hv : ¬ 255 < v) : Mw X l yJ1_canEncode_fc78d cJ1_canEncode_fc78d 1 (some .boolean) 0 0 0 0 [.int v] n K F G (some (.int 1)) n K F G := by
  refine Mw.of (lv := [(0, .int v)]) (by decide) (Nat.le_of_ble_eq_true rfl) rfl ?_
  intro p e s m args below meth c Q hC hin hQ
  have hC : Cx X p s m args meth c RJ1 cJ1_canEncode_fc78d 1 (some .boolean) := hC
  refine v_iload_n hC dJ1_canEncode_fc78d_0 rfl 0 rfl ?_
  refine v_sipush (v := 255) hC dJ1_canEncode_fc78d_1 (by decide) ?_
  refine v_icmp_gt (tgt := 11) hC dJ1_canEncode_fc78d_4 (by decide) (fun q => absurd q hv) (fun _ => ?_)
  refine v_iconst (v := 1) hC dJ1_canEncode_fc78d_7 (by decide) ?_
  refine v_goto (tgt := 12) hC dJ1_canEncode_fc78d_8 (by decide) ?_
  exact v_zret hC rfl rfl hQ dJ1_canEncode_fc78d_12 rfl rfl rfl rfl rfl
set_option maxRecDepth 100000 in
set_option maxHeartbeats 4000000 in
theorem m_J5_append_3fe6f (l : Launch) {n : Nat} {K : Kt} {F : Ft} {G : Gt} {K0 : Kt} {F0 : Ft} {G0 : Gt} {q len cap : Nat} (hS : Sbf K0 F0 G0 K F G q len cap) {v : Int32} (hv : ¬ 255 < v) (hb : len + 1 ≤ 286) : Mr X l yJ5_append_3fe6f cJ5_append_3fe6f 2 (some (.object "java/lang/AbstractStringBuilder")) 4 200 (eC cap (len + 1)) (eS cap (len + 1)) [.ref q, .int v] n K F G (fun o n' K' F' G' => o = some (.ref q) ∧ Sbf K0 F0 G0 K' F' G' q (len + 1) (gw cap (len + 1))) := by
  obtain ⟨k1, k2, k3, k4, k5⟩ := gw_ok (m := len + 1) hS.2.2.2.2.2.2.1 hS.2.2.2.2.2.1 (by omega) hb
  obtain ⟨b1, b2⟩ := capS_b hS.2.2.2.2.2.2.1
  refine Mr.of (lv := [(0, .ref q), (1, .int v)]) (by decide) (Nat.le_of_ble_eq_true rfl) rfl ?_
  intro p e s m args below meth c Q hC hin hQ
  have hC : Cx X p s m args meth c RJ5 cJ5_append_3fe6f 2 (some (.object "java/lang/AbstractStringBuilder")) := hC
  refine v_aload_n hC dJ5_append_3fe6f_0 rfl 0 rfl ?_
  refine v_aload_n hC dJ5_append_3fe6f_1 rfl 0 rfl ?_
  refine gz79 hC hS.2.2.1 hS.2.2.2.2.1 dJ5_append_3fe6f_2 ?_
  refine v_iconst (v := nI 1) hC dJ5_append_3fe6f_5 (by decide) ?_
  refine v_iadd hC dJ5_append_3fe6f_6 ?_
  refine v_cst (congrArg Value.int (nI_add _ _)) ?_
  refine v_gcallP (S := Tr) (c2 := 0 + eC cap (len + 1)) (s2 := 0 + eS cap (len + 1)) (As := [.int (nI (len + 1))]) hC trivial Tr_st (m_J5_ensureCapacityInternal_d00df l hS (by omega) hb).g qp_100 hS.2.2.1 ⟨hdS_J5_ensureCapacityInternal_d00df.1, hdS_J5_ensureCapacityInternal_d00df.2⟩ rfl rfl (Nat.le_of_ble_eq_true rfl) (Nat.le_of_ble_eq_true rfl) (by show 0 + eC cap (len + 1) ≤ eC cap (len + 1); omega) (by show 0 + eS cap (len + 1) ≤ eS cap (len + 1); omega) (Nat.le_refl _) (Nat.le_refl _) (Nat.le_of_ble_eq_true rfl) dJ5_append_3fe6f_7 (fun o1 n1 K1 F1 G1 hP => ?_)
  obtain ⟨rfl, S1⟩ := hP
  obtain ⟨arr, j8, j9, j10, j11⟩ := S1.2.2.2.2.2.2.2
  have b3 := capS_b k1
  refine v_aload_n hC dJ5_append_3fe6f_10 rfl 0 rfl ?_
  refine v_gcallP (S := Tr) (c2 := eC cap (len + 1)) (s2 := eS cap (len + 1)) (As := []) hC trivial Tr_st (m_J5_isLatin1_aae02 l S1.2.2.1 S1.2.2.2.1).mr.g qp_83 S1.2.2.1 ⟨hdS_J5_isLatin1_aae02.1, hdS_J5_isLatin1_aae02.2⟩ rfl rfl (Nat.le_of_ble_eq_true rfl) (Nat.le_of_ble_eq_true rfl) (by show 0 + eC cap (len + 1) + 0 ≤ eC cap (len + 1); omega) (by show 0 + eS cap (len + 1) + 0 ≤ eS cap (len + 1); omega) (by omega) (by omega) (Nat.le_of_ble_eq_true rfl) dJ5_append_3fe6f_11 (fun o2 n2 K2 F2 G2 hP => ?_)
  obtain ⟨rfl, rfl, rfl, rfl, rfl⟩ := hP
  refine v_if_eq (tgt := 45) hC dJ5_append_3fe6f_14 (by decide) (fun q => absurd q (by decide)) (fun _ => ?_)
  refine v_iload_n hC dJ5_append_3fe6f_17 rfl 1 rfl ?_
  refine v_callS (c2 := eC cap (len + 1)) (s2 := eS cap (len + 1)) (As := [.int v]) hC (m_J1_canEncode_fc78d l hv) q_J5_191 hdS_J1_canEncode_fc78d rfl rfl (Nat.le_of_ble_eq_true rfl) (Nat.le_of_ble_eq_true rfl) (Nat.le_refl _) (Nat.le_refl _) (Nat.le_refl _) (Nat.le_refl _) (Nat.le_of_ble_eq_true rfl) dJ5_append_3fe6f_18 ?_
  refine v_if_eq (tgt := 45) hC dJ5_append_3fe6f_21 (by decide) (fun q => absurd q (by decide)) (fun _ => ?_)
  refine v_aload_n hC dJ5_append_3fe6f_24 rfl 0 rfl ?_
  refine gf_J5_15 (q := arr) hC S1.2.2.1 j8 dJ5_append_3fe6f_25 ?_
  refine v_aload_n hC dJ5_append_3fe6f_28 rfl 0 rfl ?_
  refine v_dup hC dJ5_append_3fe6f_29 rfl ?_
  refine gz79 hC S1.2.2.1 S1.2.2.2.2.1 dJ5_append_3fe6f_30 ?_
  refine v_dup_x1 hC dJ5_append_3fe6f_33 rfl rfl ?_
  refine v_iconst (v := nI 1) hC dJ5_append_3fe6f_34 (by decide) ?_
  refine v_iadd hC dJ5_append_3fe6f_35 ?_
  refine v_cst (congrArg Value.int (nI_add _ _)) ?_
  refine pf_J5_79 hC S1.2.2.1 dJ5_append_3fe6f_36 ?_
  have S2 := S1.cnt k2
  refine v_iload_n hC dJ5_append_3fe6f_39 rfl 1 rfl ?_
  refine v_i2b hC dJ5_append_3fe6f_40 ?_
  refine v_bast (N := gw cap (len + 1)) hC j10 (nI_in (by omega) (by omega)) dJ5_append_3fe6f_41 ?_
  have hqa : arr ≠ q := fun e => by have := S1.2.2.1; rw [← e, j10] at this; cases this
  have S3 := S2.by j8 ((By.rf (by rw [up2_a _ _ hqa]; exact j11)).up (i := (nI len).toNatClampNeg) (x := v.toInt8.toInt32))
  refine v_goto (tgt := 75) hC dJ5_append_3fe6f_42 (by decide) ?_
  refine v_aload_n hC dJ5_append_3fe6f_75 rfl 0 rfl ?_
  refine v_toC (o := some (.ref q)) hQ ⟨rfl, S3⟩ ?_
  refine v_widen (k2 := eC cap (len + 1)) (n2 := eS cap (len + 1)) (by omega) (by omega) ?_
  exact v_aret hC rfl (Or.inl ⟨_, rfl⟩) rfl dJ5_append_3fe6f_76 rfl rfl rfl rfl rfl
set_option maxRecDepth 100000 in
set_option maxHeartbeats 4000000 in
theorem m_J4_append_cf468 (l : Launch) {n : Nat} {K : Kt} {F : Ft} {G : Gt} {K0 : Kt} {F0 : Ft} {G0 : Gt} {q len cap : Nat} (hS : Sbf K0 F0 G0 K F G q len cap) {v : Int32} (hv : ¬ 255 < v) (hb : len + 1 ≤ 286) : Mr X l yJ4_append_cf468 cJ4_append_cf468 2 (some (.object "java/lang/StringBuilder")) 5 230 (eC cap (len + 1)) (eS cap (len + 1)) [.ref q, .int v] n K F G (fun o n' K' F' G' => o = some (.ref q) ∧ Sbf K0 F0 G0 K' F' G' q (len + 1) (gw cap (len + 1))) := by
  refine Mr.of (lv := [(0, .ref q), (1, .int v)]) (by decide) (Nat.le_of_ble_eq_true rfl) rfl ?_
  intro p e s m args below meth c Q hC hin hQ
  have hC : Cx X p s m args meth c RJ4 cJ4_append_cf468 2 (some (.object "java/lang/StringBuilder")) := hC
  refine v_aload_n hC dJ4_append_cf468_0 rfl 0 rfl ?_
  refine v_iload_n hC dJ4_append_cf468_1 rfl 1 rfl ?_
  refine v_gcallU (S := Tr) (c2 := eC cap (len + 1)) (s2 := eS cap (len + 1)) (As := [.int v]) hC trivial Tr_st (m_J5_append_3fe6f l hS hv hb).g qu_50 hS.2.2.1 ⟨by decide, hdS_J5_append_3fe6f.2.2⟩ rfl rfl (Nat.le_of_ble_eq_true rfl) (Nat.le_of_ble_eq_true rfl) (by show 0 + eC cap (len + 1) ≤ eC cap (len + 1); omega) (by show 0 + eS cap (len + 1) ≤ eS cap (len + 1); omega) (by omega) (by omega) (Nat.le_of_ble_eq_true rfl) dJ4_append_cf468_2 (fun o1 n1 K1 F1 G1 hP => ?_)
  obtain ⟨rfl, S1⟩ := hP
  refine v_pop hC dJ4_append_cf468_5 rfl ?_
  refine v_aload_n hC dJ4_append_cf468_6 rfl 0 rfl ?_
  refine v_toC (o := some (.ref q)) hQ ⟨rfl, S1⟩ ?_
  exact v_aret hC rfl (Or.inl ⟨_, rfl⟩) rfl dJ4_append_cf468_7 rfl rfl rfl rfl rfl
set_option maxRecDepth 100000 in
set_option maxHeartbeats 4000000 in
theorem m_J0_coder_7d493 (l : Launch) {n : Nat} {K : Kt} {F : Ft} {G : Gt} {sa V0 w : Nat} {f : Nat → Int32} : Mg X (Sx X sa V0 w f) l yJ0_coder_7d493 cJ0_coder_7d493 1 (some .byte) 0 0 0 0 [.ref sa] n K F G (fun o n' K' F' G' => o = some (.int 0) ∧ n' = n ∧ K' = K ∧ F' = F ∧ G' = G) := by
  refine Mg.of (lv := [(0, .ref sa)]) (by decide) (Nat.le_of_ble_eq_true rfl) rfl ?_
  intro p e s m args below meth c Q hC hin hSs hQ
  have hC : Cx X p s m args meth c RJ0 cJ0_coder_7d493 1 (some .byte) := hC
  refine v_getsC hC aw_623 dJ0_coder_7d493_0 ?_
  refine v_if_eq (tgt := 13) hC dJ0_coder_7d493_3 (by decide) (fun q => absurd q (by decide)) (fun _ => ?_)
  refine v_aload_n hC dJ0_coder_7d493_6 rfl 0 rfl ?_
  refine v_sgetf hC hSs.2.1 aw_733 dJ0_coder_7d493_7 ?_
  refine v_goto (tgt := 14) hC dJ0_coder_7d493_10 (by decide) ?_
  refine v_toC (o := some (.int 0)) hQ ⟨rfl, rfl, rfl, rfl, rfl⟩ ?_
  exact v_zret hC rfl rfl rfl dJ0_coder_7d493_14 rfl rfl rfl rfl rfl
set_option maxRecDepth 100000 in
set_option maxHeartbeats 4000000 in
theorem m_J0_length_8abf5 (l : Launch) {n : Nat} {K : Kt} {F : Ft} {G : Gt} {sa V0 w : Nat} {f : Nat → Int32} : Mg X (Sx X sa V0 w f) l yJ0_length_8abf5 cJ0_length_8abf5 1 (some .int) 1 40 0 0 [.ref sa] n K F G (fun o n' K' F' G' => o = some (.int (nI w)) ∧ n' = n ∧ K' = K ∧ F' = F ∧ G' = G) := by
  refine Mg.of (lv := [(0, .ref sa)]) (by decide) (Nat.le_of_ble_eq_true rfl) rfl ?_
  intro p e s m args below meth c Q hC hin hSs hQ
  have hC : Cx X p s m args meth c RJ0 cJ0_length_8abf5 1 (some .int) := hC
  refine v_aload_n hC dJ0_length_8abf5_0 rfl 0 rfl ?_
  refine v_sgetf hC hSs.2.2.1 aw_732 dJ0_length_8abf5_1 ?_
  refine v_salen hC hSs.2.2.2 dJ0_length_8abf5_4 ?_
  refine v_aload_n hC dJ0_length_8abf5_5 rfl 0 rfl ?_
  refine v_gcallO (S := Sx X sa V0 w f) (c2 := 0) (s2 := 0) (As := []) hC hSs Sx_st (m_J0_coder_7d493 l) q_J0_335 hSs.1 hdV_J0_coder_7d493 rfl rfl (Nat.le_of_ble_eq_true rfl) (Nat.le_of_ble_eq_true rfl) (Nat.le_of_ble_eq_true rfl) (Nat.le_of_ble_eq_true rfl) (Nat.le_of_ble_eq_true rfl) (Nat.le_of_ble_eq_true rfl) (Nat.le_of_ble_eq_true rfl) dJ0_length_8abf5_6 (fun o1 n1 K1 F1 G1 hP => ?_)
  obtain ⟨rfl, rfl, rfl, rfl, rfl⟩ := hP
  refine v_ishr hC dJ0_length_8abf5_9 ?_
  refine v_cst (congrArg Value.int (sb_shr0 _)) ?_
  refine v_toC (o := some (.int (nI w))) hQ ⟨rfl, rfl, rfl, rfl, rfl⟩ ?_
  exact v_iret hC rfl rfl dJ0_length_8abf5_10 rfl rfl rfl rfl rfl
set_option maxRecDepth 100000 in
set_option maxHeartbeats 4000000 in
theorem m_J0_getBytes_840e7 (l : Launch) {n : Nat} {K : Kt} {F : Ft} {G : Gt} {sa V0 w : Nat} {f : Nat → Int32} {arr cap d : Nat} (ha : K arr = (22, cap)) (hcap : cap ≤ 300) (hd : d + w ≤ cap) (hfit : sb_Fit (F arr)) (hff : ∀ j, j < w → fits .byte (.int (f j)) = true) : Mg X (Sx X sa V0 w f) l yJ0_getBytes_840e7 cJ0_getBytes_840e7 4 none 1 60 0 0 [.ref sa, .ref arr, .int (nI d), .int 0] n K F G (fun o n' K' F' G' => o = none ∧ n' = n ∧ K' = K ∧ G' = G ∧ By F F' arr) := by
  refine Mg.of (lv := [(0, .ref sa), (1, .ref arr), (2, .int (nI d)), (3, .int 0)]) (by decide) (Nat.le_of_ble_eq_true rfl) rfl ?_
  intro p e s m args below meth c Q hC hin hSs hQ
  have hC : Cx X p s m args meth c RJ0 cJ0_getBytes_840e7 4 none := hC
  refine v_aload_n hC dJ0_getBytes_840e7_0 rfl 0 rfl ?_
  refine v_gcallO (S := Sx X sa V0 w f) (c2 := 0) (s2 := 0) (As := []) hC hSs Sx_st (m_J0_coder_7d493 l) q_J0_335 hSs.1 hdV_J0_coder_7d493 rfl rfl (Nat.le_of_ble_eq_true rfl) (Nat.le_of_ble_eq_true rfl) (Nat.le_of_ble_eq_true rfl) (Nat.le_of_ble_eq_true rfl) (Nat.le_of_ble_eq_true rfl) (Nat.le_of_ble_eq_true rfl) (Nat.le_of_ble_eq_true rfl) dJ0_getBytes_840e7_1 (fun o1 n1 K1 F1 G1 hP => ?_)
  obtain ⟨rfl, rfl, rfl, rfl, rfl⟩ := hP
  refine v_iload_n hC dJ0_getBytes_840e7_4 rfl 3 rfl ?_
  refine v_icmp_ne (tgt := 28) hC dJ0_getBytes_840e7_5 (by decide) (fun q => absurd rfl q) (fun _ => ?_)
  refine v_aload_n hC dJ0_getBytes_840e7_8 rfl 0 rfl ?_
  refine v_sgetf hC hSs.2.2.1 aw_732 dJ0_getBytes_840e7_9 ?_
  refine v_iconst (v := 0) hC dJ0_getBytes_840e7_12 (by decide) ?_
  refine v_aload_n hC dJ0_getBytes_840e7_13 rfl 1 rfl ?_
  refine v_iload_n hC dJ0_getBytes_840e7_14 rfl 2 rfl ?_
  refine v_iload_n hC dJ0_getBytes_840e7_15 rfl 3 rfl ?_
  refine v_ishl hC dJ0_getBytes_840e7_16 ?_
  refine v_cst (congrArg Value.int (sb_shl0 _)) ?_
  refine v_aload_n hC dJ0_getBytes_840e7_17 rfl 0 rfl ?_
  refine v_sgetf hC hSs.2.2.1 aw_732 dJ0_getBytes_840e7_18 ?_
  refine v_salen hC hSs.2.2.2 dJ0_getBytes_840e7_21 ?_
  refine v_acopyX (n0 := w) (N1 := cap) (f := f) hC aw_656 ha (by decide) (nI_pos (by omega)) (nI_pos (by omega)) (by rw [nI_clamp (by omega)]; show 0 + w ≤ w; omega) (by rw [nI_clamp (by omega), nI_clamp (by omega)]; exact hd) (fun i hi => by rw [nI_clamp (by omega)] at hi; show fits .byte (.int (f (0 + i))) = true; rw [Nat.zero_add]; exact hff i hi) (src_str hSs.2.2.2) (Nat.le_of_ble_eq_true rfl) (Nat.le_of_ble_eq_true rfl) (Nat.le_of_ble_eq_true rfl) dJ0_getBytes_840e7_22 ?_
  refine v_goto (tgt := 43) hC dJ0_getBytes_840e7_25 (by decide) ?_
  refine v_toC (o := none) hQ ⟨rfl, rfl, rfl, rfl, fun x hx => va_up_ne _ _ hx, ?_⟩ ?_
  · rw [kat]
    intro j
    unfold va_cpy
    split
    · rename_i hj
      rw [nI_clamp (by omega), nI_clamp (by omega)] at hj
      refine hff _ ?_
      rw [nI_clamp (by omega)]
      show 0 + (j - d) < w
      omega
    · exact hfit j
  exact v_vret hC rfl rfl dJ0_getBytes_840e7_43 rfl rfl rfl rfl rfl
set_option maxRecDepth 100000 in
set_option maxHeartbeats 4000000 in
theorem m_J5_inflateIfNeededFor_a7421 (l : Launch) {n : Nat} {K : Kt} {F : Ft} {G : Gt} {sa V0 w : Nat} {f : Nat → Int32} {q : Nat} (t0 : (K q).1 = 11) (h1 : F q 1 = 0) : Mg X (Sx X sa V0 w f) l yJ5_inflateIfNeededFor_a7421 cJ5_inflateIfNeededFor_a7421 2 none 1 40 0 0 [.ref q, .ref sa] n K F G (fun o n' K' F' G' => o = none ∧ n' = n ∧ K' = K ∧ F' = F ∧ G' = G) := by
  refine Mg.of (lv := [(0, .ref q), (1, .ref sa)]) (by decide) (Nat.le_of_ble_eq_true rfl) rfl ?_
  intro p e s m args below meth c Q hC hin hSs hQ
  have hC : Cx X p s m args meth c RJ5 cJ5_inflateIfNeededFor_a7421 2 none := hC
  refine v_getsC hC aw_489 dJ5_inflateIfNeededFor_a7421_0 ?_
  refine v_if_eq (tgt := 21) hC dJ5_inflateIfNeededFor_a7421_3 (by decide) (fun q => absurd q (by decide)) (fun _ => ?_)
  refine v_aload_n hC dJ5_inflateIfNeededFor_a7421_6 rfl 0 rfl ?_
  refine gz22 hC t0 h1 dJ5_inflateIfNeededFor_a7421_7 ?_
  refine v_aload_n hC dJ5_inflateIfNeededFor_a7421_10 rfl 1 rfl ?_
  refine v_gcallO (S := Sx X sa V0 w f) (c2 := 0) (s2 := 0) (As := []) hC hSs Sx_st (m_J0_coder_7d493 l) q_J5_40 hSs.1 hdV_J0_coder_7d493 rfl rfl (Nat.le_of_ble_eq_true rfl) (Nat.le_of_ble_eq_true rfl) (Nat.le_of_ble_eq_true rfl) (Nat.le_of_ble_eq_true rfl) (Nat.le_of_ble_eq_true rfl) (Nat.le_of_ble_eq_true rfl) (Nat.le_of_ble_eq_true rfl) dJ5_inflateIfNeededFor_a7421_11 (fun o1 n1 K1 F1 G1 hP => ?_)
  obtain ⟨rfl, rfl, rfl, rfl, rfl⟩ := hP
  refine v_icmp_eq (tgt := 21) hC dJ5_inflateIfNeededFor_a7421_14 (by decide) (fun _ => ?_) (fun q => absurd rfl q)
  refine v_toC (o := none) hQ ⟨rfl, rfl, rfl, rfl, rfl⟩ ?_
  exact v_vret hC rfl rfl dJ5_inflateIfNeededFor_a7421_21 rfl rfl rfl rfl rfl
set_option maxRecDepth 100000 in
set_option maxHeartbeats 4000000 in
theorem m_J5_putStringAt_47b60 (l : Launch) {n : Nat} {K : Kt} {F : Ft} {G : Gt} {sa V0 w : Nat} {f : Nat → Int32} {q arr cap d : Nat} (t0 : (K q).1 = 11) (h1 : F q 1 = 0) (hg : G q 0 = some arr) (ha : K arr = (22, cap)) (hcap : cap ≤ 300) (hd : d + w ≤ cap) (hfit : sb_Fit (F arr)) (hff : ∀ j, j < w → fits .byte (.int (f j)) = true) : Mg X (Sx X sa V0 w f) l yJ5_putStringAt_47b60 cJ5_putStringAt_47b60 3 none 2 90 0 0 [.ref q, .int (nI d), .ref sa] n K F G (fun o n' K' F' G' => o = none ∧ n' = n ∧ K' = K ∧ G' = G ∧ By F F' arr) := by
  refine Mg.of (lv := [(0, .ref q), (1, .int (nI d)), (2, .ref sa)]) (by decide) (Nat.le_of_ble_eq_true rfl) rfl ?_
  intro p e s m args below meth c Q hC hin hSs hQ
  have hC : Cx X p s m args meth c RJ5 cJ5_putStringAt_47b60 3 none := hC
  refine v_aload_n hC dJ5_putStringAt_47b60_0 rfl 0 rfl ?_
  refine v_aload_n hC dJ5_putStringAt_47b60_1 rfl 2 rfl ?_
  refine v_gcallP (S := Sx X sa V0 w f) (c2 := 0) (s2 := 0) (As := [.ref sa]) hC hSs Sx_st (m_J5_inflateIfNeededFor_a7421 l t0 h1) qp_397 t0 ⟨hdS_J5_inflateIfNeededFor_a7421.1, hdS_J5_inflateIfNeededFor_a7421.2⟩ rfl rfl (Nat.le_of_ble_eq_true rfl) (Nat.le_of_ble_eq_true rfl) (Nat.le_of_ble_eq_true rfl) (Nat.le_of_ble_eq_true rfl) (Nat.le_of_ble_eq_true rfl) (Nat.le_of_ble_eq_true rfl) (Nat.le_of_ble_eq_true rfl) dJ5_putStringAt_47b60_2 (fun o1 n1 K1 F1 G1 hP => ?_)
  obtain ⟨rfl, rfl, rfl, rfl, rfl⟩ := hP
  refine v_aload_n hC dJ5_putStringAt_47b60_5 rfl 2 rfl ?_
  refine v_aload_n hC dJ5_putStringAt_47b60_6 rfl 0 rfl ?_
  refine gf_J5_15 (q := arr) hC t0 hg dJ5_putStringAt_47b60_7 ?_
  refine v_iload_n hC dJ5_putStringAt_47b60_10 rfl 1 rfl ?_
  refine v_aload_n hC dJ5_putStringAt_47b60_11 rfl 0 rfl ?_
  refine gz22 hC t0 h1 dJ5_putStringAt_47b60_12 ?_
  refine v_gcallO (S := Sx X sa V0 w f) (c2 := 0) (s2 := 0) (As := [.ref arr, .int (nI d), .int 0]) hC hSs Sx_st (m_J0_getBytes_840e7 l ha hcap hd hfit hff) q_J5_399 hSs.1 hdV_J0_getBytes_840e7 rfl rfl (Nat.le_of_ble_eq_true rfl) (Nat.le_of_ble_eq_true rfl) (Nat.le_of_ble_eq_true rfl) (Nat.le_of_ble_eq_true rfl) (Nat.le_of_ble_eq_true rfl) (Nat.le_of_ble_eq_true rfl) (Nat.le_of_ble_eq_true rfl) dJ5_putStringAt_47b60_15 (fun o1 n1 K1 F1 G1 hP => ?_)
  obtain ⟨rfl, rfl, rfl, rfl, hB⟩ := hP
  refine v_toC (o := none) hQ ⟨rfl, rfl, rfl, rfl, hB⟩ ?_
  exact v_vret hC rfl rfl dJ5_putStringAt_47b60_18 rfl rfl rfl rfl rfl
set_option maxRecDepth 100000 in
set_option maxHeartbeats 4000000 in
theorem m_J5_append_cf1ce (l : Launch) {n : Nat} {K : Kt} {F : Ft} {G : Gt} {K0 : Kt} {F0 : Ft} {G0 : Gt} {q len cap : Nat} (hS : Sbf K0 F0 G0 K F G q len cap) {sa V0 w : Nat} {f : Nat → Int32} (hw : w ≤ 18) (hff : ∀ j, j < w → fits .byte (.int (f j)) = true) (hb : len + w ≤ 286) : Mg X (Sx X sa V0 w f) l yJ5_append_cf1ce cJ5_append_cf1ce 3 (some (.object "java/lang/AbstractStringBuilder")) 4 200 (eC cap (len + w)) (eS cap (len + w)) [.ref q, .ref sa] n K F G (fun o n' K' F' G' => o = some (.ref q) ∧ Sbf K0 F0 G0 K' F' G' q (len + w) (gw cap (len + w))) := by
  obtain ⟨k1, k2, k3, k4, k5⟩ := gw_ok (m := len + w) hS.2.2.2.2.2.2.1 hS.2.2.2.2.2.1 (by omega) hb
  obtain ⟨b1, b2⟩ := capS_b hS.2.2.2.2.2.2.1
  refine Mg.of (lv := [(0, .ref q), (1, .ref sa)]) (by decide) (Nat.le_of_ble_eq_true rfl) rfl ?_
  intro p e s m args below meth c Q hC hin hSs hQ
  have hC : Cx X p s m args meth c RJ5 cJ5_append_cf1ce 3 (some (.object "java/lang/AbstractStringBuilder")) := hC
  refine v_aload_n hC dJ5_append_cf1ce_0 rfl 1 rfl ?_
  refine v_ifnn (tgt := 9) hC dJ5_append_cf1ce_1 (by decide) ?_
  refine v_aload_n hC dJ5_append_cf1ce_9 rfl 1 rfl ?_
  refine v_gcallO (S := Sx X sa V0 w f) (c2 := 0) (s2 := 0) (As := []) hC hSs Sx_st (m_J0_length_8abf5 l) q_J5_32 hSs.1 hdV_J0_length_8abf5 rfl rfl (Nat.le_of_ble_eq_true rfl) (Nat.le_of_ble_eq_true rfl) (Nat.zero_le _) (Nat.zero_le _) (Nat.le_of_ble_eq_true rfl) (Nat.le_of_ble_eq_true rfl) (Nat.le_of_ble_eq_true rfl) dJ5_append_cf1ce_10 (fun o1 n1 K1 F1 G1 hP => ?_)
  obtain ⟨rfl, rfl, rfl, rfl, rfl⟩ := hP
  refine v_istore_n (i := 2) (lv' := [(2, .int (nI w)), (0, .ref q), (1, .ref sa)]) hC dJ5_append_cf1ce_13 rfl (by decide) rfl ?_
  refine v_aload_n hC dJ5_append_cf1ce_14 rfl 1 rfl ?_
  refine v_aload_n hC dJ5_append_cf1ce_15 rfl 1 rfl ?_
  refine gz79 hC hS.2.2.1 hS.2.2.2.2.1 dJ5_append_cf1ce_16 ?_
  refine v_iload_n hC dJ5_append_cf1ce_19 rfl 0 rfl ?_
  refine v_iadd hC dJ5_append_cf1ce_20 ?_
  refine v_cst (congrArg Value.int (nI_add _ _)) ?_
  refine v_gcallP (S := Tr) (c2 := 0 + eC cap (len + w)) (s2 := 0 + eS cap (len + w)) (As := [.int (nI (len + w))]) hC trivial Tr_st (m_J5_ensureCapacityInternal_d00df l hS (by omega) hb).g qp_100 hS.2.2.1 ⟨hdS_J5_ensureCapacityInternal_d00df.1, hdS_J5_ensureCapacityInternal_d00df.2⟩ rfl rfl (Nat.le_of_ble_eq_true rfl) (Nat.le_of_ble_eq_true rfl) (by show 0 + eC cap (len + w) ≤ eC cap (len + w); omega) (by show 0 + eS cap (len + w) ≤ eS cap (len + w); omega) (Nat.le_refl _) (Nat.le_refl _) (Nat.le_of_ble_eq_true rfl) dJ5_append_cf1ce_21 (fun o1 n1 K1 F1 G1 hP => ?_)
  obtain ⟨rfl, S1⟩ := hP
  obtain ⟨arr, j8, j9, j10, j11⟩ := S1.2.2.2.2.2.2.2
  have b3 := capS_b k1
  refine v_aload_n hC dJ5_append_cf1ce_24 rfl 1 rfl ?_
  refine v_aload_n hC dJ5_append_cf1ce_25 rfl 1 rfl ?_
  refine gz79 hC S1.2.2.1 S1.2.2.2.2.1 dJ5_append_cf1ce_26 ?_
  refine v_aload_n hC dJ5_append_cf1ce_29 rfl 2 rfl ?_
  refine v_gcallP (S := Sx X sa V0 w f) (c2 := eC cap (len + w)) (s2 := eS cap (len + w)) (As := [.int (nI len), .ref sa]) hC hSs Sx_st (m_J5_putStringAt_47b60 l S1.2.2.1 S1.2.2.2.1 j8 j10 (by omega) k2 j11 hff) qp_208 S1.2.2.1 ⟨hdS_J5_putStringAt_47b60.1, hdS_J5_putStringAt_47b60.2⟩ rfl rfl (Nat.le_of_ble_eq_true rfl) (Nat.le_of_ble_eq_true rfl) (by show 0 + eC cap (len + w) + 0 ≤ eC cap (len + w); omega) (by show 0 + eS cap (len + w) + 0 ≤ eS cap (len + w); omega) (by omega) (by omega) (Nat.le_of_ble_eq_true rfl) dJ5_append_cf1ce_30 (fun o1 n1 K1 F1 G1 hP => ?_)
  obtain ⟨rfl, rfl, rfl, rfl, hB⟩ := hP
  have S2 := S1.by j8 hB
  refine v_aload_n hC dJ5_append_cf1ce_33 rfl 1 rfl ?_
  refine v_dup hC dJ5_append_cf1ce_34 rfl ?_
  refine gz79 hC S2.2.2.1 S2.2.2.2.2.1 dJ5_append_cf1ce_35 ?_
  refine v_iload_n hC dJ5_append_cf1ce_38 rfl 0 rfl ?_
  refine v_iadd hC dJ5_append_cf1ce_39 ?_
  refine v_cst (congrArg Value.int (nI_add _ _)) ?_
  refine pf_J5_79 hC S2.2.2.1 dJ5_append_cf1ce_40 ?_
  refine v_aload_n hC dJ5_append_cf1ce_43 rfl 1 rfl ?_
  refine v_toC (o := some (.ref q)) hQ ⟨rfl, S2.cnt k2⟩ ?_
  exact v_aret hC rfl (Or.inl ⟨_, rfl⟩) rfl dJ5_append_cf1ce_44 rfl rfl rfl rfl rfl
set_option maxRecDepth 100000 in
set_option maxHeartbeats 4000000 in
theorem m_J4_append_15ec4 (l : Launch) {n : Nat} {K : Kt} {F : Ft} {G : Gt} {K0 : Kt} {F0 : Ft} {G0 : Gt} {q len cap : Nat} (hS : Sbf K0 F0 G0 K F G q len cap) {sa V0 w : Nat} {f : Nat → Int32} (hw : w ≤ 18) (hff : ∀ j, j < w → fits .byte (.int (f j)) = true) (hb : len + w ≤ 286) : Mg X (Sx X sa V0 w f) l yJ4_append_15ec4 cJ4_append_15ec4 2 (some (.object "java/lang/StringBuilder")) 5 230 (eC cap (len + w)) (eS cap (len + w)) [.ref q, .ref sa] n K F G (fun o n' K' F' G' => o = some (.ref q) ∧ Sbf K0 F0 G0 K' F' G' q (len + w) (gw cap (len + w))) := by
  refine Mg.of (lv := [(0, .ref q), (1, .ref sa)]) (by decide) (Nat.le_of_ble_eq_true rfl) rfl ?_
  intro p e s m args below meth c Q hC hin hSs hQ
  have hC : Cx X p s m args meth c RJ4 cJ4_append_15ec4 2 (some (.object "java/lang/StringBuilder")) := hC
  refine v_aload_n hC dJ4_append_15ec4_0 rfl 0 rfl ?_
  refine v_aload_n hC dJ4_append_15ec4_1 rfl 1 rfl ?_
  refine v_gcallU (S := Sx X sa V0 w f) (c2 := eC cap (len + w)) (s2 := eS cap (len + w)) (As := [.ref sa]) hC hSs Sx_st (m_J5_append_cf1ce l hS hw hff hb) qu_29 hS.2.2.1 ⟨by decide, hdS_J5_append_cf1ce.2.2⟩ rfl rfl (Nat.le_of_ble_eq_true rfl) (Nat.le_of_ble_eq_true rfl) (by show 0 + eC cap (len + w) ≤ eC cap (len + w); omega) (by show 0 + eS cap (len + w) ≤ eS cap (len + w); omega) (by omega) (by omega) (Nat.le_of_ble_eq_true rfl) dJ4_append_15ec4_2 (fun o1 n1 K1 F1 G1 hP => ?_)
  obtain ⟨rfl, S1⟩ := hP
  refine v_pop hC dJ4_append_15ec4_5 rfl ?_
  refine v_aload_n hC dJ4_append_15ec4_6 rfl 0 rfl ?_
  refine v_toC (o := some (.ref q)) hQ ⟨rfl, S1⟩ ?_
  exact v_aret hC rfl (Or.inl ⟨_, rfl⟩) rfl dJ4_append_15ec4_7 rfl rfl rfl rfl rfl
end PNQ
