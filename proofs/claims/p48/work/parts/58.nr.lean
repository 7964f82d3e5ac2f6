/-! the text of a slip: the slip -/
section PNR
section
variable {X : Xt} {p : Program} {l : Launch} {e : Env} {R : Room} {s : State} {m : MethodId} {args : Array Value} {below : List Frame} {meth : Method} {c : Code} {own : String} {cc : ByteArray} {nL : Nat} {ret : Option FieldType}
variable {Q : State → Prop} {cells slots n : Nat} {K : Kt} {F : Ft} {G : Gt} {lv : List (Nat × Value)} {pc : Nat} {st : List Value}
theorem v_ldcwS (hC : Cx X p s m args meth c own cc nL ret) {index q : Nat} {tx : String} (hZ : vk_R own index tx q s) (hdg : decode cc pc = .ok (.ldc_w index, 3)) (kk : V X nL p l e R s m args below meth c Q cells slots n K F G lv (pc + 3) (.ref q :: st)) : V X nL p l e R s m args below meth c Q cells slots n K F G lv pc st := fun H locs ls h1 h2 h3 => by
  intro T hT Y
  obtain ⟨t, a1, b1⟩ := kk H locs ls h1 h2 h3 T hT Y
  exact ⟨t, Y.ldcStringW hC.hx hC.hown (text := tx) (a := q) hZ.1 hZ.2 (g := F0 m pc ls st) rfl (by rw [hC.hb]; exact hdg) t a1, b1⟩
def Kstr (X : Xt) (s : State) (sa V0 w : Nat) (f : Nat → Int32) : Prop := Sx X sa V0 w f s ∧ ∀ j, j < w → fits .byte (.int (f j)) = true
theorem fit_610 : ∀ j, j < 2 → fits .byte (.int ((zd_byt.getD 0 []).getD j 0)) = true := by decide +kernel
theorem v_ld610 (hC : Cx X p s m args meth c RX8 cc nL ret) (hdg : decode cc pc = .ok (.ldc_w 610, 3)) (kk : ∀ sa V0 f, Kstr X s sa V0 2 f → V X nL p l e R s m args below meth c Q cells slots n K F G lv (pc + 3) (.ref sa :: st)) : V X nL p l e R s m args below meth c Q cells slots n K F G lv pc st := by
  obtain ⟨aK, aV, zs, r0, r1, r2, r3, r4, r5⟩ := hC.hZ.2.2.2.2.2.2.2.2.2.2
  exact v_ldcwS hC r0 hdg (kk _ _ _ ⟨zs.1 0 (by decide), fit_610⟩)
theorem fit_618 : ∀ j, j < 9 → fits .byte (.int ((zd_byt.getD 1 []).getD j 0)) = true := by decide +kernel
theorem v_ld618 (hC : Cx X p s m args meth c RX8 cc nL ret) (hdg : decode cc pc = .ok (.ldc_w 618, 3)) (kk : ∀ sa V0 f, Kstr X s sa V0 9 f → V X nL p l e R s m args below meth c Q cells slots n K F G lv (pc + 3) (.ref sa :: st)) : V X nL p l e R s m args below meth c Q cells slots n K F G lv pc st := by
  obtain ⟨aK, aV, zs, r0, r1, r2, r3, r4, r5⟩ := hC.hZ.2.2.2.2.2.2.2.2.2.2
  exact v_ldcwS hC r1 hdg (kk _ _ _ ⟨zs.1 1 (by decide), fit_618⟩)
theorem fit_624 : ∀ j, j < 9 → fits .byte (.int ((zd_byt.getD 2 []).getD j 0)) = true := by decide +kernel
theorem v_ld624 (hC : Cx X p s m args meth c RX8 cc nL ret) (hdg : decode cc pc = .ok (.ldc_w 624, 3)) (kk : ∀ sa V0 f, Kstr X s sa V0 9 f → V X nL p l e R s m args below meth c Q cells slots n K F G lv (pc + 3) (.ref sa :: st)) : V X nL p l e R s m args below meth c Q cells slots n K F G lv pc st := by
  obtain ⟨aK, aV, zs, r0, r1, r2, r3, r4, r5⟩ := hC.hZ.2.2.2.2.2.2.2.2.2.2
  exact v_ldcwS hC r2 hdg (kk _ _ _ ⟨zs.1 2 (by decide), fit_624⟩)
theorem fit_626 : ∀ j, j < 8 → fits .byte (.int ((zd_byt.getD 3 []).getD j 0)) = true := by decide +kernel
theorem v_ld626 (hC : Cx X p s m args meth c RX8 cc nL ret) (hdg : decode cc pc = .ok (.ldc_w 626, 3)) (kk : ∀ sa V0 f, Kstr X s sa V0 8 f → V X nL p l e R s m args below meth c Q cells slots n K F G lv (pc + 3) (.ref sa :: st)) : V X nL p l e R s m args below meth c Q cells slots n K F G lv pc st := by
  obtain ⟨aK, aV, zs, r0, r1, r2, r3, r4, r5⟩ := hC.hZ.2.2.2.2.2.2.2.2.2.2
  exact v_ldcwS hC r3 hdg (kk _ _ _ ⟨zs.1 3 (by decide), fit_626⟩)
theorem fit_628 : ∀ j, j < 8 → fits .byte (.int ((zd_byt.getD 4 []).getD j 0)) = true := by decide +kernel
theorem v_ld628 (hC : Cx X p s m args meth c RX8 cc nL ret) (hdg : decode cc pc = .ok (.ldc_w 628, 3)) (kk : ∀ sa V0 f, Kstr X s sa V0 8 f → V X nL p l e R s m args below meth c Q cells slots n K F G lv (pc + 3) (.ref sa :: st)) : V X nL p l e R s m args below meth c Q cells slots n K F G lv pc st := by
  obtain ⟨aK, aV, zs, r0, r1, r2, r3, r4, r5⟩ := hC.hZ.2.2.2.2.2.2.2.2.2.2
  exact v_ldcwS hC r4 hdg (kk _ _ _ ⟨zs.1 4 (by decide), fit_628⟩)
theorem fit_630 : ∀ j, j < 5 → fits .byte (.int ((zd_byt.getD 5 []).getD j 0)) = true := by decide +kernel
theorem v_ld630 (hC : Cx X p s m args meth c RX8 cc nL ret) (hdg : decode cc pc = .ok (.ldc_w 630, 3)) (kk : ∀ sa V0 f, Kstr X s sa V0 5 f → V X nL p l e R s m args below meth c Q cells slots n K F G lv (pc + 3) (.ref sa :: st)) : V X nL p l e R s m args below meth c Q cells slots n K F G lv pc st := by
  obtain ⟨aK, aV, zs, r0, r1, r2, r3, r4, r5⟩ := hC.hZ.2.2.2.2.2.2.2.2.2.2
  exact v_ldcwS hC r5 hdg (kk _ _ _ ⟨zs.1 5 (by decide), fit_630⟩)
def cf (c m : Nat) : Nat := if m ≤ c then c else if m ≤ 34 then 34 else if m ≤ 70 then 70 else if m ≤ 142 then 142 else 286
def cf_ok (c len ad : Nat) : Bool := decide (287 ≤ len + ad) || (decide (gw (cf c len) (len + ad) = cf c (len + ad)) && decide (len ≤ cf c len) && [16, 34, 70, 142, 286].contains (cf c len) && decide (spC (cf c len) + eC (cf c len) (len + ad) = spC (cf c (len + ad))) && decide (spS (cf c len) + eS (cf c len) (len + ad) = spS (cf c (len + ad))) && decide (spC c ≤ spC (cf c len)) && decide (spS c ≤ spS (cf c len)))
theorem cf_all : ([16, 34, 70, 142, 286] : List Nat).all (fun c => (List.range 287).all (fun len => (List.range 19).all (fun ad => cf_ok c len ad))) = true := by decide +kernel
theorem capS_l {c : Nat} : capS c ↔ c ∈ [16, 34, 70, 142, 286] := by
  unfold capS
  simp
theorem cf_0 {c : Nat} : cf c 0 = c := if_pos (Nat.zero_le _)
theorem cf_st {c len ad : Nat} (hc : capS c) (h1 : ad ≤ 18) (h2 : len + ad ≤ 286) : gw (cf c len) (len + ad) = cf c (len + ad) ∧ len ≤ cf c len ∧ capS (cf c len) ∧ spC (cf c len) + eC (cf c len) (len + ad) = spC (cf c (len + ad)) ∧ spS (cf c len) + eS (cf c len) (len + ad) = spS (cf c (len + ad)) ∧ spC c ≤ spC (cf c len) ∧ spS c ≤ spS (cf c len) := by
  have h := List.all_eq_true.mp (List.all_eq_true.mp (List.all_eq_true.mp cf_all c (capS_l.mp hc)) len (List.mem_range.mpr (by omega))) ad (List.mem_range.mpr (by omega))
  unfold cf_ok at h
  rw [Bool.or_eq_true] at h
  rcases h with h | h
  · exact absurd (of_decide_eq_true h) (by omega)
  · simp only [Bool.and_eq_true, decide_eq_true_eq, List.contains_iff_mem] at h
    obtain ⟨⟨⟨⟨⟨⟨h1, h2⟩, h3⟩, h4⟩, h5⟩, h6⟩, h7⟩ := h
    exact ⟨h1, h2, capS_l.mpr h3, h4, h5, h6, h7⟩
theorem cf_mono {c : Nat} (hc : capS c) : ∀ k m, m + k ≤ 286 → spC (cf c m) ≤ spC (cf c (m + k)) ∧ spS (cf c m) ≤ spS (cf c (m + k)) := by
  intro k
  induction k with
  | zero => intro m _; exact ⟨Nat.le_refl _, Nat.le_refl _⟩
  | succ k ih =>
    intro m hm
    obtain ⟨a1, a2⟩ := ih (m + 1) (by omega)
    obtain ⟨-, -, -, b1, b2, -⟩ := cf_st hc (len := m) (ad := 1) (by omega) (by omega)
    rw [show m + (k + 1) = m + 1 + k by omega]
    omega
theorem cf_le {c m L : Nat} (hc : capS c) (h : m ≤ L) (hL : L ≤ 286) : spC (cf c m) ≤ spC (cf c L) ∧ spS (cf c m) ≤ spS (cf c L) := by
  obtain ⟨k, rfl⟩ : ∃ k, L = m + k := ⟨L - m, by omega⟩
  exact cf_mono hc k m hL
section
variable {K0 : Kt} {F0 : Ft} {G0 : Gt} {q len cap L : Nat}
theorem v_ai (hC : Cx X p s m args meth c RX8 cc nL ret) {v : Int32} (hcap : capS cap) (hS : Sbf K0 F0 G0 K F G q len (cf cap len)) (hm : len + ssz v ≤ L) (hL : L ≤ 286) (hR1 : R.cells = spC (cf cap L) - spC cap) (hR2 : R.slots = spS (cf cap L) - spS cap) (hf : 6 ≤ R.frames) (hlo : 260 ≤ R.locals) (hst : (st.map fun v => v.category).sum ≤ 8) (hdg : decode cc pc = .ok (.invokevirtual 606, 3)) (kk : ∀ n K F G, Sbf K0 F0 G0 K F G q (len + ssz v) (cf cap (len + ssz v)) → V X nL p l e R s m args below meth c Q (spC (cf cap (len + ssz v)) - spC cap) (spS (cf cap (len + ssz v)) - spS cap) n K F G lv (pc + 3) (.ref q :: st)) : V X nL p l e R s m args below meth c Q (spC (cf cap len) - spC cap) (spS (cf cap len) - spS cap) n K F G lv pc (.int v :: .ref q :: st) := by
  have hz := ssz_b v
  obtain ⟨c1, c2, c3, c4, c5, c6, c7⟩ := cf_st hcap (len := len) (ad := ssz v) (by omega) (by omega)
  obtain ⟨d1, d2⟩ := cf_le hcap hm hL
  refine v_gcallV (S := Tr) (c2 := spC (cf cap (len + ssz v)) - spC cap) (s2 := spS (cf cap (len + ssz v)) - spS cap) (As := [.int v]) hC trivial Tr_st (m_J4_append_bf812 l hS (by omega)).g q_X8_606 (by rw [hS.2.2.1]; decide) (ce_11 hS.2.2.1) (ci := 10) rfl hdV_J4_append_bf812 rfl rfl (by omega) (by omega) (by omega) (by omega) (by omega) (by omega) hst hdg (fun o1 n1 K1 F1 G1 hP => ?_)
  obtain ⟨rfl, S1⟩ := hP
  rw [c1] at S1
  exact kk _ _ _ _ S1
theorem v_ac (hC : Cx X p s m args meth c RX8 cc nL ret) {v : Int32} (hv : ¬ 255 < v) (hcap : capS cap) (hS : Sbf K0 F0 G0 K F G q len (cf cap len)) (hm : len + 1 ≤ L) (hL : L ≤ 286) (hR1 : R.cells = spC (cf cap L) - spC cap) (hR2 : R.slots = spS (cf cap L) - spS cap) (hf : 6 ≤ R.frames) (hlo : 260 ≤ R.locals) (hst : (st.map fun v => v.category).sum ≤ 8) (hdg : decode cc pc = .ok (.invokevirtual 615, 3)) (kk : ∀ n K F G, Sbf K0 F0 G0 K F G q (len + 1) (cf cap (len + 1)) → V X nL p l e R s m args below meth c Q (spC (cf cap (len + 1)) - spC cap) (spS (cf cap (len + 1)) - spS cap) n K F G lv (pc + 3) (.ref q :: st)) : V X nL p l e R s m args below meth c Q (spC (cf cap len) - spC cap) (spS (cf cap len) - spS cap) n K F G lv pc (.int v :: .ref q :: st) := by
  obtain ⟨c1, c2, c3, c4, c5, c6, c7⟩ := cf_st hcap (len := len) (ad := 1) (by omega) (by omega)
  obtain ⟨d1, d2⟩ := cf_le hcap hm hL
  refine v_gcallV (S := Tr) (c2 := spC (cf cap (len + 1)) - spC cap) (s2 := spS (cf cap (len + 1)) - spS cap) (As := [.int v]) hC trivial Tr_st (m_J4_append_cf468 l hS hv (by omega)).g q_X8_615 (by rw [hS.2.2.1]; decide) (ce_11 hS.2.2.1) (ci := 10) rfl hdV_J4_append_cf468 rfl rfl (by omega) (by omega) (by omega) (by omega) (by omega) (by omega) hst hdg (fun o1 n1 K1 F1 G1 hP => ?_)
  obtain ⟨rfl, S1⟩ := hP
  rw [c1] at S1
  exact kk _ _ _ _ S1
theorem v_as (hC : Cx X p s m args meth c RX8 cc nL ret) {sa V0 w : Nat} {f : Nat → Int32} (hK : Kstr X s sa V0 w f) (hw : w ≤ 18) (hcap : capS cap) (hS : Sbf K0 F0 G0 K F G q len (cf cap len)) (hm : len + w ≤ L) (hL : L ≤ 286) (hR1 : R.cells = spC (cf cap L) - spC cap) (hR2 : R.slots = spS (cf cap L) - spS cap) (hf : 6 ≤ R.frames) (hlo : 260 ≤ R.locals) (hst : (st.map fun v => v.category).sum ≤ 8) (hdg : decode cc pc = .ok (.invokevirtual 612, 3)) (kk : ∀ n K F G, Sbf K0 F0 G0 K F G q (len + w) (cf cap (len + w)) → V X nL p l e R s m args below meth c Q (spC (cf cap (len + w)) - spC cap) (spS (cf cap (len + w)) - spS cap) n K F G lv (pc + 3) (.ref q :: st)) : V X nL p l e R s m args below meth c Q (spC (cf cap len) - spC cap) (spS (cf cap len) - spS cap) n K F G lv pc (.ref sa :: .ref q :: st) := by
  obtain ⟨c1, c2, c3, c4, c5, c6, c7⟩ := cf_st hcap (len := len) (ad := w) (by omega) (by omega)
  obtain ⟨d1, d2⟩ := cf_le hcap hm hL
  refine v_gcallV (S := Sx X sa V0 w f) (c2 := spC (cf cap (len + w)) - spC cap) (s2 := spS (cf cap (len + w)) - spS cap) (As := [.ref sa]) hC hK.1 Sx_st (m_J4_append_15ec4 l hS hw hK.2 (by omega)) q_X8_612 (by rw [hS.2.2.1]; decide) (ce_11 hS.2.2.1) (ci := 10) rfl hdV_J4_append_15ec4 rfl rfl (by omega) (by omega) (by omega) (by omega) (by omega) (by omega) hst hdg (fun o1 n1 K1 F1 G1 hP => ?_)
  obtain ⟨rfl, S1⟩ := hP
  rw [c1] at S1
  exact kk _ _ _ _ S1
end
end
variable {X : Xt}
def wad (mk bt : Int32) (w : Nat) : Nat := if mk &&& bt = 0 then 0 else w
theorem wad_le {mk bt : Int32} {w : Nat} : wad mk bt w ≤ w := by unfold wad; split <;> omega
theorem hdS_X8_writeIfMarked : yX8_writeIfMarked.cls ≠ "java/lang/invoke/MethodHandle" ∧ yX8_writeIfMarked.cls ≠ "java/lang/invoke/VarHandle" ∧ (parseMethodDescriptor yX8_writeIfMarked.desc).map (fun d => d.parameters.length) = some 4 := by decide +kernel
theorem hdV_X8_writeIfMarked : yX8_writeIfMarked.cls = RX8 ∧ yX8_writeIfMarked.cls ≠ "java/lang/invoke/MethodHandle" ∧ yX8_writeIfMarked.cls ≠ "java/lang/invoke/VarHandle" ∧ (parseMethodDescriptor yX8_writeIfMarked.desc).map (fun d => d.parameters.length) = some 4 := by decide +kernel
theorem hdS_X8_writeSlip : yX8_writeSlip.cls ≠ "java/lang/invoke/MethodHandle" ∧ yX8_writeSlip.cls ≠ "java/lang/invoke/VarHandle" ∧ (parseMethodDescriptor yX8_writeSlip.desc).map (fun d => d.parameters.length) = some 3 := by decide +kernel
theorem hdV_X8_writeSlip : yX8_writeSlip.cls = RX8 ∧ yX8_writeSlip.cls ≠ "java/lang/invoke/MethodHandle" ∧ yX8_writeSlip.cls ≠ "java/lang/invoke/VarHandle" ∧ (parseMethodDescriptor yX8_writeSlip.desc).map (fun d => d.parameters.length) = some 3 := by decide +kernel
set_option maxRecDepth 100000 in
set_option maxHeartbeats 4000000 in
theorem m_X8_writeIfMarked (l : Launch) {n : Nat} {K : Kt} {F : Ft} {G : Gt} {K0 : Kt} {F0 : Ft} {G0 : Gt} {q len cap : Nat} (hS : Sbf K0 F0 G0 K F G q len cap) {sa V0 w : Nat} {f : Nat → Int32} {mk bt : Int32} (hw : w ≤ 18) (hff : ∀ j, j < w → fits .byte (.int (f j)) = true) (hb : len + w ≤ 286) : Mg X (Sx X sa V0 w f) l yX8_writeIfMarked cX8_writeIfMarked 4 none 6 260 (eC cap (len + wad mk bt w)) (eS cap (len + wad mk bt w)) [.ref q, .int mk, .int bt, .ref sa] n K F G (fun o n' K' F' G' => o = none ∧ Sbf K0 F0 G0 K' F' G' q (len + wad mk bt w) (gw cap (len + wad mk bt w))) := by
  refine Mg.of (lv := [(0, .ref q), (1, .int mk), (2, .int bt), (3, .ref sa)]) (by decide) (Nat.le_of_ble_eq_true rfl) rfl ?_
  intro p e s m args below meth c Q hC hin hSs hQ
  have hC : Cx X p s m args meth c RX8 cX8_writeIfMarked 4 none := hC
  refine v_iload_n hC dX8_writeIfMarked_0 rfl 1 rfl ?_
  refine v_iload_n hC dX8_writeIfMarked_1 rfl 2 rfl ?_
  refine v_iand hC dX8_writeIfMarked_2 ?_
  refine v_if_eq (tgt := 12) hC dX8_writeIfMarked_3 (by decide) (fun w1 => ?_) (fun w1 => ?_)
  · have e : wad mk bt w = 0 := if_pos w1
    have g0 : gw cap (len + 0) = cap := if_pos hS.2.2.2.2.2.1
    refine v_toC (o := none) hQ ⟨rfl, by rw [e, g0]; exact hS⟩ ?_
    refine v_widen (k2 := eC cap (len + wad mk bt w)) (n2 := eS cap (len + wad mk bt w)) (Nat.zero_le _) (Nat.zero_le _) ?_
    exact v_vret hC rfl rfl dX8_writeIfMarked_12 rfl rfl rfl rfl rfl
  · have e : wad mk bt w = w := if_neg w1
    refine v_aload_n hC dX8_writeIfMarked_6 rfl 0 rfl ?_
    refine v_aload_n hC dX8_writeIfMarked_7 rfl 3 rfl ?_
    refine v_gcallV (S := Sx X sa V0 w f) (c2 := eC cap (len + wad mk bt w)) (s2 := eS cap (len + wad mk bt w)) (As := [.ref sa]) hC hSs Sx_st (m_J4_append_15ec4 l hS hw hff hb) q_X8_612 (by rw [hS.2.2.1]; decide) (ce_11 hS.2.2.1) (ci := 10) rfl hdV_J4_append_15ec4 rfl rfl (Nat.le_of_ble_eq_true rfl) (Nat.le_of_ble_eq_true rfl) (by show 0 + eC cap (len + w) ≤ eC cap (len + wad mk bt w); rw [e]; omega) (by show 0 + eS cap (len + w) ≤ eS cap (len + wad mk bt w); rw [e]; omega) (by rw [e]; omega) (by rw [e]; omega) (Nat.le_of_ble_eq_true rfl) dX8_writeIfMarked_8 (fun o1 n1 K1 F1 G1 hP => ?_)
    obtain ⟨rfl, S1⟩ := hP
    refine v_pop hC dX8_writeIfMarked_11 rfl ?_
    refine v_toC (o := none) hQ ⟨rfl, by rw [e]; exact S1⟩ ?_
    exact v_vret hC rfl rfl dX8_writeIfMarked_12 rfl rfl rfl rfl rfl
section
variable {p : Program} {l : Launch} {e : Env} {R : Room} {s : State} {m : MethodId} {args : Array Value} {below : List Frame} {meth : Method} {c : Code} {own : String} {cc : ByteArray} {nL : Nat} {ret : Option FieldType}
variable {Q : State → Prop} {cells slots n : Nat} {K : Kt} {F : Ft} {G : Gt} {lv : List (Nat × Value)} {pc : Nat} {st : List Value}
variable {K0 : Kt} {F0 : Ft} {G0 : Gt} {q len cap L : Nat}
theorem v_wm (hC : Cx X p s m args meth c RX8 cc nL ret) {sa V0 w : Nat} {f : Nat → Int32} {mk bt : Int32} (hK : Kstr X s sa V0 w f) (hw : w ≤ 18) (hcap : capS cap) (hS : Sbf K0 F0 G0 K F G q len (cf cap len)) (hm : len + wad mk bt w ≤ L) (hmw : len + w ≤ 286) (hL : L ≤ 286) (hR1 : R.cells = spC (cf cap L) - spC cap) (hR2 : R.slots = spS (cf cap L) - spS cap) (hf : 7 ≤ R.frames) (hlo : 290 ≤ R.locals) (hst : (st.map fun v => v.category).sum ≤ 8) (hdg : decode cc pc = .ok (.invokestatic 620, 3)) (kk : ∀ n K F G, Sbf K0 F0 G0 K F G q (len + wad mk bt w) (cf cap (len + wad mk bt w)) → V X nL p l e R s m args below meth c Q (spC (cf cap (len + wad mk bt w)) - spC cap) (spS (cf cap (len + wad mk bt w)) - spS cap) n K F G lv (pc + 3) st) : V X nL p l e R s m args below meth c Q (spC (cf cap len) - spC cap) (spS (cf cap len) - spS cap) n K F G lv pc (.ref sa :: .int bt :: .int mk :: .ref q :: st) := by
  have hz := wad_le (mk := mk) (bt := bt) (w := w)
  obtain ⟨c1, c2, c3, c4, c5, c6, c7⟩ := cf_st hcap (len := len) (ad := wad mk bt w) (by omega) (by omega)
  obtain ⟨d1, d2⟩ := cf_le hcap hm hL
  refine v_gcallS (S := Sx X sa V0 w f) (c2 := spC (cf cap (len + wad mk bt w)) - spC cap) (s2 := spS (cf cap (len + wad mk bt w)) - spS cap) (As := [.ref q, .int mk, .int bt, .ref sa]) hC hK.1 Sx_st (m_X8_writeIfMarked l hS hw hK.2 hmw) q_X8_620 hdS_X8_writeIfMarked rfl rfl (by omega) (by omega) (by omega) (by omega) (by omega) (by omega) hst hdg (fun o1 n1 K1 F1 G1 hP => ?_)
  obtain ⟨rfl, S1⟩ := hP
  rw [c1] at S1
  exact kk _ _ _ _ S1
end
theorem Sbf.ok {K0 K : Kt} {F0 F : Ft} {G0 G : Gt} {q len cap a k : Nat} (h : Sbf K0 F0 G0 K F G q len cap) (ha : (K0 a).1 = k) (hk : k ≠ 0) : (K a).1 = k ∧ F a = F0 a ∧ G a = G0 a := by
  obtain ⟨g1, g2, g3⟩ := h.1 a (by rw [ha]; exact hk)
  exact ⟨by rw [g1]; exact ha, g2, g3⟩
theorem mk_congr {K0 K : Kt} {F0 F : Ft} {G0 G : Gt} {a : Nat} (h1 : F a = F0 a) (h2 : G a = G0 a) : f_X7_marks K F G a = f_X7_marks K0 F0 G0 a := by
  simp only [f_X7_marks, f_X7_marks_J12, f_X7_marks_J26, f_X7_marks_J41, f_X7_marks_J57, f_X7_marks_J73, f_X7_marks_J89, h1, h2]
theorem TShip.old {K0 K : Kt} {G0 G : Gt} {a : Nat} (h : ∀ x, (K0 x).1 ≠ 0 → K x = K0 x ∧ G x = G0 x) (t : TShip K0 G0 a) : TShip K G a := by
  have gpe : ∀ x j, (K0 x).1 ≠ 0 → gp G x j = gp G0 x j := fun x j hx => by unfold gp; rw [(h x hx).2]
  have buy : ∀ x, TBuyer K0 G0 x → TBuyer K G x := fun x t => by
    have nz : (K0 x).1 ≠ 0 := by rw [t.1]; decide
    have n1 : (K0 (gp G0 x 1)).1 ≠ 0 := by rw [t.2.1.2]; decide
    have n3 : (K0 (gp G0 x 3)).1 ≠ 0 := by rw [t.2.2.2]; decide
    unfold TBuyer
    rw [(h x nz).1, (h x nz).2, gpe x 1 nz, gpe x 3 nz, (h _ n1).1, (h _ n3).1]
    exact t
  have exp : ∀ x, TExp K0 G0 x → TExp K G x := fun x t => by
    have nz : (K0 x).1 ≠ 0 := by rw [t.1]; decide
    have n1 : (K0 (gp G0 x 1)).1 ≠ 0 := by rw [t.2.2]; decide
    unfold TExp
    rw [(h x nz).1, (h x nz).2, gpe x 1 nz, (h _ n1).1]
    exact t
  have pol : ∀ x, TPol K0 G0 x → TPol K G x := fun x t => by
    have nz : (K0 x).1 ≠ 0 := by rw [t.1]; decide
    have n5 : (K0 (gp G0 x 5)).1 ≠ 0 := by rw [t.2.2.2]; decide
    unfold TPol
    rw [(h x nz).1, (h x nz).2, gpe x 1 nz, gpe x 5 nz, (h _ n5).1]
    exact ⟨t.1, ⟨t.2.1.1, exp _ t.2.1.2⟩, t.2.2⟩
  have nz : (K0 a).1 ≠ 0 := by rw [t.1]; decide
  unfold TShip
  rw [(h a nz).1, (h a nz).2, gpe a 0 nz, gpe a 1 nz, gpe a 14 nz, gpe a 15 nz]
  refine ⟨t.1, ⟨t.2.1.1, pol _ t.2.1.2⟩, ⟨t.2.2.1.1, buy _ t.2.2.1.2⟩, fun w => ?_, fun w => ?_⟩
  · have q := t.2.2.2.1 w
    rw [(h _ (by rw [q]; decide)).1]
    exact q
  · have q := t.2.2.2.2 w
    rw [(h _ (by rw [q]; decide)).1]
    exact q
def slen (K0 : Kt) (F0 : Ft) (G0 : Gt) (i : Int32) (sh : Nat) : Nat := ((((((((((((((0 + ssz i) + 2) + ssz (F0 (gp G0 (gp G0 sh 0) 1) 0)) + 1) + ssz (F0 (gp G0 sh 1) 0)) + 1) + ssz (F0 sh 10)) + 1) + ssz (F0 sh 2)) + wad (f_X7_marks K0 F0 G0 sh) 1 9) + wad (f_X7_marks K0 F0 G0 sh) 2 9) + wad (f_X7_marks K0 F0 G0 sh) 4 8) + wad (f_X7_marks K0 F0 G0 sh) 8 8) + wad (f_X7_marks K0 F0 G0 sh) 16 5)
theorem slen_eq {K0 : Kt} {F0 : Ft} {G0 : Gt} {i : Int32} {sh : Nat} : slen K0 F0 G0 i sh = ((((((((((((((0 + ssz i) + 2) + ssz (F0 (gp G0 (gp G0 sh 0) 1) 0)) + 1) + ssz (F0 (gp G0 sh 1) 0)) + 1) + ssz (F0 sh 10)) + 1) + ssz (F0 sh 2)) + wad (f_X7_marks K0 F0 G0 sh) 1 9) + wad (f_X7_marks K0 F0 G0 sh) 2 9) + wad (f_X7_marks K0 F0 G0 sh) 4 8) + wad (f_X7_marks K0 F0 G0 sh) 8 8) + wad (f_X7_marks K0 F0 G0 sh) 16 5) := rfl
set_option maxRecDepth 100000 in
set_option maxHeartbeats 4000000 in
theorem m_X8_writeSlip (l : Launch) {n : Nat} {K : Kt} {F : Ft} {G : Gt} {K0 : Kt} {F0 : Ft} {G0 : Gt} {q cap sh : Nat} {i : Int32} (hS : Sbf K0 F0 G0 K F G q 0 cap) (ts : TShip K0 G0 sh) : Mr X l yX8_writeSlip cX8_writeSlip 4 none 8 330 (spC (cf cap (slen K0 F0 G0 i sh)) - spC cap) (spS (cf cap (slen K0 F0 G0 i sh)) - spS cap) [.ref q, .int i, .ref sh] n K F G (fun o n' K' F' G' => o = none ∧ Sbf K0 F0 G0 K' F' G' q (slen K0 F0 G0 i sh) (cf cap (slen K0 F0 G0 i sh))) := by
  obtain ⟨L, hLe⟩ : ∃ L, L = slen K0 F0 G0 i sh := ⟨_, rfl⟩
  have hcap := hS.2.2.2.2.2.2.1
  rw [← hLe]
  rw [slen_eq] at hLe
  have z0 := ssz_b i
  have z2 := ssz_b (F0 (gp G0 (gp G0 sh 0) 1) 0)
  have z4 := ssz_b (F0 (gp G0 sh 1) 0)
  have z6 := ssz_b (F0 sh 10)
  have z8 := ssz_b (F0 sh 2)
  have z9 := wad_le (mk := (f_X7_marks K0 F0 G0 sh)) (bt := 1) (w := 9)
  have z10 := wad_le (mk := (f_X7_marks K0 F0 G0 sh)) (bt := 2) (w := 9)
  have z11 := wad_le (mk := (f_X7_marks K0 F0 G0 sh)) (bt := 4) (w := 8)
  have z12 := wad_le (mk := (f_X7_marks K0 F0 G0 sh)) (bt := 8) (w := 8)
  have z13 := wad_le (mk := (f_X7_marks K0 F0 G0 sh)) (bt := 16) (w := 5)
  have hL : L ≤ 286 := by omega
  refine Mr.of (lv := [(0, .ref q), (1, .int i), (2, .ref sh)]) (by decide) (Nat.le_of_ble_eq_true rfl) rfl ?_
  intro p e s m args below meth c Q hC hin hQ
  have hC : Cx X p s m args meth c RX8 cX8_writeSlip 4 none := hC
  have S0 : Sbf K0 F0 G0 K F G q 0 (cf cap 0) := by rw [cf_0]; exact hS
  refine v_widen (k2 := spC (cf cap 0) - spC cap) (n2 := spS (cf cap 0) - spS cap) (Nat.zero_le _) (Nat.zero_le _) ?_
  refine v_aload_n hC dX8_writeSlip_0 rfl 0 rfl ?_
  refine v_iload_n hC dX8_writeSlip_1 rfl 1 rfl ?_
  refine v_ai (v := i) hC  hcap S0 (by omega) hL rfl rfl (Nat.le_of_ble_eq_true rfl) (Nat.le_of_ble_eq_true rfl) (Nat.le_of_ble_eq_true rfl) dX8_writeSlip_2 (fun n1 K1 F1 G1 S1 => ?_)
  refine v_ld610 hC dX8_writeSlip_5 (fun sa V0 f hK => ?_)
  refine v_as hC hK (Nat.le_of_ble_eq_true rfl) hcap S1 (by omega) hL rfl rfl (Nat.le_of_ble_eq_true rfl) (Nat.le_of_ble_eq_true rfl) (Nat.le_of_ble_eq_true rfl) dX8_writeSlip_8 (fun n2 K2 F2 G2 S2 => ?_)
  refine v_aload_n hC dX8_writeSlip_11 rfl 2 rfl ?_
  have y12 := S2.ok ts.1 (by decide)
  refine gf_X8_274 (q := gp G0 sh 0) hC y12.1 (by rw [y12.2.2]; exact ts.2.1.1) dX8_writeSlip_12 ?_
  have y15 := S2.ok ts.2.1.2.1 (by decide)
  refine gf_X8_224 (q := gp G0 (gp G0 sh 0) 1) hC y15.1 (by rw [y15.2.2]; exact ts.2.1.2.2.1.1) dX8_writeSlip_15 ?_
  have y18 := S2.ok ts.2.1.2.2.1.2.1 (by decide)
  refine gf_X8_138 hC y18.1 dX8_writeSlip_18 ?_
  refine v_cst (y := .int (F0 (gp G0 (gp G0 sh 0) 1) 0)) (by rw [y18.2.1]) ?_
  refine v_ai hC  hcap S2 (by omega) hL rfl rfl (Nat.le_of_ble_eq_true rfl) (Nat.le_of_ble_eq_true rfl) (Nat.le_of_ble_eq_true rfl) dX8_writeSlip_21 (fun n3 K3 F3 G3 S3 => ?_)
  refine v_pop hC dX8_writeSlip_24 rfl ?_
  refine v_aload_n hC dX8_writeSlip_25 rfl 0 rfl ?_
  refine v_bipush (v := 62) hC dX8_writeSlip_26 (by decide) ?_
  refine v_ac hC (by decide) hcap S3 (by omega) hL rfl rfl (Nat.le_of_ble_eq_true rfl) (Nat.le_of_ble_eq_true rfl) (Nat.le_of_ble_eq_true rfl) dX8_writeSlip_28 (fun n4 K4 F4 G4 S4 => ?_)
  refine v_aload_n hC dX8_writeSlip_31 rfl 2 rfl ?_
  have y32 := S4.ok ts.1 (by decide)
  refine gf_X8_310 (q := gp G0 sh 1) hC y32.1 (by rw [y32.2.2]; exact ts.2.2.1.1) dX8_writeSlip_32 ?_
  have y35 := S4.ok ts.2.2.1.2.1 (by decide)
  refine gf_X8_123 hC y35.1 dX8_writeSlip_35 ?_
  refine v_cst (y := .int (F0 (gp G0 sh 1) 0)) (by rw [y35.2.1]) ?_
  refine v_ai hC  hcap S4 (by omega) hL rfl rfl (Nat.le_of_ble_eq_true rfl) (Nat.le_of_ble_eq_true rfl) (Nat.le_of_ble_eq_true rfl) dX8_writeSlip_38 (fun n5 K5 F5 G5 S5 => ?_)
  refine v_pop hC dX8_writeSlip_41 rfl ?_
  refine v_aload_n hC dX8_writeSlip_42 rfl 0 rfl ?_
  refine v_bipush (v := 32) hC dX8_writeSlip_43 (by decide) ?_
  refine v_ac hC (by decide) hcap S5 (by omega) hL rfl rfl (Nat.le_of_ble_eq_true rfl) (Nat.le_of_ble_eq_true rfl) (Nat.le_of_ble_eq_true rfl) dX8_writeSlip_45 (fun n6 K6 F6 G6 S6 => ?_)
  refine v_aload_n hC dX8_writeSlip_48 rfl 2 rfl ?_
  have y49 := S6.ok ts.1 (by decide)
  refine gf_X8_242 hC y49.1 dX8_writeSlip_49 ?_
  refine v_cst (y := .int (F0 sh 10)) (by rw [y49.2.1]) ?_
  refine v_ai hC  hcap S6 (by omega) hL rfl rfl (Nat.le_of_ble_eq_true rfl) (Nat.le_of_ble_eq_true rfl) (Nat.le_of_ble_eq_true rfl) dX8_writeSlip_52 (fun n7 K7 F7 G7 S7 => ?_)
  refine v_bipush (v := 47) hC dX8_writeSlip_55 (by decide) ?_
  refine v_ac hC (by decide) hcap S7 (by omega) hL rfl rfl (Nat.le_of_ble_eq_true rfl) (Nat.le_of_ble_eq_true rfl) (Nat.le_of_ble_eq_true rfl) dX8_writeSlip_57 (fun n8 K8 F8 G8 S8 => ?_)
  refine v_aload_n hC dX8_writeSlip_60 rfl 2 rfl ?_
  have y61 := S8.ok ts.1 (by decide)
  refine gf_X8_567 hC y61.1 dX8_writeSlip_61 ?_
  refine v_cst (y := .int (F0 sh 2)) (by rw [y61.2.1]) ?_
  refine v_ai hC  hcap S8 (by omega) hL rfl rfl (Nat.le_of_ble_eq_true rfl) (Nat.le_of_ble_eq_true rfl) (Nat.le_of_ble_eq_true rfl) dX8_writeSlip_64 (fun n9 K9 F9 G9 S9 => ?_)
  refine v_pop hC dX8_writeSlip_67 rfl ?_
  refine v_aload_n hC dX8_writeSlip_68 rfl 2 rfl ?_
  have ty := TShip.old (K := K9) (G := G9) (fun x hx => ⟨(S9.1 x hx).1, (S9.1 x hx).2.2⟩) ts
  have yy := S9.ok ts.1 (by decide)
  refine v_callV (c2 := spC (cf cap (((((((((0 + ssz i) + 2) + ssz (F0 (gp G0 (gp G0 sh 0) 1) 0)) + 1) + ssz (F0 (gp G0 sh 1) 0)) + 1) + ssz (F0 sh 10)) + 1) + ssz (F0 sh 2))) - spC cap) (s2 := spS (cf cap (((((((((0 + ssz i) + 2) + ssz (F0 (gp G0 (gp G0 sh 0) 1) 0)) + 1) + ssz (F0 (gp G0 sh 1) 0)) + 1) + ssz (F0 sh 10)) + 1) + ssz (F0 sh 2))) - spS cap) (As := []) hC (m_X7_marks l ty) q_X8_579 (by rw [ty.1]; decide) (ce_7 ty.1) (ci := 6) rfl hdV_X7_marks rfl rfl (Nat.le_of_ble_eq_true rfl) (Nat.le_of_ble_eq_true rfl) (by obtain ⟨d1, d2⟩ := cf_le hcap (show (((((((((0 + ssz i) + 2) + ssz (F0 (gp G0 (gp G0 sh 0) 1) 0)) + 1) + ssz (F0 (gp G0 sh 1) 0)) + 1) + ssz (F0 sh 10)) + 1) + ssz (F0 sh 2)) ≤ L by omega) hL; show spC (cf cap (((((((((0 + ssz i) + 2) + ssz (F0 (gp G0 (gp G0 sh 0) 1) 0)) + 1) + ssz (F0 (gp G0 sh 1) 0)) + 1) + ssz (F0 sh 10)) + 1) + ssz (F0 sh 2))) - spC cap + 0 ≤ spC (cf cap L) - spC cap; omega) (by obtain ⟨d1, d2⟩ := cf_le hcap (show (((((((((0 + ssz i) + 2) + ssz (F0 (gp G0 (gp G0 sh 0) 1) 0)) + 1) + ssz (F0 (gp G0 sh 1) 0)) + 1) + ssz (F0 sh 10)) + 1) + ssz (F0 sh 2)) ≤ L by omega) hL; show spS (cf cap (((((((((0 + ssz i) + 2) + ssz (F0 (gp G0 (gp G0 sh 0) 1) 0)) + 1) + ssz (F0 (gp G0 sh 1) 0)) + 1) + ssz (F0 sh 10)) + 1) + ssz (F0 sh 2))) - spS cap + 0 ≤ spS (cf cap L) - spS cap; omega) (Nat.le_refl _) (Nat.le_refl _) (Nat.le_of_ble_eq_true rfl) dX8_writeSlip_69 ?_
  refine v_cst (y := .int (f_X7_marks K0 F0 G0 sh)) (congrArg Value.int (mk_congr yy.2.1 yy.2.2)) ?_
  refine v_istore_n (i := 3) (lv' := [(3, .int (f_X7_marks K0 F0 G0 sh)), (0, .ref q), (1, .int i), (2, .ref sh)]) hC dX8_writeSlip_72 rfl (by decide) rfl ?_
  refine v_aload_n hC dX8_writeSlip_73 rfl 1 rfl ?_
  refine v_iload_n hC dX8_writeSlip_74 rfl 0 rfl ?_
  refine v_iconst (v := 1) hC dX8_writeSlip_75 (by decide) ?_
  refine v_ld618 hC dX8_writeSlip_76 (fun sa V0 f hK => ?_)
  refine v_wm hC hK (Nat.le_of_ble_eq_true rfl) hcap S9 (by omega) (by omega) hL rfl rfl (Nat.le_of_ble_eq_true rfl) (Nat.le_of_ble_eq_true rfl) (Nat.le_of_ble_eq_true rfl) dX8_writeSlip_79 (fun n10 K10 F10 G10 S10 => ?_)
  refine v_aload_n hC dX8_writeSlip_82 rfl 1 rfl ?_
  refine v_iload_n hC dX8_writeSlip_83 rfl 0 rfl ?_
  refine v_iconst (v := 2) hC dX8_writeSlip_84 (by decide) ?_
  refine v_ld624 hC dX8_writeSlip_85 (fun sa V0 f hK => ?_)
  refine v_wm hC hK (Nat.le_of_ble_eq_true rfl) hcap S10 (by omega) (by omega) hL rfl rfl (Nat.le_of_ble_eq_true rfl) (Nat.le_of_ble_eq_true rfl) (Nat.le_of_ble_eq_true rfl) dX8_writeSlip_88 (fun n11 K11 F11 G11 S11 => ?_)
  refine v_aload_n hC dX8_writeSlip_91 rfl 1 rfl ?_
  refine v_iload_n hC dX8_writeSlip_92 rfl 0 rfl ?_
  refine v_iconst (v := 4) hC dX8_writeSlip_93 (by decide) ?_
  refine v_ld626 hC dX8_writeSlip_94 (fun sa V0 f hK => ?_)
  refine v_wm hC hK (Nat.le_of_ble_eq_true rfl) hcap S11 (by omega) (by omega) hL rfl rfl (Nat.le_of_ble_eq_true rfl) (Nat.le_of_ble_eq_true rfl) (Nat.le_of_ble_eq_true rfl) dX8_writeSlip_97 (fun n12 K12 F12 G12 S12 => ?_)
  refine v_aload_n hC dX8_writeSlip_100 rfl 1 rfl ?_
  refine v_iload_n hC dX8_writeSlip_101 rfl 0 rfl ?_
  refine v_bipush (v := 8) hC dX8_writeSlip_102 (by decide) ?_
  refine v_ld628 hC dX8_writeSlip_104 (fun sa V0 f hK => ?_)
  refine v_wm hC hK (Nat.le_of_ble_eq_true rfl) hcap S12 (by omega) (by omega) hL rfl rfl (Nat.le_of_ble_eq_true rfl) (Nat.le_of_ble_eq_true rfl) (Nat.le_of_ble_eq_true rfl) dX8_writeSlip_107 (fun n13 K13 F13 G13 S13 => ?_)
  refine v_aload_n hC dX8_writeSlip_110 rfl 1 rfl ?_
  refine v_iload_n hC dX8_writeSlip_111 rfl 0 rfl ?_
  refine v_bipush (v := 16) hC dX8_writeSlip_112 (by decide) ?_
  refine v_ld630 hC dX8_writeSlip_114 (fun sa V0 f hK => ?_)
  refine v_wm hC hK (Nat.le_of_ble_eq_true rfl) hcap S13 (by omega) (by omega) hL rfl rfl (Nat.le_of_ble_eq_true rfl) (Nat.le_of_ble_eq_true rfl) (Nat.le_of_ble_eq_true rfl) dX8_writeSlip_117 (fun n14 K14 F14 G14 S14 => ?_)
  rw [← hLe] at S14
  rw [← hLe]
  refine v_toC (o := none) hQ ⟨rfl, S14⟩ ?_
  exact v_vret hC rfl rfl dX8_writeSlip_120 rfl rfl rfl rfl rfl
end PNR
