/-! the doubles -/
section PNT
section
variable {X : Xt} {p : Program} {l : Launch} {e : Env} {R : Room} {s : State} {m : MethodId} {args : Array Value} {below : List Frame} {meth : Method} {c : Code} {own : String} {cc : ByteArray} {nL : Nat} {ret : Option FieldType}
variable {Q : State → Prop} {cells slots n : Nat} {K : Kt} {F : Ft} {G : Gt} {lv : List (Nat × Value)} {pc : Nat} {st : List Value}
theorem v_dadd (hC : Cx X p s m args meth c own cc nL ret) {x y : UInt64} (hdg : decode cc pc = .ok (.dadd, 1)) (hne : vf_n64 (FP.dadd x y)) (k : V X nL p l e R s m args below meth c Q cells slots n K F G lv (pc + 1) (.double (FP.dadd x y) :: st)) : V X nL p l e R s m args below meth c Q cells slots n K F G lv pc (.double y :: .double x :: st) := fun H locs ls h1 h2 h3 => lv_dadd hC.hx hC.hb hdg hne (k H locs ls h1 h2 h3)
theorem v_dsub (hC : Cx X p s m args meth c own cc nL ret) {x y : UInt64} (hdg : decode cc pc = .ok (.dsub, 1)) (hne : vf_n64 (FP.dsub x y)) (k : V X nL p l e R s m args below meth c Q cells slots n K F G lv (pc + 1) (.double (FP.dsub x y) :: st)) : V X nL p l e R s m args below meth c Q cells slots n K F G lv pc (.double y :: .double x :: st) := fun H locs ls h1 h2 h3 => lv_dsub hC.hx hC.hb hdg hne (k H locs ls h1 h2 h3)
theorem v_dmul (hC : Cx X p s m args meth c own cc nL ret) {x y : UInt64} (hdg : decode cc pc = .ok (.dmul, 1)) (hne : vf_n64 (FP.dmul x y)) (k : V X nL p l e R s m args below meth c Q cells slots n K F G lv (pc + 1) (.double (FP.dmul x y) :: st)) : V X nL p l e R s m args below meth c Q cells slots n K F G lv pc (.double y :: .double x :: st) := fun H locs ls h1 h2 h3 => lv_dmul hC.hx hC.hb hdg hne (k H locs ls h1 h2 h3)
theorem v_ddiv (hC : Cx X p s m args meth c own cc nL ret) {x y : UInt64} (hdg : decode cc pc = .ok (.ddiv, 1)) (hne : vf_n64 (FP.ddiv x y)) (k : V X nL p l e R s m args below meth c Q cells slots n K F G lv (pc + 1) (.double (FP.ddiv x y) :: st)) : V X nL p l e R s m args below meth c Q cells slots n K F G lv pc (.double y :: .double x :: st) := fun H locs ls h1 h2 h3 => lv_ddiv hC.hx hC.hb hdg hne (k H locs ls h1 h2 h3)
end
variable {X : Xt}
abbrev mg (K : Nat) (x : UInt64) : Prop := Jvm.Free.Fl.Mag64 K x
theorem mg_n {K : Nat} {x : UInt64} (h : mg K x) (hK : K ≤ 2047) : vf_n64 x := (Jvm.Free.Fl.Mag64.fin h hK).noNaN
def fch (F : Ft) (a : Nat) : UInt64 := FP.ddiv (FP.i2d (F a 1 * F a 1 + 1)) 4634204016564240384
theorem fch_m (F : Ft) (a : Nat) : mg 1051 (fch F a) := Jvm.FP.Core.ddiv_mag (K := 1056) (L := 1029) (Jvm.Free.Fl.i2d_mag _) (by decide) (by decide) (by omega) (by omega)
def one64 : UInt64 := 4607182418800017408
theorem one_m : mg 1024 4607182418800017408 := by
  show (4607182418800017408 : UInt64).toNat % 9223372036854775808 < 1024 * 4503599627370496
  decide
theorem zero_m {K : Nat} (h : 0 < K) : mg K 0 := by
  show (0 : UInt64).toNat % 9223372036854775808 < K * 4503599627370496
  simp
  omega
def csb (F : Ft) (a : Nat) (st : Int32) (j : Nat) : UInt64 := if (st >>> (nI j &&& 31)) &&& 1 = 1 then fch F a else FP.dsub 4607182418800017408 (fch F a)
theorem csb_m (F : Ft) (a : Nat) (st : Int32) (j : Nat) : mg 1053 (csb F a st j) := by
  unfold csb
  split
  · exact (fch_m F a).mono (by omega)
  · exact Jvm.Free.Fl.dsub_mag (one_m.mono (by omega)) (fch_m F a) (by omega)
def csL (F : Ft) (G : Gt) (a0 : Nat) (st : Int32) : Nat → Nat → UInt64 → UInt64
  | 0, _, x => x
  | k + 1, j, x => csL F G a0 st k (j + 1) (FP.dmul x (csb F (el G (gp G a0 0) j) st j))
theorem csL_m {F : Ft} {G : Gt} {a0 : Nat} {st : Int32} : ∀ (k j : Nat) (x : UInt64), j + k ≤ 30 → mg (1024 + 31 * j) x → mg (1024 + 31 * (j + k)) (csL F G a0 st k j x) := by
  intro k
  induction k with
  | zero => intro j x _ h; exact h
  | succ k ih =>
    intro j x hj h
    rw [show j + (k + 1) = j + 1 + k by omega]
    refine ih (j + 1) _ (by omega) ?_
    exact (Jvm.Free.Fl.dmul_mag h (csb_m F (el G (gp G a0 0) j) st j) (by omega) (by omega)).mono (by omega)
def f_cs (K : Kt) (F : Ft) (G : Gt) (a0 : Nat) (st : Int32) : UInt64 := csL F G a0 st (K (gp G a0 0)).2 0 4607182418800017408
theorem f_cs_m {K : Kt} {F : Ft} {G : Gt} {a0 : Nat} {st : Int32} (h : (K (gp G a0 0)).2 ≤ 3) : mg 1117 (f_cs K F G a0 st) := (csL_m _ 0 _ (by omega) one_m).mono (by omega)
def ssL (g : Nat → Int32) (st : Int32) : Nat → Nat → Int32 → Int32
  | 0, _, x => x
  | k + 1, j, x => ssL g st k (j + 1) (if (st >>> (nI j &&& 31)) &&& 1 = 1 then x + g j else x)
def exL (K : Kt) (F : Ft) (G : Gt) (a0 : Nat) : Nat → Nat → UInt64 → UInt64
  | 0, _, x => x
  | k + 1, j, x => exL K F G a0 k (j + 1) (FP.dadd x (FP.dmul (fch F (el G (gp G a0 0) j)) (FP.i2d (f_X8_riskIn K F G a0 (el G (gp G a0 0) j)))))
theorem ext_m (K : Kt) (F : Ft) (G : Gt) (a0 a : Nat) : mg 1085 (FP.dmul (fch F a) (FP.i2d (f_X8_riskIn K F G a0 a))) := (Jvm.Free.Fl.dmul_mag (fch_m F a) (Jvm.Free.Fl.i2d_mag _) (by omega) (by omega)).mono (by omega)
theorem exL_m {K : Kt} {F : Ft} {G : Gt} {a0 : Nat} : ∀ (k j : Nat) (x : UInt64), j + k ≤ 3 → mg (1086 + 2 * j) x → mg (1086 + 2 * (j + k)) (exL K F G a0 k j x) := by
  intro k
  induction k with
  | zero => intro j x _ h; exact h
  | succ k ih =>
    intro j x hj h
    rw [show j + (k + 1) = j + 1 + k by omega]
    refine ih (j + 1) _ (by omega) ?_
    exact (Jvm.Free.Fl.dadd_mag h ((ext_m K F G a0 _).mono (by omega)) (by omega)).mono (by omega)
def rkg (K : Kt) (F : Ft) (G : Gt) (a0 j : Nat) : Nat → Int32 := fun i => if i < j then f_X8_riskIn K F G a0 (el G (gp G a0 0) i) else 0
def prL (K : Kt) (F : Ft) (G : Gt) (a0 : Nat) (y : Int32) : Nat → Nat → UInt64 → UInt64
  | 0, _, x => x
  | k + 1, u, x => prL K F G a0 y k (u + 1) (if ssL (rkg K F G a0 3) (nI u) 5 0 0 < y then x else FP.dadd x (f_cs K F G a0 (nI u)))
theorem prL_m {K : Kt} {F : Ft} {G : Gt} {a0 : Nat} {y : Int32} (hs : (K (gp G a0 0)).2 ≤ 3) : ∀ (k u : Nat) (x : UInt64), u + k ≤ 8 → mg (1118 + 2 * u) x → mg (1118 + 2 * (u + k)) (prL K F G a0 y k u x) := by
  intro k
  induction k with
  | zero => intro u x _ h; exact h
  | succ k ih =>
    intro u x hu h
    rw [show u + (k + 1) = u + 1 + k by omega]
    refine ih (u + 1) _ (by omega) ?_
    split
    · exact h.mono (by omega)
    · exact (Jvm.Free.Fl.dadd_mag h ((f_cs_m hs).mono (by omega)) (by omega)).mono (by omega)
theorem hdS_X5_chanceToFail : yX5_chanceToFail.cls ≠ "java/lang/invoke/MethodHandle" ∧ yX5_chanceToFail.cls ≠ "java/lang/invoke/VarHandle" ∧ (parseMethodDescriptor yX5_chanceToFail.desc).map (fun d => d.parameters.length) = some 0 := by decide +kernel
theorem hdV_X5_chanceToFail : yX5_chanceToFail.cls = RX5 ∧ yX5_chanceToFail.cls ≠ "java/lang/invoke/MethodHandle" ∧ yX5_chanceToFail.cls ≠ "java/lang/invoke/VarHandle" ∧ (parseMethodDescriptor yX5_chanceToFail.desc).map (fun d => d.parameters.length) = some 0 := by decide +kernel
theorem hdS_X8_chanceOfSet : yX8_chanceOfSet.cls ≠ "java/lang/invoke/MethodHandle" ∧ yX8_chanceOfSet.cls ≠ "java/lang/invoke/VarHandle" ∧ (parseMethodDescriptor yX8_chanceOfSet.desc).map (fun d => d.parameters.length) = some 1 := by decide +kernel
theorem hdV_X8_chanceOfSet : yX8_chanceOfSet.cls = RX8 ∧ yX8_chanceOfSet.cls ≠ "java/lang/invoke/MethodHandle" ∧ yX8_chanceOfSet.cls ≠ "java/lang/invoke/VarHandle" ∧ (parseMethodDescriptor yX8_chanceOfSet.desc).map (fun d => d.parameters.length) = some 1 := by decide +kernel
theorem hdS_X8_sumOfSet : yX8_sumOfSet.cls ≠ "java/lang/invoke/MethodHandle" ∧ yX8_sumOfSet.cls ≠ "java/lang/invoke/VarHandle" ∧ (parseMethodDescriptor yX8_sumOfSet.desc).map (fun d => d.parameters.length) = some 2 := by decide +kernel
theorem hdV_X8_sumOfSet : yX8_sumOfSet.cls = RX8 ∧ yX8_sumOfSet.cls ≠ "java/lang/invoke/MethodHandle" ∧ yX8_sumOfSet.cls ≠ "java/lang/invoke/VarHandle" ∧ (parseMethodDescriptor yX8_sumOfSet.desc).map (fun d => d.parameters.length) = some 2 := by decide +kernel
theorem hdS_X8_expected : yX8_expected.cls ≠ "java/lang/invoke/MethodHandle" ∧ yX8_expected.cls ≠ "java/lang/invoke/VarHandle" ∧ (parseMethodDescriptor yX8_expected.desc).map (fun d => d.parameters.length) = some 0 := by decide +kernel
theorem hdV_X8_expected : yX8_expected.cls = RX8 ∧ yX8_expected.cls ≠ "java/lang/invoke/MethodHandle" ∧ yX8_expected.cls ≠ "java/lang/invoke/VarHandle" ∧ (parseMethodDescriptor yX8_expected.desc).map (fun d => d.parameters.length) = some 0 := by decide +kernel
theorem hdS_X8_probable : yX8_probable.cls ≠ "java/lang/invoke/MethodHandle" ∧ yX8_probable.cls ≠ "java/lang/invoke/VarHandle" ∧ (parseMethodDescriptor yX8_probable.desc).map (fun d => d.parameters.length) = some 1 := by decide +kernel
theorem hdV_X8_probable : yX8_probable.cls = RX8 ∧ yX8_probable.cls ≠ "java/lang/invoke/MethodHandle" ∧ yX8_probable.cls ≠ "java/lang/invoke/VarHandle" ∧ (parseMethodDescriptor yX8_probable.desc).map (fun d => d.parameters.length) = some 1 := by decide +kernel
set_option maxRecDepth 100000 in
set_option maxHeartbeats 4000000 in
theorem m_X5_chanceToFail (l : Launch) {n : Nat} {K : Kt} {F : Ft} {G : Gt} {a : Nat} (t : (K a).1 = 3) : Mw X l yX5_chanceToFail cX5_chanceToFail 1 (some .double) 0 0 0 0 [.ref a] n K F G (some (.double (fch F a))) n K F G := by
  refine Mw.of (lv := [(0, .ref a)]) (by decide) (Nat.le_of_ble_eq_true rfl) rfl ?_
  intro p e s m args below meth c Q hC hin hQ
  have hC : Cx X p s m args meth c RX5 cX5_chanceToFail 1 (some .double) := hC
  refine v_aload_n hC dX5_chanceToFail_0 rfl 0 rfl ?_
  refine gf_X5_24 hC t dX5_chanceToFail_1 ?_
  refine v_aload_n hC dX5_chanceToFail_4 rfl 0 rfl ?_
  refine gf_X5_24 hC t dX5_chanceToFail_5 ?_
  refine v_imul hC dX5_chanceToFail_8 ?_
  refine v_iconst (v := 1) hC dX5_chanceToFail_9 (by decide) ?_
  refine v_iadd hC dX5_chanceToFail_10 ?_
  refine v_i2d hC dX5_chanceToFail_11 ?_
  refine v_ldc2d (v := 4634204016564240384) hC aw_835 dX5_chanceToFail_12 ?_
  refine v_ddiv hC dX5_chanceToFail_15 (mg_n (fch_m F a) (by omega)) ?_
  exact v_dret hC rfl hQ dX5_chanceToFail_16 rfl rfl rfl rfl rfl
set_option maxRecDepth 100000 in
set_option maxHeartbeats 4000000 in
theorem m_X8_chanceOfSet (l : Launch) {n : Nat} {K : Kt} {F : Ft} {G : Gt} {a0 : Nat} {u : Int32} (t0 : TMain K G a0) (h3 : (K (gp G a0 0)).2 ≤ 3) : Mw X l yX8_chanceOfSet cX8_chanceOfSet 7 (some .double) 3 80 0 0 [.ref a0, .int u] n K F G (some (.double (f_cs K F G a0 u))) n K F G := by
  refine Mw.of (lv := [(0, .ref a0), (1, .int u)]) (by decide) (Nat.le_of_ble_eq_true rfl) rfl ?_
  intro p e s m args below meth c Q hC hin hQ
  have hC : Cx X p s m args meth c RX8 cX8_chanceOfSet 7 (some .double) := hC
  have tl := t0.2.1.2
  have hsz := tl.lt
  have L : ∀ (k j : Nat) (x : UInt64), j + k = (K (gp G a0 0)).2 → mg (1024 + 31 * j) x → csL F G a0 u k j x = f_cs K F G a0 u → V X 7 p l e ({ frames := 3, cells := 0, slots := 0, locals := 80 } : Room) s m args below meth c Q 0 0 n K F G [(0, .ref a0), (1, .int u), (2, .double x), (4, .int (nI j))] 5 [] := by
    intro k
    induction k with
    | zero =>
      intro j x hj hm hr
      rw [csL] at hr
      refine v_iload hC dX8_chanceOfSet_5 3 rfl ?_
      refine v_aload_n hC dX8_chanceOfSet_7 rfl 0 rfl ?_
      refine gf_X8_10 hC t0.1 t0.2.1.1 dX8_chanceOfSet_8 ?_
      refine v_callV (c2 := 0) (s2 := 0) (As := []) hC (m_Jx4a65c_size_8abf5 l tl.1) q_X8_89 (by rw [tl.1]; decide) (ce_10 tl.1) (ci := 9) rfl hdV_Jx4a65c_size_8abf5 rfl rfl (Nat.le_of_ble_eq_true rfl) (Nat.le_of_ble_eq_true rfl) (Nat.le_of_ble_eq_true rfl) (Nat.le_of_ble_eq_true rfl) (Nat.le_of_ble_eq_true rfl) (Nat.le_of_ble_eq_true rfl) (Nat.le_of_ble_eq_true rfl) dX8_chanceOfSet_11 ?_
      refine v_icmp_ge (tgt := 62) hC dX8_chanceOfSet_14 (by decide) (fun _ => ?_) (fun w => absurd (lp_z hj) w)
      refine v_dload_n hC dX8_chanceOfSet_62 rfl 2 rfl ?_
      exact v_dret hC rfl hQ dX8_chanceOfSet_63 (by rw [hr]) rfl rfl rfl rfl
    | succ k ih =>
      intro j x hj hm hr
      rw [csL] at hr
      refine v_iload hC dX8_chanceOfSet_5 3 rfl ?_
      refine v_aload_n hC dX8_chanceOfSet_7 rfl 0 rfl ?_
      refine gf_X8_10 hC t0.1 t0.2.1.1 dX8_chanceOfSet_8 ?_
      refine v_callV (c2 := 0) (s2 := 0) (As := []) hC (m_Jx4a65c_size_8abf5 l tl.1) q_X8_89 (by rw [tl.1]; decide) (ce_10 tl.1) (ci := 9) rfl hdV_Jx4a65c_size_8abf5 rfl rfl (Nat.le_of_ble_eq_true rfl) (Nat.le_of_ble_eq_true rfl) (Nat.le_of_ble_eq_true rfl) (Nat.le_of_ble_eq_true rfl) (Nat.le_of_ble_eq_true rfl) (Nat.le_of_ble_eq_true rfl) (Nat.le_of_ble_eq_true rfl) dX8_chanceOfSet_11 ?_
      refine v_icmp_ge (tgt := 62) hC dX8_chanceOfSet_14 (by decide) (fun w => absurd w (lp_s hj hsz)) (fun _ => ?_)
      refine v_aload_n hC dX8_chanceOfSet_17 rfl 0 rfl ?_
      refine gf_X8_10 hC t0.1 t0.2.1.1 dX8_chanceOfSet_18 ?_
      refine v_iload hC dX8_chanceOfSet_21 3 rfl ?_
      refine v_callV (c2 := 0) (s2 := 0) (As := [.int (nI j)]) hC (m_Jx4a65c_get_915e3 l tl (i := j) (by omega)) q_X8_306 (by rw [tl.1]; decide) (ce_10 tl.1) (ci := 9) rfl hdV_Jx4a65c_get_915e3 rfl rfl (Nat.le_of_ble_eq_true rfl) (Nat.le_of_ble_eq_true rfl) (Nat.le_of_ble_eq_true rfl) (Nat.le_of_ble_eq_true rfl) (Nat.le_of_ble_eq_true rfl) (Nat.le_of_ble_eq_true rfl) (Nat.le_of_ble_eq_true rfl) dX8_chanceOfSet_23 ?_
      have tn : (K (el G (gp G a0 0) j)).1 = 3 := tl.el (i := j) (by omega)
      refine v_cast hC (by rw [tn]; decide) (ce_3 tn) (ci := 2) rfl aw_404 dX8_chanceOfSet_26 ?_
      refine v_callV (c2 := 0) (s2 := 0) (As := []) hC (m_X5_chanceToFail l tn) q_X8_381 (by rw [tn]; decide) (ce_3 tn) (ci := 2) rfl hdV_X5_chanceToFail rfl rfl (Nat.le_of_ble_eq_true rfl) (Nat.le_of_ble_eq_true rfl) (Nat.le_of_ble_eq_true rfl) (Nat.le_of_ble_eq_true rfl) (Nat.le_of_ble_eq_true rfl) (Nat.le_of_ble_eq_true rfl) (Nat.le_of_ble_eq_true rfl) dX8_chanceOfSet_29 ?_
      refine v_dstore (i := 5) (lv' := [(5, .double (fch F (el G (gp G a0 0) j))), (0, .ref a0), (1, .int u), (2, .double x), (4, .int (nI j))]) hC dX8_chanceOfSet_32 (by decide) rfl ?_
      have J : ∀ y, mg 1053 y → y = csb F (el G (gp G a0 0) j) u j → V X 7 p l e ({ frames := 3, cells := 0, slots := 0, locals := 80 } : Room) s m args below meth c Q 0 0 n K F G [(5, .double (fch F (el G (gp G a0 0) j))), (0, .ref a0), (1, .int u), (2, .double x), (4, .int (nI j))] 54 [.double y, .double x] := by
        intro y hy hye
        refine v_dmul hC dX8_chanceOfSet_54 (mg_n (Jvm.Free.Fl.dmul_mag hm hy (by omega) (by omega)) (by omega)) ?_
        refine v_dstore_n (i := 2) (lv' := [(2, .double (FP.dmul x y)), (5, .double (fch F (el G (gp G a0 0) j))), (0, .ref a0), (1, .int u), (4, .int (nI j))]) hC dX8_chanceOfSet_55 rfl (by decide) rfl ?_
        refine v_iinc (v := nI (j + 1)) (lv' := [(4, .int (nI (j + 1))), (2, .double (FP.dmul x y)), (5, .double (fch F (el G (gp G a0 0) j))), (0, .ref a0), (1, .int u)]) hC dX8_chanceOfSet_56 4 rfl (nI_inc j) (by decide) rfl ?_
        refine v_goto (tgt := 5) hC dX8_chanceOfSet_59 (by decide) ?_
        refine v_sub (lv' := [(0, .ref a0), (1, .int u), (2, .double (FP.dmul x y)), (4, .int (nI (j + 1)))]) [3, 4, 1, 0] rfl ?_
        exact ih (j + 1) _ (by omega) ((Jvm.Free.Fl.dmul_mag hm hy (by omega) (by omega)).mono (by omega)) (by rw [hye]; exact hr)
      refine v_dload_n hC dX8_chanceOfSet_34 rfl 3 rfl ?_
      refine v_iload_n hC dX8_chanceOfSet_35 rfl 2 rfl ?_
      refine v_iload hC dX8_chanceOfSet_36 4 rfl ?_
      refine v_ishr hC dX8_chanceOfSet_38 ?_
      refine v_iconst (v := 1) hC dX8_chanceOfSet_39 (by decide) ?_
      refine v_iand hC dX8_chanceOfSet_40 ?_
      refine v_iconst (v := 1) hC dX8_chanceOfSet_41 (by decide) ?_
      refine v_icmp_ne (tgt := 50) hC dX8_chanceOfSet_42 (by decide) (fun w => ?_) (fun w => ?_)
      · refine v_dconst1 hC dX8_chanceOfSet_50 ?_
        refine v_dload hC dX8_chanceOfSet_51 0 rfl ?_
        refine v_dsub hC dX8_chanceOfSet_53 (mg_n (Jvm.Free.Fl.dsub_mag (one_m.mono (by omega)) (fch_m F _) (by omega)) (by omega)) ?_
        have e : csb F (el G (gp G a0 0) j) u j = FP.dsub 4607182418800017408 (fch F (el G (gp G a0 0) j)) := if_neg w
        exact J _ (by rw [← e]; exact csb_m F _ u j) e.symm
      · refine v_dload hC dX8_chanceOfSet_45 0 rfl ?_
        refine v_goto (tgt := 54) hC dX8_chanceOfSet_47 (by decide) ?_
        have e : csb F (el G (gp G a0 0) j) u j = fch F (el G (gp G a0 0) j) := if_pos w
        exact J _ (by rw [← e]; exact csb_m F _ u j) e.symm
  refine v_dconst1 hC dX8_chanceOfSet_0 ?_
  refine v_dstore_n (i := 2) (lv' := [(2, .double 4607182418800017408), (0, .ref a0), (1, .int u)]) hC dX8_chanceOfSet_1 rfl (by decide) rfl ?_
  refine v_iconst (v := nI 0) hC dX8_chanceOfSet_2 (by decide) ?_
  refine v_istore (i := 4) (lv' := [(4, .int (nI 0)), (2, .double 4607182418800017408), (0, .ref a0), (1, .int u)]) hC dX8_chanceOfSet_3 (by decide) rfl ?_
  refine v_sub (lv' := [(0, .ref a0), (1, .int u), (2, .double 4607182418800017408), (4, .int (nI 0))]) [2, 3, 1, 0] rfl ?_
  exact L (K (gp G a0 0)).2 0 _ (by omega) one_m rfl
set_option maxRecDepth 100000 in
set_option maxHeartbeats 4000000 in
theorem m_X8_sumOfSet (l : Launch) {n : Nat} {K : Kt} {F : Ft} {G : Gt} {r : Nat} {u : Int32} (hr0 : K r = (20, 5)) : Mw X l yX8_sumOfSet cX8_sumOfSet 4 (some .int) 0 0 0 0 [.ref r, .int u] n K F G (some (.int (ssL (F r) u 5 0 0))) n K F G := by
  refine Mw.of (lv := [(0, .ref r), (1, .int u)]) (by decide) (Nat.le_of_ble_eq_true rfl) rfl ?_
  intro p e s m args below meth c Q hC hin hQ
  have hC : Cx X p s m args meth c RX8 cX8_sumOfSet 4 (some .int) := hC
  have L : ∀ (k j : Nat) (x : Int32), j + k = 5 → ssL (F r) u k j x = ssL (F r) u 5 0 0 → V X 4 p l e ({ frames := 0, cells := 0, slots := 0, locals := 0 } : Room) s m args below meth c Q 0 0 n K F G [(0, .ref r), (1, .int u), (2, .int x), (3, .int (nI j))] 4 [] := by
    intro k
    induction k with
    | zero =>
      intro j x hj hr
      rw [ssL] at hr
      refine v_iload_n hC dX8_sumOfSet_4 rfl 3 rfl ?_
      refine v_aload_n hC dX8_sumOfSet_5 rfl 0 rfl ?_
      refine v_alen_20 (N := 5) hC hr0 dX8_sumOfSet_6 ?_
      refine v_icmp_ge (tgt := 31) hC dX8_sumOfSet_7 (by decide) (fun _ => ?_) (fun w => absurd (lp_z hj) w)
      refine v_iload_n hC dX8_sumOfSet_31 rfl 2 rfl ?_
      exact v_iret hC rfl hQ dX8_sumOfSet_32 (by rw [hr]) rfl rfl rfl rfl
    | succ k ih =>
      intro j x hj hr
      rw [ssL] at hr
      refine v_iload_n hC dX8_sumOfSet_4 rfl 3 rfl ?_
      refine v_aload_n hC dX8_sumOfSet_5 rfl 0 rfl ?_
      refine v_alen_20 (N := 5) hC hr0 dX8_sumOfSet_6 ?_
      refine v_icmp_ge (tgt := 31) hC dX8_sumOfSet_7 (by decide) (fun w => absurd w (lp_s hj (by decide))) (fun _ => ?_)
      refine v_iload_n hC dX8_sumOfSet_10 rfl 1 rfl ?_
      refine v_iload_n hC dX8_sumOfSet_11 rfl 3 rfl ?_
      refine v_ishr hC dX8_sumOfSet_12 ?_
      refine v_iconst (v := 1) hC dX8_sumOfSet_13 (by decide) ?_
      refine v_iand hC dX8_sumOfSet_14 ?_
      refine v_iconst (v := 1) hC dX8_sumOfSet_15 (by decide) ?_
      refine v_icmp_ne (tgt := 25) hC dX8_sumOfSet_16 (by decide) (fun w => ?_) (fun w => ?_)
      · refine v_iinc (v := nI (j + 1)) (lv' := [(3, .int (nI (j + 1))), (0, .ref r), (1, .int u), (2, .int x)]) hC dX8_sumOfSet_25 3 rfl (nI_inc j) (by decide) rfl ?_
        refine v_goto (tgt := 4) hC dX8_sumOfSet_28 (by decide) ?_
        refine v_sub (lv' := [(0, .ref r), (1, .int u), (2, .int x), (3, .int (nI (j + 1)))]) [1, 2, 3, 0] rfl ?_
        exact ih (j + 1) _ (by omega) (by rw [if_neg w] at hr; exact hr)
      · refine v_iload_n hC dX8_sumOfSet_19 rfl 2 rfl ?_
        refine v_aload_n hC dX8_sumOfSet_20 rfl 0 rfl ?_
        refine v_iload_n hC dX8_sumOfSet_21 rfl 3 rfl ?_
        refine v_iald (N := 5) hC hr0 (nI_in (by omega) (by omega)) dX8_sumOfSet_22 ?_
        refine v_cst (y := .int (F r j)) (by rw [nI_clamp (by omega)]) ?_
        refine v_iadd hC dX8_sumOfSet_23 ?_
        refine v_istore_n (i := 2) (lv' := [(2, .int (x + F r j)), (0, .ref r), (1, .int u), (3, .int (nI j))]) hC dX8_sumOfSet_24 rfl (by decide) rfl ?_
        refine v_iinc (v := nI (j + 1)) (lv' := [(3, .int (nI (j + 1))), (2, .int (x + F r j)), (0, .ref r), (1, .int u)]) hC dX8_sumOfSet_25 3 rfl (nI_inc j) (by decide) rfl ?_
        refine v_goto (tgt := 4) hC dX8_sumOfSet_28 (by decide) ?_
        refine v_sub (lv' := [(0, .ref r), (1, .int u), (2, .int (x + F r j)), (3, .int (nI (j + 1)))]) [2, 3, 1, 0] rfl ?_
        have w2 : (u >>> (nI j &&& 31)) &&& 1 = 1 := w
        exact ih (j + 1) _ (by omega) (by rw [if_pos w2] at hr; exact hr)
  refine v_iconst (v := 0) hC dX8_sumOfSet_0 (by decide) ?_
  refine v_istore_n (i := 2) (lv' := [(2, .int 0), (0, .ref r), (1, .int u)]) hC dX8_sumOfSet_1 rfl (by decide) rfl ?_
  refine v_iconst (v := nI 0) hC dX8_sumOfSet_2 (by decide) ?_
  refine v_istore_n (i := 3) (lv' := [(3, .int (nI 0)), (2, .int 0), (0, .ref r), (1, .int u)]) hC dX8_sumOfSet_3 rfl (by decide) rfl ?_
  refine v_sub (lv' := [(0, .ref r), (1, .int u), (2, .int 0), (3, .int (nI 0))]) [2, 3, 1, 0] rfl ?_
  exact L 5 0 0 (by omega) rfl
set_option maxRecDepth 100000 in
set_option maxHeartbeats 4000000 in
theorem m_X8_expected (l : Launch) {n : Nat} {K : Kt} {F : Ft} {G : Gt} {a0 : Nat} (t0 : TMain K G a0) (h3 : (K (gp G a0 0)).2 = 3) : Mw X l yX8_expected cX8_expected 5 (some .double) 4 100 0 0 [.ref a0] n K F G (some (.double (exL K F G a0 3 0 0))) n K F G := by
  refine Mw.of (lv := [(0, .ref a0)]) (by decide) (Nat.le_of_ble_eq_true rfl) rfl ?_
  intro p e s m args below meth c Q hC hin hQ
  have hC : Cx X p s m args meth c RX8 cX8_expected 5 (some .double) := hC
  have tl := t0.2.1.2
  have hsz := tl.lt
  have L : ∀ (k j : Nat) (x : UInt64), j + k = (K (gp G a0 0)).2 → mg (1086 + 2 * j) x → exL K F G a0 k j x = exL K F G a0 3 0 0 → V X 5 p l e ({ frames := 4, cells := 0, slots := 0, locals := 100 } : Room) s m args below meth c Q 0 0 n K F G [(0, .ref a0), (1, .double x), (3, .int (nI j))] 4 [] := by
    intro k
    induction k with
    | zero =>
      intro j x hj hm hr
      rw [exL] at hr
      refine v_iload_n hC dX8_expected_4 rfl 2 rfl ?_
      refine v_aload_n hC dX8_expected_5 rfl 0 rfl ?_
      refine gf_X8_10 hC t0.1 t0.2.1.1 dX8_expected_6 ?_
      refine v_callV (c2 := 0) (s2 := 0) (As := []) hC (m_Jx4a65c_size_8abf5 l tl.1) q_X8_89 (by rw [tl.1]; decide) (ce_10 tl.1) (ci := 9) rfl hdV_Jx4a65c_size_8abf5 rfl rfl (Nat.le_of_ble_eq_true rfl) (Nat.le_of_ble_eq_true rfl) (Nat.le_of_ble_eq_true rfl) (Nat.le_of_ble_eq_true rfl) (Nat.le_of_ble_eq_true rfl) (Nat.le_of_ble_eq_true rfl) (Nat.le_of_ble_eq_true rfl) dX8_expected_9 ?_
      refine v_icmp_ge (tgt := 50) hC dX8_expected_12 (by decide) (fun _ => ?_) (fun w => absurd (lp_z hj) w)
      refine v_dload_n hC dX8_expected_50 rfl 1 rfl ?_
      exact v_dret hC rfl hQ dX8_expected_51 (by rw [hr]) rfl rfl rfl rfl
    | succ k ih =>
      intro j x hj hm hr
      rw [exL] at hr
      refine v_iload_n hC dX8_expected_4 rfl 2 rfl ?_
      refine v_aload_n hC dX8_expected_5 rfl 0 rfl ?_
      refine gf_X8_10 hC t0.1 t0.2.1.1 dX8_expected_6 ?_
      refine v_callV (c2 := 0) (s2 := 0) (As := []) hC (m_Jx4a65c_size_8abf5 l tl.1) q_X8_89 (by rw [tl.1]; decide) (ce_10 tl.1) (ci := 9) rfl hdV_Jx4a65c_size_8abf5 rfl rfl (Nat.le_of_ble_eq_true rfl) (Nat.le_of_ble_eq_true rfl) (Nat.le_of_ble_eq_true rfl) (Nat.le_of_ble_eq_true rfl) (Nat.le_of_ble_eq_true rfl) (Nat.le_of_ble_eq_true rfl) (Nat.le_of_ble_eq_true rfl) dX8_expected_9 ?_
      refine v_icmp_ge (tgt := 50) hC dX8_expected_12 (by decide) (fun w => absurd w (lp_s hj hsz)) (fun _ => ?_)
      refine v_aload_n hC dX8_expected_15 rfl 0 rfl ?_
      refine gf_X8_10 hC t0.1 t0.2.1.1 dX8_expected_16 ?_
      refine v_iload_n hC dX8_expected_19 rfl 2 rfl ?_
      refine v_callV (c2 := 0) (s2 := 0) (As := [.int (nI j)]) hC (m_Jx4a65c_get_915e3 l tl (i := j) (by omega)) q_X8_306 (by rw [tl.1]; decide) (ce_10 tl.1) (ci := 9) rfl hdV_Jx4a65c_get_915e3 rfl rfl (Nat.le_of_ble_eq_true rfl) (Nat.le_of_ble_eq_true rfl) (Nat.le_of_ble_eq_true rfl) (Nat.le_of_ble_eq_true rfl) (Nat.le_of_ble_eq_true rfl) (Nat.le_of_ble_eq_true rfl) (Nat.le_of_ble_eq_true rfl) dX8_expected_20 ?_
      have tn : (K (el G (gp G a0 0) j)).1 = 3 := tl.el (i := j) (by omega)
      refine v_cast hC (by rw [tn]; decide) (ce_3 tn) (ci := 2) rfl aw_404 dX8_expected_23 ?_
      refine v_astore (i := 4) (lv' := [(4, .ref (el G (gp G a0 0) j)), (0, .ref a0), (1, .double x), (3, .int (nI j))]) hC dX8_expected_26 (by decide) rfl ?_
      refine v_dload_n hC dX8_expected_28 rfl 2 rfl ?_
      refine v_aload hC dX8_expected_29 0 rfl ?_
      refine v_callV (c2 := 0) (s2 := 0) (As := []) hC (m_X5_chanceToFail l tn) q_X8_381 (by rw [tn]; decide) (ce_3 tn) (ci := 2) rfl hdV_X5_chanceToFail rfl rfl (Nat.le_of_ble_eq_true rfl) (Nat.le_of_ble_eq_true rfl) (Nat.le_of_ble_eq_true rfl) (Nat.le_of_ble_eq_true rfl) (Nat.le_of_ble_eq_true rfl) (Nat.le_of_ble_eq_true rfl) (Nat.le_of_ble_eq_true rfl) dX8_expected_31 ?_
      refine v_aload_n hC dX8_expected_34 rfl 1 rfl ?_
      refine v_aload hC dX8_expected_35 0 rfl ?_
      refine v_callV (c2 := 0) (s2 := 0) (As := [.ref (el G (gp G a0 0) j)]) hC (m_X8_riskIn l (a0 := a0) t0 tn) q_X8_385 (by rw [t0.1]; decide) (ce_1 t0.1) (ci := 0) rfl hdV_X8_riskIn rfl rfl (Nat.le_of_ble_eq_true rfl) (Nat.le_of_ble_eq_true rfl) (Nat.le_of_ble_eq_true rfl) (Nat.le_of_ble_eq_true rfl) (Nat.le_of_ble_eq_true rfl) (Nat.le_of_ble_eq_true rfl) (Nat.le_of_ble_eq_true rfl) dX8_expected_37 ?_
      refine v_i2d hC dX8_expected_40 ?_
      refine v_dmul hC dX8_expected_41 (mg_n (ext_m K F G a0 _) (by omega)) ?_
      refine v_dadd hC dX8_expected_42 (mg_n (Jvm.Free.Fl.dadd_mag hm ((ext_m K F G a0 _).mono (by omega)) (by omega)) (by omega)) ?_
      refine v_dstore_n (i := 1) (lv' := [(1, .double (FP.dadd x (FP.dmul (fch F (el G (gp G a0 0) j)) (FP.i2d (f_X8_riskIn K F G a0 (el G (gp G a0 0) j)))))), (4, .ref (el G (gp G a0 0) j)), (0, .ref a0), (3, .int (nI j))]) hC dX8_expected_43 rfl (by decide) rfl ?_
      refine v_iinc (v := nI (j + 1)) (lv' := [(3, .int (nI (j + 1))), (1, .double (FP.dadd x (FP.dmul (fch F (el G (gp G a0 0) j)) (FP.i2d (f_X8_riskIn K F G a0 (el G (gp G a0 0) j)))))), (4, .ref (el G (gp G a0 0) j)), (0, .ref a0)]) hC dX8_expected_44 3 rfl (nI_inc j) (by decide) rfl ?_
      refine v_goto (tgt := 4) hC dX8_expected_47 (by decide) ?_
      refine v_sub (lv' := [(0, .ref a0), (1, .double (FP.dadd x (FP.dmul (fch F (el G (gp G a0 0) j)) (FP.i2d (f_X8_riskIn K F G a0 (el G (gp G a0 0) j)))))), (3, .int (nI (j + 1)))]) [3, 1, 0] rfl ?_
      exact ih (j + 1) _ (by omega) ((Jvm.Free.Fl.dadd_mag hm ((ext_m K F G a0 _).mono (by omega)) (by omega)).mono (by omega)) hr
  refine v_dconst0 hC dX8_expected_0 ?_
  refine v_dstore_n (i := 1) (lv' := [(1, .double 0), (0, .ref a0)]) hC dX8_expected_1 rfl (by decide) rfl ?_
  refine v_iconst (v := nI 0) hC dX8_expected_2 (by decide) ?_
  refine v_istore_n (i := 3) (lv' := [(3, .int (nI 0)), (1, .double 0), (0, .ref a0)]) hC dX8_expected_3 rfl (by decide) rfl ?_
  refine v_sub (lv' := [(0, .ref a0), (1, .double 0), (3, .int (nI 0))]) [2, 1, 0] rfl ?_
  exact L (K (gp G a0 0)).2 0 _ (by omega) (zero_m (by omega)) (by rw [h3])
set_option maxRecDepth 100000 in
set_option maxHeartbeats 4000000 in
theorem m_X8_probable (l : Launch) {n : Nat} {K : Kt} {F : Ft} {G : Gt} {a0 : Nat} {y : Int32} (t0 : TMain K G a0) (h3 : (K (gp G a0 0)).2 = 3) (hy : ¬ y < 0) : Mr X l yX8_probable cX8_probable 6 (some .double) 5 130 1 5 [.ref a0, .int y] n K F G (fun o n' K' F' G' => o = some (.double (prL K F G a0 y 8 0 0)) ∧ K' = K ∧ F' = F ∧ G' = G) := by
  refine Mr.of (lv := [(0, .ref a0), (1, .int y)]) (by decide) (Nat.le_of_ble_eq_true rfl) rfl ?_
  intro p e s m args below meth c Q hC hin hQ
  have hC : Cx X p s m args meth c RX8 cX8_probable 6 (some .double) := hC
  have tl := t0.2.1.2
  have hsz := tl.lt
  refine v_fresh (fun hfr => ?_)
  have y0 : (va_up K n (20, 5) a0).1 = 1 ∧ True := ⟨kup hfr t0.1 (by decide), trivial⟩
  have mkZ : ∀ F1 : Ft, (∀ x, x ≠ n → F1 x = F x) → Fz K (va_up K n (20, 5)) F F1 G G n n := fun F1 hF => ⟨fun x hx => ⟨va_up_ne _ _ (kne hfr hx), hF x (kne hfr hx), rfl⟩, hfr, hfr, by rw [kat]; exact (by decide : (20 : Nat) ≠ 0), by rw [kat]; exact (by decide : (20 : Nat) ≠ 0), fun x hx => by
    by_cases q : x = n
    · exact Or.inr (Or.inl q)
    · rw [va_up_ne _ _ q] at hx
      exact Or.inl hx⟩
  have L2 : ∀ (k u n1 : Nat) (F1 : Ft) (x : UInt64), u + k = 8 → (∀ x, x ≠ n → F1 x = F x) → F1 n = rkg K F G a0 3 → mg (1118 + 2 * u) x → prL K F G a0 y k u x = prL K F G a0 y 8 0 0 → V X 6 p l e ({ frames := 5, cells := 1, slots := 5, locals := 130 } : Room) s m args below meth c Q 1 5 n1 (va_up K n (20, 5)) F1 G [(0, .ref a0), (1, .int y), (2, .ref n), (3, .double x), (5, .int (nI u))] 64 [] := by
    intro k
    induction k with
    | zero =>
      intro u n1 F1 x hu hF hg hm hr
      rw [prL] at hr
      have Z := mkZ F1 hF
      refine v_iload hC dX8_probable_64 4 rfl ?_
      refine v_iconst (v := 1) hC dX8_probable_66 (by decide) ?_
      refine v_aload_n hC dX8_probable_67 rfl 0 rfl ?_
      refine gf_X8_10 (q := gp G a0 0) hC y0.1 (by exact t0.2.1.1) dX8_probable_68 ?_
      refine v_qcallV (c2 := 1) (s2 := 5) (As := []) hC Z (m_Jx4a65c_size_8abf5 l tl.1) q_X8_89 (by rw [tl.1]; decide) (ce_10 tl.1) (ci := 9) rfl hdV_Jx4a65c_size_8abf5 rfl rfl (Nat.le_of_ble_eq_true rfl) (Nat.le_of_ble_eq_true rfl) (Nat.le_of_ble_eq_true rfl) (Nat.le_of_ble_eq_true rfl) (Nat.le_of_ble_eq_true rfl) (Nat.le_of_ble_eq_true rfl) (Nat.le_of_ble_eq_true rfl) dX8_probable_71 ?_
      refine v_ishl hC dX8_probable_74 ?_
      refine v_cst (y := .int (nI 8)) (by rw [h3]; decide) ?_
      refine v_icmp_ge (tgt := 103) hC dX8_probable_75 (by decide) (fun _ => ?_) (fun w => absurd (lp_z hu) w)
      refine v_dload_n hC dX8_probable_103 rfl 3 rfl ?_
      refine v_forget (K1 := K) (F1 := F) (G1 := G) Z.1 ?_
      refine v_toC (o := some (.double x)) hQ ⟨by rw [hr], rfl, rfl, rfl⟩ ?_
      exact v_dret hC rfl rfl dX8_probable_104 rfl rfl rfl rfl rfl
    | succ k ih =>
      intro u n1 F1 x hu hF hg hm hr
      rw [prL] at hr
      have Z := mkZ F1 hF
      refine v_iload hC dX8_probable_64 4 rfl ?_
      refine v_iconst (v := 1) hC dX8_probable_66 (by decide) ?_
      refine v_aload_n hC dX8_probable_67 rfl 0 rfl ?_
      refine gf_X8_10 (q := gp G a0 0) hC y0.1 (by exact t0.2.1.1) dX8_probable_68 ?_
      refine v_qcallV (c2 := 1) (s2 := 5) (As := []) hC Z (m_Jx4a65c_size_8abf5 l tl.1) q_X8_89 (by rw [tl.1]; decide) (ce_10 tl.1) (ci := 9) rfl hdV_Jx4a65c_size_8abf5 rfl rfl (Nat.le_of_ble_eq_true rfl) (Nat.le_of_ble_eq_true rfl) (Nat.le_of_ble_eq_true rfl) (Nat.le_of_ble_eq_true rfl) (Nat.le_of_ble_eq_true rfl) (Nat.le_of_ble_eq_true rfl) (Nat.le_of_ble_eq_true rfl) dX8_probable_71 ?_
      refine v_ishl hC dX8_probable_74 ?_
      refine v_cst (y := .int (nI 8)) (by rw [h3]; decide) ?_
      refine v_icmp_ge (tgt := 103) hC dX8_probable_75 (by decide) (fun w => absurd w (lp_s hu (by decide))) (fun _ => ?_)
      refine v_aload_n hC dX8_probable_78 rfl 2 rfl ?_
      refine v_iload hC dX8_probable_79 4 rfl ?_
      refine v_callS (c2 := 1) (s2 := 5) (As := [.ref n, .int (nI u)]) hC (m_X8_sumOfSet l (r := n) kat) q_X8_389 hdS_X8_sumOfSet rfl rfl (Nat.le_of_ble_eq_true rfl) (Nat.le_of_ble_eq_true rfl) (Nat.le_of_ble_eq_true rfl) (Nat.le_of_ble_eq_true rfl) (Nat.le_of_ble_eq_true rfl) (Nat.le_of_ble_eq_true rfl) (Nat.le_of_ble_eq_true rfl) dX8_probable_81 ?_
      refine v_cst (y := .int (ssL (rkg K F G a0 3) (nI u) 5 0 0)) (by rw [hg]) ?_
      refine v_iload_n hC dX8_probable_84 rfl 1 rfl ?_
      refine v_icmp_lt (tgt := 97) hC dX8_probable_85 (by decide) (fun w => ?_) (fun w => ?_)
      · refine v_iinc (v := nI (u + 1)) (lv' := [(5, .int (nI (u + 1))), (0, .ref a0), (1, .int y), (2, .ref n), (3, .double x)]) hC dX8_probable_97 4 rfl (nI_inc u) (by decide) rfl ?_
        refine v_goto (tgt := 64) hC dX8_probable_100 (by decide) ?_
        refine v_sub (lv' := [(0, .ref a0), (1, .int y), (2, .ref n), (3, .double x), (5, .int (nI (u + 1)))]) [1, 2, 3, 4, 0] rfl ?_
        exact ih (u + 1) _ _ _ (by omega) hF hg (hm.mono (by omega)) (by rw [if_pos w] at hr; exact hr)
      · refine v_dload_n hC dX8_probable_88 rfl 3 rfl ?_
        refine v_aload_n hC dX8_probable_89 rfl 0 rfl ?_
        refine v_iload hC dX8_probable_90 4 rfl ?_
        refine v_qcallV (c2 := 1) (s2 := 5) (As := [.int (nI u)]) hC Z (m_X8_chanceOfSet l (u := nI u) t0 (by omega)) q_X8_393 (by rw [t0.1]; decide) (ce_1 t0.1) (ci := 0) rfl hdV_X8_chanceOfSet rfl rfl (Nat.le_of_ble_eq_true rfl) (Nat.le_of_ble_eq_true rfl) (Nat.le_of_ble_eq_true rfl) (Nat.le_of_ble_eq_true rfl) (Nat.le_of_ble_eq_true rfl) (Nat.le_of_ble_eq_true rfl) (Nat.le_of_ble_eq_true rfl) dX8_probable_92 ?_
        refine v_dadd hC dX8_probable_95 (mg_n (Jvm.Free.Fl.dadd_mag hm ((f_cs_m (by omega)).mono (by omega)) (by omega)) (by omega)) ?_
        refine v_dstore_n (i := 3) (lv' := [(3, .double (FP.dadd x (f_cs K F G a0 (nI u)))), (0, .ref a0), (1, .int y), (2, .ref n), (5, .int (nI u))]) hC dX8_probable_96 rfl (by decide) rfl ?_
        refine v_iinc (v := nI (u + 1)) (lv' := [(5, .int (nI (u + 1))), (3, .double (FP.dadd x (f_cs K F G a0 (nI u)))), (0, .ref a0), (1, .int y), (2, .ref n)]) hC dX8_probable_97 4 rfl (nI_inc u) (by decide) rfl ?_
        refine v_goto (tgt := 64) hC dX8_probable_100 (by decide) ?_
        refine v_sub (lv' := [(0, .ref a0), (1, .int y), (2, .ref n), (3, .double (FP.dadd x (f_cs K F G a0 (nI u)))), (5, .int (nI (u + 1)))]) [2, 3, 4, 1, 0] rfl ?_
        exact ih (u + 1) _ _ _ (by omega) hF hg ((Jvm.Free.Fl.dadd_mag hm ((f_cs_m (by omega)).mono (by omega)) (by omega)).mono (by omega)) (by rw [if_neg w] at hr; exact hr)
  have L1 : ∀ (k j n1 : Nat) (F1 : Ft), j + k = (K (gp G a0 0)).2 → (∀ x, x ≠ n → F1 x = F x) → F1 n = rkg K F G a0 j → V X 6 p l e ({ frames := 5, cells := 1, slots := 5, locals := 130 } : Room) s m args below meth c Q 1 5 n1 (va_up K n (20, 5)) F1 G [(0, .ref a0), (1, .int y), (2, .ref n), (3, .int (nI j))] 18 [] := by
    intro k
    induction k with
    | zero =>
      intro j n1 F1 hj hF hg
      have Z := mkZ F1 hF
      refine v_iload_n hC dX8_probable_18 rfl 3 rfl ?_
      refine v_aload_n hC dX8_probable_19 rfl 0 rfl ?_
      refine gf_X8_10 (q := gp G a0 0) hC y0.1 (by exact t0.2.1.1) dX8_probable_20 ?_
      refine v_qcallV (c2 := 1) (s2 := 5) (As := []) hC Z (m_Jx4a65c_size_8abf5 l tl.1) q_X8_89 (by rw [tl.1]; decide) (ce_10 tl.1) (ci := 9) rfl hdV_Jx4a65c_size_8abf5 rfl rfl (Nat.le_of_ble_eq_true rfl) (Nat.le_of_ble_eq_true rfl) (Nat.le_of_ble_eq_true rfl) (Nat.le_of_ble_eq_true rfl) (Nat.le_of_ble_eq_true rfl) (Nat.le_of_ble_eq_true rfl) (Nat.le_of_ble_eq_true rfl) dX8_probable_23 ?_
      refine v_icmp_ge (tgt := 59) hC dX8_probable_26 (by decide) (fun _ => ?_) (fun w => absurd (lp_z hj) w)
      refine v_dconst0 hC dX8_probable_59 ?_
      refine v_dstore_n (i := 3) (lv' := [(3, .double 0), (0, .ref a0), (1, .int y), (2, .ref n)]) hC dX8_probable_60 rfl (by decide) rfl ?_
      refine v_iconst (v := nI 0) hC dX8_probable_61 (by decide) ?_
      refine v_istore (i := 5) (lv' := [(5, .int (nI 0)), (3, .double 0), (0, .ref a0), (1, .int y), (2, .ref n)]) hC dX8_probable_62 (by decide) rfl ?_
      refine v_sub (lv' := [(0, .ref a0), (1, .int y), (2, .ref n), (3, .double 0), (5, .int (nI 0))]) [2, 3, 4, 1, 0] rfl ?_
      exact L2 8 0 _ _ _ (by omega) hF (by rw [hg, show j = 3 by omega]) (zero_m (by omega)) rfl
    | succ k ih =>
      intro j n1 F1 hj hF hg
      have Z := mkZ F1 hF
      refine v_iload_n hC dX8_probable_18 rfl 3 rfl ?_
      refine v_aload_n hC dX8_probable_19 rfl 0 rfl ?_
      refine gf_X8_10 (q := gp G a0 0) hC y0.1 (by exact t0.2.1.1) dX8_probable_20 ?_
      refine v_qcallV (c2 := 1) (s2 := 5) (As := []) hC Z (m_Jx4a65c_size_8abf5 l tl.1) q_X8_89 (by rw [tl.1]; decide) (ce_10 tl.1) (ci := 9) rfl hdV_Jx4a65c_size_8abf5 rfl rfl (Nat.le_of_ble_eq_true rfl) (Nat.le_of_ble_eq_true rfl) (Nat.le_of_ble_eq_true rfl) (Nat.le_of_ble_eq_true rfl) (Nat.le_of_ble_eq_true rfl) (Nat.le_of_ble_eq_true rfl) (Nat.le_of_ble_eq_true rfl) dX8_probable_23 ?_
      refine v_icmp_ge (tgt := 59) hC dX8_probable_26 (by decide) (fun w => absurd w (lp_s hj hsz)) (fun _ => ?_)
      refine v_iload_n hC dX8_probable_29 rfl 3 rfl ?_
      refine v_aload_n hC dX8_probable_30 rfl 2 rfl ?_
      refine v_alen_20 (N := 5) hC kat dX8_probable_31 ?_
      refine v_icmp_ge (tgt := 59) hC dX8_probable_32 (by decide) (fun w => absurd w (nI_ge (by omega) (by omega))) (fun _ => ?_)
      refine v_aload_n hC dX8_probable_35 rfl 2 rfl ?_
      refine v_iload_n hC dX8_probable_36 rfl 3 rfl ?_
      refine v_aload_n hC dX8_probable_37 rfl 0 rfl ?_
      refine v_aload_n hC dX8_probable_38 rfl 0 rfl ?_
      refine gf_X8_10 (q := gp G a0 0) hC y0.1 (by exact t0.2.1.1) dX8_probable_39 ?_
      refine v_iload_n hC dX8_probable_42 rfl 3 rfl ?_
      refine v_qcallV (c2 := 1) (s2 := 5) (As := [.int (nI j)]) hC Z (m_Jx4a65c_get_915e3 l tl (i := j) (by omega)) q_X8_306 (by rw [tl.1]; decide) (ce_10 tl.1) (ci := 9) rfl hdV_Jx4a65c_get_915e3 rfl rfl (Nat.le_of_ble_eq_true rfl) (Nat.le_of_ble_eq_true rfl) (Nat.le_of_ble_eq_true rfl) (Nat.le_of_ble_eq_true rfl) (Nat.le_of_ble_eq_true rfl) (Nat.le_of_ble_eq_true rfl) (Nat.le_of_ble_eq_true rfl) dX8_probable_43 ?_
      have tn : (K (el G (gp G a0 0) j)).1 = 3 := tl.el (i := j) (by omega)
      have tn1 : (va_up K n (20, 5) (el G (gp G a0 0) j)).1 = 3 := kup hfr tn (by decide)
      refine v_cast hC (by rw [tn1]; decide) (ce_3 tn1) (ci := 2) rfl aw_404 dX8_probable_46 ?_
      refine v_qcallV (c2 := 1) (s2 := 5) (As := [.ref (el G (gp G a0 0) j)]) hC Z (m_X8_riskIn l (a0 := a0) t0 tn) q_X8_385 (by rw [t0.1]; decide) (ce_1 t0.1) (ci := 0) rfl hdV_X8_riskIn rfl rfl (Nat.le_of_ble_eq_true rfl) (Nat.le_of_ble_eq_true rfl) (Nat.le_of_ble_eq_true rfl) (Nat.le_of_ble_eq_true rfl) (Nat.le_of_ble_eq_true rfl) (Nat.le_of_ble_eq_true rfl) (Nat.le_of_ble_eq_true rfl) dX8_probable_49 ?_
      refine v_iast (N := 5) hC kat (nI_in (by omega) (by omega)) dX8_probable_52 ?_
      refine v_iinc (v := nI (j + 1)) (lv' := [(3, .int (nI (j + 1))), (0, .ref a0), (1, .int y), (2, .ref n)]) hC dX8_probable_53 3 rfl (nI_inc j) (by decide) rfl ?_
      refine v_goto (tgt := 18) hC dX8_probable_56 (by decide) ?_
      refine v_sub (lv' := [(0, .ref a0), (1, .int y), (2, .ref n), (3, .int (nI (j + 1)))]) [1, 2, 3, 0] rfl ?_
      refine ih (j + 1) _ _ (by omega) (fun x hx => (up2_a _ _ hx).trans (hF x hx)) ?_
      funext i
      rw [nI_clamp (by omega)]
      show (up2 F1 n j _) n i = rkg K F G a0 (j + 1) i
      by_cases q : i = j
      · subst q
        simp [up2, va_up, rkg]
      · have e : up2 F1 n j (f_X8_riskIn K F G a0 (el G (gp G a0 0) j)) n i = F1 n i := by simp [up2, va_up, q]
        rw [e, hg]
        unfold rkg
        by_cases w : i < j
        · rw [if_pos w, if_pos (by omega)]
        · rw [if_neg w, if_neg (by omega)]
  refine v_iload_n hC dX8_probable_0 rfl 1 rfl ?_
  refine v_if_lt (tgt := 8) hC dX8_probable_1 (by decide) (fun w => absurd w hy) (fun _ => ?_)
  refine v_iconst (v := 1) hC dX8_probable_4 (by decide) ?_
  refine v_goto (tgt := 9) hC dX8_probable_5 (by decide) ?_
  refine v_callS (c2 := 0) (s2 := 0) (As := [.int 1]) hC (m_X8_demandArgument l (by decide)) q_X8_48 hdS_X8_demandArgument rfl rfl (Nat.le_of_ble_eq_true rfl) (Nat.le_of_ble_eq_true rfl) (Nat.le_of_ble_eq_true rfl) (Nat.le_of_ble_eq_true rfl) (Nat.le_of_ble_eq_true rfl) (Nat.le_of_ble_eq_true rfl) (Nat.le_of_ble_eq_true rfl) dX8_probable_9 ?_
  refine v_iconst (v := 5) hC dX8_probable_12 (by decide) ?_
  refine v_newi (N := 5) hC (by decide) (by decide) (by omega) (Nat.le_of_ble_eq_true rfl) (Nat.le_of_ble_eq_true rfl) dX8_probable_13 ?_
  refine v_astore_n (i := 2) (lv' := [(2, .ref n), (0, .ref a0), (1, .int y)]) hC dX8_probable_15 rfl (by decide) rfl ?_
  refine v_iconst (v := nI 0) hC dX8_probable_16 (by decide) ?_
  refine v_istore_n (i := 3) (lv' := [(3, .int (nI 0)), (2, .ref n), (0, .ref a0), (1, .int y)]) hC dX8_probable_17 rfl (by decide) rfl ?_
  refine v_sub (lv' := [(0, .ref a0), (1, .int y), (2, .ref n), (3, .int (nI 0))]) [2, 3, 1, 0] rfl ?_
  refine L1 (K (gp G a0 0)).2 0 _ _ (by omega) (fun x hx => va_up_ne _ _ hx) ?_
  rw [kat]
  rfl
end PNT
