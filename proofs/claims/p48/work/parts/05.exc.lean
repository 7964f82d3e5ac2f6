/-! exceptions that leave a method: the world is as it was, but for the exception's own cell -/
section PEX
variable {X : Xt} {p : Program} {l : Launch} {e : Env} {R : Room} {s : State} {m : MethodId} {args : Array Value} {below : List Frame} {meth : Method} {c : Code} {own : String} {cc : ByteArray} {nL : Nat} {ret : Option FieldType}
variable {Q : State → Prop} {cells slots n : Nat} {K : Kt} {F : Ft} {G : Gt} {lv : List (Nat × Value)} {pc : Nat} {st : List Value}
def XB (X : Xt) (K : Kt) (F : Ft) (G : Gt) : String → Unit → State → Prop := fun E _ t => (E = "java/lang/IllegalStateException" ∨ E = "java/lang/IndexOutOfBoundsException") ∧ ∃ n1, Hd X n1 K F G t.heap
abbrev XT (X : Xt) (K : Kt) (F : Ft) (G : Gt) : String → State → State → Prop := vx_X (fun _ : Unit => True) (XB X K F G) (Aft X)
def QP (X : Xt) (P : Prop) (o : Option Value) (n : Nat) (K : Kt) (F : Ft) (G : Gt) : Array Value → State → Outcome → State → Prop := fun a st oc t => P ∧ QW X o n K F G a st oc t
/-- a contract of a method that may throw; where it returns, P holds -/
def Mx (X : Xt) (P : Prop) (l : Launch) (y : MethodName) (bytes : ByteArray) (maxL : Nat) (ret : Option FieldType) (fr lo mc ms : Nat) (As : List Value) (n : Nat) (K : Kt) (F : Ft) (G : Gt) (o : Option Value) (n' : Nat) (K' : Kt) (F' : Ft) (G' : Gt) : Prop :=
  vx_Met l y (wl y bytes maxL ret) { frames := fr, cells := mc, slots := ms, locals := lo } (va_Pc As (Wd X n K F G)) (QP X P o n' K' F' G') (XT X K F G) mc ms (Aft X)
theorem Mx.of {P : Prop} {y : MethodName} {bytes : ByteArray} {maxL fr lo mc ms : Nat} {As : List Value} {n n' : Nat} {K K' : Kt} {F F' : Ft} {G G' : Gt} {o : Option Value} {lv : List (Nat × Value)} (hy : plainName y.cls = true) (hlen : (lg_sl As).length ≤ maxL) (hlv : lv_args 0 As = lv)
    (k : ∀ (p : Program) (e : Env) (s : State) (m : MethodId) (args : Array Value) (below : List Frame) (meth : Method) (c : Code) (Q : State → Prop), Cx X p s m args meth c y.cls bytes maxL ret → meth.name = y.name → (∀ x ∈ c.exceptionTable.toList, False) → Q = vx_MQ below (QP X P o n' K' F' G') (XT X K F G) args s mc ms (Aft X) →
      V X maxL p l e { frames := fr, cells := mc, slots := ms, locals := lo } s m args below meth c Q 0 0 n K F G lv 0 []) : Mx X P l y bytes maxL ret fr lo mc ms As n K F G o n' K' F' G' := by
  refine vx_ofW (cc := bytes) (maxL := maxL) (ret := ret) hy rfl ?_
  intro p e s m args below meth c s₁ B hml htb hv
  obtain ⟨rfl, hW⟩ := hv
  have hts := atoms_spec (ws := wl y bytes maxL ret) B.pre
  have hC : Cx X p s m As.toArray meth c y.cls bytes maxL ret := ⟨B.exec, B.bytes, hml, B.returns, B.notSynchronized, findClass_of_methodNamed B.named, fun w h => hts w (List.mem_cons_of_mem _ h), hW.2.1, hW.2.2, (by rw [hW.1.1]; exact hW.1.2.1)⟩
  have hl := lv_entry As (n := maxL) hlen
  rw [hlv] at hl
  rw [lg_entry_eq]
  exact k p e s m _ below meth c _ hC (name_of_methodNamed B.named B.method).1 htb rfl s.heap [] _ hW.1 va_S.rf hl
theorem v_toMQ {P : Prop} {o : Option Value} {n' : Nat} {K' : Kt} {F' : Ft} {G' : Gt} {XC : String → State → State → Prop} {mc ms : Nat} (hQ : Q = vx_MQ below (QP X P o n' K' F' G') XC args s mc ms (Aft X)) (hp : P)
    (k : V X nL p l e R s m args below meth c (MQ below (QW X o n' K' F' G') args s mc ms (Aft X)) cells slots n K F G lv pc st) : V X nL p l e R s m args below meth c Q cells slots n K F G lv pc st := by
  subst hQ
  intro H locs ls h1 h2 h3 T hT Y
  obtain ⟨t, a1, o, b1, b2, b3, b4⟩ := k H locs ls h1 h2 h3 T hT Y
  exact ⟨t, a1, o, b1, b2, Or.inl ⟨⟨hp, b3⟩, b4⟩⟩
theorem v_throwSW (hC : Cx X p s m args meth c own cc nL ret) {Qc : Array Value → State → Outcome → State → Prop} {mc ms : Nat} (hQ : Q = vx_MQ below Qc (XT X K F G) args s mc ms (Aft X)) (htb : ∀ x ∈ c.exceptionTable.toList, False) (hfl : l.stackTraces = false) {E text : String} {names : List String} {ik is ic : Nat}
    (hcls : Bundle.fit E = true) (hnames : ∀ n ∈ names, Bundle.fit n = true) (hk : Cond.classLink own ik E ∈ Al) (hini : Cond.initialized E ∈ Al) (hstr : ∃ sa, vk_R own is text sa s) (hat : ∀ w ∈ vx_atS own ic E names, w ∈ Al ∨ w ∈ Nwl)
    (hgood : ∀ w ∈ Cond.classLink own ik E :: Cond.initialized E :: vx_atS own ic E names, vx_ot w = true) (hE : E = "java/lang/IllegalStateException" ∨ E = "java/lang/IndexOutOfBoundsException")
    (d0 : decode cc pc = .ok (.new ik, 3)) (d3 : decode cc (pc + 3) = .ok (.dup, 1)) (d4 : decode cc (pc + 4) = .ok (.ldc_w is, 3)) (d7 : decode cc (pc + 7) = .ok (.invokespecial ic, 3)) (d10 : decode cc (pc + 10) = .ok (.athrow, 1))
    (hRf : names.length + 3 < R.frames) (hRl : (st.map fun v => v.category).sum + (13 * (names.length + 1) + 43) ≤ R.locals) (hRc : cells + 1 ≤ R.cells) (hRs : slots + 6 ≤ R.slots) (hc : cells + 1 ≤ mc) (hs : slots + 6 ≤ ms) : V X nL p l e R s m args below meth c Q cells slots n K F G lv pc st := by
  subst hQ
  intro H locs ls h1 h2 h3
  obtain ⟨sa, hsa⟩ := hstr
  refine vx_throwSW hC.hx hC.hb hfl hC.hown hcls hnames (hC.hts _ hk) (hC.hts _ hini) hsa (fun w hw => (hat w hw).elim (hC.hts w) (hC.nw w)) hgood hC.hZ.2.2.2.1 hC.hZ.2.2.2.2.1 h2 (h3.1.trans hC.hml.symm) d0 d3 d4 d7 d10 (fun x hx => (htb x hx).elim) hRf hRl hRc hRs hC.hlk (fun t hal hz hk => ?_) h2.2.2 hc hs
  refine ⟨(), trivial, ⟨hE, t.heap.size, h1.skip rfl (by rw [← h1.1]; exact hz) (fun q hq => hk q (by rw [h1.1]; exact hq))⟩, ?_⟩
  exact ⟨Nat.le_trans h2.1 hz, fun q g1 g2 => (hk q (Nat.lt_of_lt_of_le g1 h2.1)).trans (h2.2.1 q g1 g2)⟩
/-- the judgment of what is thrown -/
def VE (X : Xt) (nL : Nat) (p : Program) (l : Launch) (e : Env) (R : Room) (s : State) (m : MethodId) (args : Array Value) (below : List Frame) (meth : Method) (c : Code) (Q : State → Prop) (cells slots : Nat) (K : Kt) (F : Ft) (G : Gt) (lv : List (Nat × Value)) (pc : Nat) (st : List Value) : Prop :=
  ∀ (E : String) (ce : Cell) (q : Addr) (n1 : Nat) (H1 : Heap) (locs1 : List Loc) (ls : Array Slot), (E = "java/lang/IllegalStateException" ∨ E = "java/lang/IndexOutOfBoundsException") → Hd X n1 K F G H1 → va_S (Aft X) s.heap H1 locs1 → lv_has ls nL lv → H1[q]? = some ce → ce.vm = .none → s.vm.findClass E = some ce.cls → vx_W p l e R s m args below meth c H1 locs1 cells slots Q (F0 m pc ls st) q
theorem v_out (hC : Cx X p s m args meth c own cc nL ret) {Qc : Array Value → State → Outcome → State → Prop} {mc ms : Nat} (hQ : Q = vx_MQ below Qc (XT X K F G) args s mc ms (Aft X)) (htb : ∀ x ∈ c.exceptionTable.toList, False) (hc : cells ≤ mc) (hs : slots ≤ ms) : VE X nL p l e R s m args below meth c Q cells slots K F G lv pc st := by
  subst hQ
  intro E ce q n1 H1 locs1 ls hE h1 h2 h3 hq hv hcl
  exact vx_out (fun x hx => (htb x hx).elim) hC.hlk hq hv hcl (fun t ht hal => ⟨(), trivial, ⟨hE, n1, by rw [ht]; exact h1⟩, h2.F ht⟩) h2.2.2 hc hs
theorem v_xafter {P : Prop} {a : Array Value} {mc ms c2 s2 : Nat} {o : Option Value} {n' : Nat} {K' : Kt} {F' : Ft} {G' : Gt} {st0 : List Value} {H : Heap} {locs : List Loc} {ls : Array Slot} (hr : vx_Run p l e R s m args below meth c H locs cells slots mc ms (F0 m pc ls st0) st (QP X P o n' K' F' G' a) (XT X K F G) (Aft X)) (h2 : va_S (Aft X) s.heap H locs) (h3 : lv_has ls nL lv) (hc : cells + mc ≤ c2) (hs : slots + ms ≤ s2)
    (kx : VE X nL p l e R s m args below meth c Q c2 s2 K F G lv pc st)
    (kk : P → V X nL p l e R s m args below meth c Q c2 s2 n' K' F' G' lv (pc + 3) (o.toList ++ st)) : W p l e R s m args below meth c H locs cells slots Q (F0 m pc ls st0) := by
  intro T hT Y
  rcases hr T hT Y with ⟨v, st₀, t, T', L, h0, X', hL, e1, e2, ⟨hp, hv, hW, hz, hk⟩, stp⟩ | ⟨q, st₀, t, T', L, E, ce, h0, X', hL, e1, e2, ⟨u, -, ⟨hE, n1, hn1⟩, hz, hk⟩, hce, hcv, hcl, stp⟩
  · cases hv
    rw [h0] at hz hk
    have hS : va_S (Aft X) s.heap T'.heap (locs ++ L) := ⟨Nat.le_trans h2.1 (by rw [e1]; exact hz), fun q g1 g2 => by rw [e1, hk q (Nat.lt_of_lt_of_le g1 h2.1) g2]; exact h2.2.1 q g1 g2, fun q hq => by
        rcases List.mem_append.mp hq with h | h
        · exact h2.2.2 q h
        · exact hL q h⟩
    obtain ⟨t2, a1, b1⟩ := W.widen hc hs (kk hp T'.heap (locs ++ L) ls (by rw [e1]; exact hW.1) hS h3) T' rfl X'
    exact ⟨t2, stp t2 a1, b1⟩
  · rw [h0] at hz hk
    have hS : va_S (Aft X) s.heap T'.heap (locs ++ L) := ⟨Nat.le_trans h2.1 (by rw [e1]; exact hz), fun q g1 g2 => by rw [e1, hk q (Nat.lt_of_lt_of_le g1 h2.1) g2]; exact h2.2.1 q g1 g2, fun q hq => by
        rcases List.mem_append.mp hq with h | h
        · exact h2.2.2 q h
        · exact hL q h⟩
    obtain ⟨t2, a1, b1⟩ := vx_widen hc hs (kx E ce q n1 T'.heap (locs ++ L) ls hE (by rw [e1]; exact hn1) hS h3 (by rw [e1]; exact hce) hcv hcl) T' rfl X'
    exact ⟨t2, stp.trans a1, b1⟩
theorem v_xcallV (hC : Cx X p s m args meth c own cc nL ret) {P : Prop} {y : MethodName} {bytes : ByteArray} {maxL fr lo mc ms index c2 s2 : Nat} {ret1 : Option FieldType} {As : List Value} {o : Option Value} {n' : Nat} {K' : Kt} {F' : Ft} {G' : Gt} {a ci nn : Nat} {q : vw_C} {fs : List Value} (hM : Mx X P l y bytes maxL ret1 fr lo mc ms (.ref a :: As) n K F G o n' K' F' G') (hq : qV own index q.1 y bytes maxL ret1) (ha : (K a).1 ≠ 0) (he : ce X K F G a = .inr (ci, fs)) (hc : cls[ci]? = some q) (hd : y.cls = q.1 ∧ y.cls ≠ "java/lang/invoke/MethodHandle" ∧ y.cls ≠ "java/lang/invoke/VarHandle" ∧ (parseMethodDescriptor y.desc).map (fun d => d.parameters.length) = some nn) (hnn : As.length = nn) {st0 : List Value} (hst0 : st0 = As.reverse ++ .ref a :: st) (hrf : fr + 1 ≤ R.frames) (hrl : 8 + (maxL + 11) + lo ≤ R.locals) (hrc : cells + mc ≤ R.cells) (hrs : slots + ms ≤ R.slots) (hc2 : cells + mc ≤ c2) (hs2 : slots + ms ≤ s2) (hst : (st.map fun v => v.category).sum ≤ 8) (hdg : decode cc pc = .ok (.invokevirtual index, 3))
    (kx : VE X nL p l e R s m args below meth c Q c2 s2 K F G lv pc st) (kk : P → V X nL p l e R s m args below meth c Q c2 s2 n' K' F' G' lv (pc + 3) (o.toList ++ st)) : V X nL p l e R s m args below meth c Q cells slots n K F G lv pc st0 := by
  intro H locs ls h1 h2 h3
  exact v_xafter (vx_runV (As := As) (rest := st) hC.fix hM (cwV nn hC.hts hq.good rfl rfl rfl hd ⟨hrf, hrl⟩) ⟨Wd.blind, h1.recv hC.hK ha he hc, fun U hU hW => ⟨rfl, Wd.of hC h1 h2 hU hW⟩⟩ rfl hnn h3.1 hst0 (lv_room hst) hdg ⟨hrc, hrs⟩) h2 h3 hc2 hs2 kx kk
theorem v_xcallS (hC : Cx X p s m args meth c own cc nL ret) {P : Prop} {y : MethodName} {bytes : ByteArray} {maxL fr lo mc ms index c2 s2 : Nat} {ret1 : Option FieldType} {As : List Value} {o : Option Value} {n' : Nat} {K' : Kt} {F' : Ft} {G' : Gt} {nn : Nat} (hM : Mx X P l y bytes maxL ret1 fr lo mc ms As n K F G o n' K' F' G') (hq : qS own index y bytes maxL ret1) (hd : y.cls ≠ "java/lang/invoke/MethodHandle" ∧ y.cls ≠ "java/lang/invoke/VarHandle" ∧ (parseMethodDescriptor y.desc).map (fun d => d.parameters.length) = some nn) (hnn : As.length = nn) {st0 : List Value} (hst0 : st0 = As.reverse ++ st) (hrf : fr + 1 ≤ R.frames) (hrl : 8 + (maxL + 11) + lo ≤ R.locals) (hrc : cells + mc ≤ R.cells) (hrs : slots + ms ≤ R.slots) (hc2 : cells + mc ≤ c2) (hs2 : slots + ms ≤ s2) (hst : (st.map fun v => v.category).sum ≤ 8) (hdg : decode cc pc = .ok (.invokestatic index, 3))
    (kx : VE X nL p l e R s m args below meth c Q c2 s2 K F G lv pc st) (kk : P → V X nL p l e R s m args below meth c Q c2 s2 n' K' F' G' lv (pc + 3) (o.toList ++ st)) : V X nL p l e R s m args below meth c Q cells slots n K F G lv pc st0 := by
  intro H locs ls h1 h2 h3
  exact v_xafter (vx_runS (As := As) (rest := st) hC.fix hM (va_cwS nn hC.hts hq.good rfl rfl rfl hd ⟨hrf, hrl⟩) ⟨Wd.blind, fun U hU hW => ⟨rfl, Wd.of hC h1 h2 hU hW⟩⟩ rfl hnn h3.1 hst0 (lv_room hst) hdg ⟨hrc, hrs⟩) h2 h3 hc2 hs2 kx kk
def xnames : List String := ["java/lang/RuntimeException", "java/lang/Exception"]
theorem xat_of {L : List Cond} (h : L.all (fun w => (goodWord w && decide (w ∈ lw_tbl)) || decide (w ∈ Nwl)) = true) : ∀ w ∈ L, w ∈ Al ∨ w ∈ Nwl := by
  intro w hw
  have h1 := List.all_eq_true.mp h w hw
  simp only [Bool.or_eq_true, Bool.and_eq_true, decide_eq_true_eq] at h1
  rcases h1 with ⟨h2, h3⟩ | h2
  · exact Or.inl (List.mem_append_right _ (List.mem_filter.mpr ⟨h3, h2⟩))
  · exact Or.inr h2
theorem xat_S : ∀ w ∈ vx_atS RX8 456 "java/lang/IllegalStateException" xnames, w ∈ Al ∨ w ∈ Nwl := xat_of (by decide +kernel)
theorem xat_I : ∀ w ∈ vx_atS RX8 444 "java/lang/IndexOutOfBoundsException" xnames, w ∈ Al ∨ w ∈ Nwl := xat_of (by decide +kernel)
theorem xgd_S : ∀ w ∈ Cond.classLink RX8 452 "java/lang/IllegalStateException" :: Cond.initialized "java/lang/IllegalStateException" :: vx_atS RX8 456 "java/lang/IllegalStateException" xnames, vx_ot w = true := fun w hw => List.all_eq_true.mp (by decide +kernel : (Cond.classLink RX8 452 "java/lang/IllegalStateException" :: Cond.initialized "java/lang/IllegalStateException" :: vx_atS RX8 456 "java/lang/IllegalStateException" xnames).all vx_ot = true) w hw
theorem xgd_I : ∀ w ∈ Cond.classLink RX8 440 "java/lang/IndexOutOfBoundsException" :: Cond.initialized "java/lang/IndexOutOfBoundsException" :: vx_atS RX8 444 "java/lang/IndexOutOfBoundsException" xnames, vx_ot w = true := fun w hw => List.all_eq_true.mp (by decide +kernel : (Cond.classLink RX8 440 "java/lang/IndexOutOfBoundsException" :: Cond.initialized "java/lang/IndexOutOfBoundsException" :: vx_atS RX8 444 "java/lang/IndexOutOfBoundsException" xnames).all vx_ot = true) w hw
end PEX
