/-! contracts whose end is told by a property P of the answer and the world behind it -/
section PRL
variable {X : Xt} {p : Program} {l : Launch} {e : Env} {R : Room} {s : State} {m : MethodId} {args : Array Value} {below : List Frame} {meth : Method} {c : Code} {own : String} {cc : ByteArray} {nL : Nat} {ret : Option FieldType}
variable {Q : State → Prop} {cells slots n : Nat} {K : Kt} {F : Ft} {G : Gt} {lv : List (Nat × Value)} {pc : Nat} {st : List Value}
abbrev Pt5 : Type := Option Value → Nat → Kt → Ft → Gt → Prop
def QR (X : Xt) (P : Pt5) : Array Value → State → Outcome → State → Prop := fun _ st oc t => ∃ (o : Option Value) (n : Nat) (K : Kt) (F : Ft) (G : Gt), P o n K F G ∧ oc = .returned o ∧ Wd X n K F G t ∧ va_F (Aft X) st t
def Mr (X : Xt) (l : Launch) (y : MethodName) (bytes : ByteArray) (maxL : Nat) (ret : Option FieldType) (fr lo mc ms : Nat) (As : List Value) (n : Nat) (K : Kt) (F : Ft) (G : Gt) (P : Pt5) : Prop :=
  Met l y (wl y bytes maxL ret) { frames := fr, cells := mc, slots := ms, locals := lo } (va_Pc As (Wd X n K F G)) (QR X P) mc ms (Aft X)
def Mxr (X : Xt) (l : Launch) (y : MethodName) (bytes : ByteArray) (maxL : Nat) (ret : Option FieldType) (fr lo mc ms : Nat) (As : List Value) (n : Nat) (K : Kt) (F : Ft) (G : Gt) (P : Pt5) : Prop :=
  vx_Met l y (wl y bytes maxL ret) { frames := fr, cells := mc, slots := ms, locals := lo } (va_Pc As (Wd X n K F G)) (QR X P) (XT X K F G) mc ms (Aft X)
theorem Mr.of {y : MethodName} {bytes : ByteArray} {maxL fr lo mc ms : Nat} {As : List Value} {n : Nat} {K : Kt} {F : Ft} {G : Gt} {P : Pt5} {lv : List (Nat × Value)} (hy : plainName y.cls = true) (hlen : (lg_sl As).length ≤ maxL) (hlv : lv_args 0 As = lv)
    (k : ∀ (p : Program) (e : Env) (s : State) (m : MethodId) (args : Array Value) (below : List Frame) (meth : Method) (c : Code) (Q : State → Prop), Cx X p s m args meth c y.cls bytes maxL ret → meth.name = y.name → Q = MQ below (QR X P) args s mc ms (Aft X) →
      V X maxL p l e { frames := fr, cells := mc, slots := ms, locals := lo } s m args below meth c Q 0 0 n K F G lv 0 []) : Mr X l y bytes maxL ret fr lo mc ms As n K F G P := by
  refine Met.ofW (cc := bytes) (maxL := maxL) (ret := ret) hy rfl ?_
  intro p e s m args below meth c s₁ B hml hv
  obtain ⟨rfl, hW⟩ := hv
  have hts := atoms_spec (ws := wl y bytes maxL ret) B.pre
  have hC : Cx X p s m As.toArray meth c y.cls bytes maxL ret := ⟨B.exec, B.bytes, hml, B.returns, B.notSynchronized, findClass_of_methodNamed B.named, fun w h => hts w (List.mem_cons_of_mem _ h), hW.2.1, hW.2.2, (by rw [hW.1.1]; exact hW.1.2.1)⟩
  have hl := lv_entry As (n := maxL) hlen
  rw [hlv] at hl
  rw [lg_entry_eq]
  exact k p e s m _ below meth c _ hC (name_of_methodNamed B.named B.method).1 rfl s.heap [] _ hW.1 va_S.rf hl
theorem Mxr.of {y : MethodName} {bytes : ByteArray} {maxL fr lo mc ms : Nat} {As : List Value} {n : Nat} {K : Kt} {F : Ft} {G : Gt} {P : Pt5} {lv : List (Nat × Value)} (hy : plainName y.cls = true) (hlen : (lg_sl As).length ≤ maxL) (hlv : lv_args 0 As = lv)
    (k : ∀ (p : Program) (e : Env) (s : State) (m : MethodId) (args : Array Value) (below : List Frame) (meth : Method) (c : Code) (Q : State → Prop), Cx X p s m args meth c y.cls bytes maxL ret → meth.name = y.name → (∀ x ∈ c.exceptionTable.toList, False) → Q = vx_MQ below (QR X P) (XT X K F G) args s mc ms (Aft X) →
      V X maxL p l e { frames := fr, cells := mc, slots := ms, locals := lo } s m args below meth c Q 0 0 n K F G lv 0 []) : Mxr X l y bytes maxL ret fr lo mc ms As n K F G P := by
  refine vx_ofW (cc := bytes) (maxL := maxL) (ret := ret) hy rfl ?_
  intro p e s m args below meth c s₁ B hml htb hv
  obtain ⟨rfl, hW⟩ := hv
  have hts := atoms_spec (ws := wl y bytes maxL ret) B.pre
  have hC : Cx X p s m As.toArray meth c y.cls bytes maxL ret := ⟨B.exec, B.bytes, hml, B.returns, B.notSynchronized, findClass_of_methodNamed B.named, fun w h => hts w (List.mem_cons_of_mem _ h), hW.2.1, hW.2.2, (by rw [hW.1.1]; exact hW.1.2.1)⟩
  have hl := lv_entry As (n := maxL) hlen
  rw [hlv] at hl
  rw [lg_entry_eq]
  exact k p e s m _ below meth c _ hC (name_of_methodNamed B.named B.method).1 htb rfl s.heap [] _ hW.1 va_S.rf hl
theorem v_toR {P : Pt5} {o : Option Value} {n' : Nat} {K' : Kt} {F' : Ft} {G' : Gt} {mc ms : Nat} (hQ : Q = MQ below (QR X P) args s mc ms (Aft X)) (hp : P o n' K' F' G')
    (k : V X nL p l e R s m args below meth c (MQ below (QW X o n' K' F' G') args s mc ms (Aft X)) cells slots n K F G lv pc st) : V X nL p l e R s m args below meth c Q cells slots n K F G lv pc st := by
  subst hQ
  intro H locs ls h1 h2 h3 T hT Y
  obtain ⟨t, a1, o, b1, b2, ⟨b3, b5, b6⟩, b4⟩ := k H locs ls h1 h2 h3 T hT Y
  exact ⟨t, a1, o, b1, b2, ⟨_, _, _, _, _, hp, b3, b5, b6⟩, b4⟩
theorem v_toXR {P : Pt5} {o : Option Value} {n' : Nat} {K' : Kt} {F' : Ft} {G' : Gt} {XC : String → State → State → Prop} {mc ms : Nat} (hQ : Q = vx_MQ below (QR X P) XC args s mc ms (Aft X)) (hp : P o n' K' F' G')
    (k : V X nL p l e R s m args below meth c (MQ below (QW X o n' K' F' G') args s mc ms (Aft X)) cells slots n K F G lv pc st) : V X nL p l e R s m args below meth c Q cells slots n K F G lv pc st := by
  subst hQ
  intro H locs ls h1 h2 h3 T hT Y
  obtain ⟨t, a1, o, b1, b2, ⟨b3, b5, b6⟩, b4⟩ := k H locs ls h1 h2 h3 T hT Y
  exact ⟨t, a1, o, b1, b2, Or.inl ⟨⟨_, _, _, _, _, hp, b3, b5, b6⟩, b4⟩⟩
theorem v_fresh (k : (K n).1 = 0 → V X nL p l e R s m args below meth c Q cells slots n K F G lv pc st) : V X nL p l e R s m args below meth c Q cells slots n K F G lv pc st := fun H locs ls h1 => k h1.fresh H locs ls h1
theorem v_rafter {P : Pt5} {a : Array Value} {mc ms c2 s2 : Nat} {st0 : List Value} {H : Heap} {locs : List Loc} {ls : Array Slot} (hr : va_Run p l e R s m args below meth c H locs cells slots mc ms (F0 m pc ls st0) st (QR X P a) (Aft X)) (h2 : va_S (Aft X) s.heap H locs) (h3 : lv_has ls nL lv) (hc : cells + mc ≤ c2) (hs : slots + ms ≤ s2)
    (kk : ∀ (o : Option Value) (n' : Nat) (K' : Kt) (F' : Ft) (G' : Gt), P o n' K' F' G' → V X nL p l e R s m args below meth c Q c2 s2 n' K' F' G' lv (pc + 3) (o.toList ++ st)) : W p l e R s m args below meth c H locs cells slots Q (F0 m pc ls st0) := by
  intro T hT Y
  obtain ⟨v, st₀, t, T', L, h0, X', hL, e1, e2, ⟨o, n', K', F', G', hp, hv, hW, hz, hk⟩, stp⟩ := hr T hT Y
  cases hv
  rw [h0] at hz hk
  have hS : va_S (Aft X) s.heap T'.heap (locs ++ L) := ⟨Nat.le_trans h2.1 (by rw [e1]; exact hz), fun q g1 g2 => by rw [e1, hk q (Nat.lt_of_lt_of_le g1 h2.1) g2]; exact h2.2.1 q g1 g2, fun q hq => by
      rcases List.mem_append.mp hq with h | h
      · exact h2.2.2 q h
      · exact hL q h⟩
  obtain ⟨t2, a1, b1⟩ := W.widen hc hs (kk _ n' K' F' G' hp T'.heap (locs ++ L) ls (by rw [e1]; exact hW.1) hS h3) T' rfl X'
  exact ⟨t2, stp t2 a1, b1⟩
theorem v_xrafter {P : Pt5} {a : Array Value} {mc ms c2 s2 : Nat} {st0 : List Value} {H : Heap} {locs : List Loc} {ls : Array Slot} (hr : vx_Run p l e R s m args below meth c H locs cells slots mc ms (F0 m pc ls st0) st (QR X P a) (XT X K F G) (Aft X)) (h2 : va_S (Aft X) s.heap H locs) (h3 : lv_has ls nL lv) (hc : cells + mc ≤ c2) (hs : slots + ms ≤ s2)
    (kx : VE X nL p l e R s m args below meth c Q c2 s2 K F G lv pc st)
    (kk : ∀ (o : Option Value) (n' : Nat) (K' : Kt) (F' : Ft) (G' : Gt), P o n' K' F' G' → V X nL p l e R s m args below meth c Q c2 s2 n' K' F' G' lv (pc + 3) (o.toList ++ st)) : W p l e R s m args below meth c H locs cells slots Q (F0 m pc ls st0) := by
  intro T hT Y
  rcases hr T hT Y with ⟨v, st₀, t, T', L, h0, X', hL, e1, e2, ⟨o, n', K', F', G', hp, hv, hW, hz, hk⟩, stp⟩ | ⟨q, st₀, t, T', L, E, ce, h0, X', hL, e1, e2, ⟨u, -, ⟨hE, n1, hn1⟩, hz, hk⟩, hce, hcv, hcl, stp⟩
  · cases hv
    rw [h0] at hz hk
    have hS : va_S (Aft X) s.heap T'.heap (locs ++ L) := ⟨Nat.le_trans h2.1 (by rw [e1]; exact hz), fun q g1 g2 => by rw [e1, hk q (Nat.lt_of_lt_of_le g1 h2.1) g2]; exact h2.2.1 q g1 g2, fun q hq => by
        rcases List.mem_append.mp hq with h | h
        · exact h2.2.2 q h
        · exact hL q h⟩
    obtain ⟨t2, a1, b1⟩ := W.widen hc hs (kk _ n' K' F' G' hp T'.heap (locs ++ L) ls (by rw [e1]; exact hW.1) hS h3) T' rfl X'
    exact ⟨t2, stp t2 a1, b1⟩
  · rw [h0] at hz hk
    have hS : va_S (Aft X) s.heap T'.heap (locs ++ L) := ⟨Nat.le_trans h2.1 (by rw [e1]; exact hz), fun q g1 g2 => by rw [e1, hk q (Nat.lt_of_lt_of_le g1 h2.1) g2]; exact h2.2.1 q g1 g2, fun q hq => by
        rcases List.mem_append.mp hq with h | h
        · exact h2.2.2 q h
        · exact hL q h⟩
    obtain ⟨t2, a1, b1⟩ := vx_widen hc hs (kx E ce q n1 T'.heap (locs ++ L) ls hE (by rw [e1]; exact hn1) hS h3 (by rw [e1]; exact hce) hcv hcl) T' rfl X'
    exact ⟨t2, stp.trans a1, b1⟩
theorem v_rcallV (hC : Cx X p s m args meth c own cc nL ret) {P : Pt5} {y : MethodName} {bytes : ByteArray} {maxL fr lo mc ms index c2 s2 : Nat} {ret1 : Option FieldType} {As : List Value} {a ci nn : Nat} {q : vw_C} {fs : List Value} (hM : Mr X l y bytes maxL ret1 fr lo mc ms (.ref a :: As) n K F G P) (hq : qV own index q.1 y bytes maxL ret1) (ha : (K a).1 ≠ 0) (he : ce X K F G a = .inr (ci, fs)) (hc : cls[ci]? = some q) (hd : y.cls = q.1 ∧ y.cls ≠ "java/lang/invoke/MethodHandle" ∧ y.cls ≠ "java/lang/invoke/VarHandle" ∧ (parseMethodDescriptor y.desc).map (fun d => d.parameters.length) = some nn) (hnn : As.length = nn) {st0 : List Value} (hst0 : st0 = As.reverse ++ .ref a :: st) (hrf : fr + 1 ≤ R.frames) (hrl : 8 + (maxL + 11) + lo ≤ R.locals) (hrc : cells + mc ≤ R.cells) (hrs : slots + ms ≤ R.slots) (hc2 : cells + mc ≤ c2) (hs2 : slots + ms ≤ s2) (hst : (st.map fun v => v.category).sum ≤ 8) (hdg : decode cc pc = .ok (.invokevirtual index, 3))
     (kk : ∀ (o : Option Value) (n' : Nat) (K' : Kt) (F' : Ft) (G' : Gt), P o n' K' F' G' → V X nL p l e R s m args below meth c Q c2 s2 n' K' F' G' lv (pc + 3) (o.toList ++ st)) : V X nL p l e R s m args below meth c Q cells slots n K F G lv pc st0 := by
  intro H locs ls h1 h2 h3
  exact v_rafter (va_runV (As := As) (rest := st) hC.fix hM (cwV nn hC.hts hq.good rfl rfl rfl hd ⟨hrf, hrl⟩) ⟨Wd.blind, h1.recv hC.hK ha he hc, fun U hU hW => ⟨rfl, Wd.of hC h1 h2 hU hW⟩⟩ rfl hnn h3.1 hst0 (lv_room hst) hdg ⟨hrc, hrs⟩) h2 h3 hc2 hs2 kk
theorem v_rcallS (hC : Cx X p s m args meth c own cc nL ret) {P : Pt5} {y : MethodName} {bytes : ByteArray} {maxL fr lo mc ms index c2 s2 : Nat} {ret1 : Option FieldType} {As : List Value} {nn : Nat} (hM : Mr X l y bytes maxL ret1 fr lo mc ms As n K F G P) (hq : qS own index y bytes maxL ret1) (hd : y.cls ≠ "java/lang/invoke/MethodHandle" ∧ y.cls ≠ "java/lang/invoke/VarHandle" ∧ (parseMethodDescriptor y.desc).map (fun d => d.parameters.length) = some nn) (hnn : As.length = nn) {st0 : List Value} (hst0 : st0 = As.reverse ++ st) (hrf : fr + 1 ≤ R.frames) (hrl : 8 + (maxL + 11) + lo ≤ R.locals) (hrc : cells + mc ≤ R.cells) (hrs : slots + ms ≤ R.slots) (hc2 : cells + mc ≤ c2) (hs2 : slots + ms ≤ s2) (hst : (st.map fun v => v.category).sum ≤ 8) (hdg : decode cc pc = .ok (.invokestatic index, 3))
     (kk : ∀ (o : Option Value) (n' : Nat) (K' : Kt) (F' : Ft) (G' : Gt), P o n' K' F' G' → V X nL p l e R s m args below meth c Q c2 s2 n' K' F' G' lv (pc + 3) (o.toList ++ st)) : V X nL p l e R s m args below meth c Q cells slots n K F G lv pc st0 := by
  intro H locs ls h1 h2 h3
  exact v_rafter (va_runS (As := As) (rest := st) hC.fix hM (va_cwS nn hC.hts hq.good rfl rfl rfl hd ⟨hrf, hrl⟩) ⟨Wd.blind, fun U hU hW => ⟨rfl, Wd.of hC h1 h2 hU hW⟩⟩ rfl hnn h3.1 hst0 (lv_room hst) hdg ⟨hrc, hrs⟩) h2 h3 hc2 hs2 kk
theorem v_xrcallV (hC : Cx X p s m args meth c own cc nL ret) {P : Pt5} {y : MethodName} {bytes : ByteArray} {maxL fr lo mc ms index c2 s2 : Nat} {ret1 : Option FieldType} {As : List Value} {a ci nn : Nat} {q : vw_C} {fs : List Value} (hM : Mxr X l y bytes maxL ret1 fr lo mc ms (.ref a :: As) n K F G P) (hq : qV own index q.1 y bytes maxL ret1) (ha : (K a).1 ≠ 0) (he : ce X K F G a = .inr (ci, fs)) (hc : cls[ci]? = some q) (hd : y.cls = q.1 ∧ y.cls ≠ "java/lang/invoke/MethodHandle" ∧ y.cls ≠ "java/lang/invoke/VarHandle" ∧ (parseMethodDescriptor y.desc).map (fun d => d.parameters.length) = some nn) (hnn : As.length = nn) {st0 : List Value} (hst0 : st0 = As.reverse ++ .ref a :: st) (hrf : fr + 1 ≤ R.frames) (hrl : 8 + (maxL + 11) + lo ≤ R.locals) (hrc : cells + mc ≤ R.cells) (hrs : slots + ms ≤ R.slots) (hc2 : cells + mc ≤ c2) (hs2 : slots + ms ≤ s2) (hst : (st.map fun v => v.category).sum ≤ 8) (hdg : decode cc pc = .ok (.invokevirtual index, 3))
    (kx : VE X nL p l e R s m args below meth c Q c2 s2 K F G lv pc st) (kk : ∀ (o : Option Value) (n' : Nat) (K' : Kt) (F' : Ft) (G' : Gt), P o n' K' F' G' → V X nL p l e R s m args below meth c Q c2 s2 n' K' F' G' lv (pc + 3) (o.toList ++ st)) : V X nL p l e R s m args below meth c Q cells slots n K F G lv pc st0 := by
  intro H locs ls h1 h2 h3
  exact v_xrafter (vx_runV (As := As) (rest := st) hC.fix hM (cwV nn hC.hts hq.good rfl rfl rfl hd ⟨hrf, hrl⟩) ⟨Wd.blind, h1.recv hC.hK ha he hc, fun U hU hW => ⟨rfl, Wd.of hC h1 h2 hU hW⟩⟩ rfl hnn h3.1 hst0 (lv_room hst) hdg ⟨hrc, hrs⟩) h2 h3 hc2 hs2 kx kk
theorem v_xrcallS (hC : Cx X p s m args meth c own cc nL ret) {P : Pt5} {y : MethodName} {bytes : ByteArray} {maxL fr lo mc ms index c2 s2 : Nat} {ret1 : Option FieldType} {As : List Value} {nn : Nat} (hM : Mxr X l y bytes maxL ret1 fr lo mc ms As n K F G P) (hq : qS own index y bytes maxL ret1) (hd : y.cls ≠ "java/lang/invoke/MethodHandle" ∧ y.cls ≠ "java/lang/invoke/VarHandle" ∧ (parseMethodDescriptor y.desc).map (fun d => d.parameters.length) = some nn) (hnn : As.length = nn) {st0 : List Value} (hst0 : st0 = As.reverse ++ st) (hrf : fr + 1 ≤ R.frames) (hrl : 8 + (maxL + 11) + lo ≤ R.locals) (hrc : cells + mc ≤ R.cells) (hrs : slots + ms ≤ R.slots) (hc2 : cells + mc ≤ c2) (hs2 : slots + ms ≤ s2) (hst : (st.map fun v => v.category).sum ≤ 8) (hdg : decode cc pc = .ok (.invokestatic index, 3))
    (kx : VE X nL p l e R s m args below meth c Q c2 s2 K F G lv pc st) (kk : ∀ (o : Option Value) (n' : Nat) (K' : Kt) (F' : Ft) (G' : Gt), P o n' K' F' G' → V X nL p l e R s m args below meth c Q c2 s2 n' K' F' G' lv (pc + 3) (o.toList ++ st)) : V X nL p l e R s m args below meth c Q cells slots n K F G lv pc st0 := by
  intro H locs ls h1 h2 h3
  exact v_xrafter (vx_runS (As := As) (rest := st) hC.fix hM (va_cwS nn hC.hts hq.good rfl rfl rfl hd ⟨hrf, hrl⟩) ⟨Wd.blind, fun U hU hW => ⟨rfl, Wd.of hC h1 h2 hU hW⟩⟩ rfl hnn h3.1 hst0 (lv_room hst) hdg ⟨hrc, hrs⟩) h2 h3 hc2 hs2 kx kk
theorem v_rcallI (hC : Cx X p s m args meth c own cc nL ret) {P : Pt5} {y : MethodName} {bytes : ByteArray} {maxL fr lo mc ms index c2 s2 : Nat} {As : List Value} {a nn : Nat} (hM : Mr X l y bytes maxL none fr lo mc ms (.ref a :: As) n K F G P) (hq : qI own index y bytes maxL) (hy1 : y.name = "<init>") (hd : y.cls ≠ "java/lang/invoke/MethodHandle" ∧ y.cls ≠ "java/lang/invoke/VarHandle" ∧ (parseMethodDescriptor y.desc).map (fun d => d.parameters.length) = some nn) (hnn : As.length = nn) {st0 : List Value} (hst0 : st0 = As.reverse ++ .ref a :: st) (hrf : fr + 1 ≤ R.frames) (hrl : 8 + (maxL + 11) + lo ≤ R.locals) (hrc : cells + mc ≤ R.cells) (hrs : slots + ms ≤ R.slots) (hc2 : cells + mc ≤ c2) (hs2 : slots + ms ≤ s2) (hst : (st.map fun v => v.category).sum ≤ 8) (hdg : decode cc pc = .ok (.invokespecial index, 3))
    (kk : ∀ (o : Option Value) (n' : Nat) (K' : Kt) (F' : Ft) (G' : Gt), P o n' K' F' G' → V X nL p l e R s m args below meth c Q c2 s2 n' K' F' G' lv (pc + 3) (o.toList ++ st)) : V X nL p l e R s m args below meth c Q cells slots n K F G lv pc st0 := by
  intro H locs ls h1 h2 h3
  exact v_rafter (va_runI (As := As) (rest := st) hC.fix hM (cwI nn hC.hts (al_goodIn hq.2.2.2) rfl rfl rfl (hC.hts _ hq.2.2.1) (hC.hts _ hq.1) (hC.hts _ hq.2.1) hy1 hd ⟨hrf, hrl⟩) ⟨Wd.blind, fun U hU hW => ⟨rfl, Wd.of hC h1 h2 hU hW⟩⟩ rfl hnn h3.1 hst0 (lv_room hst) hdg ⟨hrc, hrs⟩) h2 h3 hc2 hs2 kk
end PRL
