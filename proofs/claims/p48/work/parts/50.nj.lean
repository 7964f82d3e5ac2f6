/-! the law's script, its arrays kept apart from the calls, its catches -/
section PNJ
variable {X : Xt} {p : Program} {l : Launch} {e : Env} {R : Room} {s : State} {m : MethodId} {args : Array Value} {below : List Frame} {meth : Method} {c : Code} {own : String} {cc : ByteArray} {nL : Nat} {ret : Option FieldType}
variable {Q : State → Prop} {cells slots n : Nat} {K : Kt} {F : Ft} {G : Gt} {lv : List (Nat × Value)} {pc : Nat} {st : List Value} {b L : Nat} {xs : Nat → Int32}
/-- the script stands at b -/
def Sc (X : Xt) (b L : Nat) (xs : Nat → Int32) (U : State) : Prop := va_X b L xs U U.heap ∧ b < U.heap.size ∧ b < xb X
theorem Sc.of {H : Heap} {locs : List Loc} {U : State} (h : Sc X b L xs s) (hS : va_S (Aft X) s.heap H locs) (hU : U.heap = H) (hW : s.WarmedH U.vm) : Sc X b L xs U := by
  have e1 : H[b]? = s.heap[b]? := hS.2.1 b h.2.1 (fun q => absurd q.1 (Nat.not_le.mpr h.2.2))
  refine ⟨va_X.moved hW.alike ?_, ?_, h.2.2⟩
  · rw [hU]; exact h.1.kept e1
  · rw [hU]; exact Nat.lt_of_lt_of_le h.2.1 hS.1
def Ws (X : Xt) (b L : Nat) (xs : Nat → Int32) (n : Nat) (K : Kt) (F : Ft) (G : Gt) (U : State) : Prop := Wd X n K F G U ∧ Sc X b L xs U
theorem Ws.blind {As : List Value} : FrameBlind (va_Pc As (Ws X b L xs n K F G)) := fun _ U g mk q => ⟨q.1, q.2.1.calling, va_X.moved (u := U) (U := U.calling g mk _) (Vm.Alike.refl U.vm) q.2.2.1, q.2.2.2⟩
/-- a contract of a method that is handed the script -/
def Ms (X : Xt) (l : Launch) (y : MethodName) (bytes : ByteArray) (maxL : Nat) (ret : Option FieldType) (fr lo mc ms : Nat) (As : List Value) (b L : Nat) (xs : Nat → Int32) (n : Nat) (K : Kt) (F : Ft) (G : Gt) (P : Pt5) : Prop :=
  Met l y (wl y bytes maxL ret) { frames := fr, cells := mc, slots := ms, locals := lo } (va_Pc As (Ws X b L xs n K F G)) (QR X P) mc ms (Aft X)
theorem Ms.of {y : MethodName} {bytes : ByteArray} {maxL fr lo mc ms : Nat} {As : List Value} {P : Pt5} (hy : plainName y.cls = true) (hlen : (lg_sl As).length ≤ maxL) (hlv : lv_args 0 As = lv)
    (k : ∀ (p : Program) (e : Env) (s : State) (m : MethodId) (args : Array Value) (below : List Frame) (meth : Method) (c : Code) (Q : State → Prop), Cx X p s m args meth c y.cls bytes maxL ret → Sc X b L xs s → Q = MQ below (QR X P) args s mc ms (Aft X) →
      V X maxL p l e { frames := fr, cells := mc, slots := ms, locals := lo } s m args below meth c Q 0 0 n K F G lv 0 []) : Ms X l y bytes maxL ret fr lo mc ms As b L xs n K F G P := by
  refine Met.ofW (cc := bytes) (maxL := maxL) (ret := ret) hy rfl ?_
  intro p e s m args below meth c s₁ B hml hv
  obtain ⟨rfl, hW, hSc⟩ := hv
  have hts := atoms_spec (ws := wl y bytes maxL ret) B.pre
  have hC : Cx X p s m As.toArray meth c y.cls bytes maxL ret := ⟨B.exec, B.bytes, hml, B.returns, B.notSynchronized, findClass_of_methodNamed B.named, fun w h => hts w (List.mem_cons_of_mem _ h), hW.2.1, hW.2.2, (by rw [hW.1.1]; exact hW.1.2.1)⟩
  have hl := lv_entry As (n := maxL) hlen
  rw [hlv] at hl
  rw [lg_entry_eq]
  exact k p e s m _ below meth c _ hC hSc rfl s.heap [] _ hW.1 va_S.rf hl
theorem v_sld (hC : Cx X p s m args meth c own cc nL ret) (hSc : Sc X b L xs s) {i : Int32} (hin : vp_in i L) (hdg : decode cc pc = .ok (.iaload, 1)) (kk : V X nL p l e R s m args below meth c Q cells slots n K F G lv (pc + 1) (.int (xs i.toNatClampNeg) :: st)) : V X nL p l e R s m args below meth c Q cells slots n K F G lv pc (.int i :: .ref b :: st) := fun H locs ls h1 h2 h3 =>
  va_sld hC.hx hC.hb hSc.1 hSc.2.1 (fun q => absurd q.1 (Nat.not_le.mpr hSc.2.2)) h2 hin hdg (kk H locs ls h1 h2 h3)
theorem v_slen (hC : Cx X p s m args meth c own cc nL ret) (hSc : Sc X b L xs s) (hdg : decode cc pc = .ok (.arraylength, 1)) (kk : V X nL p l e R s m args below meth c Q cells slots n K F G lv (pc + 1) (.int (nI L) :: st)) : V X nL p l e R s m args below meth c Q cells slots n K F G lv pc (.ref b :: st) := fun H locs ls h1 h2 h3 =>
  va_slen hC.hx hC.hb hSc.1 hSc.2.1 (fun q => absurd q.1 (Nat.not_le.mpr hSc.2.2)) h2 hdg (kk H locs ls h1 h2 h3)
theorem v_scallS (hC : Cx X p s m args meth c own cc nL ret) (hSc : Sc X b L xs s) {P : Pt5} {y : MethodName} {bytes : ByteArray} {maxL fr lo mc ms index c2 s2 : Nat} {ret1 : Option FieldType} {As : List Value} {nn : Nat} (hM : Ms X l y bytes maxL ret1 fr lo mc ms As b L xs n K F G P) (hq : qS own index y bytes maxL ret1) (hd : y.cls ≠ "java/lang/invoke/MethodHandle" ∧ y.cls ≠ "java/lang/invoke/VarHandle" ∧ (parseMethodDescriptor y.desc).map (fun d => d.parameters.length) = some nn) (hnn : As.length = nn) {st0 : List Value} (hst0 : st0 = As.reverse ++ st) (hrf : fr + 1 ≤ R.frames) (hrl : 8 + (maxL + 11) + lo ≤ R.locals) (hrc : cells + mc ≤ R.cells) (hrs : slots + ms ≤ R.slots) (hc2 : cells + mc ≤ c2) (hs2 : slots + ms ≤ s2) (hst : (st.map fun v => v.category).sum ≤ 8) (hdg : decode cc pc = .ok (.invokestatic index, 3))
     (kk : ∀ (o : Option Value) (n' : Nat) (K' : Kt) (F' : Ft) (G' : Gt), P o n' K' F' G' → V X nL p l e R s m args below meth c Q c2 s2 n' K' F' G' lv (pc + 3) (o.toList ++ st)) : V X nL p l e R s m args below meth c Q cells slots n K F G lv pc st0 := by
  intro H locs ls h1 h2 h3
  exact v_rafter (va_runS (As := As) (rest := st) hC.fix hM (va_cwS nn hC.hts hq.good rfl rfl rfl hd ⟨hrf, hrl⟩) ⟨Ws.blind, fun U hU hW => ⟨rfl, Wd.of hC h1 h2 hU hW, hSc.of h2 hU hW⟩⟩ rfl hnn h3.1 hst0 (lv_room hst) hdg ⟨hrc, hrs⟩) h2 h3 hc2 hs2 kk
/-- a contract of a method with handlers, that throws nothing -/
def wlh (y : MethodName) (bytes : ByteArray) (maxL : Nat) (ret : Option FieldType) (hh : List (Nat × Nat × Nat × Nat)) : List Cond := Cond.codeWith y bytes maxL ret hh :: Al
def Mh (X : Xt) (l : Launch) (y : MethodName) (bytes : ByteArray) (maxL : Nat) (ret : Option FieldType) (hh : List (Nat × Nat × Nat × Nat)) (fr lo mc ms : Nat) (As : List Value) (n : Nat) (K : Kt) (F : Ft) (G : Gt) (P : Pt5) : Prop :=
  Met l y (wlh y bytes maxL ret hh) { frames := fr, cells := mc, slots := ms, locals := lo } (va_Pc As (Wd X n K F G)) (QR X P) mc ms (Aft X)
theorem Mh.of {y : MethodName} {bytes : ByteArray} {maxL fr lo mc ms : Nat} {hh : List (Nat × Nat × Nat × Nat)} {As : List Value} {P : Pt5} (hy : plainName y.cls = true) (hlen : (lg_sl As).length ≤ maxL) (hlv : lv_args 0 As = lv)
    (k : ∀ (p : Program) (e : Env) (s : State) (m : MethodId) (args : Array Value) (below : List Frame) (meth : Method) (c : Code) (Q : State → Prop), Cx X p s m args meth c y.cls bytes maxL ret → c.exceptionTable.toList = tableOf hh → Q = MQ below (QR X P) args s mc ms (Aft X) →
      V X maxL p l e { frames := fr, cells := mc, slots := ms, locals := lo } s m args below meth c Q 0 0 n K F G lv 0 []) : Mh X l y bytes maxL ret hh fr lo mc ms As n K F G P := by
  unfold Mh Met
  refine MetFree.of_bodyS (code := bytes) (maxLocals := maxL) (ret := ret) hy ?_ ?_
  · intro args s m h hn
    obtain ⟨m9, meth, c, hn9, h1, h2, h3, h4, -, h5, h6, -⟩ := Cond.codeWith_spec (atoms_spec (ws := wlh y bytes maxL ret hh) h _ List.mem_cons_self)
    cases hn.symm.trans hn9
    exact ⟨meth, c, h1, h2, h3, h4, h5, h6⟩
  · intro p e s m args below meth c s₁ B hml hP _
    have hh0 : s₁.heap = s.heap := by rw [B.state]; rfl
    obtain ⟨rfl, hW⟩ := hP
    have hts := atoms_spec (ws := wlh y bytes maxL ret hh) B.pre
    have htb := vx_table (x := y) B (hts _ List.mem_cons_self)
    have hC : Cx X p s m As.toArray meth c y.cls bytes maxL ret := ⟨B.exec, B.bytes, hml, B.returns, B.notSynchronized, findClass_of_methodNamed B.named, fun w h => hts w (List.mem_cons_of_mem _ h), hW.2.1, hW.2.2, (by rw [hW.1.1]; exact hW.1.2.1)⟩
    have hl := lv_entry As (n := maxL) hlen
    rw [hlv] at hl
    have w := k p e s m _ below meth c _ hC htb rfl s.heap [] _ hW.1 va_S.rf hl
    rw [← lg_entry_eq] at w
    obtain ⟨t, a1, o, b1, b2, b3⟩ := w s₁ hh0 (Stand.of_body B)
    exact ⟨t, o, a1, b1, b2, b3⟩
def qSh (own : String) (index : Nat) (y : MethodName) (bytes : ByteArray) (maxL : Nat) (ret1 : Option FieldType) (hh : List (Nat × Nat × Nat × Nat)) : Prop := Cond.methodLink own index y ∈ Al ∧ Cond.static y ∈ Al ∧ Cond.initialized y.cls ∈ Al ∧ Cond.codeWith y bytes maxL ret1 hh ∈ Al
theorem qSh.good {index : Nat} {y : MethodName} {bytes : ByteArray} {maxL : Nat} {ret1 : Option FieldType} {hh : List (Nat × Nat × Nat × Nat)} (h : qSh own index y bytes maxL ret1 hh) : GoodIn Al (va_wsS own index y (wlh y bytes maxL ret1 hh)) := by
  obtain ⟨a1, a2, a3, a4⟩ := h
  intro w hw
  unfold va_wsS at hw
  rcases List.mem_append.mp hw with h | h
  · simp only [List.mem_cons, List.not_mem_nil, or_false] at h
    rcases h with rfl | rfl | rfl
    · exact ⟨a1, al_good a1⟩
    · exact ⟨a2, al_good a2⟩
    · exact ⟨a3, al_good a3⟩
  · rcases List.mem_cons.mp h with rfl | h2
    · exact ⟨a4, al_good a4⟩
    · exact ⟨h2, al_good h2⟩
/-- X, with the cells of E left alone -/
abbrev xw (X : Xt) (E : Nat → Prop) : Xt := (X.1, X.2.1, X.2.2.1, X.2.2.2.1, X.2.2.2.2.1, X.2.2.2.2.2.1, X.2.2.2.2.2.2.1, X.2.2.2.2.2.2.2.1, E)
abbrev E3 (a1 a2 a3 : Nat) : Nat → Prop := fun q => q = a1 ∨ q = a2 ∨ q = a3
def ky {α : Type} (a1 a2 a3 : Nat) (f g : Nat → α) : Nat → α := fun a => if a = a1 ∨ a = a2 ∨ a = a3 then g a else f a
section
variable {a1 a2 a3 : Nat} {Ka : Kt} {Fa : Ft} {Ga : Gt}
theorem ky_in {α : Type} {f g : Nat → α} {a : Nat} (h : E3 a1 a2 a3 a) : ky a1 a2 a3 f g a = g a := if_pos h
theorem ky_out {α : Type} {f g : Nat → α} {a : Nat} (h : ¬ E3 a1 a2 a3 a) : ky a1 a2 a3 f g a = f a := if_neg h
theorem Zs.nar {U : State} {E : Nat → Prop} (hx0 : ∀ q, ¬ xe X q) (h : Zs X U) : Zs (xw X E) U := by
  have hAB : ∀ q, Aft (xw X E) q → Aft X q := fun q hq => ⟨hq.1, hx0 q⟩
  obtain ⟨z0, z1, ⟨z2, zm⟩, z3, z4, z5, z7, ⟨y0, ⟨d1, f1, y1, y2⟩, ⟨d2, f2, y3, y4⟩, aK, aV, ys, yr⟩⟩ := h
  exact ⟨z0, z1, ⟨z2.narrow hAB, zm⟩, z3.narrow hAB, z4.narrow hAB, z5, z7, ⟨y0.narrow hAB, ⟨d1, f1, y1.narrow hAB, y2.narrow hAB⟩, ⟨d2, f2, y3.narrow hAB, y4.narrow hAB⟩, aK, aV, ys.narrow hAB, yr⟩⟩
/-- the heap without the cells that are kept apart -/
theorem Hd.sub {H : Heap} (hx0 : ∀ q, ¬ xe X q) (hz : ∀ a, E3 a1 a2 a3 a → (K a).1 = 0) (ha : ∀ a, E3 a1 a2 a3 a → (Ka a).1 ≠ 0) (h : Hd X n (ky a1 a2 a3 K Ka) (ky a1 a2 a3 F Fa) (ky a1 a2 a3 G Ga) H) : Hd (xw X (E3 a1 a2 a3)) n K F G H := by
  refine ⟨h.1, ⟨h.2.1.1, fun q hq => h.lt (by rw [ky_in hq]; exact ha q hq)⟩, fun a hk => ?_, fun a hk => ?_⟩
  · have hn : ¬ E3 a1 a2 a3 a := fun q => hk (hz a q)
    have q := h.2.2.1 a (by rw [ky_out hn]; exact hk)
    have e1 : ce (xw X (E3 a1 a2 a3)) K F G a = ce X (ky a1 a2 a3 K Ka) (ky a1 a2 a3 F Fa) (ky a1 a2 a3 G Ga) a := (ce_congr (X := X) (ky_out hn) (ky_out hn) (ky_out hn)).symm
    rw [ky_out hn] at q
    rw [e1]; exact q
  · have hn : ¬ E3 a1 a2 a3 a := fun q => hk (hz a q)
    rcases h.2.2.2 a (by rw [ky_out hn]; exact hk) with q | q
    · exact Or.inl ⟨q.1, hn⟩
    · rw [ky_out hn] at q; exact Or.inr q
theorem Hd.join {H H1 : Heap} {n' : Nat} {K' : Kt} {F' : Ft} {G' : Gt} (hx0 : ∀ q, ¬ xe X q) (ha : ∀ a, E3 a1 a2 a3 a → (Ka a).1 ≠ 0) (h : Hd X n (ky a1 a2 a3 K Ka) (ky a1 a2 a3 F Fa) (ky a1 a2 a3 G Ga) H) (h1 : Hd (xw X (E3 a1 a2 a3)) n' K' F' G' H1) (ho : ∀ q, E3 a1 a2 a3 q → H1[q]? = H[q]?) : Hd X n' (ky a1 a2 a3 K' Ka) (ky a1 a2 a3 F' Fa) (ky a1 a2 a3 G' Ga) H1 := by
  refine ⟨h1.1, ⟨h1.2.1.1, fun q hq => absurd hq (hx0 q)⟩, fun a hk => ?_, fun a hk => ?_⟩
  · by_cases hn : E3 a1 a2 a3 a
    · have q := (h.2.2.1 a (by rw [ky_in hn]; exact ha a hn)).kept (ho a hn)
      rw [ce_congr (X := X) (K := ky a1 a2 a3 K Ka) (F := ky a1 a2 a3 F Fa) (G := ky a1 a2 a3 G Ga) (by rw [ky_in hn, ky_in hn]) (by rw [ky_in hn, ky_in hn]) (by rw [ky_in hn, ky_in hn])]
      rw [ky_in hn] at q ⊢
      exact q
    · rw [ky_out hn] at hk
      have q := h1.2.2.1 a hk
      have e1 : ce X (ky a1 a2 a3 K' Ka) (ky a1 a2 a3 F' Fa) (ky a1 a2 a3 G' Ga) a = ce (xw X (E3 a1 a2 a3)) K' F' G' a := ce_congr (X := X) (ky_out hn) (ky_out hn) (ky_out hn)
      rw [e1, ky_out hn]; exact q
  · by_cases hn : E3 a1 a2 a3 a
    · rcases h.2.2.2 a (by rw [ky_in hn]; exact ha a hn) with q | q
      · exact Or.inl q
      · rw [ky_in hn] at q ⊢; exact Or.inr q
    · rw [ky_out hn] at hk ⊢
      rcases h1.2.2.2 a hk with q | q
      · exact Or.inl ⟨q.1, hx0 a⟩
      · exact Or.inr q
/-- what the call's world says of the cells kept apart: nothing -/
theorem Hd.none0 {H H1 : Heap} {n' : Nat} {K' : Kt} {F' : Ft} {G' : Gt} (ha : ∀ a, E3 a1 a2 a3 a → ∃ N, (Ka a = (20, N) ∨ Ka a = (23, N)) ∧ N.toInt32 ≠ 0) (h : Hd X n (ky a1 a2 a3 K Ka) (ky a1 a2 a3 F Fa) (ky a1 a2 a3 G Ga) H) (h1 : Hd (xw X (E3 a1 a2 a3)) n' K' F' G' H1) (ho : ∀ q, E3 a1 a2 a3 q → H1[q]? = H[q]?) : ∀ a, E3 a1 a2 a3 a → (K' a).1 = 0 := by
  intro a hn
  by_cases hk : (K' a).1 = 0
  · exact hk
  · exfalso
    obtain ⟨N, hN, hN0⟩ := ha a hn
    rcases h1.2.2.2 a hk with q | q
    · exact q.2 hn
    · obtain ⟨cell, w1, -, -, -, w5⟩ := (h1.2.2.1 a hk).2 q
      rw [ho a hn] at w1
      rcases hN with hN | hN
      · have v2 := (h.2.2.1 a (by rw [ky_in hn, hN]; exact (by decide : (20 : Nat) ≠ 0))).1 (by rw [ky_in hn, hN]; intro w; cases w)
        rw [ce_20 (by rw [ky_in hn, hN]), ky_in hn, hN] at v2
        have v2 : H[a]? = some (vp_cell _ _) := v2
        rw [v2] at w1
        rw [← Option.some.inj w1, vp_cell_i, arrV_size] at w5
        exact hN0 w5
      · have v2 := (h.2.2.1 a (by rw [ky_in hn, hN]; exact (by decide : (23 : Nat) ≠ 0))).1 (by rw [ky_in hn, hN]; intro w; cases w)
        rw [ce_23 (by rw [ky_in hn, hN]), ky_in hn, hN] at v2
        have v2 : H[a]? = some (vp_cell _ _) := v2
        rw [v2] at w1
        rw [← Option.some.inj w1, vp_cell_i, arrV_size] at w5
        exact hN0 w5
theorem v_fafter {P : Pt5} {a : Array Value} {mc ms c2 s2 : Nat} {st0 : List Value} {H : Heap} {locs : List Loc} {ls : Array Slot} (hx0 : ∀ q, ¬ xe X q) (ha : ∀ a, E3 a1 a2 a3 a → ∃ N, (Ka a = (20, N) ∨ Ka a = (23, N)) ∧ N.toInt32 ≠ 0) (h1 : Hd X n (ky a1 a2 a3 K Ka) (ky a1 a2 a3 F Fa) (ky a1 a2 a3 G Ga) H) (hr : va_Run p l e R s m args below meth c H locs cells slots mc ms (F0 m pc ls st0) st (QR (xw X (E3 a1 a2 a3)) P a) (Aft (xw X (E3 a1 a2 a3)))) (h2 : va_S (Aft X) s.heap H locs) (h3 : lv_has ls nL lv) (hc : cells + mc ≤ c2) (hs : slots + ms ≤ s2)
    (kk : ∀ (o : Option Value) (n' : Nat) (K' : Kt) (F' : Ft) (G' : Gt), P o n' K' F' G' → (∀ a, E3 a1 a2 a3 a → (K' a).1 = 0) → V X nL p l e R s m args below meth c Q c2 s2 n' (ky a1 a2 a3 K' Ka) (ky a1 a2 a3 F' Fa) (ky a1 a2 a3 G' Ga) lv (pc + 3) (o.toList ++ st)) : W p l e R s m args below meth c H locs cells slots Q (F0 m pc ls st0) := by
  have ha2 : ∀ a, E3 a1 a2 a3 a → (Ka a).1 ≠ 0 := fun a q => by
    obtain ⟨N, hN, -⟩ := ha a q
    rcases hN with hN | hN <;> rw [hN]
    · exact (by decide : (20 : Nat) ≠ 0)
    · exact (by decide : (23 : Nat) ≠ 0)
  intro T hT Y
  obtain ⟨v, st₀, t, T', L, h0, X', hL, e1, e2, ⟨o, n', K', F', G', hp, hv, hW, hz, hk⟩, stp⟩ := hr T hT Y
  cases hv
  rw [h0] at hz hk
  have ho : ∀ q, E3 a1 a2 a3 q → t.heap[q]? = H[q]? := fun q hq => hk q (by rw [h1.1]; exact h1.lt (by rw [ky_in hq]; exact ha2 q hq)) (fun w => w.2 hq)
  have hS : va_S (Aft X) s.heap T'.heap (locs ++ L) := ⟨Nat.le_trans h2.1 (by rw [e1]; exact hz), fun q g1 g2 => by rw [e1, hk q (Nat.lt_of_lt_of_le g1 h2.1) (fun w => g2 ⟨w.1, hx0 q⟩)]; exact h2.2.1 q g1 g2, fun q hq => by
      rcases List.mem_append.mp hq with h | h
      · exact h2.2.2 q h
      · exact ⟨(hL q h).1, hx0 _⟩⟩
  obtain ⟨t2, b1, b2⟩ := W.widen hc hs (kk _ n' K' F' G' hp (Hd.none0 ha h1 hW.1 ho) T'.heap (locs ++ L) ls (by rw [e1]; exact Hd.join hx0 ha2 h1 hW.1 ho) hS h3) T' rfl X'
  exact ⟨t2, stp t2 b1, b2⟩
theorem Wd.sub (hC : Cx X p s m args meth c own cc nL ret) (hx0 : ∀ q, ¬ xe X q) (hz : ∀ a, E3 a1 a2 a3 a → (K a).1 = 0) (ha : ∀ a, E3 a1 a2 a3 a → ∃ N, (Ka a = (20, N) ∨ Ka a = (23, N)) ∧ N.toInt32 ≠ 0) {H : Heap} {locs : List Loc} {U : State} (h1 : Hd X n (ky a1 a2 a3 K Ka) (ky a1 a2 a3 F Fa) (ky a1 a2 a3 G Ga) H) (h2 : va_S (Aft X) s.heap H locs) (hU : U.heap = H) (hW : s.WarmedH U.vm) : Wd (xw X (E3 a1 a2 a3)) n K F G U := by
  have w := Wd.of hC h1 h2 hU hW
  refine ⟨?_, w.2.1, w.2.2.nar hx0⟩
  rw [hU]
  exact Hd.sub hx0 hz (fun a q => by
    obtain ⟨N, hN, -⟩ := ha a q
    rcases hN with hN | hN <;> rw [hN]
    · exact (by decide : (20 : Nat) ≠ 0)
    · exact (by decide : (23 : Nat) ≠ 0)) h1
theorem v_fcallV (hC : Cx X p s m args meth c own cc nL ret) (hx0 : ∀ q, ¬ xe X q) (hz : ∀ a, E3 a1 a2 a3 a → (K a).1 = 0) (ha : ∀ a, E3 a1 a2 a3 a → ∃ N, (Ka a = (20, N) ∨ Ka a = (23, N)) ∧ N.toInt32 ≠ 0) {P : Pt5} {y : MethodName} {bytes : ByteArray} {maxL fr lo mc ms index c2 s2 : Nat} {ret1 : Option FieldType} {As : List Value} {a ci nn : Nat} {q : vw_C} {fs : List Value} (hM : Mr (xw X (E3 a1 a2 a3)) l y bytes maxL ret1 fr lo mc ms (.ref a :: As) n K F G P) (hq : qV own index q.1 y bytes maxL ret1) (hka : (K a).1 ≠ 0) (he : ce (xw X (E3 a1 a2 a3)) K F G a = .inr (ci, fs)) (hc : cls[ci]? = some q) (hd : y.cls = q.1 ∧ y.cls ≠ "java/lang/invoke/MethodHandle" ∧ y.cls ≠ "java/lang/invoke/VarHandle" ∧ (parseMethodDescriptor y.desc).map (fun d => d.parameters.length) = some nn) (hnn : As.length = nn) {st0 : List Value} (hst0 : st0 = As.reverse ++ .ref a :: st) (hrf : fr + 1 ≤ R.frames) (hrl : 8 + (maxL + 11) + lo ≤ R.locals) (hrc : cells + mc ≤ R.cells) (hrs : slots + ms ≤ R.slots) (hc2 : cells + mc ≤ c2) (hs2 : slots + ms ≤ s2) (hst : (st.map fun v => v.category).sum ≤ 8) (hdg : decode cc pc = .ok (.invokevirtual index, 3))
     (kk : ∀ (o : Option Value) (n' : Nat) (K' : Kt) (F' : Ft) (G' : Gt), P o n' K' F' G' → (∀ a, E3 a1 a2 a3 a → (K' a).1 = 0) → V X nL p l e R s m args below meth c Q c2 s2 n' (ky a1 a2 a3 K' Ka) (ky a1 a2 a3 F' Fa) (ky a1 a2 a3 G' Ga) lv (pc + 3) (o.toList ++ st)) : V X nL p l e R s m args below meth c Q cells slots n (ky a1 a2 a3 K Ka) (ky a1 a2 a3 F Fa) (ky a1 a2 a3 G Ga) lv pc st0 := by
  intro H locs ls h1 h2 h3
  have w0 : Hd (xw X (E3 a1 a2 a3)) n K F G H := Hd.sub hx0 hz (fun a q => by
    obtain ⟨N, hN, -⟩ := ha a q
    rcases hN with hN | hN <;> rw [hN]
    · exact (by decide : (20 : Nat) ≠ 0)
    · exact (by decide : (23 : Nat) ≠ 0)) h1
  exact v_fafter hx0 ha h1 (va_runV (As := As) (rest := st) hC.fix hM (cwV nn hC.hts hq.good rfl rfl rfl hd ⟨hrf, hrl⟩) ⟨Wd.blind, Hd.recv (X := xw X (E3 a1 a2 a3)) (show KX (xw X (E3 a1 a2 a3)) s from hC.hK) w0 hka he hc, fun U hU hW => ⟨rfl, Wd.sub hC hx0 hz ha h1 h2 hU hW⟩⟩ rfl hnn h3.1 hst0 (lv_room hst) hdg ⟨hrc, hrs⟩) h2 h3 hc2 hs2 kk
theorem v_fcallS (hC : Cx X p s m args meth c own cc nL ret) (hx0 : ∀ q, ¬ xe X q) (hz : ∀ a, E3 a1 a2 a3 a → (K a).1 = 0) (ha : ∀ a, E3 a1 a2 a3 a → ∃ N, (Ka a = (20, N) ∨ Ka a = (23, N)) ∧ N.toInt32 ≠ 0) {P : Pt5} {y : MethodName} {bytes : ByteArray} {maxL fr lo mc ms index c2 s2 : Nat} {ret1 : Option FieldType} {As : List Value} {nn : Nat} (hM : Mr (xw X (E3 a1 a2 a3)) l y bytes maxL ret1 fr lo mc ms As n K F G P) (hq : qS own index y bytes maxL ret1) (hd : y.cls ≠ "java/lang/invoke/MethodHandle" ∧ y.cls ≠ "java/lang/invoke/VarHandle" ∧ (parseMethodDescriptor y.desc).map (fun d => d.parameters.length) = some nn) (hnn : As.length = nn) {st0 : List Value} (hst0 : st0 = As.reverse ++ st) (hrf : fr + 1 ≤ R.frames) (hrl : 8 + (maxL + 11) + lo ≤ R.locals) (hrc : cells + mc ≤ R.cells) (hrs : slots + ms ≤ R.slots) (hc2 : cells + mc ≤ c2) (hs2 : slots + ms ≤ s2) (hst : (st.map fun v => v.category).sum ≤ 8) (hdg : decode cc pc = .ok (.invokestatic index, 3))
     (kk : ∀ (o : Option Value) (n' : Nat) (K' : Kt) (F' : Ft) (G' : Gt), P o n' K' F' G' → (∀ a, E3 a1 a2 a3 a → (K' a).1 = 0) → V X nL p l e R s m args below meth c Q c2 s2 n' (ky a1 a2 a3 K' Ka) (ky a1 a2 a3 F' Fa) (ky a1 a2 a3 G' Ga) lv (pc + 3) (o.toList ++ st)) : V X nL p l e R s m args below meth c Q cells slots n (ky a1 a2 a3 K Ka) (ky a1 a2 a3 F Fa) (ky a1 a2 a3 G Ga) lv pc st0 := by
  intro H locs ls h1 h2 h3
  exact v_fafter hx0 ha h1 (va_runS (As := As) (rest := st) hC.fix hM (va_cwS nn hC.hts hq.good rfl rfl rfl hd ⟨hrf, hrl⟩) ⟨Wd.blind, fun U hU hW => ⟨rfl, Wd.sub hC hx0 hz ha h1 h2 hU hW⟩⟩ rfl hnn h3.1 hst0 (lv_room hst) hdg ⟨hrc, hrs⟩) h2 h3 hc2 hs2 kk
theorem v_fcallH (hC : Cx X p s m args meth c own cc nL ret) (hx0 : ∀ q, ¬ xe X q) (hz : ∀ a, E3 a1 a2 a3 a → (K a).1 = 0) (ha : ∀ a, E3 a1 a2 a3 a → ∃ N, (Ka a = (20, N) ∨ Ka a = (23, N)) ∧ N.toInt32 ≠ 0) {P : Pt5} {y : MethodName} {bytes : ByteArray} {maxL fr lo mc ms index c2 s2 : Nat} {ret1 : Option FieldType} {hh : List (Nat × Nat × Nat × Nat)} {As : List Value} {nn : Nat} (hM : Mh (xw X (E3 a1 a2 a3)) l y bytes maxL ret1 hh fr lo mc ms As n K F G P) (hq : qSh own index y bytes maxL ret1 hh) (hd : y.cls ≠ "java/lang/invoke/MethodHandle" ∧ y.cls ≠ "java/lang/invoke/VarHandle" ∧ (parseMethodDescriptor y.desc).map (fun d => d.parameters.length) = some nn) (hnn : As.length = nn) {st0 : List Value} (hst0 : st0 = As.reverse ++ st) (hrf : fr + 1 ≤ R.frames) (hrl : 8 + (maxL + 11) + lo ≤ R.locals) (hrc : cells + mc ≤ R.cells) (hrs : slots + ms ≤ R.slots) (hc2 : cells + mc ≤ c2) (hs2 : slots + ms ≤ s2) (hst : (st.map fun v => v.category).sum ≤ 8) (hdg : decode cc pc = .ok (.invokestatic index, 3))
     (kk : ∀ (o : Option Value) (n' : Nat) (K' : Kt) (F' : Ft) (G' : Gt), P o n' K' F' G' → (∀ a, E3 a1 a2 a3 a → (K' a).1 = 0) → V X nL p l e R s m args below meth c Q c2 s2 n' (ky a1 a2 a3 K' Ka) (ky a1 a2 a3 F' Fa) (ky a1 a2 a3 G' Ga) lv (pc + 3) (o.toList ++ st)) : V X nL p l e R s m args below meth c Q cells slots n (ky a1 a2 a3 K Ka) (ky a1 a2 a3 F Fa) (ky a1 a2 a3 G Ga) lv pc st0 := by
  intro H locs ls h1 h2 h3
  exact v_fafter hx0 ha h1 (vx_runSW (As := As) (rest := st) hC.fix hM (vx_cwSW nn hC.hts hq.good rfl rfl rfl hd ⟨hrf, hrl⟩) ⟨Wd.blind, fun U hU hW => ⟨rfl, Wd.sub hC hx0 hz ha h1 h2 hU hW⟩⟩ rfl hnn h3.1 hst0 (lv_room hst) hdg ⟨hrc, hrs⟩) h2 h3 hc2 hs2 kk
end
/-- a contract that answers one thing, as one with a property -/
theorem Mw.mr {y : MethodName} {bytes : ByteArray} {maxL fr lo mc ms : Nat} {As : List Value} {o : Option Value} {n' : Nat} {K' : Kt} {F' : Ft} {G' : Gt} (h : Mw X l y bytes maxL ret fr lo mc ms As n K F G o n' K' F' G') : Mr X l y bytes maxL ret fr lo mc ms As n K F G (fun o1 n1 K1 F1 G1 => o1 = o ∧ n1 = n' ∧ K1 = K' ∧ F1 = F' ∧ G1 = G') := by
  unfold Mw Met at h
  unfold Mr Met
  exact MetFree.mono h (fun _ _ q => q) (fun _ _ _ _ _ q => q) (fun a st oc t _ q => ⟨⟨o, n', K', F', G', ⟨rfl, rfl, rfl, rfl, rfl⟩, q.1⟩, q.2⟩)
theorem cast_self {E : String} {k : ClassId} (h : s.vm.findClass E = some k) : (Cond.castable E E).before args s = true := by
  simp only [Cond.before, Cond.holds, Cond.value, h]
  simp [va_asg]
/-- what is thrown is caught: the world is as it was -/
theorem v_catch1 (hC : Cx X p s m args meth c own cc nL ret) (x y : ExceptionTableEntry) (hsplit : c.exceptionTable.toList = [x, y]) (hx0 : x.catchType ≠ 0) (hy0 : y.catchType ≠ 0) (hcx : covers x pc = true) (hcy : covers y pc = true) (hlx : Cond.classLink own x.catchType "java/lang/IllegalStateException" ∈ Al) (hly : Cond.classLink own y.catchType "java/lang/IndexOutOfBoundsException" ∈ Al)
    (k1 : ∀ n1 q, V X nL p l e R s m args below meth c Q cells slots n1 K F G lv x.handlerPc [.ref q]) (k2 : ∀ n1 q, V X nL p l e R s m args below meth c Q cells slots n1 K F G lv y.handlerPc [.ref q]) : VE X nL p l e R s m args below meth c Q cells slots K F G lv pc st := by
  intro E ce q n1 H1 locs1 ls hE h1 h2 h3 hq hv hcl
  rcases hE with rfl | rfl
  · exact vx_catch hC.hown [] x [y] hsplit (fun z hz => nomatch hz) hcx hx0 (hC.hts _ hlx) (cast_self hcl) hq hv hcl (k1 n1 q H1 locs1 ls h1 h2 h3)
  · exact vx_catch hC.hown [x] y [] hsplit (fun z hz => by
      rcases List.mem_cons.mp hz with rfl | h
      · exact Or.inr ⟨hx0, _, hC.hts _ hlx, hC.hZ.2.1⟩
      · cases h) hcy hy0 (hC.hts _ hly) (cast_self hcl) hq hv hcl (k2 n1 q H1 locs1 ls h1 h2 h3)
end PNJ
