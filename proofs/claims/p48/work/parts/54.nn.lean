/-! rows for the digest's text: contracts with a word more, private and inherited calls, byte arrays, tables -/
section PNN
variable {X : Xt} {p : Program} {l : Launch} {e : Env} {R : Room} {s : State} {m : MethodId} {args : Array Value} {below : List Frame} {meth : Method} {c : Code} {own : String} {cc : ByteArray} {nL : Nat} {ret : Option FieldType}
variable {Q : State → Prop} {cells slots n : Nat} {K : Kt} {F : Ft} {G : Gt} {lv : List (Nat × Value)} {pc : Nat} {st : List Value} {S : State → Prop}
/-- S speaks of cells that nobody writes -/
def Stab (X : Xt) (S : State → Prop) : Prop := (∀ (s U : State) (H : Heap) (locs : List Loc), S s → va_S (Aft X) s.heap H locs → U.heap = H → s.WarmedH U.vm → S U) ∧ ∀ (U : State) (g : JFrame) (mk : MethodId) (a : Array Value), S U → S (U.calling g mk a)
def Tr (_ : State) : Prop := True
theorem Tr_st : Stab X Tr := ⟨fun _ _ _ _ _ _ _ _ => trivial, fun _ _ _ _ _ => trivial⟩
def Mg (X : Xt) (S : State → Prop) (l : Launch) (y : MethodName) (bytes : ByteArray) (maxL : Nat) (ret : Option FieldType) (fr lo mc ms : Nat) (As : List Value) (n : Nat) (K : Kt) (F : Ft) (G : Gt) (P : Pt5) : Prop :=
  Met l y (wl y bytes maxL ret) { frames := fr, cells := mc, slots := ms, locals := lo } (va_Pc As (fun U => Wd X n K F G U ∧ S U)) (QR X P) mc ms (Aft X)
theorem Mg.of {y : MethodName} {bytes : ByteArray} {maxL fr lo mc ms : Nat} {As : List Value} {P : Pt5} (hy : plainName y.cls = true) (hlen : (lg_sl As).length ≤ maxL) (hlv : lv_args 0 As = lv)
    (k : ∀ (p : Program) (e : Env) (s : State) (m : MethodId) (args : Array Value) (below : List Frame) (meth : Method) (c : Code) (Q : State → Prop), Cx X p s m args meth c y.cls bytes maxL ret → meth.name = y.name → S s → Q = MQ below (QR X P) args s mc ms (Aft X) →
      V X maxL p l e { frames := fr, cells := mc, slots := ms, locals := lo } s m args below meth c Q 0 0 n K F G lv 0 []) : Mg X S l y bytes maxL ret fr lo mc ms As n K F G P := by
  refine Met.ofW (cc := bytes) (maxL := maxL) (ret := ret) hy rfl ?_
  intro p e s m args below meth c s₁ B hml hv
  obtain ⟨rfl, hW, hSS⟩ := hv
  have hts := atoms_spec (ws := wl y bytes maxL ret) B.pre
  have hC : Cx X p s m As.toArray meth c y.cls bytes maxL ret := ⟨B.exec, B.bytes, hml, B.returns, B.notSynchronized, findClass_of_methodNamed B.named, fun w h => hts w (List.mem_cons_of_mem _ h), hW.2.1, hW.2.2, (by rw [hW.1.1]; exact hW.1.2.1)⟩
  have hl := lv_entry As (n := maxL) hlen
  rw [hlv] at hl
  rw [lg_entry_eq]
  exact k p e s m _ below meth c _ hC (name_of_methodNamed B.named B.method).1 hSS rfl s.heap [] _ hW.1 va_S.rf hl
theorem Mr.g {y : MethodName} {bytes : ByteArray} {maxL fr lo mc ms : Nat} {As : List Value} {P : Pt5} (h : Mr X l y bytes maxL ret fr lo mc ms As n K F G P) : Mg X Tr l y bytes maxL ret fr lo mc ms As n K F G P := by
  unfold Mr Met at h
  unfold Mg Met
  exact MetFree.mono h (fun _ _ q => ⟨q.1, q.2.1⟩) (fun _ _ _ _ _ q => q) (fun _ _ _ _ _ q => q)
theorem Mg.mr {y : MethodName} {bytes : ByteArray} {maxL fr lo mc ms : Nat} {As : List Value} {P : Pt5} (h : Mg X Tr l y bytes maxL ret fr lo mc ms As n K F G P) : Mr X l y bytes maxL ret fr lo mc ms As n K F G P := by
  unfold Mg Met at h
  unfold Mr Met
  exact MetFree.mono h (fun _ _ q => ⟨q.1, q.2, trivial⟩) (fun _ _ _ _ _ q => q) (fun _ _ _ _ _ q => q)
theorem Wd.blindg {As : List Value} (hst : Stab X S) : FrameBlind (va_Pc As (fun U => Wd X n K F G U ∧ S U)) := fun _ U g mk q => ⟨q.1, q.2.1.calling, hst.2 U g mk _ q.2.2⟩
section
variable {P : Pt5} {y : MethodName} {bytes : ByteArray} {maxL fr lo mc ms index c2 s2 : Nat} {ret1 : Option FieldType} {As : List Value} {a nn : Nat} {st0 : List Value}
theorem v_gcallS (hC : Cx X p s m args meth c own cc nL ret) (hSs : S s) (hSt : Stab X S) (hM : Mg X S l y bytes maxL ret1 fr lo mc ms As n K F G P) (hq : qS own index y bytes maxL ret1) (hd : y.cls ≠ "java/lang/invoke/MethodHandle" ∧ y.cls ≠ "java/lang/invoke/VarHandle" ∧ (parseMethodDescriptor y.desc).map (fun d => d.parameters.length) = some nn) (hnn : As.length = nn) (hst0 : st0 = As.reverse ++ st) (hrf : fr + 1 ≤ R.frames) (hrl : 8 + (maxL + 11) + lo ≤ R.locals) (hrc : cells + mc ≤ R.cells) (hrs : slots + ms ≤ R.slots) (hc2 : cells + mc ≤ c2) (hs2 : slots + ms ≤ s2) (hst : (st.map fun v => v.category).sum ≤ 8) (hdg : decode cc pc = .ok (.invokestatic index, 3))
     (kk : ∀ (o : Option Value) (n' : Nat) (K' : Kt) (F' : Ft) (G' : Gt), P o n' K' F' G' → V X nL p l e R s m args below meth c Q c2 s2 n' K' F' G' lv (pc + 3) (o.toList ++ st)) : V X nL p l e R s m args below meth c Q cells slots n K F G lv pc st0 := by
  intro H locs ls h1 h2 h3
  exact v_rafter (va_runS (As := As) (rest := st) hC.fix hM (va_cwS nn hC.hts hq.good rfl rfl rfl hd ⟨hrf, hrl⟩) ⟨Wd.blindg hSt, fun U hU hW => ⟨rfl, Wd.of hC h1 h2 hU hW, hSt.1 s U H locs hSs h2 hU hW⟩⟩ rfl hnn h3.1 hst0 (lv_room hst) hdg ⟨hrc, hrs⟩) h2 h3 hc2 hs2 kk
theorem v_gcallV (hC : Cx X p s m args meth c own cc nL ret) (hSs : S s) (hSt : Stab X S) {ci : Nat} {q : vw_C} {fs : List Value} (hM : Mg X S l y bytes maxL ret1 fr lo mc ms (.ref a :: As) n K F G P) (hq : qV own index q.1 y bytes maxL ret1) (ha : (K a).1 ≠ 0) (he : ce X K F G a = .inr (ci, fs)) (hc : cls[ci]? = some q) (hd : y.cls = q.1 ∧ y.cls ≠ "java/lang/invoke/MethodHandle" ∧ y.cls ≠ "java/lang/invoke/VarHandle" ∧ (parseMethodDescriptor y.desc).map (fun d => d.parameters.length) = some nn) (hnn : As.length = nn) (hst0 : st0 = As.reverse ++ .ref a :: st) (hrf : fr + 1 ≤ R.frames) (hrl : 8 + (maxL + 11) + lo ≤ R.locals) (hrc : cells + mc ≤ R.cells) (hrs : slots + ms ≤ R.slots) (hc2 : cells + mc ≤ c2) (hs2 : slots + ms ≤ s2) (hst : (st.map fun v => v.category).sum ≤ 8) (hdg : decode cc pc = .ok (.invokevirtual index, 3))
     (kk : ∀ (o : Option Value) (n' : Nat) (K' : Kt) (F' : Ft) (G' : Gt), P o n' K' F' G' → V X nL p l e R s m args below meth c Q c2 s2 n' K' F' G' lv (pc + 3) (o.toList ++ st)) : V X nL p l e R s m args below meth c Q cells slots n K F G lv pc st0 := by
  intro H locs ls h1 h2 h3
  exact v_rafter (va_runV (As := As) (rest := st) hC.fix hM (cwV nn hC.hts hq.good rfl rfl rfl hd ⟨hrf, hrl⟩) ⟨Wd.blindg hSt, h1.recv hC.hK ha he hc, fun U hU hW => ⟨rfl, Wd.of hC h1 h2 hU hW, hSt.1 s U H locs hSs h2 hU hW⟩⟩ rfl hnn h3.1 hst0 (lv_room hst) hdg ⟨hrc, hrs⟩) h2 h3 hc2 hs2 kk
/-- a method of AbstractStringBuilder, private or final, on a StringBuilder -/
def qP (own : String) (index : Nat) (y : MethodName) (bytes : ByteArray) (maxL : Nat) (ret1 : Option FieldType) : Prop := Cond.methodLink own index y ∈ Al ∧ Cond.instanceMethod y ∈ Al ∧ Cond.selects RJ4 y y ∈ Al ∧ Cond.initialized y.cls ∈ Al ∧ Cond.code y bytes maxL ret1 ∈ Al
theorem v_gcallP (hC : Cx X p s m args meth c own cc nL ret) (hSs : S s) (hSt : Stab X S) (hM : Mg X S l y bytes maxL ret1 fr lo mc ms (.ref a :: As) n K F G P) (hq : qP own index y bytes maxL ret1) (ha : (K a).1 = 11) (hd : y.cls ≠ "java/lang/invoke/MethodHandle" ∧ y.cls ≠ "java/lang/invoke/VarHandle" ∧ (parseMethodDescriptor y.desc).map (fun d => d.parameters.length) = some nn) (hnn : As.length = nn) (hst0 : st0 = As.reverse ++ .ref a :: st) (hrf : fr + 1 ≤ R.frames) (hrl : 8 + (maxL + 11) + lo ≤ R.locals) (hrc : cells + mc ≤ R.cells) (hrs : slots + ms ≤ R.slots) (hc2 : cells + mc ≤ c2) (hs2 : slots + ms ≤ s2) (hst : (st.map fun v => v.category).sum ≤ 8) (hdg : decode cc pc = .ok (.invokevirtual index, 3))
     (kk : ∀ (o : Option Value) (n' : Nat) (K' : Kt) (F' : Ft) (G' : Gt), P o n' K' F' G' → V X nL p l e R s m args below meth c Q c2 s2 n' K' F' G' lv (pc + 3) (o.toList ++ st)) : V X nL p l e R s m args below meth c Q cells slots n K F G lv pc st0 := by
  obtain ⟨q1, q2, q3, q4, q5⟩ := hq
  intro H locs ls h1 h2 h3
  exact v_rafter (va_runV (C := RJ4) (As := As) (rest := st) hC.fix hM ⟨callB_of nn hC.hts (al_goodIn q5) rfl rfl rfl (hC.hts _ q4) (hC.hts _ q1) hd ⟨hrf, hrl⟩, hC.hts _ q2, hC.hts _ q3⟩ ⟨Wd.blindg hSt, h1.recv hC.hK (by rw [ha]; decide) (ce_11 ha) (ci := 10) rfl, fun U hU hW => ⟨rfl, Wd.of hC h1 h2 hU hW, hSt.1 s U H locs hSs h2 hU hW⟩⟩ rfl hnn h3.1 hst0 (lv_room hst) hdg ⟨hrc, hrs⟩) h2 h3 hc2 hs2 kk
/-- super.m of a StringBuilder -/
def qU (own : String) (index : Nat) (y : MethodName) (bytes : ByteArray) (maxL : Nat) (ret1 : Option FieldType) : Prop := Cond.methodLink own index y ∈ Al ∧ Cond.sameMethod y.cls y.cls y.name y.desc ∈ Al ∧ Cond.superclass own y.cls ∈ Al ∧ Cond.instanceMethod y ∈ Al ∧ Cond.initialized y.cls ∈ Al ∧ Cond.code y bytes maxL ret1 ∈ Al
theorem qU.good (h : qU own index y bytes maxL ret1) : GoodIn Al (va_wsSU own index y (wl y bytes maxL ret1)) := by
  obtain ⟨a1, a2, a3, a4, a5, a6⟩ := h
  intro w hw
  unfold va_wsSU at hw
  rcases List.mem_append.mp hw with h | h
  · simp only [List.mem_cons, List.not_mem_nil, or_false] at h
    rcases h with rfl | rfl | rfl | rfl | rfl
    · exact ⟨a1, al_good a1⟩
    · exact ⟨a2, al_good a2⟩
    · exact ⟨a3, al_good a3⟩
    · exact ⟨a4, al_good a4⟩
    · exact ⟨a5, al_good a5⟩
  · exact al_goodIn a6 w h
theorem v_gcallU (hC : Cx X p s m args meth c own cc nL ret) (hSs : S s) (hSt : Stab X S) (hM : Mg X S l y bytes maxL ret1 fr lo mc ms (.ref a :: As) n K F G P) (hq : qU own index y bytes maxL ret1) (ha : (K a).1 = 11) (hd : y.name ≠ "<init>" ∧ (parseMethodDescriptor y.desc).map (fun d => d.parameters.length) = some nn) (hnn : As.length = nn) (hst0 : st0 = As.reverse ++ .ref a :: st) (hrf : fr + 1 ≤ R.frames) (hrl : 8 + (maxL + 11) + lo ≤ R.locals) (hrc : cells + mc ≤ R.cells) (hrs : slots + ms ≤ R.slots) (hc2 : cells + mc ≤ c2) (hs2 : slots + ms ≤ s2) (hst : (st.map fun v => v.category).sum ≤ 8) (hdg : decode cc pc = .ok (.invokespecial index, 3))
     (kk : ∀ (o : Option Value) (n' : Nat) (K' : Kt) (F' : Ft) (G' : Gt), P o n' K' F' G' → V X nL p l e R s m args below meth c Q c2 s2 n' K' F' G' lv (pc + 3) (o.toList ++ st)) : V X nL p l e R s m args below meth c Q cells slots n K F G lv pc st0 := by
  intro H locs ls h1 h2 h3
  exact v_rafter (va_runSU (C := RJ4) (As := As) (rest := st) (hC.hK.1 10 _ rfl).2 hC.fix hM (va_cwSU nn hC.hts hq.good rfl rfl rfl hd ⟨hrf, hrl⟩) ⟨Wd.blindg hSt, h1.recv hC.hK (by rw [ha]; decide) (ce_11 ha) (ci := 10) rfl, fun U hU hW => ⟨rfl, Wd.of hC h1 h2 hU hW, hSt.1 s U H locs hSs h2 hU hW⟩⟩ rfl hnn h3.1 hst0 (lv_room hst) hdg ⟨hrc, hrs⟩) h2 h3 hc2 hs2 kk
end
/-- tracked cells forgotten -/
theorem v_forget {K1 : Kt} {F1 : Ft} {G1 : Gt} (hf : ∀ x, (K1 x).1 ≠ 0 → K x = K1 x ∧ F x = F1 x ∧ G x = G1 x) (k : V X nL p l e R s m args below meth c Q cells slots n K1 F1 G1 lv pc st) : V X nL p l e R s m args below meth c Q cells slots n K F G lv pc st := fun H locs ls h1 => k H locs ls ⟨h1.1, h1.2.1, fun x hx => by
    obtain ⟨e1, e2, e3⟩ := hf x hx
    have q := h1.2.2.1 x (by rw [e1]; exact hx)
    rw [ce_congr e1 e2 e3, e1] at q
    exact q, fun x hx => by
    obtain ⟨e1, -, -⟩ := hf x hx
    have q := h1.2.2.2 x (by rw [e1]; exact hx)
    rw [e1] at q
    exact q⟩
-- the fields of a StringBuilder
theorem gf_J5_15 (hC : Cx X p s m args meth c RJ5 cc nL ret) {a q : Nat} (ha : (K a).1 = 11) (hq : G a 0 = some q) (hdg : decode cc pc = .ok (.getfield 15, 3)) (kk : V X nL p l e R s m args below meth c Q cells slots n K F G lv (pc + 3) (.ref q :: st)) : V X nL p l e R s m args below meth c Q cells slots n K F G lv pc (.ref a :: st) := v_get hC (by rw [ha]; decide) (ce_11 ha) rfl inJ4 (k := 0) (by decide) aw_498 (fun _ h => h) (by rw [hq]; rfl) hdg kk
theorem gf_J5_22 (hC : Cx X p s m args meth c RJ5 cc nL ret) {a : Nat} (ha : (K a).1 = 11) (hdg : decode cc pc = .ok (.getfield 22, 3)) (kk : V X nL p l e R s m args below meth c Q cells slots n K F G lv (pc + 3) (.int (F a 1) :: st)) : V X nL p l e R s m args below meth c Q cells slots n K F G lv pc (.ref a :: st) := v_get hC (by rw [ha]; decide) (ce_11 ha) rfl inJ4 (k := 1) (by decide) aw_499 (fun _ h => h) rfl hdg kk
theorem gf_J5_79 (hC : Cx X p s m args meth c RJ5 cc nL ret) {a : Nat} (ha : (K a).1 = 11) (hdg : decode cc pc = .ok (.getfield 79, 3)) (kk : V X nL p l e R s m args below meth c Q cells slots n K F G lv (pc + 3) (.int (F a 3) :: st)) : V X nL p l e R s m args below meth c Q cells slots n K F G lv pc (.ref a :: st) := v_get hC (by rw [ha]; decide) (ce_11 ha) rfl inJ4 (k := 3) (by decide) aw_502 (fun _ h => h) rfl hdg kk
theorem pf_J5_15 (hC : Cx X p s m args meth c RJ5 cc nL ret) {a q : Nat} (ha : (K a).1 = 11) (hdg : decode cc pc = .ok (.putfield 15, 3)) (kk : V X nL p l e R s m args below meth c Q cells slots n K F (up2 G a 0 (some q)) lv (pc + 3) st) : V X nL p l e R s m args below meth c Q cells slots n K F G lv pc (.ref q :: .ref a :: st) := v_put hC (by rw [ha]; decide) (fun q => by rw [q] at ha; cases ha) (ce_11 ha) rfl inJ4 tyJ4 tyJ4_ok nmJ4 (k := 0) (by decide) aw_498 (fun _ h => h) rfl (ty := tyJ4 0) (tyJ4_ok 0 (by decide)) rfl rfl (Nat.le_of_ble_eq_true rfl) (fun x hx => ⟨rfl, rfl, up2_a _ _ hx⟩) (by rw [ce_11 ha]; simp [up2, va_up, va_rf]) hdg kk
theorem pf_J5_22 (hC : Cx X p s m args meth c RJ5 cc nL ret) {a : Nat} (ha : (K a).1 = 11) (hdg : decode cc pc = .ok (.putfield 22, 3)) (kk : V X nL p l e R s m args below meth c Q cells slots n K (up2 F a 1 0) G lv (pc + 3) st) : V X nL p l e R s m args below meth c Q cells slots n K F G lv pc (.int 0 :: .ref a :: st) := v_put hC (by rw [ha]; decide) (fun q => by rw [q] at ha; cases ha) (ce_11 ha) rfl inJ4 tyJ4 tyJ4_ok nmJ4 (k := 1) (by decide) aw_499 (fun _ h => h) rfl (ty := tyJ4 1) (tyJ4_ok 1 (by decide)) rfl rfl (Nat.le_of_ble_eq_true rfl) (fun x hx => ⟨rfl, up2_a _ _ hx, rfl⟩) (by rw [ce_11 ha]; simp [up2, va_up, va_rf]) hdg kk
theorem pf_J5_73 (hC : Cx X p s m args meth c RJ5 cc nL ret) {a : Nat} (ha : (K a).1 = 11) (hdg : decode cc pc = .ok (.putfield 73, 3)) (kk : V X nL p l e R s m args below meth c Q cells slots n K (up2 F a 2 1) G lv (pc + 3) st) : V X nL p l e R s m args below meth c Q cells slots n K F G lv pc (.int 1 :: .ref a :: st) := v_put hC (by rw [ha]; decide) (fun q => by rw [q] at ha; cases ha) (ce_11 ha) rfl inJ4 tyJ4 tyJ4_ok nmJ4 (k := 2) (by decide) aw_500 (fun _ h => h) rfl (ty := tyJ4 2) (tyJ4_ok 2 (by decide)) rfl rfl (Nat.le_of_ble_eq_true rfl) (fun x hx => ⟨rfl, up2_a _ _ hx, rfl⟩) (by rw [ce_11 ha]; simp [up2, va_up, va_rf]) hdg kk
theorem pf_J5_79 (hC : Cx X p s m args meth c RJ5 cc nL ret) {a : Nat} {v : Int32} (ha : (K a).1 = 11) (hdg : decode cc pc = .ok (.putfield 79, 3)) (kk : V X nL p l e R s m args below meth c Q cells slots n K (up2 F a 3 v) G lv (pc + 3) st) : V X nL p l e R s m args below meth c Q cells slots n K F G lv pc (.int v :: .ref a :: st) := v_put hC (by rw [ha]; decide) (fun q => by rw [q] at ha; cases ha) (ce_11 ha) rfl inJ4 tyJ4 tyJ4_ok nmJ4 (k := 3) (by decide) aw_502 (fun _ h => h) rfl (ty := tyJ4 3) (tyJ4_ok 3 (by decide)) rfl rfl (Nat.le_of_ble_eq_true rfl) (fun x hx => ⟨rfl, up2_a _ _ hx, rfl⟩) (by rw [ce_11 ha]; simp [up2, va_up, va_rf]) hdg kk
theorem v_getsC (hC : Cx X p s m args meth c own cc nL ret) {index : Nat} (hlink : Cond.fieldLink own index "java/lang/String" "COMPACT_STRINGS" "Z" ∈ Al) (hdg : decode cc pc = .ok (.getstatic index, 3)) (kk : V X nL p l e R s m args below meth c Q cells slots n K F G lv (pc + 3) (.int 1 :: st)) : V X nL p l e R s m args below meth c Q cells slots n K F G lv pc st := fun H locs ls h1 h2 h3 =>
  va_gets hC.hx hC.hb hC.hZ.2.2.2.2.2.2.2.1 h2 hC.hown (hC.hts _ hlink) (fun _ h => h) hdg (kk H locs ls h1 h2 h3)
def Tb (X : Xt) (s : State) (d : Nat) : Prop := ∃ f : Nat → Int32, va_T .byte d 100 (fun j => .int (f j)) (Aft X) s s.heap
theorem v_getsO (hC : Cx X p s m args meth c own cc nL ret) {index : Nat} (hlink : Cond.fieldLink own index "java/lang/Integer" "DigitOnes" "[B" ∈ Al) (hdg : decode cc pc = .ok (.getstatic index, 3)) (kk : ∀ d, Tb X s d → V X nL p l e R s m args below meth c Q cells slots n K F G lv (pc + 3) (.ref d :: st)) : V X nL p l e R s m args below meth c Q cells slots n K F G lv pc st := fun H locs ls h1 h2 h3 => by
  obtain ⟨d, f, z1, z2⟩ := hC.hZ.2.2.2.2.2.2.2.2.1
  exact va_gets hC.hx hC.hb z1 h2 hC.hown (hC.hts _ hlink) (fun _ h => h) hdg (kk d ⟨f, z2⟩ H locs ls h1 h2 h3)
theorem v_getsT (hC : Cx X p s m args meth c own cc nL ret) {index : Nat} (hlink : Cond.fieldLink own index "java/lang/Integer" "DigitTens" "[B" ∈ Al) (hdg : decode cc pc = .ok (.getstatic index, 3)) (kk : ∀ d, Tb X s d → V X nL p l e R s m args below meth c Q cells slots n K F G lv (pc + 3) (.ref d :: st)) : V X nL p l e R s m args below meth c Q cells slots n K F G lv pc st := fun H locs ls h1 h2 h3 => by
  obtain ⟨d, f, z1, z2⟩ := hC.hZ.2.2.2.2.2.2.2.2.2.1
  exact va_gets hC.hx hC.hb z1 h2 hC.hown (hC.hts _ hlink) (fun _ h => h) hdg (kk d ⟨f, z2⟩ H locs ls h1 h2 h3)
theorem v_tbl (hC : Cx X p s m args meth c own cc nL ret) {d : Nat} {i : Int32} (hT : Tb X s d) (hin : vp_in i 100) (hdg : decode cc pc = .ok (.baload, 1)) (kk : ∀ v, V X nL p l e R s m args below meth c Q cells slots n K F G lv (pc + 1) (.int v :: st)) : V X nL p l e R s m args below meth c Q cells slots n K F G lv pc (.int i :: .ref d :: st) := fun H locs ls h1 h2 h3 => by
  obtain ⟨f, hT⟩ := hT
  exact va_tb hC.hx hC.hb hT h2 hin rfl hdg (kk _ H locs ls h1 h2 h3)
theorem v_newb (hC : Cx X p s m args meth c own cc nL ret) {z : Int32} {N : Nat} (hn : ¬ z < 0) (hN : z.toNatClampNeg = N) (hb : N * 1 ≤ 536870912) (hcells : cells + 1 ≤ R.cells) (hslots : slots + N ≤ R.slots) (hdg : decode cc pc = .ok (.newarray .byte, 2))
    (kk : V X nL p l e R s m args below meth c Q (cells + 1) (slots + N) (n + 1) (va_up K n (22, N)) (va_up F n (fun _ => 0)) G lv (pc + 2) (.ref n :: st)) : V X nL p l e R s m args below meth c Q cells slots n K F G lv pc (.int z :: st) :=
  v_newarr hC (atype := .byte) (ty := .byte) (t0 := 2) (cA0 := xB X) (a0 := (N, .inl fun _ => 0)) al_arr_byte rfl rfl (fun h => h) rfl hn hN hb hcells hslots (fun x hx => ⟨va_up_ne _ _ hx, va_up_ne _ _ hx, rfl⟩) ((ce_22 (by simp [va_up])).trans (by simp [va_up])) hdg kk
theorem v_acopyX (hC : Cx X p s m args meth c own cc nL ret) {index a0 a n0 N1 : Nat} {f : Nat → Int32} {sp dp z : Int32} (hlink : Cond.methodLink own index arraycopyName ∈ Al) (ha : K a = (22, N1)) (hsp : ¬ sp < 0) (hdp : ¬ dp < 0) (hz : ¬ z < 0) (h4 : sp.toNatClampNeg + z.toNatClampNeg ≤ n0) (h5 : dp.toNatClampNeg + z.toNatClampNeg ≤ N1) (hfit : ∀ i, i < z.toNatClampNeg → fits .byte (.int (f (sp.toNatClampNeg + i))) = true)
    (hsrc : ∀ (H : Heap) (locs : List Loc), Hd X n K F G H → va_S (Aft X) s.heap H locs → ∃ scr : Cell, H[a0]? = some scr ∧ s.isArrayOf scr .byte ∧ scr.vm ≠ .unknown ∧ n0 ≤ scr.slots.size ∧ ∀ j, j < n0 → scr.slots[j]? = some (.int (f j)))
    (hf : 1 ≤ R.frames) (hlo : 8 + 30 ≤ R.locals) (hst : (st.map fun v => v.category).sum ≤ 8) (hdg : decode cc pc = .ok (.invokestatic index, 3))
    (kk : V X nL p l e R s m args below meth c Q cells slots n K (va_up F a (va_cpy f (F a) sp.toNatClampNeg dp.toNatClampNeg z.toNatClampNeg)) G lv (pc + 3) st) : V X nL p l e R s m args below meth c Q cells slots n K F G lv pc (.int z :: .int dp :: .ref a :: .int sp :: .ref a0 :: st) := by
  intro H locs ls h1 h2 h3
  have hw : nativeFrameWords "java/lang/System" "arraycopy" 5 ≤ 19 := by decide
  have nn : ∀ z : Int32, ¬ z < 0 → z.toInt = (z.toNatClampNeg : Int) := by
    intro z hz
    have h0 := Int32.le_iff_toInt_le.mp (Int32.not_lt.mp hz)
    rw [Int32.toInt_zero] at h0
    show z.toInt = ((z.toInt.toNat : Nat) : Int)
    omega
  obtain ⟨scr, c0, hs2, hs3, hs4, hs5⟩ := hsrc H locs h1 h2
  have c1p := h1.one (a := a) (fun q => by rw [ha] at q; cases q) (fun q => by rw [ha] at q; cases q) ((ce_22 (X := X) (F := F) (G := G) (by rw [ha])).trans (by rw [ha])) 0 _ rfl
  have c1 : H[a]? = some (vp_cell (xB X) (N1, .inl (F a))) := c1p
  have hba := h1.base (a := a) (fun q => by rw [ha] at q; cases q) (by rw [ha]; intro q; cases q)
  obtain ⟨hs6, k0, hk0, cm0, hkk0⟩ := hs2
  obtain ⟨-, k1, hk1, cm1, hkk1⟩ := (hC.hK.2 2 (xB X, .byte) rfl).1 N1 (fun j => .int (F a j))
  intro T hT Y
  obtain ⟨vm', Y', step⟩ := Y.arraycopy hC.hx hC.hown (hC.hts _ hlink) (hC.hts _ al_ac2) (hC.hts _ al_ac1) (hC.hts _ al_sys) (src := a0) (dst := a) (cs := scr) (cd := vp_cell (xB X) (N1, .inl (F a))) (srcPos := sp) (destPos := dp) (n := z) (by rw [hT]; exact c0) (by rw [hT]; exact c1)
    hs6 (fun _ h => by cases h) hs3 (fun h => by cases h) hk0 hk1 hkk0 hkk1 (by simp [refKind]) hsp hdp hz
    (by rw [nn sp hsp, nn z hz]; omega)
    (by rw [nn dp hdp, nn z hz]; show ¬ _ > ((arrV (xB X) N1 (fun j => .int (F a j))).slots.size : Int); rw [arrV_size]; omega)
    (fun vm₁ _ i hi => by
      have e : scr.slots.getD (sp.toNatClampNeg + i) .null = .int (f (sp.toNatClampNeg + i)) := by
        rw [Array.getD_eq_getD_getElem?, hs5 _ (by omega)]
        rfl
      refine ⟨?_, ?_⟩
      · rw [e]
        exact hfit i hi
      · rw [e]
        exact trivial)
    (g := F0 m pc ls (.int z :: .int dp :: .ref a :: .int sp :: .ref a0 :: st)) rfl (by rw [hC.hml, h3.1]) (rest := st) rfl (by rw [hC.hb]; exact hdg) hf (by show 2 * 0 + _ + _ ≤ _; omega)
  have e1 : copied scr (vp_cell (xB X) (N1, .inl (F a))) sp dp z = vp_cell (xB X) (N1, .inl (va_cpy f (F a) sp.toNatClampNeg dp.toNatClampNeg z.toNatClampNeg)) := va_copiedX (fun z => .int z) scr (xB X) f (F a) hs5 h4
  rw [e1] at Y' step
  have hl : a < H.size := (Array.getElem?_eq_some_iff.mp c1).1
  generalize hg : va_cpy f (F a) sp.toNatClampNeg dp.toNatClampNeg z.toNatClampNeg = gn at *
  have hat : va_at (xD X) cls (a, .inl (xB X, N1, .inl gn)) (H.setIfInBounds a (vp_cell (xB X) (N1, .inl gn))) := by
    show (H.setIfInBounds a _)[a]? = some _
    simp [Array.getElem?_setIfInBounds, hl]
  obtain ⟨t, t1, t2⟩ := kk (H.setIfInBounds a (vp_cell (xB X) (N1, .inl gn))) _ ls
    (h1.put (K' := K) (F' := va_up F a gn) (G' := G) (e := .inl (xB X, N1, .inl gn)) hba (by simp) (fun q hq => by simp [Array.getElem?_setIfInBounds, Ne.symm hq]) (fun x hx => ⟨rfl, va_up_ne _ _ hx, rfl⟩) ((ce_22 (by rw [ha])).trans (by rw [ha]; simp [va_up])) hat)
    ⟨by simp; exact h2.1, fun q g1 g2 => by
      have hq : q ≠ a := fun w => g2 (by rw [w]; exact hba)
      rw [show (H.setIfInBounds a (vp_cell (xB X) (N1, .inl gn)))[q]? = H[q]? by simp [Array.getElem?_setIfInBounds, Ne.symm hq]]
      exact h2.2.1 q g1 g2, fun q hq => by
      rcases List.mem_append.mp hq with h | h
      · exact h2.2.2 q h
      · obtain ⟨w, -, hw2⟩ := List.mem_map.mp h
        rw [← hw2]
        exact hba⟩ h3 _ (by rw [← hT]; rfl) Y'
  exact ⟨t, step t t1, t2⟩
/-- one of ours as the source -/
theorem src_our (hC : Cx X p s m args meth c own cc nL ret) {a0 N0 : Nat} (ha0 : K a0 = (22, N0)) : ∀ (H : Heap) (locs : List Loc), Hd X n K F G H → va_S (Aft X) s.heap H locs → ∃ scr : Cell, H[a0]? = some scr ∧ s.isArrayOf scr .byte ∧ scr.vm ≠ .unknown ∧ N0 ≤ scr.slots.size ∧ ∀ j, j < N0 → scr.slots[j]? = some (.int (F a0 j)) := by
  intro H locs h1 h2
  have c0p := h1.one (a := a0) (fun q => by rw [ha0] at q; cases q) (fun q => by rw [ha0] at q; cases q) ((ce_22 (X := X) (F := F) (G := G) (by rw [ha0])).trans (by rw [ha0])) 0 _ rfl
  have c0 : H[a0]? = some (vp_cell (xB X) (N0, .inl (F a0))) := c0p
  refine ⟨_, c0, (hC.hK.2 2 (xB X, .byte) rfl).1 N0 (fun j => .int (F a0 j)), (fun q => by cases q), ?_, fun j hj => ?_⟩
  · show N0 ≤ (arrV (xB X) N0 (fun j => .int (F a0 j))).slots.size
    rw [arrV_size]; exact Nat.le_refl _
  · show (arrV (xB X) N0 (fun j => .int (F a0 j))).slots[j]? = _
    rw [arrV_read _ _ hj]

end PNN
