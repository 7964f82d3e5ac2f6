/-! what stays when cells come, and when a list gets one more -/
section PXT
theorem kup {K : Kt} {n a k : Nat} {x : Nat × Nat} (hf : (K n).1 = 0) (h : (K a).1 = k) (hk : k ≠ 0) : (va_up K n x a).1 = k := by
  rw [va_up_ne _ _ (fun q => hk (by rw [← h, q, hf]))]
  exact h
theorem kat {α : Type} {K : Nat → α} {n : Nat} {x : α} : va_up K n x n = x := by simp [va_up]
theorem kne {K : Kt} {n a : Nat} (hf : (K n).1 = 0) (h : (K a).1 ≠ 0) : a ≠ n := fun q => h (by rw [q, hf])
theorem v_newi {X : Xt} {p : Program} {l : Launch} {e : Env} {R : Room} {s : State} {m : MethodId} {args : Array Value} {below : List Frame} {meth : Method} {c : Code} {own : String} {cc : ByteArray} {nL : Nat} {ret : Option FieldType} {Q : State → Prop} {cells slots n : Nat} {K : Kt} {F : Ft} {G : Gt} {lv : List (Nat × Value)} {pc : Nat} {st : List Value} {z : Int32} {N : Nat} (hC : Cx X p s m args meth c own cc nL ret) (hn : ¬ z < 0) (hN : z.toNatClampNeg = N) (hb : N * 4 ≤ 536870912) (hcells : cells + 1 ≤ R.cells) (hslots : slots + N ≤ R.slots) (hdg : decode cc pc = .ok (.newarray .int, 2))
    (kk : V X nL p l e R s m args below meth c Q (cells + 1) (slots + N) (n + 1) (va_up K n (20, N)) (va_up F n (fun _ => 0)) G lv (pc + 2) (.ref n :: st)) : V X nL p l e R s m args below meth c Q cells slots n K F G lv pc (.int z :: st) :=
  v_newarr hC (atype := .int) (ty := .int) (t0 := 0) (cA0 := xI X) (a0 := (N, .inl fun _ => 0)) al_arr_int rfl rfl (fun h => h) rfl hn hN hb hcells hslots (fun x hx => ⟨va_up_ne _ _ hx, va_up_ne _ _ hx, rfl⟩) ((ce_20 (by simp [va_up])).trans (by simp [va_up])) hdg kk
variable {X : Xt} {p : Program} {l : Launch} {e : Env} {R : Room} {s : State} {m : MethodId} {args : Array Value} {below : List Frame} {meth : Method} {c : Code} {own : String} {cc : ByteArray} {nL : Nat} {ret : Option FieldType}
variable {Q : State → Prop} {cells slots n : Nat} {K : Kt} {F : Ft} {G : Gt} {lv : List (Nat × Value)} {pc : Nat} {st : List Value}
theorem v_getsD (hC : Cx X p s m args meth c own cc nL ret) {index : Nat} (hlink : Cond.fieldLink own index "java/util/ArrayList" "DEFAULTCAPACITY_EMPTY_ELEMENTDATA" "[Ljava/lang/Object;" ∈ Al) (hdg : decode cc pc = .ok (.getstatic index, 3)) (kk : V X nL p l e R s m args below meth c Q cells slots n K F G lv (pc + 3) (.ref (xz X) :: st)) : V X nL p l e R s m args below meth c Q cells slots n K F G lv pc st := fun H locs ls h1 h2 h3 =>
  va_gets hC.hx hC.hb hC.hZ.2.2.1.1 h2 hC.hown (hC.hts _ hlink) (fun _ h => h) hdg (kk H locs ls h1 h2 h3)
theorem v_ldcM (hC : Cx X p s m args meth c own cc nL ret) {index : Nat} (hlink : Cond.classLink own index "[Ljava/lang/Object;" ∈ Al) (hdg : decode cc pc = .ok (.ldc index, 2)) (kk : V X nL p l e R s m args below meth c Q cells slots n K F G lv (pc + 2) (.ref (xmi X) :: st)) : V X nL p l e R s m args below meth c Q cells slots n K F G lv pc st := fun H locs ls h1 h2 h3 =>
  va_ldcM hC.hx hC.hb hC.hown (hC.hts _ hlink) hC.hZ.2.2.1.2 hdg (kk H locs ls h1 h2 h3)
theorem v_getC (hC : Cx X p s m args meth c own cc nL ret) {index a N : Nat} (hlink : Cond.methodLink own index ⟨"java/lang/Object", "getClass", "()Ljava/lang/Class;"⟩ ∈ Al) (ha : K a = (21, N)) (hN : N ≠ 0) (hf : 1 ≤ R.frames) (hlo : 8 + 14 ≤ R.locals) (hst : (st.map fun v => v.category).sum ≤ 8) (hdg : decode cc pc = .ok (.invokevirtual index, 3)) (kk : V X nL p l e R s m args below meth c Q cells slots n K F G lv (pc + 3) (.ref (xmi X) :: st)) : V X nL p l e R s m args below meth c Q cells slots n K F G lv pc (.ref a :: st) := by
  intro H locs ls h1 h2 h3
  have c0p := h1.one (a := a) (fun q => by rw [ha] at q; cases q) (fun q => by rw [ha] at q; cases q; exact hN rfl) ((ce_21 (by rw [ha])).trans (by rw [ha])) 0 _ rfl
  have c0 : H[a]? = some (vp_cell (xO X) (N, .inr (.inr (.inr (.inr (G a)))))) := c0p
  have hnm := va_nmO (C := "java/lang/Object") (nm := "[Ljava/lang/Object;") (hC.hK.2 1 (xO X, .object "java/lang/Object") rfl).2 (by decide)
  exact va_getC hC.hx hC.hb (hC.hml.trans h3.1.symm) hC.hown (hC.hts _ hlink) (hC.nw _ nw_1497) (hC.hts _ al_gc3) (hC.hts _ al_gc1) (hC.hts _ al_gc2) hC.hZ.2.2.1.2 ⟨_, c0, rfl, hnm⟩ hf (by omega) hdg (kk H locs ls h1 h2 h3)
theorem v_acopyO (hC : Cx X p s m args meth c own cc nL ret) {index a0 a N0 N1 ci : Nat} {r : vw_C} {z : Int32} (hlink : Cond.methodLink own index arraycopyName ∈ Al) (ha0 : K a0 = (21, N0)) (ha : K a = (21, N1)) (hN : N1 ≠ 0) (hN0 : N0 ≠ 0) (hz : ¬ z < 0) (h4 : z.toNatClampNeg ≤ N0) (h5 : z.toNatClampNeg ≤ N1) (hc : cls[ci]? = some r) (hca : Cond.castable r.1 "java/lang/Object" ∈ Nwl)
    (hel : ∀ i, i < z.toNatClampNeg → ∀ y, G a0 i = some y → (K y).1 ≠ 0 ∧ ∃ fs, ce X K F G y = .inr (ci, fs)) (hf : 1 ≤ R.frames) (hlo : 8 + 30 ≤ R.locals) (hst : (st.map fun v => v.category).sum ≤ 8) (hdg : decode cc pc = .ok (.invokestatic index, 3))
    (kk : V X nL p l e R s m args below meth c Q cells slots n K F (va_up G a (va_cpy (G a0) (G a) 0 0 z.toNatClampNeg)) lv (pc + 3) st) : V X nL p l e R s m args below meth c Q cells slots n K F G lv pc (.int z :: .int 0 :: .ref a :: .int 0 :: .ref a0 :: st) := by
  intro H locs ls h1 h2 h3
  have hw : nativeFrameWords "java/lang/System" "arraycopy" 5 ≤ 19 := by decide
  have nz : z.toInt = (z.toNatClampNeg : Int) := by
    have h0 := Int32.le_iff_toInt_le.mp (Int32.not_lt.mp hz)
    rw [Int32.toInt_zero] at h0
    show z.toInt = ((z.toInt.toNat : Nat) : Int)
    omega
  have c0p := h1.one (a := a0) (fun q => by rw [ha0] at q; cases q) (fun q => by rw [ha0] at q; cases q; exact hN0 rfl) ((ce_21 (X := X) (F := F) (G := G) (by rw [ha0])).trans (by rw [ha0])) 0 _ rfl
  have c0 : H[a0]? = some (vp_cell (xO X) (N0, .inr (.inr (.inr (.inr (G a0)))))) := c0p
  have c1p := h1.one (a := a) (fun q => by rw [ha] at q; cases q) (fun q => by rw [ha] at q; cases q; exact hN rfl) ((ce_21 (X := X) (F := F) (G := G) (by rw [ha])).trans (by rw [ha])) 0 _ rfl
  have c1 : H[a]? = some (vp_cell (xO X) (N1, .inr (.inr (.inr (.inr (G a)))))) := c1p
  have hba := h1.base (a := a) (fun q => by rw [ha] at q; cases q) (by rw [ha]; intro q; exact hN (congrArg Prod.snd q))
  obtain ⟨-, k0, hk0, cm0, hkk0⟩ := (hC.hK.2 1 (xO X, .object "java/lang/Object") rfl).1 N0 (fun j => va_rf (G a0 j))
  obtain ⟨-, k1, hk1, cm1, hkk1⟩ := (hC.hK.2 1 (xO X, .object "java/lang/Object") rfl).1 N1 (fun j => va_rf (G a j))
  intro T hT Y
  obtain ⟨vm', Y', step⟩ := Y.arraycopy hC.hx hC.hown (hC.hts _ hlink) (hC.hts _ al_ac2) (hC.hts _ al_ac1) (hC.hts _ al_sys) (src := a0) (dst := a) (cs := vp_cell (xO X) (N0, .inr (.inr (.inr (.inr (G a0)))))) (cd := vp_cell (xO X) (N1, .inr (.inr (.inr (.inr (G a)))))) (srcPos := 0) (destPos := 0) (n := z) (by rw [hT]; exact c0) (by rw [hT]; exact c1)
    (fun _ h => by cases h) (fun _ h => by cases h) (fun h => by cases h) (fun h => by cases h) hk0 hk1 hkk0 hkk1 rfl (by decide) (by decide) hz
    (by rw [nz, Int32.toInt_zero]; show ¬ _ > ((arrV (xO X) N0 (fun j => va_rf (G a0 j))).slots.size : Int); rw [arrV_size]; omega)
    (by rw [nz, Int32.toInt_zero]; show ¬ _ > ((arrV (xO X) N1 (fun j => va_rf (G a j))).slots.size : Int); rw [arrV_size]; omega)
    (fun vm₁ hal i hi => by
      have e0 : (0 : Int32).toNatClampNeg + i = i := Nat.zero_add i
      have e : (vp_cell (xO X) (N0, .inr (.inr (.inr (.inr (G a0)))))).slots.getD ((0 : Int32).toNatClampNeg + i) .null = va_rf (G a0 i) := by
        rw [e0]
        show (arrV (xO X) N0 (fun j => va_rf (G a0 j))).slots.getD _ _ = _
        rw [Array.getD_eq_getD_getElem?, arrV_read _ _ (by omega)]
        rfl
      rw [e]
      cases hy : G a0 i with
      | none => exact ⟨rfl, trivial⟩
      | some y =>
        obtain ⟨y1, fs, y2⟩ := hel i hi y hy
        obtain ⟨r', hr', cellV, g1, g2, g3, -⟩ := h1.one y1 (nz_inr y2) y2 0 _ rfl
        have hcls := (hC.hK.1 ci r hc).2
        obtain ⟨kA, comp, r1, r2, r3, -⟩ := (hC.hK.2 1 _ rfl).2
        cases hk1.symm.trans r1
        cases hkk1.symm.trans r2
        obtain ⟨kE, hkE, -⟩ := Vm.findClass_spec r3
        obtain ⟨d0, t1, f1, f2, f3⟩ := Cond.castable_spec (hC.nw _ hca)
        cases hcls.1.symm.trans f1
        cases r3.symm.trans f2
        obtain ⟨kC, hkC, -⟩ := hcls.2
        obtain ⟨kC', hkC', -⟩ := hal.2.2 _ _ hkC
        obtain ⟨kE', hkE', -⟩ := hal.2.2 _ _ hkE
        refine ⟨rfl, cellV, (show T.heap[y]? = some cellV by rw [hT]; exact g1), (fun q h => by rw [g3] at h; cases h), ⟨kC', by rw [g2]; exact hkC'⟩, ⟨kE', hkE'⟩, ?_⟩
        show vm₁.assignable _ _ = true
        rw [hal.assignable, g2]
        exact f3)
    (g := F0 m pc ls (.int z :: .int 0 :: .ref a :: .int 0 :: .ref a0 :: st)) rfl (by rw [hC.hml, h3.1]) (rest := st) rfl (by rw [hC.hb]; exact hdg) hf (by show 2 * 0 + _ + _ ≤ _; omega)
  have e1 : copied (vp_cell (xO X) (N0, .inr (.inr (.inr (.inr (G a0)))))) (vp_cell (xO X) (N1, .inr (.inr (.inr (.inr (G a)))))) 0 0 z = vp_cell (xO X) (N1, .inr (.inr (.inr (.inr (va_cpy (G a0) (G a) 0 0 z.toNatClampNeg))))) := by
    rw [vp_cell_q, vp_cell_q, vp_cell_q]
    exact va_copied (fun z => va_rf z) (xO X) (xO X) (G a0) (G a) (sp := 0) (by show 0 + _ ≤ _; omega)
  rw [e1] at Y' step
  have hl : a < H.size := (Array.getElem?_eq_some_iff.mp c1).1
  have hat : va_at (xD X) cls (a, .inl (xO X, N1, .inr (.inr (.inr (.inr (va_cpy (G a0) (G a) 0 0 z.toNatClampNeg)))))) (H.setIfInBounds a (vp_cell (xO X) (N1, .inr (.inr (.inr (.inr (va_cpy (G a0) (G a) 0 0 z.toNatClampNeg))))))) := by
    show (H.setIfInBounds a _)[a]? = some _
    simp [Array.getElem?_setIfInBounds, hl]
  obtain ⟨t, t1, t2⟩ := kk (H.setIfInBounds a (vp_cell (xO X) (N1, .inr (.inr (.inr (.inr (va_cpy (G a0) (G a) 0 0 z.toNatClampNeg))))))) _ ls
    (h1.put (K' := K) (F' := F) (G' := va_up G a (va_cpy (G a0) (G a) 0 0 z.toNatClampNeg)) (e := .inl (xO X, N1, .inr (.inr (.inr (.inr (va_cpy (G a0) (G a) 0 0 z.toNatClampNeg)))))) hba (by simp) (fun q hq => by simp [Array.getElem?_setIfInBounds, Ne.symm hq]) (fun x hx => ⟨rfl, rfl, va_up_ne _ _ hx⟩) ((ce_21 (by rw [ha])).trans (by rw [ha]; simp [va_up])) hat)
    ⟨by simp; exact h2.1, fun q g1 g2 => by
      have hq : q ≠ a := fun w => g2 (by rw [w]; exact hba)
      rw [show (H.setIfInBounds a (vp_cell (xO X) (N1, .inr (.inr (.inr (.inr (va_cpy (G a0) (G a) 0 0 z.toNatClampNeg)))))))[q]? = H[q]? by simp [Array.getElem?_setIfInBounds, Ne.symm hq]]
      exact h2.2.1 q g1 g2, fun q hq => by
      rcases List.mem_append.mp hq with h | h
      · exact h2.2.2 q h
      · obtain ⟨w, -, hw2⟩ := List.mem_map.mp h
        rw [← hw2]
        exact hba⟩ h3 _ (by rw [← hT]; rfl) Y'
  exact ⟨t, step t t1, t2⟩
/-- what was there is as it was -/
def Ext (K : Kt) (G : Gt) (K1 : Kt) (G1 : Gt) : Prop := ∀ a, (K a).1 ≠ 0 → K1 a = K a ∧ G1 a = G a
theorem Ext.rf {K : Kt} {G : Gt} : Ext K G K G := fun _ _ => ⟨rfl, rfl⟩
theorem Ext.tr {K K1 K2 : Kt} {G G1 G2 : Gt} (h1 : Ext K G K1 G1) (h2 : Ext K1 G1 K2 G2) : Ext K G K2 G2 := fun a ha => by
  obtain ⟨e1, e2⟩ := h1 a ha
  obtain ⟨e3, e4⟩ := h2 a (by rw [e1]; exact ha)
  exact ⟨e3.trans e1, e4.trans e2⟩
theorem ext_new {K : Kt} {G : Gt} {n : Nat} {x : Nat × Nat} {y : Nat → Option Nat} (hf : (K n).1 = 0) : Ext K G (va_up K n x) (va_up G n y) := fun _ ha => ⟨va_up_ne _ _ (kne hf ha), va_up_ne _ _ (kne hf ha)⟩
theorem ext_newK {K : Kt} {G : Gt} {n : Nat} {x : Nat × Nat} (hf : (K n).1 = 0) : Ext K G (va_up K n x) G := fun _ ha => ⟨va_up_ne _ _ (kne hf ha), rfl⟩
/-- a field of a cell that was not there -/
theorem ext_up2 {K K1 : Kt} {G G1 : Gt} {a k : Nat} {v : Option Nat} (h : Ext K G K1 G1) (hf : (K a).1 = 0) : Ext K G K1 (up2 G1 a k v) := fun x hx => ⟨(h x hx).1, by rw [up2_a _ _ (kne hf hx)]; exact (h x hx).2⟩
theorem Ext.k {K K1 : Kt} {G G1 : Gt} (E : Ext K G K1 G1) {a k : Nat} (h : (K a).1 = k) (hk : k ≠ 0) : (K1 a).1 = k := by
  rw [(E a (by rw [h]; exact hk)).1]
  exact h
theorem Ext.kk {K K1 : Kt} {G G1 : Gt} (E : Ext K G K1 G1) {a : Nat} {x : Nat × Nat} (h : K a = x) (hk : x.1 ≠ 0) : K1 a = x := by
  rw [(E a (by rw [h]; exact hk)).1]
  exact h
theorem Ext.pp {K K1 : Kt} {G G1 : Gt} (E : Ext K G K1 G1) {a : Nat} (h : (K a).1 ≠ 0) (k : Nat) : gp G1 a k = gp G a k := by
  show (G1 a k).getD 0 = (G a k).getD 0
  rw [(E a h).2]
theorem Ext.gg {K K1 : Kt} {G G1 : Gt} (E : Ext K G K1 G1) {a : Nat} (h : (K a).1 ≠ 0) (k : Nat) : G1 a k = G a k := by rw [(E a h).2]
theorem Ext.ff {K K1 : Kt} {G G1 : Gt} (E : Ext K G K1 G1) {a k : Nat} (h : (K a).1 ≠ 0) (hg : G a k = some (gp G a k)) : G1 a k = some (gp G1 a k) := by
  rw [E.pp h, E.gg h]
  exact hg
theorem TBuyer.ext {K K1 : Kt} {G G1 : Gt} (E : Ext K G K1 G1) {a : Nat} (h : TBuyer K G a) : TBuyer K1 G1 a := by
  obtain ⟨h1, ⟨h2, h3⟩, ⟨h4, h5⟩⟩ := h
  have ha : (K a).1 ≠ 0 := by rw [h1]; decide
  exact ⟨E.k h1 (by decide), ⟨E.ff ha h2, by rw [E.pp ha]; exact E.k h3 (by decide)⟩, ⟨E.ff ha h4, by rw [E.pp ha]; exact E.k h5 (by decide)⟩⟩
theorem TExp.ext {K K1 : Kt} {G G1 : Gt} (E : Ext K G K1 G1) {a : Nat} (h : TExp K G a) : TExp K1 G1 a := by
  obtain ⟨h1, ⟨h2, h3⟩⟩ := h
  have ha : (K a).1 ≠ 0 := by rw [h1]; decide
  exact ⟨E.k h1 (by decide), ⟨E.ff ha h2, by rw [E.pp ha]; exact E.k h3 (by decide)⟩⟩
theorem TPol.ext {K K1 : Kt} {G G1 : Gt} (E : Ext K G K1 G1) {a : Nat} (h : TPol K G a) : TPol K1 G1 a := by
  obtain ⟨h1, ⟨h2, h3⟩, ⟨h4, h5⟩⟩ := h
  have ha : (K a).1 ≠ 0 := by rw [h1]; decide
  exact ⟨E.k h1 (by decide), ⟨E.ff ha h2, by rw [E.pp ha]; exact h3.ext E⟩, ⟨E.ff ha h4, by rw [E.pp ha]; exact E.kk h5 (by decide)⟩⟩
theorem TShip.ext {K K1 : Kt} {G G1 : Gt} (E : Ext K G K1 G1) {a : Nat} (h : TShip K G a) : TShip K1 G1 a := by
  obtain ⟨h1, ⟨h2, h3⟩, ⟨h4, h5⟩, h6, h7⟩ := h
  have ha : (K a).1 ≠ 0 := by rw [h1]; decide
  exact ⟨E.k h1 (by decide), ⟨E.ff ha h2, by rw [E.pp ha]; exact h3.ext E⟩, ⟨E.ff ha h4, by rw [E.pp ha]; exact h5.ext E⟩, fun q => by rw [E.pp ha]; exact E.k (h6 (by rw [← E.gg ha]; exact q)) (by decide), fun q => by rw [E.pp ha]; exact E.k (h7 (by rw [← E.gg ha]; exact q)) (by decide)⟩
theorem tl_ext {K K1 : Kt} {G G1 : Gt} {P P1 : Nat → Prop} (E : Ext K G K1 G1) (hP : ∀ x, P x → P1 x) {a : Nat} (h : TLst P K G a) : TLst P1 K1 G1 a := by
  obtain ⟨h1, h2, h3, h4, h5, h6, h7⟩ := h
  have ha : (K a).1 ≠ 0 := by rw [h1]; decide
  have hb : (K (gp G a 1)).1 ≠ 0 := by rw [h4]; decide
  refine ⟨E.k h1 (by decide), by rw [(E a ha).1]; exact h2, E.ff ha h3, by rw [E.pp ha]; exact E.k h4 (by decide), by rw [E.pp ha, (E _ hb).1]; exact h5, by rw [(E a ha).1, E.pp ha, (E _ hb).1]; exact h6, fun i hi => ?_⟩
  rw [(E a ha).1] at hi
  have e : el G1 a i = el G a i := by
    show gp G1 (gp G1 a 1) i = _
    rw [E.pp ha, E.pp hb]
  rw [e, E.pp ha, E.gg hb]
  exact ⟨(h7 i hi).1, hP _ (h7 i hi).2⟩
theorem TLst.ext {K K1 : Kt} {G G1 : Gt} {P P1 : Nat → Prop} {a : Nat} (h : TLst P K G a) (E : Ext K G K1 G1) (hP : ∀ x, P x → P1 x) : TLst P1 K1 G1 a := tl_ext E hP h
theorem TMain.ext {K K1 : Kt} {G G1 : Gt} (E : Ext K G K1 G1) {a : Nat} (h : TMain K G a) : TMain K1 G1 a := by
  obtain ⟨h0, ⟨p0, q0⟩, ⟨p1, q1⟩, ⟨p2, q2⟩, ⟨p3, q3⟩, ⟨p4, q4⟩, ⟨p5, q5⟩, ⟨p6, q6⟩, ⟨p7, q7⟩, ⟨p8, q8⟩⟩ := h
  have ha : (K a).1 ≠ 0 := by rw [h0]; decide
  refine ⟨E.k h0 (by decide), ⟨E.ff ha p0, ?_⟩, ⟨E.ff ha p1, ?_⟩, ⟨E.ff ha p2, ?_⟩, ⟨E.ff ha p3, ?_⟩, ⟨E.ff ha p4, ?_⟩, ⟨E.ff ha p5, ?_⟩, ⟨E.ff ha p6, ?_⟩, ⟨E.ff ha p7, ?_⟩, ⟨E.ff ha p8, ?_⟩⟩
  · rw [E.pp ha]; exact q0.ext E (fun x hx => E.k hx (by decide))
  · rw [E.pp ha]; exact q1.ext E (fun x hx => hx.ext E)
  · rw [E.pp ha]; exact q2.ext E (fun x hx => hx.ext E)
  · rw [E.pp ha]; exact q3.ext E (fun x hx => hx.ext E)
  · rw [E.pp ha]; exact q4.ext E (fun x hx => hx.ext E)
  · rw [E.pp ha]; exact E.k q5 (by decide)
  · rw [E.pp ha]; exact E.k q6 (by decide)
  · rw [E.pp ha]; exact E.k q7 (by decide)
  · rw [E.pp ha]; exact E.k q8 (by decide)
/-- what add does to the list q, for the element e -/
def AddRel (K : Kt) (F : Ft) (G : Gt) (q e : Nat) (n n' : Nat) (K' : Kt) (F' : Ft) (G' : Gt) : Prop :=
  n ≤ n' ∧ K' q = (10, (K q).2 + 1) ∧ (∀ x, (K x).1 ≠ 0 → x ≠ q → K' x = K x ∧ F' x = F x) ∧ (∀ x, (K x).1 ≠ 0 → x ≠ q → x ≠ gp G q 1 → G' x = G x) ∧
  G' q 1 = some (gp G' q 1) ∧ (K' (gp G' q 1)).1 = 21 ∧ capOK (K' (gp G' q 1)).2 ∧ (K q).2 + 1 ≤ (K' (gp G' q 1)).2 ∧ (∀ i, i < (K q).2 → G' (gp G' q 1) i = G (gp G q 1) i) ∧ G' (gp G' q 1) (K q).2 = some e ∧
  (gp G' q 1 = gp G q 1 ∨ (K (gp G' q 1)).1 = 0 ∧ G' (gp G q 1) = G (gp G q 1))
theorem AddRel.self {K : Kt} {F : Ft} {G : Gt} {q e n n' : Nat} {K' : Kt} {F' : Ft} {G' : Gt} (h : AddRel K F G q e n n' K' F' G') {P P1 : Nat → Prop} (hq : TLst P K G q) (hs : (K q).2 < 48) (hP : ∀ x, P x → P1 x) (he : P1 e) : TLst P1 K' G' q := by
  obtain ⟨-, a1, -, -, a4, a5, a6, a7, a8, a9, -⟩ := h
  obtain ⟨h1, h2, h3, h4, h5, h6, h7⟩ := hq
  refine ⟨by rw [a1], by rw [a1]; exact hs, a4, a5, a6, by rw [a1]; exact a7, fun i hi => ?_⟩
  rw [a1] at hi
  have hi : i < (K q).2 + 1 := hi
  by_cases hc : i < (K q).2
  · have e1 := a8 i hc
    have e2 := (h7 i hc).1
    have e3 : el G' q i = el G q i := by
      show (G' (gp G' q 1) i).getD 0 = (G (gp G q 1) i).getD 0
      rw [e1]
    rw [e3, e1]
    exact ⟨e2, hP _ (h7 i hc).2⟩
  · have hi2 : i = (K q).2 := by omega
    subst hi2
    have e3 : el G' q (K q).2 = e := gp_eq a9
    rw [e3, a9]
    exact ⟨rfl, he⟩
/-- another list, when q got one more -/
theorem AddRel.other {K : Kt} {F : Ft} {G : Gt} {q e n n' : Nat} {K' : Kt} {F' : Ft} {G' : Gt} (h : AddRel K F G q e n n' K' F' G') {P P1 : Nat → Prop} {q2 : Nat} (hq : (K q).1 = 10) (hqa : (K (gp G q 1)).1 = 21) (h2 : TLst P K G q2) (hne : q2 ≠ q) (har : gp G q2 1 = gp G q 1 → (K q2).2 = 0) (hP : ∀ x, P x → P1 x) : TLst P1 K' G' q2 := by
  obtain ⟨-, -, a2, a3, -, -, -, -, -, -, -⟩ := h
  obtain ⟨h1, hh2, h3, h4, h5, h6, h7⟩ := h2
  have k1 : (K q2).1 ≠ 0 := by rw [h1]; decide
  have k2 : (K (gp G q2 1)).1 ≠ 0 := by rw [h4]; decide
  have n2 : gp G q2 1 ≠ q := fun z => by rw [z, hq] at h4; cases h4
  have z : q2 ≠ gp G q 1 := fun z => by rw [← z, h1] at hqa; cases hqa
  have e1 := a3 q2 k1 hne z
  have e2 : gp G' q2 1 = gp G q2 1 := by show (G' q2 1).getD 0 = _; rw [e1]; rfl
  refine ⟨by rw [(a2 q2 k1 hne).1]; exact h1, by rw [(a2 q2 k1 hne).1]; exact hh2, by rw [e2, e1]; exact h3, by rw [e2, (a2 _ k2 n2).1]; exact h4, by rw [e2, (a2 _ k2 n2).1]; exact h5, by rw [(a2 q2 k1 hne).1, e2, (a2 _ k2 n2).1]; exact h6, fun i hi => ?_⟩
  rw [(a2 q2 k1 hne).1] at hi
  have n3 : gp G q2 1 ≠ gp G q 1 := fun w => by rw [har w] at hi; exact absurd hi (Nat.not_lt_zero i)
  have e3 := a3 _ k2 n2 n3
  have e4 : el G' q2 i = el G q2 i := by
    show (G' (gp G' q2 1) i).getD 0 = (G (gp G q2 1) i).getD 0
    rw [e2, e3]
  rw [e4, e2, e3]
  exact ⟨(h7 i hi).1, hP _ (h7 i hi).2⟩
end PXT
