section PNY
abbrev Pw : Cond := Jvm.Cond.and given_1 narrow_1
section
variable {args : Array Value} {s : State}
theorem fl_one (h : Pw.before args s = true) {w : Cond} (i : Nat) (hw : (flatC Pw)[i]? = some w) : w.before args s = true := flat_of_before _ h w (List.mem_of_getElem? hw)
theorem fl_mem {d n : Nat} {g : Nat → Cond} (h : ((flatC Pw).drop d).take n = (List.range n).map g) (hP : Pw.before args s = true) : ∀ j, j < n → (g j).before args s = true := fun j hj => flat_of_before _ hP _ (List.mem_of_mem_drop (List.mem_of_mem_take (by
  rw [h]
  exact List.mem_map.mpr ⟨j, List.mem_range.mpr hj, rfl⟩)))
theorem tb_one (hts : ∀ w ∈ lw_tbl, w.before args s = true) {w : Cond} (i : Nat) (hw : lw_tbl[i]? = some w) : w.before args s = true := hts w (List.mem_of_getElem? hw)
theorem fl_ones : ((flatC Pw).drop 14).take 100 = (List.range 100).map (fun j => Cond.eq (.elem (.static "java/lang/Integer" "DigitOnes" "[B") (.int (Int32.ofNat j))) (.int (Int32.ofNat (48 + j % 10)))) := by decide +kernel
theorem fl_tens : ((flatC Pw).drop 117).take 100 = (List.range 100).map (fun j => Cond.eq (.elem (.static "java/lang/Integer" "DigitTens" "[B") (.int (Int32.ofNat j))) (.int (Int32.ofNat (48 + j / 10)))) := by decide +kernel
def zd_ix : List Nat := [610, 618, 624, 626, 628, 630]
def zd_tm (i : Nat) : Term := .string "Exportcover" (zd_ix.getD i 0)
theorem zd_1 : ∀ i, i < 6 → Cond.exactly (zd_tm i) "java/lang/String" ∈ flatC Pw := by decide +kernel
theorem zd_2 : ∀ i, i < 6 → Cond.eq (.field (zd_tm i) "java/lang/String" "coder" "B") (.int 0) ∈ flatC Pw := by decide +kernel
theorem zd_3 : ∀ i, i < 6 → Cond.arrayOf (.field (zd_tm i) "java/lang/String" "value" "[B") .byte ∈ flatC Pw := by decide +kernel
theorem zd_4 : ∀ i, i < 6 → Cond.eq (.length (.field (zd_tm i) "java/lang/String" "value" "[B")) (.int (Int32.ofNat (zd_len.getD i 0))) ∈ flatC Pw := by decide +kernel
theorem zd_5_0 : ((flatC Pw).drop 438).take 2 = (List.range 2).map (fun j => Cond.eq (.elem (.field (zd_tm 0) "java/lang/String" "value" "[B") (.int (Int32.ofNat j))) (.int ((zd_byt.getD 0 []).getD j 0))) := by decide +kernel
theorem zd_5_1 : ((flatC Pw).drop 450).take 9 = (List.range 9).map (fun j => Cond.eq (.elem (.field (zd_tm 1) "java/lang/String" "value" "[B") (.int (Int32.ofNat j))) (.int ((zd_byt.getD 1 []).getD j 0))) := by decide +kernel
theorem zd_5_2 : ((flatC Pw).drop 470).take 9 = (List.range 9).map (fun j => Cond.eq (.elem (.field (zd_tm 2) "java/lang/String" "value" "[B") (.int (Int32.ofNat j))) (.int ((zd_byt.getD 2 []).getD j 0))) := by decide +kernel
theorem zd_5_3 : ((flatC Pw).drop 491).take 8 = (List.range 8).map (fun j => Cond.eq (.elem (.field (zd_tm 3) "java/lang/String" "value" "[B") (.int (Int32.ofNat j))) (.int ((zd_byt.getD 3 []).getD j 0))) := by decide +kernel
theorem zd_5_4 : ((flatC Pw).drop 512).take 8 = (List.range 8).map (fun j => Cond.eq (.elem (.field (zd_tm 4) "java/lang/String" "value" "[B") (.int (Int32.ofNat j))) (.int ((zd_byt.getD 4 []).getD j 0))) := by decide +kernel
theorem zd_5_5 : ((flatC Pw).drop 534).take 5 = (List.range 5).map (fun j => Cond.eq (.elem (.field (zd_tm 5) "java/lang/String" "value" "[B") (.int (Int32.ofNat j))) (.int ((zd_byt.getD 5 []).getD j 0))) := by decide +kernel
theorem zd_5 (hP : Pw.before args s = true) : ∀ i, i < 6 → ∀ j, j < zd_len.getD i 0 → (Cond.eq (.elem (.field (zd_tm i) "java/lang/String" "value" "[B") (.int (Int32.ofNat j))) (.int ((zd_byt.getD i []).getD j 0))).before args s = true := by
  intro i hi j hj
  rcases (show i = 0 ∨ i = 1 ∨ i = 2 ∨ i = 3 ∨ i = 4 ∨ i = 5 by omega) with rfl | rfl | rfl | rfl | rfl | rfl
  · exact fl_mem zd_5_0 hP j hj
  · exact fl_mem zd_5_1 hP j hj
  · exact fl_mem zd_5_2 hP j hj
  · exact fl_mem zd_5_3 hP j hj
  · exact fl_mem zd_5_4 hP j hj
  · exact fl_mem zd_5_5 hP j hj
theorem zd_6 : ∀ i, i < 6 → ∀ j, j < 6 → i = j ∨ Cond.not (Cond.eq (zd_tm i) (zd_tm j)) ∈ flatC Pw ∨ Cond.not (Cond.eq (zd_tm j) (zd_tm i)) ∈ flatC Pw := by decide +kernel
theorem zd_7 : ∀ i, i < 6 → zd_len.getD i 0 < 2 ^ 31 := by decide +kernel
/-- a private method of the class above is its own choice on a StringBuilder -/
theorem sel_priv {y : MethodName} (hc : y.cls = RJ5) (hy : y.cls ≠ "java/lang/invoke/MethodHandle" ∧ y.cls ≠ "java/lang/invoke/VarHandle") (hs : (Cond.selects RJ4 yJ5_isLatin1_aae02 yJ5_isLatin1_aae02).before args s = true) (hp : (Cond.privateMethod y).before args s = true) (hi : (Cond.instanceMethod y).before args s = true) : (Cond.selects RJ4 y y).before args s = true := by
  obtain ⟨c, r, m1, h1, -, h3, -, k, h5, h6⟩ := Cond.selects_spec hs
  obtain ⟨mk, methM, hnamed, hmethM, -, -⟩ := Cond.instanceMethod_spec hi
  have hfound : s.methodFound? y.cls y.name y.desc = some mk := State.methodFound?_of_named hnamed hy
  have a1 := findClass_of_methodNamed hnamed
  have a2 := findClass_of_methodNamed h3
  rw [hc] at a1
  have hcls : mk.cls = m1.cls := Option.some.inj (a1.symm.trans a2)
  have hsel : selectMethod {} s.vm c mk = .method mk := selectMethod_private hmethM (Cond.privateMethod_at hp mk methM hnamed hmethM)
  simp only [Cond.before, Cond.holds, Cond.value, h1, hfound, hnamed, hsel, hcls, h5]
  simp
  exact h6
theorem al_all (hts : ∀ w ∈ lw_tbl, w.before args s = true) : ∀ w ∈ Al, w.before args s = true := fun w hw => by
  rcases al_tbl hw with h | h
  · have hs : (Cond.selects RJ4 yJ5_isLatin1_aae02 yJ5_isLatin1_aae02).before args s = true := tb_one hts 587 (by decide +kernel)
    simp only [al_ex, List.mem_cons, List.not_mem_nil, or_false] at h
    rcases h with rfl | rfl | rfl | rfl
    · exact sel_priv rfl (by decide +kernel) hs (tb_one hts 552 (by decide +kernel)) (tb_one hts 553 (by decide +kernel))
    · exact sel_priv rfl (by decide +kernel) hs (tb_one hts 556 (by decide +kernel)) (tb_one hts 557 (by decide +kernel))
    · exact sel_priv rfl (by decide +kernel) hs (tb_one hts 625 (by decide +kernel)) (tb_one hts 626 (by decide +kernel))
    · exact sel_priv rfl (by decide +kernel) hs (tb_one hts 629 (by decide +kernel)) (tb_one hts 630 (by decide +kernel))
  · exact hts w h
theorem arr_kn {ty : FieldType} (h : (Cond.arrayClass ty).before args s = true) (ht : ∀ C, ty ≠ .object C) : ∃ c, ArrOfT s c ty ∧ va_RA s c ty := by
  obtain ⟨c, k, comp, h1, h2, h3⟩ := Cond.arrayClass_spec h
  refine ⟨c, fun n z => ⟨(fun j w => by cases w), k, h2, comp, h3⟩, ?_⟩
  cases ty <;> first | exact h1 | exact absurd rfl (ht _)
theorem arr_kO (h : (Cond.arrayOver (.object "java/lang/Object")).before args s = true) : ∃ c, ArrOfT s c (.object "java/lang/Object") ∧ va_RA s c (.object "java/lang/Object") ∧ s.vm.findClass "[Ljava/lang/Object;" = some c := by
  obtain ⟨comp, c, k, h1, -, h3, h4, h5⟩ := Cond.arrayOver_spec h
  have e : "[" ++ (FieldType.object "java/lang/Object").toString = "[Ljava/lang/Object;" := by decide
  exact ⟨c, fun n z => ⟨(fun j w => by cases w), k, h3, comp, h4⟩, ⟨k, comp, h3, h4, h1, h5⟩, by rw [e] at h5; exact h5⟩
theorem kx_all (hts : ∀ w ∈ lw_tbl, w.before args s = true) : ∃ (D : va_G) (cI cO cB cZ : ClassId), va_K D cls [(cI, .int), (cO, .object "java/lang/Object"), (cB, .byte), (cZ, .boolean)] s ∧ s.vm.findClass "[Ljava/lang/Object;" = some cO := by
  have hal := al_all hts
  obtain ⟨c0, i0, k0⟩ := u_known (C := RX8) (T := TX8) (N := 14) hal inX8 (tb_one hts 192 (by decide +kernel) : (Cond.instantiable RX8 14).before args s = true)
  obtain ⟨c1, i1, k1⟩ := u_known (C := RX1) (T := TX1) (N := 1) hal inX1 (tb_one hts 892 (by decide +kernel) : (Cond.instantiable RX1 1).before args s = true)
  obtain ⟨c2, i2, k2⟩ := u_known (C := RX5) (T := TX5) (N := 8) hal inX5 (tb_one hts 960 (by decide +kernel) : (Cond.instantiable RX5 8).before args s = true)
  obtain ⟨c3, i3, k3⟩ := u_known (C := RX0) (T := TX0) (N := 5) hal inX0 (tb_one hts 1086 (by decide +kernel) : (Cond.instantiable RX0 5).before args s = true)
  obtain ⟨c4, i4, k4⟩ := u_known (C := RX4) (T := TX4) (N := 5) hal inX4 (tb_one hts 1050 (by decide +kernel) : (Cond.instantiable RX4 5).before args s = true)
  obtain ⟨c5, i5, k5⟩ := u_known (C := RX6) (T := TX6) (N := 7) hal inX6 (tb_one hts 1152 (by decide +kernel) : (Cond.instantiable RX6 7).before args s = true)
  obtain ⟨c6, i6, k6⟩ := u_known (C := RX7) (T := TX7) (N := 16) hal inX7 (tb_one hts 384 (by decide +kernel) : (Cond.instantiable RX7 16).before args s = true)
  obtain ⟨c7, i7, k7⟩ := u_known (C := RX2) (T := TX2) (N := 7) hal inX2 (tb_one hts 256 (by decide +kernel) : (Cond.instantiable RX2 7).before args s = true)
  obtain ⟨c8, i8, k8⟩ := u_known (C := RX3) (T := TX3) (N := 4) hal inX3 (tb_one hts 1390 (by decide +kernel) : (Cond.instantiable RX3 4).before args s = true)
  obtain ⟨c9, i9, k9⟩ := u_known (C := RJx4a65c) (T := TJx4a65c) (N := 3) hal inJx4a65c (tb_one hts 866 (by decide +kernel) : (Cond.instantiable RJx4a65c 3).before args s = true)
  obtain ⟨c10, i10, k10⟩ := u_known (C := RJ4) (T := TJ4) (N := 4) hal inJ4 (tb_one hts 481 (by decide +kernel) : (Cond.instantiable RJ4 4).before args s = true)
  obtain ⟨cI, a1, a2⟩ := arr_kn (ty := .int) (tb_one hts 848 (by decide +kernel)) (fun _ q => by cases q)
  obtain ⟨cB, b1, b2⟩ := arr_kn (ty := .byte) (tb_one hts 169 (by decide +kernel)) (fun _ q => by cases q)
  obtain ⟨cZ, z1, z2⟩ := arr_kn (ty := .boolean) (tb_one hts 1462 (by decide +kernel)) (fun _ q => by cases q)
  obtain ⟨cO, o1, o2, o3⟩ := arr_kO (tb_one hts 1042 (by decide +kernel) : (Cond.arrayOver (.object "java/lang/Object")).before args s = true)
  refine ⟨(fun c => [c0, c1, c2, c3, c4, c5, c6, c7, c8, c9, c10].getD c c0, fun c => [i0, i1, i2, i3, i4, i5, i6, i7, i8, i9, i10].getD c i0), cI, cO, cB, cZ, ⟨fun c q hq => ?_, fun k q hq => ?_⟩, o3⟩
  · have hlt : c < 11 := (List.getElem?_eq_some_iff.mp hq).1
    rcases (show c = 0 ∨ c = 1 ∨ c = 2 ∨ c = 3 ∨ c = 4 ∨ c = 5 ∨ c = 6 ∨ c = 7 ∨ c = 8 ∨ c = 9 ∨ c = 10 by omega) with rfl | rfl | rfl | rfl | rfl | rfl | rfl | rfl | rfl | rfl | rfl
    · cases hq; exact k0
    · cases hq; exact k1
    · cases hq; exact k2
    · cases hq; exact k3
    · cases hq; exact k4
    · cases hq; exact k5
    · cases hq; exact k6
    · cases hq; exact k7
    · cases hq; exact k8
    · cases hq; exact k9
    · cases hq; exact k10
  · have hlt : k < 4 := (List.getElem?_eq_some_iff.mp hq).1
    rcases (show k = 0 ∨ k = 1 ∨ k = 2 ∨ k = 3 by omega) with rfl | rfl | rfl | rfl
    · cases hq; exact ⟨a1, a2⟩
    · cases hq; exact ⟨o1, o2⟩
    · cases hq; exact ⟨b1, b2⟩
    · cases hq; exact ⟨z1, z2⟩
theorem xz_start (hP : Pw.before args s = true) : ∃ (a : Nat) (cell : Cell), (Term.static "java/util/ArrayList" "DEFAULTCAPACITY_EMPTY_ELEMENTDATA" "[Ljava/lang/Object;").eval args s none [] s = some (.ref a) ∧ s.heap[a]? = some cell ∧ cell.vm ≠ .unknown ∧ cell.vm.isStatics = false ∧ cell.slots.size.toInt32 = 0 ∧ s.vm.findClass "[Ljava/lang/Object;" = some cell.cls := by
  obtain ⟨a, c, cell, k, h1, h2, h3, h4, h5, h6, -⟩ := Cond.exactly_spec (fl_one hP (w := Cond.exactly (.static "java/util/ArrayList" "DEFAULTCAPACITY_EMPTY_ELEMENTDATA" "[Ljava/lang/Object;") "[Ljava/lang/Object;") 219 (by decide +kernel))
  obtain ⟨-, g2⟩ := Cond.arrayOf_spec (fl_one hP (w := Cond.arrayOf (.static "java/util/ArrayList" "DEFAULTCAPACITY_EMPTY_ELEMENTDATA" "[Ljava/lang/Object;") (.object "java/lang/Object")) 218 (by decide +kernel)) h1 h3
  obtain ⟨a', cell', e1, e2, e3⟩ := Term.length_spec (va_eqt (fl_one hP (w := Cond.eq (.length (.static "java/util/ArrayList" "DEFAULTCAPACITY_EMPTY_ELEMENTDATA" "[Ljava/lang/Object;")) (.int 0)) 220 (by decide +kernel)))
  cases h1.symm.trans e1
  have e4 := (State.arrayAt?_spec e2).1
  cases h3.symm.trans e4
  exact ⟨a, cell, h1, h3, g2, h5, (Value.int.inj e3).symm, by rw [h6]; exact h2⟩
theorem zd_start {X : Xt} (hts : ∀ w ∈ lw_tbl, w.before args s = true) (hP : Pw.before args s = true) (hA : ∀ a, a < s.heap.size → ¬ Aft X a) : Zd X s := by
  obtain ⟨d1, e1, t1⟩ := va_Tof (A := Aft X) (N := 100) (f := fun j => .int (Int32.ofNat (48 + j % 10))) (by decide) (fl_one hP (w := Cond.arrayOf (.static "java/lang/Integer" "DigitOnes" "[B") .byte) 12 (by decide +kernel)) (va_eqt (fl_one hP (w := Cond.eq (.length (.static "java/lang/Integer" "DigitOnes" "[B")) (.int (Int32.ofNat 100))) 13 (by decide +kernel))) (fun j hj => va_eqt (fl_mem fl_ones hP j hj)) hA
  obtain ⟨d2, e2, t2⟩ := va_Tof (A := Aft X) (N := 100) (f := fun j => .int (Int32.ofNat (48 + j / 10))) (by decide) (fl_one hP (w := Cond.arrayOf (.static "java/lang/Integer" "DigitTens" "[B") .byte) 115 (by decide +kernel)) (va_eqt (fl_one hP (w := Cond.eq (.length (.static "java/lang/Integer" "DigitTens" "[B")) (.int (Int32.ofNat 100))) 116 (by decide +kernel))) (fun j hj => va_eqt (fl_mem fl_tens hP j hj)) hA
  obtain ⟨aK, aV, hS, hE⟩ := vk_Sof (N := 6) (tm := zd_tm) (len := zd_len) (byt := zd_byt) (A := Aft X) zd_7 (fun i hi => flat_of_before _ hP _ (zd_1 i hi)) (fun i hi => flat_of_before _ hP _ (zd_2 i hi)) (fun i hi => flat_of_before _ hP _ (zd_3 i hi)) (fun i hi => flat_of_before _ hP _ (zd_4 i hi)) (fun i hi j hj => zd_5 hP i hi j hj)
    (fun i j hi hj hij => (zd_6 i hi j hj).elim (fun q => absurd q hij) (fun q => q.imp (flat_of_before _ hP _) (flat_of_before _ hP _))) hA
  exact ⟨va_Zof (tb_one hts 490 (by decide +kernel)) (tb_one hts 81 (by decide +kernel)) (va_eqt (fl_one hP (w := Cond.eq (.static "java/lang/String" "COMPACT_STRINGS" "Z") (.int 1)) 6 (by decide +kernel))) hA,
    ⟨d1, _, va_Zof (tb_one hts 672 (by decide +kernel)) (tb_one hts 86 (by decide +kernel)) e1 hA, t1⟩,
    ⟨d2, _, va_Zof (tb_one hts 674 (by decide +kernel)) (tb_one hts 86 (by decide +kernel)) e2 hA, t2⟩,
    aK, aV, hS, vk_R.of (tb_one hts 791 (by decide +kernel)) (hE 0 (by decide)), vk_R.of (tb_one hts 813 (by decide +kernel)) (hE 1 (by decide)), vk_R.of (tb_one hts 817 (by decide +kernel)) (hE 2 (by decide)), vk_R.of (tb_one hts 818 (by decide +kernel)) (hE 3 (by decide)), vk_R.of (tb_one hts 819 (by decide +kernel)) (hE 4 (by decide)), vk_R.of (tb_one hts 820 (by decide +kernel)) (hE 5 (by decide))⟩
theorem zs_start {X : Xt} (hts : ∀ w ∈ lw_tbl, w.before args s = true) (hP : Pw.before args s = true) (hA : ∀ a, a < s.heap.size → ¬ Aft X a) (hz : (Term.static "java/util/ArrayList" "DEFAULTCAPACITY_EMPTY_ELEMENTDATA" "[Ljava/lang/Object;").eval args s none [] s = some (.ref (xz X))) (hm : va_Mi "[Ljava/lang/Object;" (xmi X) s) : Zs X s := by
  obtain ⟨s1, -, -, -, r1, -⟩ := Cond.exactly_spec (fl_one hP (w := Cond.exactly (.string "Exportcover" 454) "java/lang/String") 279 (by decide +kernel))
  obtain ⟨s2, -, -, -, r2, -⟩ := Cond.exactly_spec (fl_one hP (w := Cond.exactly (.string "Exportcover" 465) "java/lang/String") 332 (by decide +kernel))
  exact ⟨fun w hw => nw_of w hw (hts w (nw_tbl w hw)), va_Nc.of (fl_one hP (w := Cond.not (Cond.castable "java/lang/IndexOutOfBoundsException" "java/lang/IllegalStateException")) 227 (by decide +kernel)),
    ⟨va_Zof (tb_one hts 878 (by decide +kernel)) (tb_one hts 58 (by decide +kernel)) hz hA, hm⟩,
    vx_Zqof (tb_one hts 127 (by decide +kernel)) (tb_one hts 60 (by decide +kernel)) (fl_one hP 4 (by decide +kernel)) hA, vx_Zqof (tb_one hts 129 (by decide +kernel)) (tb_one hts 60 (by decide +kernel)) (fl_one hP 5 (by decide +kernel)) hA,
    ⟨s1, vk_R.of (tb_one hts 182 (by decide +kernel)) r1⟩, ⟨s2, vk_R.of (tb_one hts 316 (by decide +kernel)) r2⟩, zd_start hts hP hA⟩
end
end PNY
/-! THE CLAIM OUT OF ONE WALK OF THE LAW'S BODY. Your part is whole_start (and what it stands on); all else here is the same for every law, but numbers. -/
def R_law : String := "ExportcoverLaw"
def lw_P (b : Addr) (xs : List Int32) (args : Array Value) (s : State) : Prop := args = #[.ref b] ∧ s.IntsAt b xs ∧ xs.length ≤ 260 ∧ (Jvm.Cond.and given_1 narrow_1).before args s = true
/-- what a walk over the start with the record d0 says of its end, said of the start itself -/
theorem lw_closed {s t : State} {o : Outcome} {d0 : Drawn} {L : List Loc} {k n : Nat} (hd0 : s.drawn.sameBut d0 lw_cs) (hv : ∃ v, o = .returned v) (hW : (s.setDrawn d0).WarmedH t.vm) (hs : (s.setDrawn d0).sameButNew ({ t with vm := s.vm } : State) L k n) : State.butDraws s t lw_cs (fun t1 => Framed s o t1 L k n) := by
  have h2 : t.drawn = d0 := congrArg State.drawn hs.1
  refine ⟨⟨hv, hW, State.sameButNew.setDrawn hs s.drawn⟩, ?_, by decide⟩
  rw [h2]
  exact hd0
def lw_Q (_ : Array Value) (s : State) (o : Outcome) (t : State) : Prop := o = .returned (some (.int 1)) ∧ State.butDraws s t lw_cs (fun t1 => Framed s o t1 [] 631684 7206647)
def lw_Z (below : List Frame) (a : Array Value) (s : State) : State → Prop := fun t => ∃ o, t.status = .running ∧ Ended t below o ∧ lw_Q a s o t
/-- the law's own end, with 1 on the stack, nothing written that was there before, its room as the claim has it; d0: the record of draws at this point (at the entry s.drawn: begin with 'refine W.base ?_' and 'have hd0 := Drawn.sameBut.refl s.drawn lw_cs') -/
theorem lw_ret {p : Program} {l : Launch} {e : Env} {s : State} {m : MethodId} {below : List Frame} {meth : Method} {c : Code} {b : Nat} {d0 : Drawn} (hd0 : s.drawn.sameBut d0 lw_cs) (hx : p.tables.exec = Jvm.exec) (hb : c.code = code) (hr : meth.sig.returnType = ret) (hlocks : meth.locks = false) {pc : Nat} {H : Heap} {ls : Array Slot} (hdg : decode code pc = .ok (.ireturn, 1)) : W p l e room_1 (s.setDrawn d0) m #[Value.ref b] below meth c H [] 631684 7206647 (lw_Z below #[Value.ref b] s) (F0 m pc ls [.int 1]) := by
  intro T hT X
  obtain ⟨fs, hret, hrun, hended, hW, hframe⟩ := X.leave (v := some (.int 1)) (hlocks := hlocks) (fun h => by rw [hr] at h; cases h)
  have hmeth' : T.vm.method? m = some meth := X.method'
  refine ⟨T.setFrames fs, ?_, .returned (some (.int 1)), hrun, hended, rfl, lw_closed hd0 ⟨_, rfl⟩ hW hframe⟩
  jvm_step X.here [X.here.top, hx, hb, hdg, hmeth', hr, ret, narrow_b1]
  (try refine ⟨rfl, ?_⟩); (try refine ⟨rfl, ?_⟩)
  first | (intro acts; rw [hret _ acts rfl rfl rfl]) | rw [hret _ _ rfl rfl rfl]
  exact Steps.refl _
/-- what holds at the law's entry: the machine, the code, the tables' words (any of lw_tbl by 'hts w (by decide +kernel)'), the script of L ints xs at the cell b, what the Statement gives of the start (any of its parts by flat_of_before) -/
def lw_At (p : Program) (s : State) (m : MethodId) (meth : Method) (c : Code) (b L : Nat) (xs : Nat → Int32) : Prop :=
  p.tables.exec = Jvm.exec ∧ c.code = code ∧ meth.sig.returnType = ret ∧ c.maxLocals = 13 ∧ s.vm.findClass R_law = some m.cls ∧ (∀ w ∈ lw_tbl, w.before #[Value.ref b] s = true) ∧ va_X b L xs s s.heap ∧ b < s.heap.size ∧ meth.locks = false ∧ (Jvm.Cond.and given_1 narrow_1).before #[Value.ref b] s = true
theorem whole_start {p : Program} {e : Env} {s : State} {m : MethodId} {below : List Frame} {meth : Method} {c : Code} (l : Launch) (hflags : l.flags = flags0) {b L : Nat} {xs : Nat → Int32} (hL : L ≤ 260) (C0 : lw_At p s m meth c b L xs) : W p l e room_1 s m #[Value.ref b] below meth c s.heap [] 0 0 (lw_Z below #[Value.ref b] s) (entryFrame m ([Value.ref b] : List Value).toArray 13) := by
  obtain ⟨hx, hb, hr, hml, hown, hts, hX, hbl, hlk, hP⟩ := C0
  have hfl : l.stackTraces = false := by
    unfold Launch.stackTraces
    rw [hflags]
    decide
  obtain ⟨D, cI, cO, cB, cZ, hK, hO⟩ := kx_all hts
  obtain ⟨a, cell, x1, x2, x3, x4, x5, x6⟩ := xz_start hP
  obtain ⟨mi, hmi⟩ := va_Mi.of (fl_one hP (w := Cond.isRef (.mirror "[Ljava/lang/Object;")) 251 (by decide +kernel))
  have key : ∀ X : Xt, X = (D, cI, cO, cB, cZ, s.heap.size, a, mi, fun _ => False) → W p l e room_1 s m #[Value.ref b] below meth c s.heap [] 0 0 (lw_Z below #[Value.ref b] s) (entryFrame m ([Value.ref b] : List Value).toArray 13) := by
    intro X hXe
    have hA : ∀ q, q < s.heap.size → ¬ Aft X q := fun q hq w => by
      rw [hXe] at w
      exact absurd w.1 (Nat.not_le.mpr hq)
    have hZ : Zs X s := zs_start hts hP hA (by rw [hXe]; exact x1) (by rw [hXe]; exact hmi)
    have hBs : Bs X s.heap.size := by
      rw [hXe]
      exact ⟨Nat.le_refl _, fun q hq => hq.elim⟩
    have hC : Cx X p s m #[Value.ref b] meth c RL cL_law 13 (some .boolean) := ⟨hx, hb, hml, hr, hlk, hown, al_all hts, (by rw [hXe]; exact hK), hZ, hBs⟩
    have hSc : Sc X b L xs s := ⟨hX, hbl, by rw [hXe]; exact hbl⟩
    have h1 : Hd X s.heap.size (fun q => if q = a then (21, 0) else (0, 0)) (fun _ _ => 0) (fun _ _ => none) s.heap := by
      refine ⟨rfl, hBs, fun q hq => ?_, fun q hq => ?_⟩
      · have hqa : q = a := by
          by_cases w : q = a
          · exact w
          · dsimp only at hq
            rw [if_neg w] at hq
            exact absurd rfl hq
        subst hqa
        refine ⟨fun w => absurd (if_pos rfl) w, fun _ => ⟨cell, x2, ?_, x3, x4, x5⟩⟩
        rw [hXe]
        exact Option.some.inj (x6.symm.trans hO)
      · by_cases w : q = a
        · exact Or.inr (if_pos w)
        · dsimp only at hq
          rw [if_neg w] at hq
          exact absurd rfl hq
    have hl := lv_entry [Value.ref b] (n := 13) (Nat.le_of_ble_eq_true rfl)
    rw [lg_entry_eq]
    exact law_walk (xs := xs) hC hSc (by omega) hfl (fun q w => by rw [hXe] at w; exact w) (by rw [hXe]; exact if_pos rfl) dg6 (fun Y n K F G a0 B hk _ h3 => m_X8_digest l hk.1.1 h3)
      (fun n K F G lv H locs ls _ h2 _ => va_forget (fun q hq => by
        have w := (h2.2.2 q hq).1
        rw [hXe] at w
        exact w) (W.base (lw_ret (Drawn.sameBut.refl s.drawn lw_cs) hx hb hr hlk dL_law_392))) s.heap [] _ h1 va_S.rf hl
  exact key _ rfl
set_option maxHeartbeats 4000000 in
theorem lw_walk (l : Launch) (hflags : l.flags = flags0) (b : Addr) (xs : List Int32) : MetFree l x (headSpec (Jvm.Cond.code x code maxLocals ret :: tables_1) room_1) (lw_P b xs) (fun _ _ _ _ _ => True) lw_Q := by
  refine MetFree.of_bodyS (code := code) (maxLocals := maxLocals) (ret := ret) (by decide) ?_ ?_
  · intro args s m h hn
    obtain ⟨meth, c, h1, h2, h3, h4, h5, h6, -, -⟩ := Cond.code_spec hn (atoms_spec (ws := Jvm.Cond.code x code maxLocals ret :: tables_1) h _ List.mem_cons_self)
    exact ⟨meth, c, h1, h2, h3, h4, h5, h6⟩
  · intro p e s m args below meth c s₁ B hml0 hP _
    obtain ⟨rfl, hx, hbd, hgv⟩ := hP
    obtain ⟨scr, harrAt, hlist, hof, hsmall⟩ := hx
    obtain ⟨hcb, hkn, -, -⟩ := State.arrayAt?_spec harrAt
    have hown : s.vm.findClass R_law = some m.cls := findClass_of_methodNamed B.named
    have hts0 : ∀ c ∈ (Jvm.Cond.code x code maxLocals ret :: tables_1), c.before #[Value.ref b] s = true := atoms_spec (ws := Jvm.Cond.code x code maxLocals ret :: tables_1) B.pre
    have hts : ∀ w ∈ lw_tbl, w.before #[Value.ref b] s = true := k2_hts_sels lw_privs (fun w hw => hts0 w (List.mem_cons_of_mem _ hw)) lw_privs_ok
    have hml : c.maxLocals = 13 := B.maxLocals_eq (hts0 _ List.mem_cons_self)
    have X₀ : Stand p l e room_1 s m #[Value.ref b] below meth c s₁ [] 0 0 := Stand.of_body B
    have hh0 : s₁.heap = s.heap := by rw [B.state]; rfl
    have hsz : scr.slots.size = xs.length := by rw [← Array.length_toList, hlist, List.length_map]
    have hval : ∀ j : Nat, j < xs.length → scr.slots[j]? = some (.int (xs.getD j 0)) := fun j hj => by
      rw [← Array.getElem?_toList, hlist]
      simp [hj]
    have hbl : b < s.heap.size := (Array.getElem?_eq_some_iff.mp hcb).1
    have hX : va_X b xs.length (fun j => xs.getD j 0) s s.heap := ⟨scr, hcb, hof, hkn, hsz, hval⟩
    have K : W p l e room_1 s m #[Value.ref b] below meth c s₁.heap [] 0 0 (lw_Z below #[Value.ref b] s) (entryFrame m ([Value.ref b] : List Value).toArray 13) := by
      rw [hh0]
      exact whole_start l hflags hbd ⟨B.exec, B.bytes, B.returns, hml, hown, hts, hX, hbl, B.notSynchronized, hgv⟩
    obtain ⟨t, a1, o, b1, b2, b3⟩ := K s₁ rfl X₀
    exact ⟨t, o, a1, b1, b2, b3⟩
theorem lw_pre_spec {args : Array Value} {s : State} (h : (Jvm.Cond.and given_1 narrow_1).before args s = true) (hr : rest_1_c.before args s = true) : ∃ (b : Addr) (xs : List Int32), lw_P b xs args s := by
  have hs := flat_of_before _ h
  have hq := flat_of_before _ hr
  have hc : (Cond.count 1).before args s = true := hs _ (by decide +kernel)
  have harr : (Cond.arrayOf (.arg 0) .int).before args s = true := hs _ (by decide +kernel)
  have hle : (Cond.le (.length (.arg 0)) (.int 260)).before args s = true := hs _ (by decide +kernel)
  have hlen : (Cond.isInt (.length (.arg 0))).before args s = true := hq _ (by decide +kernel)
  have hall : (Cond.all (.arg 0) (.isInt (.elem (.arg 0) (.index 0)))).before args s = true := hq _ (by decide +kernel)
  obtain ⟨b, xs, hb, hx⟩ := State.ints_of_pre rfl harr hlen hall
  have hsm : xs.length < 2 ^ 31 := hx.choose_spec.2.2.2
  have hev : (Term.length (.arg 0)).eval args s none [] s = some (.int xs.length.toInt32) := hx.length_eval hb
  have hv := Cond.le_ints hev (show (Term.int 260).eval args s none [] s = some (.int 260) from rfl)
  have hd : xs.length.toInt32 ≤ 260 := by
    simpa [Cond.before, Cond.holds, hv] using hle
  have hN : xs.length ≤ 260 := (Int32.ofNat_le_ofNat hsm (by decide)).mp (show Int32.ofNat xs.length ≤ Int32.ofNat 260 from hd)
  exact ⟨b, xs, Cond.one_arg hc (show args[0]? = some (.ref b) from hb), hx, hN, h⟩
theorem lw_comes (l : Launch) (hflags : l.flags = flags0) : Comes l x (Jvm.Cond.code x code maxLocals ret :: tables_1) room_1 (fun tb e args s => Calls_1 tb e args s ∧ rest_1 tb e args s ∧ Pre_1 tb e args s)
    (fun _ _ args s o t => lw_Q args s o t) := by
  intro p e ha hc hk s m args below hf hfit hheap happ hpre
  obtain ⟨b, xs, hP⟩ := lw_pre_spec hpre.2.2 hpre.2.1
  obtain ⟨k, o, h1, h2, h3, hQ⟩ := lw_walk l hflags b xs p e ha hc hk s m args below hf ((Spec.applies_iff_loose hf).mp happ).1 hP trivial
  exact ⟨k, o, h1, h2, h3, hQ⟩
theorem lw_frame {s t : State} {o : Outcome} {args : Array Value} (h : State.butDraws s t lw_cs (fun t1 => Framed s o t1 [] 631684 7206647)) :
    State.butDraws s t [Jvm.Choice.named "NaN.bits"] (fun t1 => Framed s o t1 (fieldLocs frame_1_writes args s ++ arrayLocs frame_1_arrays args s ++ staticLocs frame_1_statics s) 631684 7206647) := h
theorem lw_limb (L : Cond) (hL : ∀ (args : Array Value) (s t : State), L.after args s (.returned (some (.int 1))) t = true) :
    ArmFor flags0 classFile x code maxLocals ret World_1 tables_1 room_1 Calls_1 rest_1 Pre_1
      (fun tb e a s o t => postC L tb e a s o t ∧ State.butDraws s t [Jvm.Choice.named "NaN.bits"] (fun t1 => Framed s o t1 (fieldLocs frame_1_writes a s ++ arrayLocs frame_1_arrays a s ++ staticLocs frame_1_statics s) 631684 7206647)) := by
  intro l hflags _ _ p e ha hc hk s m args below hf hfit hheap happ hpre
  obtain ⟨k, o, h1, h2, h3, rfl, hF⟩ := lw_comes l hflags p e ha hc hk s m args below hf hfit hheap happ hpre
  exact ⟨k, _, h1, h2, h3, hL args s _, lw_frame hF⟩
theorem i_vc : Claimed_1_1 ∧ Claimed_1_2 := ⟨lw_limb limb_1_1 (fun args s t => by simp [limb_1_1, Cond.after, Cond.holds, Cond.value]), lw_limb limb_1_2 (fun args s t => Cond.after_iff.mpr (by
  first | (rw [show limb_1_2 = Cond.eq .result (.int 1) from rfl, Cond.eq_ints (x := 1) (y := 1) rfl rfl]; simp; done) | (simp [limb_1_2, Cond.value, Term.eval]; done)))⟩
