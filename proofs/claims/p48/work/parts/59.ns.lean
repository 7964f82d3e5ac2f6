/-! the digest of the shipments -/
section PNS
section
variable {X : Xt} {p : Program} {l : Launch} {e : Env} {R : Room} {s : State} {m : MethodId} {args : Array Value} {below : List Frame} {meth : Method} {c : Code} {own : String} {cc : ByteArray} {nL : Nat} {ret : Option FieldType}
variable {Q : State → Prop} {cells slots n : Nat} {K : Kt} {F : Ft} {G : Gt} {lv : List (Nat × Value)} {pc : Nat} {st : List Value}
variable {Ku : Kt} {Fu : Ft} {Gu : Gt} {q arr : Nat}
def Fz (K0 K : Kt) (F0 F : Ft) (G0 G : Gt) (q arr : Nat) : Prop := (∀ x, (K0 x).1 ≠ 0 → K x = K0 x ∧ F x = F0 x ∧ G x = G0 x) ∧ (K0 q).1 = 0 ∧ (K0 arr).1 = 0 ∧ (K q).1 ≠ 0 ∧ (K arr).1 ≠ 0 ∧ ∀ x, (K x).1 ≠ 0 → (K0 x).1 ≠ 0 ∨ x = q ∨ x = arr
abbrev xq (X : Xt) (q arr : Nat) : Xt := xw X (fun a => xe X a ∨ a = q ∨ a = arr)
theorem Zs.nar2 {U : State} (h : Zs X U) : Zs (xq X q arr) U := by
  have hAB : ∀ a, Aft (xq X q arr) a → Aft X a := fun a ha => ⟨ha.1, fun w => ha.2 (Or.inl w)⟩
  obtain ⟨z0, z1, ⟨z2, zm⟩, z3, z4, z5, z7, ⟨y0, ⟨d1, f1, y1, y2⟩, ⟨d2, f2, y3, y4⟩, aK, aV, ys, yr⟩⟩ := h
  exact ⟨z0, z1, ⟨z2.narrow hAB, zm⟩, z3.narrow hAB, z4.narrow hAB, z5, z7, ⟨y0.narrow hAB, ⟨d1, f1, y1.narrow hAB, y2.narrow hAB⟩, ⟨d2, f2, y3.narrow hAB, y4.narrow hAB⟩, aK, aV, ys.narrow hAB, yr⟩⟩
theorem Hd.qs {H : Heap} (hf : Fz Ku K Fu F Gu G q arr) (h : Hd X n K F G H) : Hd (xq X q arr) n Ku Fu Gu H := by
  refine ⟨h.1, ⟨h.2.1.1, fun a ha => ?_⟩, fun a hk => ?_, fun a hk => ?_⟩
  · rcases ha with ha | ha | ha
    · exact h.2.1.2 a ha
    · rw [ha]; exact h.lt hf.2.2.2.1
    · rw [ha]; exact h.lt hf.2.2.2.2.1
  · obtain ⟨e1, e2, e3⟩ := hf.1 a hk
    have w := h.2.2.1 a (by rw [e1]; exact hk)
    have e : ce (xq X q arr) Ku Fu Gu a = ce X K F G a := (ce_congr (X := X) e1 e2 e3).symm
    rw [e]
    rw [e1] at w
    exact w
  · obtain ⟨e1, e2, e3⟩ := hf.1 a hk
    rcases h.2.2.2 a (by rw [e1]; exact hk) with w | w
    · refine Or.inl ⟨w.1, fun v => ?_⟩
      rcases v with v | v | v
      · exact w.2 v
      · rw [v] at hk; exact hk hf.2.1
      · rw [v] at hk; exact hk hf.2.2.1
    · rw [e1] at w; exact Or.inr w
theorem Hd.qj {H H1 : Heap} {n' : Nat} (hf : Fz Ku K Fu F Gu G q arr) (h : Hd X n K F G H) (h1 : Hd (xq X q arr) n' Ku Fu Gu H1) (ho : ∀ a, a = q ∨ a = arr → H1[a]? = H[a]?) : Hd X n' K F G H1 := by
  refine ⟨h1.1, ⟨h1.2.1.1, fun a ha => h1.2.1.2 a (Or.inl ha)⟩, fun a hk => ?_, fun a hk => ?_⟩
  · rcases hf.2.2.2.2.2 a hk with k0 | e
    · obtain ⟨e1, e2, e3⟩ := hf.1 a k0
      have w := h1.2.2.1 a k0
      have e : ce X K F G a = ce (xq X q arr) Ku Fu Gu a := ce_congr (X := X) e1 e2 e3
      rw [e, e1]; exact w
    · exact (h.2.2.1 a hk).kept (ho a e)
  · rcases hf.2.2.2.2.2 a hk with k0 | e
    · obtain ⟨e1, e2, e3⟩ := hf.1 a k0
      rcases h1.2.2.2 a k0 with w | w
      · exact Or.inl ⟨w.1, fun v => w.2 (Or.inl v)⟩
      · exact Or.inr (by rw [e1]; exact w)
    · exact h.2.2.2 a hk
theorem Wd.qs (hC : Cx X p s m args meth c own cc nL ret) (hf : Fz Ku K Fu F Gu G q arr) {H : Heap} {locs : List Loc} {U : State} (h1 : Hd X n K F G H) (h2 : va_S (Aft X) s.heap H locs) (hU : U.heap = H) (hW : s.WarmedH U.vm) : Wd (xq X q arr) n Ku Fu Gu U := by
  have w := Wd.of hC h1 h2 hU hW
  exact ⟨by rw [hU]; exact Hd.qs hf h1, w.2.1, w.2.2.nar2⟩
theorem v_qafter {a : Array Value} {mc ms c2 s2 n' : Nat} {o : Option Value} {st0 : List Value} {H : Heap} {locs : List Loc} {ls : Array Slot} (hf : Fz Ku K Fu F Gu G q arr) (h1 : Hd X n K F G H) (hr : va_Run p l e R s m args below meth c H locs cells slots mc ms (F0 m pc ls st0) st (QR (xq X q arr) (fun o1 n1 K1 F1 G1 => o1 = o ∧ n1 = n' ∧ K1 = Ku ∧ F1 = Fu ∧ G1 = Gu) a) (Aft (xq X q arr))) (h2 : va_S (Aft X) s.heap H locs) (h3 : lv_has ls nL lv) (hc : cells + mc ≤ c2) (hs : slots + ms ≤ s2)
    (kk : V X nL p l e R s m args below meth c Q c2 s2 n' K F G lv (pc + 3) (o.toList ++ st)) : W p l e R s m args below meth c H locs cells slots Q (F0 m pc ls st0) := by
  intro T hT Y
  obtain ⟨v, st₀, t, T', L, h0, X', hL, e1, e2, ⟨o1, n1, K1, F1, G1, hp, hv, hW, hz, hk⟩, stp⟩ := hr T hT Y
  obtain ⟨rfl, rfl, rfl, rfl, rfl⟩ := hp
  cases hv
  rw [h0] at hz hk
  have ho : ∀ a, a = q ∨ a = arr → t.heap[a]? = H[a]? := fun a ha => hk a (by
    rw [h1.1]
    rcases ha with ha | ha
    · rw [ha]; exact h1.lt hf.2.2.2.1
    · rw [ha]; exact h1.lt hf.2.2.2.2.1) (fun w => w.2 (Or.inr ha))
  have hS : va_S (Aft X) s.heap T'.heap (locs ++ L) := ⟨Nat.le_trans h2.1 (by rw [e1]; exact hz), fun a g1 g2 => by rw [e1, hk a (Nat.lt_of_lt_of_le g1 h2.1) (fun w => g2 ⟨w.1, fun v => w.2 (Or.inl v)⟩)]; exact h2.2.1 a g1 g2, fun a ha => by
      rcases List.mem_append.mp ha with h | h
      · exact h2.2.2 a h
      · exact ⟨(hL a h).1, fun v => (hL a h).2 (Or.inl v)⟩⟩
  obtain ⟨t2, b1, b2⟩ := W.widen hc hs (kk T'.heap (locs ++ L) ls (by rw [e1]; exact Hd.qj hf h1 hW.1 ho) hS h3) T' rfl X'
  exact ⟨t2, stp t2 b1, b2⟩
section
variable {y : MethodName} {bytes : ByteArray} {maxL fr lo mc ms index c2 s2 n' : Nat} {ret1 : Option FieldType} {As : List Value} {o : Option Value} {a ci nn : Nat} {qc : vw_C} {fs : List Value} {st0 : List Value}
/-- a call that changes nothing of the old cells: what stands apart stays -/
theorem v_qcallV (hC : Cx X p s m args meth c own cc nL ret) (hf : Fz Ku K Fu F Gu G q arr) (hM : Mw (xq X q arr) l y bytes maxL ret1 fr lo mc ms (.ref a :: As) n Ku Fu Gu o n' Ku Fu Gu) (hq : qV own index qc.1 y bytes maxL ret1) (hka : (Ku a).1 ≠ 0) (he : ce (xq X q arr) Ku Fu Gu a = .inr (ci, fs)) (hc : cls[ci]? = some qc) (hd : y.cls = qc.1 ∧ y.cls ≠ "java/lang/invoke/MethodHandle" ∧ y.cls ≠ "java/lang/invoke/VarHandle" ∧ (parseMethodDescriptor y.desc).map (fun d => d.parameters.length) = some nn) (hnn : As.length = nn) (hst0 : st0 = As.reverse ++ .ref a :: st) (hrf : fr + 1 ≤ R.frames) (hrl : 8 + (maxL + 11) + lo ≤ R.locals) (hrc : cells + mc ≤ R.cells) (hrs : slots + ms ≤ R.slots) (hc2 : cells + mc ≤ c2) (hs2 : slots + ms ≤ s2) (hst : (st.map fun v => v.category).sum ≤ 8) (hdg : decode cc pc = .ok (.invokevirtual index, 3))
     (kk : V X nL p l e R s m args below meth c Q c2 s2 n' K F G lv (pc + 3) (o.toList ++ st)) : V X nL p l e R s m args below meth c Q cells slots n K F G lv pc st0 := by
  intro H locs ls h1 h2 h3
  exact v_qafter hf h1 (va_runV (As := As) (rest := st) hC.fix hM.mr (cwV nn hC.hts hq.good rfl rfl rfl hd ⟨hrf, hrl⟩) ⟨Wd.blind, Hd.recv (X := xq X q arr) (show KX (xq X q arr) s from hC.hK) (Hd.qs hf h1) hka he hc, fun U hU hW => ⟨rfl, Wd.qs hC hf h1 h2 hU hW⟩⟩ rfl hnn h3.1 hst0 (lv_room hst) hdg ⟨hrc, hrs⟩) h2 h3 hc2 hs2 kk
theorem v_qcallS (hC : Cx X p s m args meth c own cc nL ret) (hf : Fz Ku K Fu F Gu G q arr) (hM : Mw (xq X q arr) l y bytes maxL ret1 fr lo mc ms As n Ku Fu Gu o n' Ku Fu Gu) (hq : qS own index y bytes maxL ret1) (hd : y.cls ≠ "java/lang/invoke/MethodHandle" ∧ y.cls ≠ "java/lang/invoke/VarHandle" ∧ (parseMethodDescriptor y.desc).map (fun d => d.parameters.length) = some nn) (hnn : As.length = nn) (hst0 : st0 = As.reverse ++ st) (hrf : fr + 1 ≤ R.frames) (hrl : 8 + (maxL + 11) + lo ≤ R.locals) (hrc : cells + mc ≤ R.cells) (hrs : slots + ms ≤ R.slots) (hc2 : cells + mc ≤ c2) (hs2 : slots + ms ≤ s2) (hst : (st.map fun v => v.category).sum ≤ 8) (hdg : decode cc pc = .ok (.invokestatic index, 3))
     (kk : V X nL p l e R s m args below meth c Q c2 s2 n' K F G lv (pc + 3) (o.toList ++ st)) : V X nL p l e R s m args below meth c Q cells slots n K F G lv pc st0 := by
  intro H locs ls h1 h2 h3
  exact v_qafter hf h1 (va_runS (As := As) (rest := st) hC.fix hM.mr (va_cwS nn hC.hts hq.good rfl rfl rfl hd ⟨hrf, hrl⟩) ⟨Wd.blind, fun U hU hW => ⟨rfl, Wd.qs hC hf h1 h2 hU hW⟩⟩ rfl hnn h3.1 hst0 (lv_room hst) hdg ⟨hrc, hrs⟩) h2 h3 hc2 hs2 kk
end
def kz {α : Type} (q arr : Nat) (f g : Nat → α) : Nat → α := fun x => if x = q ∨ x = arr then f x else g x
theorem kz_in {α : Type} {q arr : Nat} {f g : Nat → α} {x : Nat} (h : x = q ∨ x = arr) : kz q arr f g x = f x := if_pos h
theorem kz_out {α : Type} {q arr : Nat} {f g : Nat → α} {x : Nat} (h : ¬ (x = q ∨ x = arr)) : kz q arr f g x = g x := if_neg h
theorem v_norm {len cap : Nat} (hS : Sbf Ku Fu Gu K F G q len cap) (k : ∀ arr K1 F1 G1, Sbf Ku Fu Gu K1 F1 G1 q len cap → Fz Ku K1 Fu F1 Gu G1 q arr → V X nL p l e R s m args below meth c Q cells slots n K1 F1 G1 lv pc st) : V X nL p l e R s m args below meth c Q cells slots n K F G lv pc st := by
  obtain ⟨h1, h2, h3, h4, h5, h6, h7, arr, h8, h9, h10, h11⟩ := hS
  have hb : ∀ x, (Ku x).1 ≠ 0 → ¬ (x = q ∨ x = arr) := fun x hx w => by
    rcases w with w | w
    · rw [w] at hx; exact hx h2
    · rw [w] at hx; exact hx h9
  have e1 : kz q arr K Ku q = K q := kz_in (Or.inl rfl)
  have e2 : kz q arr K Ku arr = K arr := kz_in (Or.inr rfl)
  refine v_forget (K1 := kz q arr K Ku) (F1 := kz q arr F Fu) (G1 := kz q arr G Gu) (fun x hx => ?_) (k arr _ _ _ ⟨fun x hx => ?_, h2, by rw [e1]; exact h3, by rw [kz_in (Or.inl rfl)]; exact h4, by rw [kz_in (Or.inl rfl)]; exact h5, h6, h7, arr, by rw [kz_in (Or.inl rfl)]; exact h8, h9, by rw [e2]; exact h10, by rw [kz_in (Or.inr rfl)]; exact h11⟩ ⟨fun x hx => ?_, h2, h9, by rw [e1, h3]; decide, by rw [e2, h10]; exact (by decide : (22 : Nat) ≠ 0), fun x hx => ?_⟩)
  · by_cases w : x = q ∨ x = arr
    · rw [kz_in w, kz_in w, kz_in w]
      exact ⟨rfl, rfl, rfl⟩
    · rw [kz_out w] at hx
      rw [kz_out w, kz_out w, kz_out w]
      exact h1 x hx
  · have w := hb x hx
    exact ⟨kz_out w, kz_out w, kz_out w⟩
  · have w := hb x hx
    exact ⟨kz_out w, kz_out w, kz_out w⟩
  · by_cases w : x = q ∨ x = arr
    · exact Or.inr w
    · rw [kz_out w] at hx
      exact Or.inl hx
end
variable {X : Xt}
theorem slen_b {K0 : Kt} {F0 : Ft} {G0 : Gt} {i : Int32} {sh : Nat} : slen K0 F0 G0 i sh ≤ 286 := by
  rw [slen_eq]
  have z0 := ssz_b i
  have z2 := ssz_b (F0 (gp G0 (gp G0 sh 0) 1) 0)
  have z4 := ssz_b (F0 (gp G0 sh 1) 0)
  have z6 := ssz_b (F0 sh 10)
  have z8 := ssz_b (F0 sh 2)
  have z9 := wad_le (mk := (f_X7_marks K0 F0 G0 sh)) (bt := 1) (w := 9)
  have z10 := wad_le (mk := (f_X7_marks K0 F0 G0 sh)) (bt := 2) (w := 9)
  have z11 := wad_le (mk := (f_X7_marks K0 F0 G0 sh)) (bt := 4) (w := 8)
  have z12 := wad_le (mk := (f_X7_marks K0 F0 G0 sh)) (bt := 8) (w := 8)
  have z13 := wad_le (mk := (f_X7_marks K0 F0 G0 sh)) (bt := 16) (w := 5)
  omega
def shF (K : Kt) (F : Ft) (G : Gt) (a0 sh : Nat) : Nat → Nat → Int64 → Int64
  | 0, _, h => h
  | k + 1, j, h => shF K F G a0 sh k (j + 1) (h * 31 + (f_X8_figureOfShipment K F G a0 sh (nI j)).toInt64)
def shP (K : Kt) (F : Ft) (G : Gt) (sh : Nat) : Nat → Nat → Int64 → Int64
  | 0, _, h => h
  | k + 1, j, h => shP K F G sh k (j + 1) ((h * 31 + (f_X8_figureOfPart K F G sh (nI j) 0).toInt64) * 31 + (f_X8_figureOfPart K F G sh (nI j) 1).toInt64)
def dshE (K : Kt) (F : Ft) (G : Gt) (i sh : Nat) (h : Int64) : Int64 := (h * 31 + (f_X7_claimableFrom K F G sh).toInt64) * 31 + (nI (slen K F G (nI i) sh)).toInt64
def dshL (K : Kt) (F : Ft) (G : Gt) (a0 : Nat) : Nat → Nat → Int64 → Int64
  | 0, _, h => h
  | k + 1, i, h => dshL K F G a0 k (i + 1) (dshE K F G i (el G (gp G a0 4) i) (shP K F G (el G (gp G a0 4) i) 3 0 (shF K F G a0 (el G (gp G a0 4) i) 17 0 h)))
theorem hdS_X8_digestOfShipments : yX8_digestOfShipments.cls ≠ "java/lang/invoke/MethodHandle" ∧ yX8_digestOfShipments.cls ≠ "java/lang/invoke/VarHandle" ∧ (parseMethodDescriptor yX8_digestOfShipments.desc).map (fun d => d.parameters.length) = some 1 := by decide +kernel
theorem hdV_X8_digestOfShipments : yX8_digestOfShipments.cls = RX8 ∧ yX8_digestOfShipments.cls ≠ "java/lang/invoke/MethodHandle" ∧ yX8_digestOfShipments.cls ≠ "java/lang/invoke/VarHandle" ∧ (parseMethodDescriptor yX8_digestOfShipments.desc).map (fun d => d.parameters.length) = some 1 := by decide +kernel
set_option maxRecDepth 100000 in
set_option maxHeartbeats 8000000 in
theorem m_X8_digestOfShipments (l : Launch) {n : Nat} {K : Kt} {F : Ft} {G : Gt} {a0 : Nat} {x : Int64} (t0 : TMain K G a0) : Mr X l yX8_digestOfShipments cX8_digestOfShipments 9 (some .long) 9 400 6 552 [.ref a0, .long x] n K F G (fun o n' K' F' G' => o = some (.long (dshL K F G a0 (K (gp G a0 4)).2 0 x)) ∧ K' = K ∧ F' = F ∧ G' = G) := by
  generalize hr : dshL K F G a0 (K (gp G a0 4)).2 0 x = r
  refine Mr.of (lv := [(0, .ref a0), (1, .long x)]) (by decide) (Nat.le_of_ble_eq_true rfl) rfl ?_
  intro p e s m args below meth c Q hC hin hQ
  have hC : Cx X p s m args meth c RX8 cX8_digestOfShipments 9 (some .long) := hC
  have tl := t0.2.2.2.2.2.1.2
  have hsz := tl.lt
  have LOOP : ∀ (q k i n1 : Nat) (K1 : Kt) (F1 : Ft) (G1 : Gt) (cap len : Nat) (h : Int64), i + k = (K (gp G a0 4)).2 → Sbf K F G K1 F1 G1 q len cap → dshL K F G a0 k i h = r → V X 9 p l e ({ frames := 9, cells := 6, slots := 552, locals := 400 } : Room) s m args below meth c Q (1 + spC cap) (4 + spS cap) n1 K1 F1 G1 [(0, .ref a0), (3, .long h), (5, .ref q), (6, .int (nI i))] 14 [] := by
    intro q k
    induction k with
    | zero =>
      intro i n1 K1 F1 G1 cap len h hi S hr
      rw [dshL] at hr
      refine v_norm S (fun arr K1 F1 G1 S Z => ?_)
      have b1 := spC_le cap
      have b2 := spS_le cap
      have y0 := S.ok t0.1 (by decide)
      refine v_iload hC dX8_digestOfShipments_14 3 rfl ?_
      refine v_aload_n hC dX8_digestOfShipments_16 rfl 0 rfl ?_
      refine gf_X8_25 (q := gp G a0 4) hC y0.1 (by rw [y0.2.2]; exact t0.2.2.2.2.2.1.1) dX8_digestOfShipments_17 ?_
      refine v_qcallV (c2 := (1 + spC cap)) (s2 := (4 + spS cap)) (As := []) hC Z (m_Jx4a65c_size_8abf5 l tl.1) q_X8_89 (by rw [tl.1]; decide) (ce_10 tl.1) (ci := 9) rfl hdV_Jx4a65c_size_8abf5 rfl rfl (Nat.le_of_ble_eq_true rfl) (Nat.le_of_ble_eq_true rfl) (by show (1 + spC cap) + 0 ≤ 6; omega) (by show (4 + spS cap) + 0 ≤ 552; omega) (Nat.le_refl _) (Nat.le_refl _) (Nat.le_of_ble_eq_true rfl) dX8_digestOfShipments_20 ?_
      refine v_icmp_ge (tgt := 166) hC dX8_digestOfShipments_23 (by decide) (fun _ => ?_) (fun w => absurd (lp_z hi) w)
      refine v_lload_n hC dX8_digestOfShipments_166 rfl 1 rfl ?_
      refine v_forget (K1 := K) (F1 := F) (G1 := G) Z.1 ?_
      refine v_widen (k2 := 6) (n2 := 552) (by omega) (by omega) ?_
      refine v_toC (o := some (.long r)) hQ ⟨rfl, rfl, rfl, rfl⟩ ?_
      exact v_lret hC rfl rfl dX8_digestOfShipments_167 (by rw [hr]) rfl rfl rfl rfl
    | succ k ih =>
      intro i n1 K1 F1 G1 cap len h hi S hr
      rw [dshL] at hr
      refine v_norm S (fun arr K1 F1 G1 S Z => ?_)
      have b1 := spC_le cap
      have b2 := spS_le cap
      have y0 := S.ok t0.1 (by decide)
      refine v_iload hC dX8_digestOfShipments_14 3 rfl ?_
      refine v_aload_n hC dX8_digestOfShipments_16 rfl 0 rfl ?_
      refine gf_X8_25 (q := gp G a0 4) hC y0.1 (by rw [y0.2.2]; exact t0.2.2.2.2.2.1.1) dX8_digestOfShipments_17 ?_
      refine v_qcallV (c2 := (1 + spC cap)) (s2 := (4 + spS cap)) (As := []) hC Z (m_Jx4a65c_size_8abf5 l tl.1) q_X8_89 (by rw [tl.1]; decide) (ce_10 tl.1) (ci := 9) rfl hdV_Jx4a65c_size_8abf5 rfl rfl (Nat.le_of_ble_eq_true rfl) (Nat.le_of_ble_eq_true rfl) (by show (1 + spC cap) + 0 ≤ 6; omega) (by show (4 + spS cap) + 0 ≤ 552; omega) (Nat.le_refl _) (Nat.le_refl _) (Nat.le_of_ble_eq_true rfl) dX8_digestOfShipments_20 ?_
      refine v_icmp_ge (tgt := 166) hC dX8_digestOfShipments_23 (by decide) (fun w => absurd w (lp_s hi hsz)) (fun _ => ?_)
      refine v_aload_n hC dX8_digestOfShipments_26 rfl 0 rfl ?_
      refine gf_X8_25 (q := gp G a0 4) hC y0.1 (by rw [y0.2.2]; exact t0.2.2.2.2.2.1.1) dX8_digestOfShipments_27 ?_
      refine v_iload hC dX8_digestOfShipments_30 3 rfl ?_
      refine v_qcallV (c2 := (1 + spC cap)) (s2 := (4 + spS cap)) (As := [.int (nI i)]) hC Z (m_Jx4a65c_get_915e3 l tl (i := i) (by omega)) q_X8_306 (by rw [tl.1]; decide) (ce_10 tl.1) (ci := 9) rfl hdV_Jx4a65c_get_915e3 rfl rfl (Nat.le_of_ble_eq_true rfl) (Nat.le_of_ble_eq_true rfl) (by show (1 + spC cap) + 0 ≤ 6; omega) (by show (4 + spS cap) + 0 ≤ 552; omega) (Nat.le_refl _) (Nat.le_refl _) (Nat.le_of_ble_eq_true rfl) dX8_digestOfShipments_32 ?_
      have ts : TShip K G (el G (gp G a0 4) i) := tl.el (i := i) (by omega)
      obtain ⟨sh, hsh⟩ : ∃ sh, sh = el G (gp G a0 4) i := ⟨_, rfl⟩
      rw [← hsh] at ts hr
      have y1 := S.ok ts.1 (by decide)
      show V _ _ _ _ _ _ _ _ _ _ _ _ _ _ _ _ _ _ _ _ _ [.ref (el G (gp G a0 4) i)]
      rw [← hsh]
      refine v_cast hC (by rw [y1.1]; decide) (ce_7 y1.1) (ci := 6) rfl aw_212 dX8_digestOfShipments_35 ?_
      refine v_astore (i := 7) (lv' := [(7, .ref sh), (0, .ref a0), (3, .long h), (5, .ref q), (6, .int (nI i))]) hC dX8_digestOfShipments_38 (by decide) rfl ?_
      refine v_iconst (v := nI 0) hC dX8_digestOfShipments_40 (by decide) ?_
      refine v_istore (i := 8) (lv' := [(8, .int (nI 0)), (7, .ref sh), (0, .ref a0), (3, .long h), (5, .ref q), (6, .int (nI i))]) hC dX8_digestOfShipments_41 (by decide) rfl ?_
      refine v_sub (lv' := [(0, .ref a0), (3, .long h), (5, .ref q), (6, .int (nI i)), (7, .ref sh), (8, .int (nI 0))]) [2, 3, 4, 5, 1, 0] rfl ?_
      have L3 : ∀ (k3 j : Nat) (h3 : Int64), j + k3 = 3 → dshL K F G a0 k (i + 1) (dshE K F G i sh (shP K F G sh k3 j h3)) = r → V X 9 p l e ({ frames := 9, cells := 6, slots := 552, locals := 400 } : Room) s m args below meth c Q (1 + spC cap) (4 + spS cap) n1 K1 F1 G1 [(0, .ref a0), (3, .long h3), (5, .ref q), (6, .int (nI i)), (7, .ref sh), (8, .int (nI j))] 75 [] := by
        intro k3
        induction k3 with
        | zero =>
          intro j h3 hj hr
          rw [shP] at hr
          refine v_iload hC dX8_digestOfShipments_75 5 rfl ?_
          refine v_iconst (v := nI 3) hC dX8_digestOfShipments_77 (by decide) ?_
          refine v_icmp_ge (tgt := 119) hC dX8_digestOfShipments_78 (by decide) (fun _ => ?_) (fun w => absurd (lp_z hj) w)
          refine v_lload_n hC dX8_digestOfShipments_119 rfl 1 rfl ?_
          refine v_ldc2 (v := 31) hC aw_399 dX8_digestOfShipments_120 ?_
          refine v_lmul hC dX8_digestOfShipments_123 ?_
          refine v_aload hC dX8_digestOfShipments_124 4 rfl ?_
          refine v_qcallV (c2 := (1 + spC cap)) (s2 := (4 + spS cap)) (As := []) hC Z (m_X7_claimableFrom l ts) q_X8_271 (by rw [ts.1]; decide) (ce_7 ts.1) (ci := 6) rfl hdV_X7_claimableFrom rfl rfl (Nat.le_of_ble_eq_true rfl) (Nat.le_of_ble_eq_true rfl) (by show (1 + spC cap) + 0 ≤ 6; omega) (by show (4 + spS cap) + 0 ≤ 552; omega) (Nat.le_refl _) (Nat.le_refl _) (Nat.le_of_ble_eq_true rfl) dX8_digestOfShipments_126 ?_
          refine v_i2l hC dX8_digestOfShipments_129 ?_
          refine v_ladd hC dX8_digestOfShipments_130 ?_
          refine v_lstore_n (i := 3) (lv' := [(3, .long ((h3 * 31) + (f_X7_claimableFrom K F G sh).toInt64)), (0, .ref a0), (5, .ref q), (6, .int (nI i)), (7, .ref sh), (8, .int (nI j))]) hC dX8_digestOfShipments_131 rfl (by decide) rfl ?_
          refine v_aload hC dX8_digestOfShipments_132 2 rfl ?_
          refine v_iconst (v := 0) hC dX8_digestOfShipments_134 (by decide) ?_
          refine v_gcallV (S := Tr) (c2 := (1 + spC cap)) (s2 := (4 + spS cap)) (As := [.int 0]) hC trivial Tr_st (m_J4_setLength_d00df l S).g q_X8_632 (by rw [S.2.2.1]; decide) (ce_11 S.2.2.1) (ci := 10) rfl hdV_J4_setLength_d00df rfl rfl (Nat.le_of_ble_eq_true rfl) (Nat.le_of_ble_eq_true rfl) (by show (1 + spC cap) + 0 ≤ 6; omega) (by show (4 + spS cap) + 0 ≤ 552; omega) (Nat.le_refl _) (Nat.le_refl _) (Nat.le_of_ble_eq_true rfl) dX8_digestOfShipments_135 (fun o2 n2 K2 F2 G2 hP => ?_)
          obtain ⟨rfl, S2⟩ := hP
          refine v_aload hC dX8_digestOfShipments_138 2 rfl ?_
          refine v_iload hC dX8_digestOfShipments_140 3 rfl ?_
          refine v_aload hC dX8_digestOfShipments_142 4 rfl ?_
          have hL := slen_b (K0 := K) (F0 := F) (G0 := G) (i := nI i) (sh := sh)
          obtain ⟨d1, d2⟩ := cf_le S2.2.2.2.2.2.2.1 (Nat.zero_le (slen K F G (nI i) sh)) hL
          rw [cf_0] at d1 d2
          have b3 := spC_le (cf cap (slen K F G (nI i) sh))
          have b4 := spS_le (cf cap (slen K F G (nI i) sh))
          refine v_rcallS (c2 := (1 + spC (cf cap (slen K F G (nI i) sh)))) (s2 := (4 + spS (cf cap (slen K F G (nI i) sh)))) (As := [.ref q, .int (nI i), .ref sh]) hC (m_X8_writeSlip l S2 ts) q_X8_369 hdS_X8_writeSlip rfl rfl (Nat.le_of_ble_eq_true rfl) (Nat.le_of_ble_eq_true rfl) (by show 1 + spC cap + (spC (cf cap (slen K F G (nI i) sh)) - spC cap) ≤ 6; omega) (by show 4 + spS cap + (spS (cf cap (slen K F G (nI i) sh)) - spS cap) ≤ 552; omega) (by omega) (by omega) (Nat.le_of_ble_eq_true rfl) dX8_digestOfShipments_144 (fun o4 n4 K4 F4 G4 hP => ?_)
          obtain ⟨rfl, S4⟩ := hP
          refine v_lload_n hC dX8_digestOfShipments_147 rfl 0 rfl ?_
          refine v_ldc2 (v := 31) hC aw_399 dX8_digestOfShipments_148 ?_
          refine v_lmul hC dX8_digestOfShipments_151 ?_
          refine v_aload hC dX8_digestOfShipments_152 2 rfl ?_
          refine v_gcallV (S := Tr) (c2 := (1 + spC (cf cap (slen K F G (nI i) sh)))) (s2 := (4 + spS (cf cap (slen K F G (nI i) sh)))) (As := []) hC trivial Tr_st (m_J4_length_8abf5 l S4.2.2.1).g q_X8_635 (by rw [S4.2.2.1]; decide) (ce_11 S4.2.2.1) (ci := 10) rfl hdV_J4_length_8abf5 rfl rfl (Nat.le_of_ble_eq_true rfl) (Nat.le_of_ble_eq_true rfl) (by show (1 + spC (cf cap (slen K F G (nI i) sh))) + 0 ≤ 6; omega) (by show (4 + spS (cf cap (slen K F G (nI i) sh))) + 0 ≤ 552; omega) (Nat.le_refl _) (Nat.le_refl _) (Nat.le_of_ble_eq_true rfl) dX8_digestOfShipments_154 (fun o5 n5 K5 F5 G5 hP => ?_)
          obtain ⟨rfl, rfl, rfl, rfl, rfl⟩ := hP
          refine v_cst (y := .int (nI (slen K F G (nI i) sh))) (by rw [S4.2.2.2.2.1]) ?_
          refine v_i2l hC dX8_digestOfShipments_157 ?_
          refine v_ladd hC dX8_digestOfShipments_158 ?_
          refine v_lstore_n (i := 3) (lv' := [(3, .long ((((h3 * 31) + (f_X7_claimableFrom K F G sh).toInt64) * 31) + (nI (slen K F G (nI i) sh)).toInt64)), (0, .ref a0), (5, .ref q), (6, .int (nI i)), (7, .ref sh), (8, .int (nI j))]) hC dX8_digestOfShipments_159 rfl (by decide) rfl ?_
          refine v_iinc (v := nI (i + 1)) (lv' := [(6, .int (nI (i + 1))), (3, .long ((((h3 * 31) + (f_X7_claimableFrom K F G sh).toInt64) * 31) + (nI (slen K F G (nI i) sh)).toInt64)), (0, .ref a0), (5, .ref q), (7, .ref sh), (8, .int (nI j))]) hC dX8_digestOfShipments_160 3 rfl (nI_inc i) (by decide) rfl ?_
          refine v_goto (tgt := 14) hC dX8_digestOfShipments_163 (by decide) ?_
          refine v_sub (lv' := [(0, .ref a0), (3, .long ((((h3 * 31) + (f_X7_claimableFrom K F G sh).toInt64) * 31) + (nI (slen K F G (nI i) sh)).toInt64)), (5, .ref q), (6, .int (nI (i + 1)))]) [2, 1, 3, 0] rfl ?_
          exact ih (i + 1) _ _ _ _ _ _ _ (by omega) S4 hr
        | succ k3 ih3 =>
          intro j h3 hj hr
          rw [shP] at hr
          refine v_iload hC dX8_digestOfShipments_75 5 rfl ?_
          refine v_iconst (v := nI 3) hC dX8_digestOfShipments_77 (by decide) ?_
          refine v_icmp_ge (tgt := 119) hC dX8_digestOfShipments_78 (by decide) (fun w => absurd w (lp_s hj (by decide))) (fun _ => ?_)
          refine v_lload_n hC dX8_digestOfShipments_81 rfl 1 rfl ?_
          refine v_ldc2 (v := 31) hC aw_399 dX8_digestOfShipments_82 ?_
          refine v_lmul hC dX8_digestOfShipments_85 ?_
          refine v_aload hC dX8_digestOfShipments_86 4 rfl ?_
          refine v_iload hC dX8_digestOfShipments_88 5 rfl ?_
          refine v_iconst (v := 0) hC dX8_digestOfShipments_90 (by decide) ?_
          refine v_qcallS (c2 := (1 + spC cap)) (s2 := (4 + spS cap)) (As := [.ref sh, .int (nI j), .int 0]) hC Z (m_X8_figureOfPart l ts) q_X8_359 hdS_X8_figureOfPart rfl rfl (Nat.le_of_ble_eq_true rfl) (Nat.le_of_ble_eq_true rfl) (by show (1 + spC cap) + 0 ≤ 6; omega) (by show (4 + spS cap) + 0 ≤ 552; omega) (Nat.le_refl _) (Nat.le_refl _) (Nat.le_of_ble_eq_true rfl) dX8_digestOfShipments_91 ?_
          refine v_i2l hC dX8_digestOfShipments_94 ?_
          refine v_ladd hC dX8_digestOfShipments_95 ?_
          refine v_lstore_n (i := 3) (lv' := [(3, .long ((h3 * 31) + (f_X8_figureOfPart K F G sh (nI j) 0).toInt64)), (0, .ref a0), (5, .ref q), (6, .int (nI i)), (7, .ref sh), (8, .int (nI j))]) hC dX8_digestOfShipments_96 rfl (by decide) rfl ?_
          refine v_lload_n hC dX8_digestOfShipments_97 rfl 0 rfl ?_
          refine v_ldc2 (v := 31) hC aw_399 dX8_digestOfShipments_98 ?_
          refine v_lmul hC dX8_digestOfShipments_101 ?_
          refine v_aload hC dX8_digestOfShipments_102 4 rfl ?_
          refine v_iload hC dX8_digestOfShipments_104 5 rfl ?_
          refine v_iconst (v := 1) hC dX8_digestOfShipments_106 (by decide) ?_
          refine v_qcallS (c2 := (1 + spC cap)) (s2 := (4 + spS cap)) (As := [.ref sh, .int (nI j), .int 1]) hC Z (m_X8_figureOfPart l ts) q_X8_359 hdS_X8_figureOfPart rfl rfl (Nat.le_of_ble_eq_true rfl) (Nat.le_of_ble_eq_true rfl) (by show (1 + spC cap) + 0 ≤ 6; omega) (by show (4 + spS cap) + 0 ≤ 552; omega) (Nat.le_refl _) (Nat.le_refl _) (Nat.le_of_ble_eq_true rfl) dX8_digestOfShipments_107 ?_
          refine v_i2l hC dX8_digestOfShipments_110 ?_
          refine v_ladd hC dX8_digestOfShipments_111 ?_
          refine v_lstore_n (i := 3) (lv' := [(3, .long ((((h3 * 31) + (f_X8_figureOfPart K F G sh (nI j) 0).toInt64) * 31) + (f_X8_figureOfPart K F G sh (nI j) 1).toInt64)), (0, .ref a0), (5, .ref q), (6, .int (nI i)), (7, .ref sh), (8, .int (nI j))]) hC dX8_digestOfShipments_112 rfl (by decide) rfl ?_
          refine v_iinc (v := nI (j + 1)) (lv' := [(8, .int (nI (j + 1))), (3, .long ((((h3 * 31) + (f_X8_figureOfPart K F G sh (nI j) 0).toInt64) * 31) + (f_X8_figureOfPart K F G sh (nI j) 1).toInt64)), (0, .ref a0), (5, .ref q), (6, .int (nI i)), (7, .ref sh)]) hC dX8_digestOfShipments_113 5 rfl (nI_inc j) (by decide) rfl ?_
          refine v_goto (tgt := 75) hC dX8_digestOfShipments_116 (by decide) ?_
          refine v_sub (lv' := [(0, .ref a0), (3, .long ((((h3 * 31) + (f_X8_figureOfPart K F G sh (nI j) 0).toInt64) * 31) + (f_X8_figureOfPart K F G sh (nI j) 1).toInt64)), (5, .ref q), (6, .int (nI i)), (7, .ref sh), (8, .int (nI (j + 1)))]) [2, 1, 3, 4, 5, 0] rfl ?_
          exact ih3 (j + 1) _ (by omega) hr
      have L17 : ∀ (k3 j : Nat) (h3 : Int64), j + k3 = 17 → dshL K F G a0 k (i + 1) (dshE K F G i sh (shP K F G sh 3 0 (shF K F G a0 sh k3 j h3))) = r → V X 9 p l e ({ frames := 9, cells := 6, slots := 552, locals := 400 } : Room) s m args below meth c Q (1 + spC cap) (4 + spS cap) n1 K1 F1 G1 [(0, .ref a0), (3, .long h3), (5, .ref q), (6, .int (nI i)), (7, .ref sh), (8, .int (nI j))] 43 [] := by
        intro k3
        induction k3 with
        | zero =>
          intro j h3 hj hr
          rw [shF] at hr
          refine v_iload hC dX8_digestOfShipments_43 5 rfl ?_
          refine v_bipush (v := nI 17) hC dX8_digestOfShipments_45 (by decide) ?_
          refine v_icmp_ge (tgt := 72) hC dX8_digestOfShipments_47 (by decide) (fun _ => ?_) (fun w => absurd (lp_z hj) w)
          refine v_iconst (v := nI 0) hC dX8_digestOfShipments_72 (by decide) ?_
          refine v_istore (i := 8) (lv' := [(8, .int (nI 0)), (0, .ref a0), (3, .long h3), (5, .ref q), (6, .int (nI i)), (7, .ref sh)]) hC dX8_digestOfShipments_73 (by decide) rfl ?_
          refine v_sub (lv' := [(0, .ref a0), (3, .long h3), (5, .ref q), (6, .int (nI i)), (7, .ref sh), (8, .int (nI 0))]) [1, 2, 3, 4, 5, 0] rfl ?_
          exact L3 3 0 _ (by omega) hr
        | succ k3 ih3 =>
          intro j h3 hj hr
          rw [shF] at hr
          refine v_iload hC dX8_digestOfShipments_43 5 rfl ?_
          refine v_bipush (v := nI 17) hC dX8_digestOfShipments_45 (by decide) ?_
          refine v_icmp_ge (tgt := 72) hC dX8_digestOfShipments_47 (by decide) (fun w => absurd w (lp_s hj (by decide))) (fun _ => ?_)
          refine v_lload_n hC dX8_digestOfShipments_50 rfl 1 rfl ?_
          refine v_ldc2 (v := 31) hC aw_399 dX8_digestOfShipments_51 ?_
          refine v_lmul hC dX8_digestOfShipments_54 ?_
          refine v_aload_n hC dX8_digestOfShipments_55 rfl 0 rfl ?_
          refine v_aload hC dX8_digestOfShipments_56 4 rfl ?_
          refine v_iload hC dX8_digestOfShipments_58 5 rfl ?_
          refine v_qcallV (c2 := (1 + spC cap)) (s2 := (4 + spS cap)) (As := [.ref sh, .int (nI j)]) hC Z (m_X8_figureOfShipment l (a0 := a0) (a1 := sh) (x2 := nI j) t0 ts) q_X8_355 (by rw [t0.1]; decide) (ce_1 t0.1) (ci := 0) rfl hdV_X8_figureOfShipment rfl rfl (Nat.le_of_ble_eq_true rfl) (Nat.le_of_ble_eq_true rfl) (by show (1 + spC cap) + 0 ≤ 6; omega) (by show (4 + spS cap) + 0 ≤ 552; omega) (Nat.le_refl _) (Nat.le_refl _) (Nat.le_of_ble_eq_true rfl) dX8_digestOfShipments_60 ?_
          refine v_i2l hC dX8_digestOfShipments_63 ?_
          refine v_ladd hC dX8_digestOfShipments_64 ?_
          refine v_lstore_n (i := 3) (lv' := [(3, .long ((h3 * 31) + (f_X8_figureOfShipment K F G a0 sh (nI j)).toInt64)), (0, .ref a0), (5, .ref q), (6, .int (nI i)), (7, .ref sh), (8, .int (nI j))]) hC dX8_digestOfShipments_65 rfl (by decide) rfl ?_
          refine v_iinc (v := nI (j + 1)) (lv' := [(8, .int (nI (j + 1))), (3, .long ((h3 * 31) + (f_X8_figureOfShipment K F G a0 sh (nI j)).toInt64)), (0, .ref a0), (5, .ref q), (6, .int (nI i)), (7, .ref sh)]) hC dX8_digestOfShipments_66 5 rfl (nI_inc j) (by decide) rfl ?_
          refine v_goto (tgt := 43) hC dX8_digestOfShipments_69 (by decide) ?_
          refine v_sub (lv' := [(0, .ref a0), (3, .long ((h3 * 31) + (f_X8_figureOfShipment K F G a0 sh (nI j)).toInt64)), (5, .ref q), (6, .int (nI i)), (7, .ref sh), (8, .int (nI (j + 1)))]) [2, 1, 3, 4, 5, 0] rfl ?_
          exact ih3 (j + 1) _ (by omega) hr
      exact L17 17 0 _ (by omega) hr
  refine v_freshs (fun hfr => ?_)
  refine v_lload_n hC dX8_digestOfShipments_0 rfl 1 rfl ?_
  refine v_lstore_n (i := 3) (lv' := [(3, .long x), (0, .ref a0), (1, .long x)]) hC dX8_digestOfShipments_1 rfl (by decide) rfl ?_
  refine nw_X8_366 hC (Nat.le_of_ble_eq_true rfl) (Nat.le_of_ble_eq_true rfl) dX8_digestOfShipments_2 ?_
  refine v_dup hC dX8_digestOfShipments_5 rfl ?_
  refine v_callI (c2 := 2) (s2 := 20) (As := []) hC (m_J4_init_da8c8 l (q := n) (by rw [kat])) q_X8_368 rfl hdS_J4_init_da8c8 rfl rfl (Nat.le_of_ble_eq_true rfl) (Nat.le_of_ble_eq_true rfl) (Nat.le_of_ble_eq_true rfl) (Nat.le_of_ble_eq_true rfl) (Nat.le_of_ble_eq_true rfl) (Nat.le_of_ble_eq_true rfl) (Nat.le_of_ble_eq_true rfl) dX8_digestOfShipments_6 ?_
  refine v_astore (i := 5) (lv' := [(5, .ref n), (3, .long x), (0, .ref a0), (1, .long x)]) hC dX8_digestOfShipments_9 (by decide) rfl ?_
  refine v_iconst (v := nI 0) hC dX8_digestOfShipments_11 (by decide) ?_
  refine v_istore (i := 6) (lv' := [(6, .int (nI 0)), (5, .ref n), (3, .long x), (0, .ref a0), (1, .long x)]) hC dX8_digestOfShipments_12 (by decide) rfl ?_
  refine v_sub (lv' := [(0, .ref a0), (3, .long x), (5, .ref n), (6, .int (nI 0))]) [3, 2, 1, 0] rfl ?_
  have f0 := hfr 0
  have f1 := hfr 1
  have hn : n ≠ n + 1 := by omega
  refine LOOP n _ 0 _ _ _ _ 16 0 _ (by omega) ⟨fun y hy => ?_, f0, ?_, ?_, ?_, by omega, Or.inl rfl, n + 1, ?_, f1, kat, ?_⟩ hr
  · have y0 : y ≠ n := kne f0 hy
    have y1 : y ≠ n + 1 := kne f1 hy
    exact ⟨(va_up_ne _ _ y1).trans (va_up_ne _ _ y0), (up2_a _ _ y0).trans ((va_up_ne _ _ y1).trans (va_up_ne _ _ y0)), (up2_a _ _ y0).trans (va_up_ne _ _ y0)⟩
  · rw [va_up_ne _ _ hn, kat]
  · simp [up2, va_up]
  · simp [up2, va_up]
    rfl
  · simp [up2, va_up]
  · rw [up2_a _ _ (Ne.symm hn), kat]
    exact sb_fit0
end PNS
