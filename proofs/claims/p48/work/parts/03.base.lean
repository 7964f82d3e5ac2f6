section PB1b
abbrev cls : List vw_C := [(RX8, TX8, 14), (RX1, TX1, 1), (RX5, TX5, 8), (RX0, TX0, 5), (RX4, TX4, 5), (RX6, TX6, 7), (RX7, TX7, 16), (RX2, TX2, 7), (RX3, TX3, 4), (RJx4a65c, TJx4a65c, 3), (RJ4, TJ4, 4)]
abbrev tys (X : Xt) : List (ClassId × FieldType) := [(xI X, .int), (xO X, .object "java/lang/Object"), (xB X, .byte), (xZ X, .boolean)]
/-- the cell at a, as K, F, G have it -/
def ce (X : Xt) (K : Kt) (F : Ft) (G : Gt) (a : Nat) : va_E :=
  if (K a).1 = 1 then .inr (0, [va_rf (G a 0), va_rf (G a 1), va_rf (G a 2), va_rf (G a 3), va_rf (G a 4), va_rf (G a 5), va_rf (G a 6), va_rf (G a 7), va_rf (G a 8), .int (F a 9), .int (F a 10), .int (F a 11), .int (F a 12), .int (F a 13)]) else
  if (K a).1 = 2 then .inr (1, [.int (F a 0)]) else
  if (K a).1 = 3 then .inr (2, [.int (F a 0), .int (F a 1), .int (F a 2), .int (F a 3), .int (F a 4), .int (F a 5), .int (F a 6), .int (F a 7)]) else
  if (K a).1 = 4 then .inr (3, [.int (F a 0), va_rf (G a 1), .int (F a 2), va_rf (G a 3), .int (F a 4)]) else
  if (K a).1 = 5 then .inr (4, [.int (F a 0), va_rf (G a 1), .int (F a 2), .int (F a 3), .int (F a 4)]) else
  if (K a).1 = 6 then .inr (5, [.int (F a 0), va_rf (G a 1), .int (F a 2), .int (F a 3), .int (F a 4), va_rf (G a 5), .int (F a 6)]) else
  if (K a).1 = 7 then .inr (6, [va_rf (G a 0), va_rf (G a 1), .int (F a 2), .int (F a 3), .int (F a 4), .int (F a 5), .int (F a 6), .int (F a 7), .int (F a 8), .int (F a 9), .int (F a 10), .int (F a 11), .int (F a 12), .int (F a 13), va_rf (G a 14), va_rf (G a 15)]) else
  if (K a).1 = 8 then .inr (7, [.int (F a 0), .int (F a 1), .int (F a 2), .int (F a 3), .int (F a 4), .int (F a 5), .int (F a 6)]) else
  if (K a).1 = 9 then .inr (8, [.int (F a 0), .int (F a 1), .int (F a 2), .int (F a 3)]) else
  if (K a).1 = 10 then .inr (9, [.int (F a 0), va_rf (G a 1), .int (nI (K a).2)]) else
  if (K a).1 = 11 then .inr (10, [va_rf (G a 0), .int (F a 1), .int (F a 2), .int (F a 3)]) else
  if (K a).1 = 20 then .inl (xI X, (K a).2, .inl (F a)) else
  if (K a).1 = 21 then .inl (xO X, (K a).2, .inr (.inr (.inr (.inr (G a))))) else
  if (K a).1 = 22 then .inl (xB X, (K a).2, .inl (F a)) else .inl (xZ X, (K a).2, .inl (F a))
theorem ce_congr {X : Xt} {K K' : Kt} {F F' : Ft} {G G' : Gt} {a : Nat} (h1 : K' a = K a) (h2 : F' a = F a) (h3 : G' a = G a) : ce X K' F' G' a = ce X K F G a := by
  unfold ce
  rw [h1, h2, h3]
theorem ce_1 {X : Xt} {K : Kt} {F : Ft} {G : Gt} {a : Nat} (h : (K a).1 = 1) : ce X K F G a = .inr (0, [va_rf (G a 0), va_rf (G a 1), va_rf (G a 2), va_rf (G a 3), va_rf (G a 4), va_rf (G a 5), va_rf (G a 6), va_rf (G a 7), va_rf (G a 8), .int (F a 9), .int (F a 10), .int (F a 11), .int (F a 12), .int (F a 13)]) := by simp [ce, h]
theorem ce_2 {X : Xt} {K : Kt} {F : Ft} {G : Gt} {a : Nat} (h : (K a).1 = 2) : ce X K F G a = .inr (1, [.int (F a 0)]) := by simp [ce, h]
theorem ce_3 {X : Xt} {K : Kt} {F : Ft} {G : Gt} {a : Nat} (h : (K a).1 = 3) : ce X K F G a = .inr (2, [.int (F a 0), .int (F a 1), .int (F a 2), .int (F a 3), .int (F a 4), .int (F a 5), .int (F a 6), .int (F a 7)]) := by simp [ce, h]
theorem ce_4 {X : Xt} {K : Kt} {F : Ft} {G : Gt} {a : Nat} (h : (K a).1 = 4) : ce X K F G a = .inr (3, [.int (F a 0), va_rf (G a 1), .int (F a 2), va_rf (G a 3), .int (F a 4)]) := by simp [ce, h]
theorem ce_5 {X : Xt} {K : Kt} {F : Ft} {G : Gt} {a : Nat} (h : (K a).1 = 5) : ce X K F G a = .inr (4, [.int (F a 0), va_rf (G a 1), .int (F a 2), .int (F a 3), .int (F a 4)]) := by simp [ce, h]
theorem ce_6 {X : Xt} {K : Kt} {F : Ft} {G : Gt} {a : Nat} (h : (K a).1 = 6) : ce X K F G a = .inr (5, [.int (F a 0), va_rf (G a 1), .int (F a 2), .int (F a 3), .int (F a 4), va_rf (G a 5), .int (F a 6)]) := by simp [ce, h]
theorem ce_7 {X : Xt} {K : Kt} {F : Ft} {G : Gt} {a : Nat} (h : (K a).1 = 7) : ce X K F G a = .inr (6, [va_rf (G a 0), va_rf (G a 1), .int (F a 2), .int (F a 3), .int (F a 4), .int (F a 5), .int (F a 6), .int (F a 7), .int (F a 8), .int (F a 9), .int (F a 10), .int (F a 11), .int (F a 12), .int (F a 13), va_rf (G a 14), va_rf (G a 15)]) := by simp [ce, h]
theorem ce_8 {X : Xt} {K : Kt} {F : Ft} {G : Gt} {a : Nat} (h : (K a).1 = 8) : ce X K F G a = .inr (7, [.int (F a 0), .int (F a 1), .int (F a 2), .int (F a 3), .int (F a 4), .int (F a 5), .int (F a 6)]) := by simp [ce, h]
theorem ce_9 {X : Xt} {K : Kt} {F : Ft} {G : Gt} {a : Nat} (h : (K a).1 = 9) : ce X K F G a = .inr (8, [.int (F a 0), .int (F a 1), .int (F a 2), .int (F a 3)]) := by simp [ce, h]
theorem ce_10 {X : Xt} {K : Kt} {F : Ft} {G : Gt} {a : Nat} (h : (K a).1 = 10) : ce X K F G a = .inr (9, [.int (F a 0), va_rf (G a 1), .int (nI (K a).2)]) := by simp [ce, h]
theorem ce_11 {X : Xt} {K : Kt} {F : Ft} {G : Gt} {a : Nat} (h : (K a).1 = 11) : ce X K F G a = .inr (10, [va_rf (G a 0), .int (F a 1), .int (F a 2), .int (F a 3)]) := by simp [ce, h]
theorem ce_20 {X : Xt} {K : Kt} {F : Ft} {G : Gt} {a : Nat} (h : (K a).1 = 20) : ce X K F G a = .inl (xI X, (K a).2, .inl (F a)) := by simp [ce, h]
theorem ce_21 {X : Xt} {K : Kt} {F : Ft} {G : Gt} {a : Nat} (h : (K a).1 = 21) : ce X K F G a = .inl (xO X, (K a).2, .inr (.inr (.inr (.inr (G a))))) := by simp [ce, h]
theorem ce_22 {X : Xt} {K : Kt} {F : Ft} {G : Gt} {a : Nat} (h : (K a).1 = 22) : ce X K F G a = .inl (xB X, (K a).2, .inl (F a)) := by simp [ce, h]
theorem ce_23 {X : Xt} {K : Kt} {F : Ft} {G : Gt} {a : Nat} (h : (K a).1 = 23) : ce X K F G a = .inl (xZ X, (K a).2, .inl (F a)) := by simp [ce, h]
def Aft (X : Xt) : Nat → Prop := fun q => xb X ≤ q ∧ ¬ xe X q
def Bs (X : Xt) (n : Nat) : Prop := xb X ≤ n ∧ ∀ q, xe X q → q < n
theorem Bs.aft {X : Xt} {n : Nat} (h : Bs X n) : Aft X n := ⟨h.1, fun q => Nat.lt_irrefl _ (h.2 _ q)⟩
theorem Bs.le {X : Xt} {n n' : Nat} (h : Bs X n) (hn : n ≤ n') : Bs X n' := ⟨Nat.le_trans h.1 hn, fun q hq => Nat.lt_of_lt_of_le (h.2 q hq) hn⟩
/-- what stands at a: the cell itself, or, of an empty list of references, that it is one (it may be another's) -/
def Ha (X : Xt) (k : Nat × Nat) (c : va_E) (a : Nat) (H : Heap) : Prop := (k ≠ (21, 0) → va_at (xD X) cls (a, c) H) ∧ (k = (21, 0) → ∃ cell : Cell, H[a]? = some cell ∧ cell.cls = xO X ∧ cell.vm ≠ .unknown ∧ cell.vm.isStatics = false ∧ cell.slots.size.toInt32 = 0)
theorem Ha.kept {X : Xt} {k : Nat × Nat} {c : va_E} {a : Nat} {H H1 : Heap} (h : Ha X k c a H) (hq : H1[a]? = H[a]?) : Ha X k c a H1 := ⟨fun q => (h.1 q).kept hq, fun q => by
  obtain ⟨cell, h1, h2⟩ := h.2 q
  exact ⟨cell, hq.trans h1, h2⟩⟩
theorem Ha.lt {X : Xt} {k : Nat × Nat} {c : va_E} {a : Nat} {H : Heap} (h : Ha X k c a H) : a < H.size := by
  by_cases q : k = (21, 0)
  · obtain ⟨cell, h1, -⟩ := h.2 q
    exact (Array.getElem?_eq_some_iff.mp h1).1
  · exact (h.1 q).lt
theorem Ha.of {X : Xt} {K : Kt} {F : Ft} {G : Gt} {a : Nat} {H : Heap} (hat : va_at (xD X) cls (a, ce X K F G a) H) : Ha X (K a) (ce X K F G a) a H := ⟨fun _ => hat, fun q => by
  rw [ce_21 (by rw [q])] at hat
  have hat : H[a]? = some (vp_cell (xO X) ((K a).2, .inr (.inr (.inr (.inr (G a)))))) := hat
  refine ⟨_, hat, rfl, (fun w => by cases w), rfl, ?_⟩
  rw [vp_cell_q, arrV_size, q]
  rfl⟩
theorem nz_inr {X : Xt} {K : Kt} {F : Ft} {G : Gt} {a ci : Nat} {fs : List Value} (he : ce X K F G a = .inr (ci, fs)) : K a ≠ (21, 0) := fun q => by
  rw [ce_21 (by rw [q])] at he
  cases he
/-- the heap as K, F, G have it: n cells in all -/
def Hd (X : Xt) (n : Nat) (K : Kt) (F : Ft) (G : Gt) (H : Heap) : Prop :=
  H.size = n ∧ Bs X n ∧ (∀ a, (K a).1 ≠ 0 → Ha X (K a) (ce X K F G a) a H) ∧ ∀ a, (K a).1 ≠ 0 → Aft X a ∨ K a = (21, 0)
theorem Hd.one {X : Xt} {n : Nat} {K : Kt} {F : Ft} {G : Gt} {H : Heap} (h : Hd X n K F G H) {a : Nat} (ha : (K a).1 ≠ 0) (hz : K a ≠ (21, 0)) {e : va_E} (he : ce X K F G a = e) : va_P (xD X) cls [(a, e)] H := by
  intro k q hq
  cases k with
  | zero => cases hq; rw [← he]; exact (h.2.2.1 a ha).1 hz
  | succ k => simp at hq
theorem Hd.lt {X : Xt} {n : Nat} {K : Kt} {F : Ft} {G : Gt} {H : Heap} (h : Hd X n K F G H) {a : Nat} (ha : (K a).1 ≠ 0) : a < n := by
  have h1 := (h.2.2.1 a ha).lt
  rw [h.1] at h1
  exact h1
theorem Hd.fresh {X : Xt} {n : Nat} {K : Kt} {F : Ft} {G : Gt} {H : Heap} (h : Hd X n K F G H) : (K n).1 = 0 := by
  by_cases q : (K n).1 = 0
  · exact q
  · exact absurd (h.lt q) (Nat.lt_irrefl _)
theorem Hd.base {X : Xt} {n : Nat} {K : Kt} {F : Ft} {G : Gt} {H : Heap} (h : Hd X n K F G H) {a : Nat} (ha : (K a).1 ≠ 0) (hk : K a ≠ (21, 0)) : Aft X a := (h.2.2.2 a ha).elim id (fun q => absurd q hk)
theorem Hd.put {X : Xt} {n : Nat} {K K' : Kt} {F F' : Ft} {G G' : Gt} {H H1 : Heap} (h : Hd X n K F G H) {a : Nat} (hb : Aft X a) (hz : H1.size = H.size) (ho : ∀ q, q ≠ a → H1[q]? = H[q]?)
    (hK : ∀ x, x ≠ a → K' x = K x ∧ F' x = F x ∧ G' x = G x) {e : va_E} (he : ce X K' F' G' a = e) (hat : va_at (xD X) cls (a, e) H1) : Hd X n K' F' G' H1 := by
  refine ⟨hz.trans h.1, h.2.1, fun x hx => ?_, fun x hx => ?_⟩
  · by_cases hxa : x = a
    · subst hxa
      exact Ha.of (by rw [he]; exact hat)
    · obtain ⟨k1, k2, k3⟩ := hK x hxa
      rw [ce_congr k1 k2 k3, k1]
      rw [k1] at hx
      exact (h.2.2.1 x hx).kept (ho x hxa)
  · by_cases hxa : x = a
    · subst hxa
      exact Or.inl hb
    · obtain ⟨k1, k2, k3⟩ := hK x hxa
      rw [k1] at hx ⊢
      exact h.2.2.2 x hx
theorem Hd.push {X : Xt} {n : Nat} {K K' : Kt} {F F' : Ft} {G G' : Gt} {H H1 : Heap} (h : Hd X n K F G H) (hz : H1.size = n + 1) (ho : ∀ q, q < n → H1[q]? = H[q]?)
    (hK : ∀ x, x ≠ n → K' x = K x ∧ F' x = F x ∧ G' x = G x) {e : va_E} (he : ce X K' F' G' n = e) (hat : va_at (xD X) cls (n, e) H1) : Hd X (n + 1) K' F' G' H1 := by
  refine ⟨hz, h.2.1.le (Nat.le_succ n), fun x hx => ?_, fun x hx => ?_⟩
  · by_cases hxa : x = n
    · subst hxa
      exact Ha.of (by rw [he]; exact hat)
    · obtain ⟨k1, k2, k3⟩ := hK x hxa
      rw [ce_congr k1 k2 k3, k1]
      rw [k1] at hx
      exact (h.2.2.1 x hx).kept (ho x (h.lt hx))
  · by_cases hxa : x = n
    · subst hxa
      exact Or.inl h.2.1.aft
    · obtain ⟨k1, k2, k3⟩ := hK x hxa
      rw [k1] at hx ⊢
      exact h.2.2.2 x hx
/-- a cell that is none of ours comes -/
theorem Hd.skip {X : Xt} {n n' : Nat} {K : Kt} {F : Ft} {G : Gt} {H H1 : Heap} (h : Hd X n K F G H) (hz : H1.size = n') (hn : n ≤ n') (ho : ∀ q, q < n → H1[q]? = H[q]?) : Hd X n' K F G H1 :=
  ⟨hz, h.2.1.le hn, fun x hx => (h.2.2.1 x hx).kept (ho x (h.lt hx)), h.2.2.2⟩
theorem nw_warm {s U : State} (hW : s.WarmedH U.vm) : ∀ w ∈ Nwl, va_Nw w s → va_Nw w U := by
  intro w hw
  simp only [Nwl, List.mem_cons, List.not_mem_nil, or_false] at hw
  rcases hw with rfl | rfl | rfl | rfl | rfl | rfl | rfl | rfl | rfl | rfl | rfl | rfl | rfl | rfl | rfl | rfl | rfl | rfl | rfl | rfl | rfl <;> intro hZ <;> first | exact va_Nw.warmC hW hZ | exact va_Nw.warmM hW hZ | exact va_Nw.warmD hW hZ | exact va_AO.moved hW.alike hZ
def zd_len : List Nat := [2, 9, 9, 8, 8, 5]
def zd_byt : List (List Int32) := [[58, 32], [32, 114, 101, 112, 111, 114, 116, 101, 100], [32, 100, 105, 115, 112, 117, 116, 101, 100], [32, 99, 108, 97, 105, 109, 101, 100], [32, 112, 117, 116, 32, 111, 102, 102], [32, 118, 111, 105, 100]]
/-- what the digest reads of the JDK's -/
def Zd (X : Xt) (U : State) : Prop :=
  va_Z "java/lang/String" "COMPACT_STRINGS" "Z" (.int 1) (Aft X) U U.heap ∧
  (∃ (d : Nat) (f : Nat → Int32), va_Z "java/lang/Integer" "DigitOnes" "[B" (.ref d) (Aft X) U U.heap ∧ va_T .byte d 100 (fun j => .int (f j)) (Aft X) U U.heap) ∧
  (∃ (d : Nat) (f : Nat → Int32), va_Z "java/lang/Integer" "DigitTens" "[B" (.ref d) (Aft X) U U.heap ∧ va_T .byte d 100 (fun j => .int (f j)) (Aft X) U U.heap) ∧
  ∃ adK adV : Nat → Nat, vk_S 6 zd_len zd_byt adK adV (Aft X) U U.heap ∧ vk_R RX8 610 ": " (adK 0) U ∧ vk_R RX8 618 " reported" (adK 1) U ∧ vk_R RX8 624 " disputed" (adK 2) U ∧ vk_R RX8 626 " claimed" (adK 3) U ∧ vk_R RX8 628 " put off" (adK 4) U ∧ vk_R RX8 630 " void" (adK 5) U
theorem Zd.moved {X : Xt} {s U : State} (h : Zd X s) (hW : s.WarmedH U.vm) (hk : ∀ a : Nat, a < s.heap.size → ¬ Aft X a → U.heap[a]? = s.heap[a]?) : Zd X U := by
  have hvm := hW.alike
  obtain ⟨z0, ⟨d1, f1, z1, y1⟩, ⟨d2, f2, z2, y2⟩, aK, aV, zs, r0, r1, r2, r3, r4, r5⟩ := h
  exact ⟨va_Z.moved hvm (z0.kept hk), ⟨d1, f1, va_Z.moved hvm (z1.kept hk), va_T.moved hvm (y1.kept hk)⟩, ⟨d2, f2, va_Z.moved hvm (z2.kept hk), va_T.moved hvm (y2.kept hk)⟩, aK, aV, vk_S.moved hvm (zs.kept hk), r0.warm hW, r1.warm hW, r2.warm hW, r3.warm hW, r4.warm hW, r5.warm hW⟩
/-- the statics that nobody writes -/
def Zs (X : Xt) (U : State) : Prop :=
  (∀ w ∈ Nwl, va_Nw w U) ∧ va_Nc "java/lang/IndexOutOfBoundsException" "java/lang/IllegalStateException" U ∧
  (va_Z "java/util/ArrayList" "DEFAULTCAPACITY_EMPTY_ELEMENTDATA" "[Ljava/lang/Object;" (.ref (xz X)) (Aft X) U U.heap ∧ va_Mi "[Ljava/lang/Object;" (xmi X) U) ∧ (vx_Zq Bundle.tN "UNASSIGNED_STACK" Bundle.steD (Aft X) U U.heap ∧ vx_Zq Bundle.tN "SUPPRESSED_SENTINEL" Bundle.listD (Aft X) U U.heap ∧ (∃ sa, vk_R RX8 454 "not as things stand" sa U) ∧ (∃ sa, vk_R RX8 465 "there is no such shipment" sa U) ∧ Zd X U)
theorem Zs.moved {X : Xt} {s U : State} {H : Heap} {locs : List Loc} (h : Zs X s) (hW : s.WarmedH U.vm) (hS : va_S (Aft X) s.heap H locs) (hU : U.heap = H) : Zs X U := by
  have hk : ∀ a : Nat, a < s.heap.size → ¬ Aft X a → H[a]? = s.heap[a]? := hS.2.1
  have hvm := hW.alike
  obtain ⟨z0, z1, ⟨z2, zm⟩, z3, z4, ⟨z5, z6⟩, ⟨z7, z8⟩, z9⟩ := h
  refine ⟨fun w hw => nw_warm hW w hw (z0 w hw), z1.moved hvm, ⟨?_, zm.moved hvm⟩, ?_, ?_, ⟨z5, vk_R.warm hW z6⟩, ⟨z7, vk_R.warm hW z8⟩, z9.moved hW (fun a ha hn => by rw [hU]; exact hk a ha hn)⟩
  · rw [hU]; exact va_Z.moved hvm (z2.kept hk)
  · rw [hU]; exact vx_Zq.moved hvm (z3.kept hk)
  · rw [hU]; exact vx_Zq.moved hvm (z4.kept hk)
abbrev KX (X : Xt) (U : State) : Prop := va_K (xD X) cls (tys X) U
/-- the world of every contract -/
def Wd (X : Xt) (n : Nat) (K : Kt) (F : Ft) (G : Gt) (U : State) : Prop := Hd X n K F G U.heap ∧ KX X U ∧ Zs X U
theorem Wd.calling {X : Xt} {n : Nat} {K : Kt} {F : Ft} {G : Gt} {U : State} {g : JFrame} {mk : MethodId} {a : Array Value} (h : Wd X n K F G U) : Wd X n K F G (U.calling g mk a) := ⟨h.1, va_K.moved (u := U) (U := U.calling g mk a) (Vm.Alike.refl U.vm) h.2.1, Zs.moved (s := U) (U := U.calling g mk a) (locs := []) h.2.2 (State.WarmedH.refl U) va_S.rf rfl⟩
def QW (X : Xt) (o : Option Value) (n : Nat) (K : Kt) (F : Ft) (G : Gt) : Array Value → State → Outcome → State → Prop := fun _ st oc t => oc = .returned o ∧ Wd X n K F G t ∧ va_F (Aft X) st t
/-- a contract: y, called with As in the world (n, K, F, G), answers o and leaves the world (n', K', F', G') -/
def Mw (X : Xt) (l : Launch) (y : MethodName) (bytes : ByteArray) (maxL : Nat) (ret : Option FieldType) (fr lo mc ms : Nat) (As : List Value) (n : Nat) (K : Kt) (F : Ft) (G : Gt) (o : Option Value) (n' : Nat) (K' : Kt) (F' : Ft) (G' : Gt) : Prop :=
  Met l y (wl y bytes maxL ret) { frames := fr, cells := mc, slots := ms, locals := lo } (va_Pc As (Wd X n K F G)) (QW X o n' K' F' G') mc ms (Aft X)
/-- what holds all through a method's body -/
def Cx (X : Xt) (p : Program) (s : State) (m : MethodId) (args : Array Value) (meth : Method) (c : Code) (own : String) (cc : ByteArray) (nL : Nat) (ret : Option FieldType) : Prop :=
  p.tables.exec = Jvm.exec ∧ c.code = cc ∧ c.maxLocals = nL ∧ meth.sig.returnType = ret ∧ meth.locks = false ∧ s.vm.findClass own = some m.cls ∧ (∀ w ∈ Al, w.before args s = true) ∧ KX X s ∧ Zs X s ∧ Bs X s.heap.size
section PB2
variable {X : Xt} {p : Program} {l : Launch} {e : Env} {R : Room} {s : State} {m : MethodId} {args : Array Value} {below : List Frame} {meth : Method} {c : Code} {own : String} {cc : ByteArray} {nL : Nat} {ret : Option FieldType}
theorem Cx.hx (h : Cx X p s m args meth c own cc nL ret) : p.tables.exec = Jvm.exec := h.1
theorem Cx.hb (h : Cx X p s m args meth c own cc nL ret) : c.code = cc := h.2.1
theorem Cx.hml (h : Cx X p s m args meth c own cc nL ret) : c.maxLocals = nL := h.2.2.1
theorem Cx.hr (h : Cx X p s m args meth c own cc nL ret) : meth.sig.returnType = ret := h.2.2.2.1
theorem Cx.hlk (h : Cx X p s m args meth c own cc nL ret) : meth.locks = false := h.2.2.2.2.1
theorem Cx.hown (h : Cx X p s m args meth c own cc nL ret) : s.vm.findClass own = some m.cls := h.2.2.2.2.2.1
theorem Cx.hts (h : Cx X p s m args meth c own cc nL ret) : ∀ w ∈ Al, w.before args s = true := h.2.2.2.2.2.2.1
theorem Cx.hK (h : Cx X p s m args meth c own cc nL ret) : KX X s := h.2.2.2.2.2.2.2.1
theorem Cx.hZ (h : Cx X p s m args meth c own cc nL ret) : Zs X s := h.2.2.2.2.2.2.2.2.1
theorem Cx.hbs (h : Cx X p s m args meth c own cc nL ret) : Bs X s.heap.size := h.2.2.2.2.2.2.2.2.2
theorem Cx.nw (h : Cx X p s m args meth c own cc nL ret) : ∀ w ∈ Nwl, w.before args s = true := fun w hw => nw_use w hw (h.hZ.1 w hw)
theorem Cx.fix (h : Cx X p s m args meth c own cc nL ret) : CallFix p m c cc nL s args Al own := ⟨h.hx, h.hb, h.hml, h.hown, h.hts⟩
/-- the judgment of the walks: in the world (n, K, F, G), with locals lv and stack st at pc, it comes to Q -/
def V (X : Xt) (nL : Nat) (p : Program) (l : Launch) (e : Env) (R : Room) (s : State) (m : MethodId) (args : Array Value) (below : List Frame) (meth : Method) (c : Code) (Q : State → Prop) (cells slots n : Nat) (K : Kt) (F : Ft) (G : Gt) (lv : List (Nat × Value)) (pc : Nat) (st : List Value) : Prop :=
  ∀ (H : Heap) (locs : List Loc) (ls : Array Slot), Hd X n K F G H → va_S (Aft X) s.heap H locs → lv_has ls nL lv → W p l e R s m args below meth c H locs cells slots Q (F0 m pc ls st)
theorem Wd.of {n : Nat} {K : Kt} {F : Ft} {G : Gt} {H : Heap} {locs : List Loc} {U : State} (hC : Cx X p s m args meth c own cc nL ret) (hH : Hd X n K F G H) (hS : va_S (Aft X) s.heap H locs) (hU : U.heap = H) (hW : s.WarmedH U.vm) : Wd X n K F G U :=
  ⟨by rw [hU]; exact hH, va_K.moved hW.alike hC.hK, hC.hZ.moved hW hS hU⟩
/-- a contract out of a walk of the body -/
theorem Mw.of {y : MethodName} {bytes : ByteArray} {maxL fr lo mc ms : Nat} {As : List Value} {n n' : Nat} {K K' : Kt} {F F' : Ft} {G G' : Gt} {o : Option Value} {lv : List (Nat × Value)} (hy : plainName y.cls = true) (hlen : (lg_sl As).length ≤ maxL) (hlv : lv_args 0 As = lv)
    (k : ∀ (p : Program) (e : Env) (s : State) (m : MethodId) (args : Array Value) (below : List Frame) (meth : Method) (c : Code) (Q : State → Prop), Cx X p s m args meth c y.cls bytes maxL ret → meth.name = y.name → Q = MQ below (QW X o n' K' F' G') args s mc ms (Aft X) →
      V X maxL p l e { frames := fr, cells := mc, slots := ms, locals := lo } s m args below meth c Q 0 0 n K F G lv 0 []) : Mw X l y bytes maxL ret fr lo mc ms As n K F G o n' K' F' G' := by
  refine Met.ofW (cc := bytes) (maxL := maxL) (ret := ret) hy rfl ?_
  intro p e s m args below meth c s₁ B hml hv
  obtain ⟨rfl, hW⟩ := hv
  have hts := atoms_spec (ws := wl y bytes maxL ret) B.pre
  have hC : Cx X p s m As.toArray meth c y.cls bytes maxL ret := ⟨B.exec, B.bytes, hml, B.returns, B.notSynchronized, findClass_of_methodNamed B.named, fun w h => hts w (List.mem_cons_of_mem _ h), hW.2.1, hW.2.2, (by rw [hW.1.1]; exact hW.1.2.1)⟩
  have hl := lv_entry As (n := maxL) hlen
  rw [hlv] at hl
  rw [lg_entry_eq]
  exact k p e s m _ below meth c _ hC (name_of_methodNamed B.named B.method).1 rfl s.heap [] _ hW.1 va_S.rf hl
end PB2
end PB1b
section PB3
variable {X : Xt} {p : Program} {l : Launch} {e : Env} {R : Room} {s : State} {m : MethodId} {args : Array Value} {below : List Frame} {meth : Method} {c : Code} {own : String} {cc : ByteArray} {nL : Nat} {ret : Option FieldType}
variable {Q : State → Prop} {cells slots n : Nat} {K : Kt} {F : Ft} {G : Gt} {lv lv' : List (Nat × Value)} {pc : Nat} {st : List Value}
theorem v_iconst (hC : Cx X p s m args meth c own cc nL ret) {z : Int} {v : Int32} (hdg : decode cc pc = .ok (.iconst z, 1)) (hv : Int32.ofInt z = v) (k : V X nL p l e R s m args below meth c Q cells slots n K F G lv (pc + 1) (.int v :: st)) : V X nL p l e R s m args below meth c Q cells slots n K F G lv pc st := fun H locs ls h1 h2 h3 => lv_iconst hC.hx hC.hb hdg hv (k H locs ls h1 h2 h3)
theorem v_bipush (hC : Cx X p s m args meth c own cc nL ret) {z : Int} {v : Int32} (hdg : decode cc pc = .ok (.bipush z, 2)) (hv : (Int8.ofInt z).toInt32 = v) (k : V X nL p l e R s m args below meth c Q cells slots n K F G lv (pc + 2) (.int v :: st)) : V X nL p l e R s m args below meth c Q cells slots n K F G lv pc st := fun H locs ls h1 h2 h3 => lv_bipush hC.hx hC.hb hdg hv (k H locs ls h1 h2 h3)
theorem v_sipush (hC : Cx X p s m args meth c own cc nL ret) {z : Int} {v : Int32} (hdg : decode cc pc = .ok (.sipush z, 3)) (hv : (Int16.ofInt z).toInt32 = v) (k : V X nL p l e R s m args below meth c Q cells slots n K F G lv (pc + 3) (.int v :: st)) : V X nL p l e R s m args below meth c Q cells slots n K F G lv pc st := fun H locs ls h1 h2 h3 => lv_sipush hC.hx hC.hb hdg hv (k H locs ls h1 h2 h3)
theorem v_lconst (hC : Cx X p s m args meth c own cc nL ret) {z : Fin 2} {v : Int64} (hdg : decode cc pc = .ok (.lconst z, 1)) (hv : Int64.ofNat (z : Nat) = v) (k : V X nL p l e R s m args below meth c Q cells slots n K F G lv (pc + 1) (.long v :: st)) : V X nL p l e R s m args below meth c Q cells slots n K F G lv pc st := fun H locs ls h1 h2 h3 => lv_lconst hC.hx hC.hb hdg hv (k H locs ls h1 h2 h3)
theorem v_dconst0 (hC : Cx X p s m args meth c own cc nL ret)  (hdg : decode cc pc = .ok (.dconst 0, 1)) (k : V X nL p l e R s m args below meth c Q cells slots n K F G lv (pc + 1) (.double 0 :: st)) : V X nL p l e R s m args below meth c Q cells slots n K F G lv pc st := fun H locs ls h1 h2 h3 => lv_dconst0 hC.hx hC.hb hdg (k H locs ls h1 h2 h3)
theorem v_dconst1 (hC : Cx X p s m args meth c own cc nL ret)  (hdg : decode cc pc = .ok (.dconst 1, 1)) (k : V X nL p l e R s m args below meth c Q cells slots n K F G lv (pc + 1) (.double 4607182418800017408 :: st)) : V X nL p l e R s m args below meth c Q cells slots n K F G lv pc st := fun H locs ls h1 h2 h3 => lv_dconst1 hC.hx hC.hb hdg (k H locs ls h1 h2 h3)
theorem v_null (hC : Cx X p s m args meth c own cc nL ret)  (hdg : decode cc pc = .ok (.aconst_null, 1)) (k : V X nL p l e R s m args below meth c Q cells slots n K F G lv (pc + 1) (va_rf none :: st)) : V X nL p l e R s m args below meth c Q cells slots n K F G lv pc st := fun H locs ls h1 h2 h3 => lv_null hC.hx hC.hb hdg (k H locs ls h1 h2 h3)
theorem v_ldc (hC : Cx X p s m args meth c own cc nL ret) {index : Nat} {v : Int32} (hc : Jvm.Cond.constant own index v ∈ Al) (hdg : decode cc pc = .ok (.ldc index, 2)) (k : V X nL p l e R s m args below meth c Q cells slots n K F G lv (pc + 2) (.int v :: st)) : V X nL p l e R s m args below meth c Q cells slots n K F G lv pc st := fun H locs ls h1 h2 h3 => lv_ldc hC.hx hC.hb hC.hown (hC.hts _ hc) hdg (k H locs ls h1 h2 h3)
theorem v_ldc2 (hC : Cx X p s m args meth c own cc nL ret) {index : Nat} {v : Int64} (hc : Jvm.Cond.constantLong own index v ∈ Al) (hdg : decode cc pc = .ok (.ldc2_w index, 3)) (k : V X nL p l e R s m args below meth c Q cells slots n K F G lv (pc + 3) (.long v :: st)) : V X nL p l e R s m args below meth c Q cells slots n K F G lv pc st := fun H locs ls h1 h2 h3 => lv_ldc2 hC.hx hC.hb hC.hown (hC.hts _ hc) hdg (k H locs ls h1 h2 h3)
theorem v_ldc2d (hC : Cx X p s m args meth c own cc nL ret) {index : Nat} {v : UInt64} (hc : Jvm.Cond.constantDouble own index v ∈ Al) (hdg : decode cc pc = .ok (.ldc2_w index, 3)) (k : V X nL p l e R s m args below meth c Q cells slots n K F G lv (pc + 3) (.double v :: st)) : V X nL p l e R s m args below meth c Q cells slots n K F G lv pc st := fun H locs ls h1 h2 h3 => lv_ldc2d hC.hx hC.hb hC.hown (hC.hts _ hc) hdg (k H locs ls h1 h2 h3)
theorem v_iload_n (hC : Cx X p s m args meth c own cc nL ret) {z : Fin 4} {i : Nat} {x : Int32} (hdg : decode cc pc = .ok (.iload_n z, 1)) (hi : (z : Nat) = i) (j : Nat) (hj : lv[j]? = some (i, .int x)) (k : V X nL p l e R s m args below meth c Q cells slots n K F G lv (pc + 1) (.int x :: st)) : V X nL p l e R s m args below meth c Q cells slots n K F G lv pc st := fun H locs ls h1 h2 h3 => lv_iload_n hC.hx hC.hb hdg hi (lv_at h3 j hj) (k H locs ls h1 h2 h3)
theorem v_iload (hC : Cx X p s m args meth c own cc nL ret) {i : Nat} {x : Int32} (hdg : decode cc pc = .ok (.iload i, 2)) (j : Nat) (hj : lv[j]? = some (i, .int x)) (k : V X nL p l e R s m args below meth c Q cells slots n K F G lv (pc + 2) (.int x :: st)) : V X nL p l e R s m args below meth c Q cells slots n K F G lv pc st := fun H locs ls h1 h2 h3 => lv_iload hC.hx hC.hb hdg (lv_at h3 j hj) (k H locs ls h1 h2 h3)
theorem v_istore_n (hC : Cx X p s m args meth c own cc nL ret) {z : Fin 4} {i : Nat} {x : Int32} (hdg : decode cc pc = .ok (.istore_n z, 1)) (hi : (z : Nat) = i) (hn : i < nL) (hl : (i, Value.int x) :: lv.filter (fun q => !(q.1 == i) && !(q.1 + 1 == i && q.2.category == 2)) = lv') (k : V X nL p l e R s m args below meth c Q cells slots n K F G lv' (pc + 1) st) : V X nL p l e R s m args below meth c Q cells slots n K F G lv pc (.int x :: st) := fun H locs ls h1 h2 h3 => lv_istore_n hC.hx hC.hb hdg hi h3 hn hl (fun ls1 h4 => k H locs ls1 h1 h2 h4)
theorem v_istore (hC : Cx X p s m args meth c own cc nL ret) {i : Nat} {x : Int32} (hdg : decode cc pc = .ok (.istore i, 2)) (hn : i < nL) (hl : (i, Value.int x) :: lv.filter (fun q => !(q.1 == i) && !(q.1 + 1 == i && q.2.category == 2)) = lv') (k : V X nL p l e R s m args below meth c Q cells slots n K F G lv' (pc + 2) st) : V X nL p l e R s m args below meth c Q cells slots n K F G lv pc (.int x :: st) := fun H locs ls h1 h2 h3 => lv_istore hC.hx hC.hb hdg h3 hn hl (fun ls1 h4 => k H locs ls1 h1 h2 h4)
theorem v_lload_n (hC : Cx X p s m args meth c own cc nL ret) {z : Fin 4} {i : Nat} {x : Int64} (hdg : decode cc pc = .ok (.lload_n z, 1)) (hi : (z : Nat) = i) (j : Nat) (hj : lv[j]? = some (i, .long x)) (k : V X nL p l e R s m args below meth c Q cells slots n K F G lv (pc + 1) (.long x :: st)) : V X nL p l e R s m args below meth c Q cells slots n K F G lv pc st := fun H locs ls h1 h2 h3 => lv_lload_n hC.hx hC.hb hdg hi (lv_at h3 j hj) (k H locs ls h1 h2 h3)
theorem v_lload (hC : Cx X p s m args meth c own cc nL ret) {i : Nat} {x : Int64} (hdg : decode cc pc = .ok (.lload i, 2)) (j : Nat) (hj : lv[j]? = some (i, .long x)) (k : V X nL p l e R s m args below meth c Q cells slots n K F G lv (pc + 2) (.long x :: st)) : V X nL p l e R s m args below meth c Q cells slots n K F G lv pc st := fun H locs ls h1 h2 h3 => lv_lload hC.hx hC.hb hdg (lv_at h3 j hj) (k H locs ls h1 h2 h3)
theorem v_lstore_n (hC : Cx X p s m args meth c own cc nL ret) {z : Fin 4} {i : Nat} {x : Int64} (hdg : decode cc pc = .ok (.lstore_n z, 1)) (hi : (z : Nat) = i) (hn : i + 1 < nL) (hl : (i, Value.long x) :: lv.filter (fun q => !(q.1 == i) && (!(q.1 == i + 1) && !(q.1 + 1 == i && q.2.category == 2))) = lv') (k : V X nL p l e R s m args below meth c Q cells slots n K F G lv' (pc + 1) st) : V X nL p l e R s m args below meth c Q cells slots n K F G lv pc (.long x :: st) := fun H locs ls h1 h2 h3 => lv_lstore_n hC.hx hC.hb hdg hi h3 hn hl (fun ls1 h4 => k H locs ls1 h1 h2 h4)
theorem v_lstore (hC : Cx X p s m args meth c own cc nL ret) {i : Nat} {x : Int64} (hdg : decode cc pc = .ok (.lstore i, 2)) (hn : i + 1 < nL) (hl : (i, Value.long x) :: lv.filter (fun q => !(q.1 == i) && (!(q.1 == i + 1) && !(q.1 + 1 == i && q.2.category == 2))) = lv') (k : V X nL p l e R s m args below meth c Q cells slots n K F G lv' (pc + 2) st) : V X nL p l e R s m args below meth c Q cells slots n K F G lv pc (.long x :: st) := fun H locs ls h1 h2 h3 => lv_lstore hC.hx hC.hb hdg h3 hn hl (fun ls1 h4 => k H locs ls1 h1 h2 h4)
theorem v_dload_n (hC : Cx X p s m args meth c own cc nL ret) {z : Fin 4} {i : Nat} {x : UInt64} (hdg : decode cc pc = .ok (.dload_n z, 1)) (hi : (z : Nat) = i) (j : Nat) (hj : lv[j]? = some (i, .double x)) (k : V X nL p l e R s m args below meth c Q cells slots n K F G lv (pc + 1) (.double x :: st)) : V X nL p l e R s m args below meth c Q cells slots n K F G lv pc st := fun H locs ls h1 h2 h3 => lv_dload_n hC.hx hC.hb hdg hi (lv_at h3 j hj) (k H locs ls h1 h2 h3)
theorem v_dload (hC : Cx X p s m args meth c own cc nL ret) {i : Nat} {x : UInt64} (hdg : decode cc pc = .ok (.dload i, 2)) (j : Nat) (hj : lv[j]? = some (i, .double x)) (k : V X nL p l e R s m args below meth c Q cells slots n K F G lv (pc + 2) (.double x :: st)) : V X nL p l e R s m args below meth c Q cells slots n K F G lv pc st := fun H locs ls h1 h2 h3 => lv_dload hC.hx hC.hb hdg (lv_at h3 j hj) (k H locs ls h1 h2 h3)
theorem v_dstore_n (hC : Cx X p s m args meth c own cc nL ret) {z : Fin 4} {i : Nat} {x : UInt64} (hdg : decode cc pc = .ok (.dstore_n z, 1)) (hi : (z : Nat) = i) (hn : i + 1 < nL) (hl : (i, Value.double x) :: lv.filter (fun q => !(q.1 == i) && (!(q.1 == i + 1) && !(q.1 + 1 == i && q.2.category == 2))) = lv') (k : V X nL p l e R s m args below meth c Q cells slots n K F G lv' (pc + 1) st) : V X nL p l e R s m args below meth c Q cells slots n K F G lv pc (.double x :: st) := fun H locs ls h1 h2 h3 => lv_dstore_n hC.hx hC.hb hdg hi h3 hn hl (fun ls1 h4 => k H locs ls1 h1 h2 h4)
theorem v_dstore (hC : Cx X p s m args meth c own cc nL ret) {i : Nat} {x : UInt64} (hdg : decode cc pc = .ok (.dstore i, 2)) (hn : i + 1 < nL) (hl : (i, Value.double x) :: lv.filter (fun q => !(q.1 == i) && (!(q.1 == i + 1) && !(q.1 + 1 == i && q.2.category == 2))) = lv') (k : V X nL p l e R s m args below meth c Q cells slots n K F G lv' (pc + 2) st) : V X nL p l e R s m args below meth c Q cells slots n K F G lv pc (.double x :: st) := fun H locs ls h1 h2 h3 => lv_dstore hC.hx hC.hb hdg h3 hn hl (fun ls1 h4 => k H locs ls1 h1 h2 h4)
theorem v_aload_n (hC : Cx X p s m args meth c own cc nL ret) {z : Fin 4} {i : Nat} {x : Nat} (hdg : decode cc pc = .ok (.aload_n z, 1)) (hi : (z : Nat) = i) (j : Nat) (hj : lv[j]? = some (i, .ref x)) (k : V X nL p l e R s m args below meth c Q cells slots n K F G lv (pc + 1) (.ref x :: st)) : V X nL p l e R s m args below meth c Q cells slots n K F G lv pc st := fun H locs ls h1 h2 h3 => lv_aload_n hC.hx hC.hb hdg hi (lv_at h3 j hj) (k H locs ls h1 h2 h3)
theorem v_aload (hC : Cx X p s m args meth c own cc nL ret) {i : Nat} {x : Nat} (hdg : decode cc pc = .ok (.aload i, 2)) (j : Nat) (hj : lv[j]? = some (i, .ref x)) (k : V X nL p l e R s m args below meth c Q cells slots n K F G lv (pc + 2) (.ref x :: st)) : V X nL p l e R s m args below meth c Q cells slots n K F G lv pc st := fun H locs ls h1 h2 h3 => lv_aload hC.hx hC.hb hdg (lv_at h3 j hj) (k H locs ls h1 h2 h3)
theorem v_astore_n (hC : Cx X p s m args meth c own cc nL ret) {z : Fin 4} {i : Nat} {x : Nat} (hdg : decode cc pc = .ok (.astore_n z, 1)) (hi : (z : Nat) = i) (hn : i < nL) (hl : (i, Value.ref x) :: lv.filter (fun q => !(q.1 == i) && !(q.1 + 1 == i && q.2.category == 2)) = lv') (k : V X nL p l e R s m args below meth c Q cells slots n K F G lv' (pc + 1) st) : V X nL p l e R s m args below meth c Q cells slots n K F G lv pc (.ref x :: st) := fun H locs ls h1 h2 h3 => lv_astore_n hC.hx hC.hb hdg hi h3 hn hl (fun ls1 h4 => k H locs ls1 h1 h2 h4)
theorem v_astore (hC : Cx X p s m args meth c own cc nL ret) {i : Nat} {x : Nat} (hdg : decode cc pc = .ok (.astore i, 2)) (hn : i < nL) (hl : (i, Value.ref x) :: lv.filter (fun q => !(q.1 == i) && !(q.1 + 1 == i && q.2.category == 2)) = lv') (k : V X nL p l e R s m args below meth c Q cells slots n K F G lv' (pc + 2) st) : V X nL p l e R s m args below meth c Q cells slots n K F G lv pc (.ref x :: st) := fun H locs ls h1 h2 h3 => lv_astore hC.hx hC.hb hdg h3 hn hl (fun ls1 h4 => k H locs ls1 h1 h2 h4)
theorem v_aload_nq (hC : Cx X p s m args meth c own cc nL ret) {z : Fin 4} {i : Nat} {x : Option Nat} (hdg : decode cc pc = .ok (.aload_n z, 1)) (hi : (z : Nat) = i) (j : Nat) (hj : lv[j]? = some (i, va_rf x)) (k : V X nL p l e R s m args below meth c Q cells slots n K F G lv (pc + 1) (va_rf x :: st)) : V X nL p l e R s m args below meth c Q cells slots n K F G lv pc st := by
  intro H locs ls h1 h2 h3
  cases x with
  | none => exact lv_aload_nN hC.hx hC.hb hdg hi (lv_at h3 j hj) (k H locs ls h1 h2 h3)
  | some x => exact lv_aload_n hC.hx hC.hb hdg hi (lv_at h3 j hj) (k H locs ls h1 h2 h3)
theorem v_aloadq (hC : Cx X p s m args meth c own cc nL ret) {i : Nat} {x : Option Nat} (hdg : decode cc pc = .ok (.aload i, 2)) (j : Nat) (hj : lv[j]? = some (i, va_rf x)) (k : V X nL p l e R s m args below meth c Q cells slots n K F G lv (pc + 2) (va_rf x :: st)) : V X nL p l e R s m args below meth c Q cells slots n K F G lv pc st := by
  intro H locs ls h1 h2 h3
  cases x with
  | none => exact lv_aloadN hC.hx hC.hb hdg (lv_at h3 j hj) (k H locs ls h1 h2 h3)
  | some x => exact lv_aload hC.hx hC.hb hdg (lv_at h3 j hj) (k H locs ls h1 h2 h3)
theorem v_astore_nq (hC : Cx X p s m args meth c own cc nL ret) {z : Fin 4} {i : Nat} {x : Option Nat} (hdg : decode cc pc = .ok (.astore_n z, 1)) (hi : (z : Nat) = i) (hn : i < nL) (hl : (i, va_rf x) :: lv.filter (fun q => !(q.1 == i) && !(q.1 + 1 == i && q.2.category == 2)) = lv') (k : V X nL p l e R s m args below meth c Q cells slots n K F G lv' (pc + 1) st) : V X nL p l e R s m args below meth c Q cells slots n K F G lv pc (va_rf x :: st) := by
  intro H locs ls h1 h2 h3
  cases x with
  | none => exact lv_astore_nN hC.hx hC.hb hdg hi h3 hn hl (fun ls1 h4 => k H locs ls1 h1 h2 h4)
  | some x => exact lv_astore_n hC.hx hC.hb hdg hi h3 hn hl (fun ls1 h4 => k H locs ls1 h1 h2 h4)
theorem v_astoreq (hC : Cx X p s m args meth c own cc nL ret) {i : Nat} {x : Option Nat} (hdg : decode cc pc = .ok (.astore i, 2)) (hn : i < nL) (hl : (i, va_rf x) :: lv.filter (fun q => !(q.1 == i) && !(q.1 + 1 == i && q.2.category == 2)) = lv') (k : V X nL p l e R s m args below meth c Q cells slots n K F G lv' (pc + 2) st) : V X nL p l e R s m args below meth c Q cells slots n K F G lv pc (va_rf x :: st) := by
  intro H locs ls h1 h2 h3
  cases x with
  | none => exact lv_astoreN hC.hx hC.hb hdg h3 hn hl (fun ls1 h4 => k H locs ls1 h1 h2 h4)
  | some x => exact lv_astore hC.hx hC.hb hdg h3 hn hl (fun ls1 h4 => k H locs ls1 h1 h2 h4)
theorem v_deref {o : Option Nat} {q : Nat} (h : o = some q) (k : V X nL p l e R s m args below meth c Q cells slots n K F G lv pc (.ref q :: st)) : V X nL p l e R s m args below meth c Q cells slots n K F G lv pc (va_rf o :: st) := by
  subst h
  exact k
theorem v_ifnull (hC : Cx X p s m args meth c own cc nL ret) {o : Option Nat} {off : Int} {tgt : Nat} (hdg : decode cc pc = .ok (.ifnull off, 3)) (ht : (pc : Int) + off = (tgt : Int)) (kt : o = none → V X nL p l e R s m args below meth c Q cells slots n K F G lv tgt st) (kf : ¬ o = none → V X nL p l e R s m args below meth c Q cells slots n K F G lv (pc + 3) st) : V X nL p l e R s m args below meth c Q cells slots n K F G lv pc (va_rf o :: st) := by
  intro H locs ls h1 h2 h3
  cases o with
  | none => exact lv_ifnullN hC.hx hC.hb hdg ht (kt rfl H locs ls h1 h2 h3)
  | some x => exact lv_ifnull hC.hx hC.hb hdg (kf (fun h => by cases h) H locs ls h1 h2 h3)
theorem v_ifnonnull (hC : Cx X p s m args meth c own cc nL ret) {o : Option Nat} {off : Int} {tgt : Nat} (hdg : decode cc pc = .ok (.ifnonnull off, 3)) (ht : (pc : Int) + off = (tgt : Int)) (kt : ¬ o = none → V X nL p l e R s m args below meth c Q cells slots n K F G lv tgt st) (kf : o = none → V X nL p l e R s m args below meth c Q cells slots n K F G lv (pc + 3) st) : V X nL p l e R s m args below meth c Q cells slots n K F G lv pc (va_rf o :: st) := by
  intro H locs ls h1 h2 h3
  cases o with
  | none => exact lv_ifnonnullN hC.hx hC.hb hdg (kf rfl H locs ls h1 h2 h3)
  | some x => exact lv_ifnonnull hC.hx hC.hb hdg ht (kt (fun h => by cases h) H locs ls h1 h2 h3)
theorem v_iinc (hC : Cx X p s m args meth c own cc nL ret) {i : Nat} {z : Int} {x v : Int32} (hdg : decode cc pc = .ok (.iinc i z, 3)) (j : Nat) (hj : lv[j]? = some (i, .int x)) (hv : x + Int32.ofInt z = v) (hn : i < nL) (hl : (i, Value.int v) :: lv.filter (fun q => !(q.1 == i) && !(q.1 + 1 == i && q.2.category == 2)) = lv') (k : V X nL p l e R s m args below meth c Q cells slots n K F G lv' (pc + 3) st) : V X nL p l e R s m args below meth c Q cells slots n K F G lv pc st := fun H locs ls h1 h2 h3 => lv_iinc hC.hx hC.hb hdg h3 (k := j) hj hv hn hl (fun ls1 h4 => k H locs ls1 h1 h2 h4)
theorem v_iadd (hC : Cx X p s m args meth c own cc nL ret) {x y : Int32} (hdg : decode cc pc = .ok (.iadd, 1)) (k : V X nL p l e R s m args below meth c Q cells slots n K F G lv (pc + 1) (.int (x + y) :: st)) : V X nL p l e R s m args below meth c Q cells slots n K F G lv pc (.int y :: .int x :: st) := fun H locs ls h1 h2 h3 => lv_iadd hC.hx hC.hb hdg (k H locs ls h1 h2 h3)
theorem v_isub (hC : Cx X p s m args meth c own cc nL ret) {x y : Int32} (hdg : decode cc pc = .ok (.isub, 1)) (k : V X nL p l e R s m args below meth c Q cells slots n K F G lv (pc + 1) (.int (x - y) :: st)) : V X nL p l e R s m args below meth c Q cells slots n K F G lv pc (.int y :: .int x :: st) := fun H locs ls h1 h2 h3 => lv_isub hC.hx hC.hb hdg (k H locs ls h1 h2 h3)
theorem v_imul (hC : Cx X p s m args meth c own cc nL ret) {x y : Int32} (hdg : decode cc pc = .ok (.imul, 1)) (k : V X nL p l e R s m args below meth c Q cells slots n K F G lv (pc + 1) (.int (x * y) :: st)) : V X nL p l e R s m args below meth c Q cells slots n K F G lv pc (.int y :: .int x :: st) := fun H locs ls h1 h2 h3 => lv_imul hC.hx hC.hb hdg (k H locs ls h1 h2 h3)
theorem v_iand (hC : Cx X p s m args meth c own cc nL ret) {x y : Int32} (hdg : decode cc pc = .ok (.iand, 1)) (k : V X nL p l e R s m args below meth c Q cells slots n K F G lv (pc + 1) (.int (x &&& y) :: st)) : V X nL p l e R s m args below meth c Q cells slots n K F G lv pc (.int y :: .int x :: st) := fun H locs ls h1 h2 h3 => lv_iand hC.hx hC.hb hdg (k H locs ls h1 h2 h3)
theorem v_ior (hC : Cx X p s m args meth c own cc nL ret) {x y : Int32} (hdg : decode cc pc = .ok (.ior, 1)) (k : V X nL p l e R s m args below meth c Q cells slots n K F G lv (pc + 1) (.int (x ||| y) :: st)) : V X nL p l e R s m args below meth c Q cells slots n K F G lv pc (.int y :: .int x :: st) := fun H locs ls h1 h2 h3 => lv_ior hC.hx hC.hb hdg (k H locs ls h1 h2 h3)
theorem v_ixor (hC : Cx X p s m args meth c own cc nL ret) {x y : Int32} (hdg : decode cc pc = .ok (.ixor, 1)) (k : V X nL p l e R s m args below meth c Q cells slots n K F G lv (pc + 1) (.int (x ^^^ y) :: st)) : V X nL p l e R s m args below meth c Q cells slots n K F G lv pc (.int y :: .int x :: st) := fun H locs ls h1 h2 h3 => lv_ixor hC.hx hC.hb hdg (k H locs ls h1 h2 h3)
theorem v_ishl (hC : Cx X p s m args meth c own cc nL ret) {x y : Int32} (hdg : decode cc pc = .ok (.ishl, 1)) (k : V X nL p l e R s m args below meth c Q cells slots n K F G lv (pc + 1) (.int (x <<< (y &&& 31)) :: st)) : V X nL p l e R s m args below meth c Q cells slots n K F G lv pc (.int y :: .int x :: st) := fun H locs ls h1 h2 h3 => lv_ishl hC.hx hC.hb hdg (k H locs ls h1 h2 h3)
theorem v_ishr (hC : Cx X p s m args meth c own cc nL ret) {x y : Int32} (hdg : decode cc pc = .ok (.ishr, 1)) (k : V X nL p l e R s m args below meth c Q cells slots n K F G lv (pc + 1) (.int (x >>> (y &&& 31)) :: st)) : V X nL p l e R s m args below meth c Q cells slots n K F G lv pc (.int y :: .int x :: st) := fun H locs ls h1 h2 h3 => lv_ishr hC.hx hC.hb hdg (k H locs ls h1 h2 h3)
theorem v_idiv (hC : Cx X p s m args meth c own cc nL ret) {x y : Int32} (hdg : decode cc pc = .ok (.idiv, 1)) (hne : ¬ y = 0) (k : V X nL p l e R s m args below meth c Q cells slots n K F G lv (pc + 1) (.int (x / y) :: st)) : V X nL p l e R s m args below meth c Q cells slots n K F G lv pc (.int y :: .int x :: st) := fun H locs ls h1 h2 h3 => lv_idiv hC.hx hC.hb hdg hne (k H locs ls h1 h2 h3)
theorem v_irem (hC : Cx X p s m args meth c own cc nL ret) {x y : Int32} (hdg : decode cc pc = .ok (.irem, 1)) (hne : ¬ y = 0) (k : V X nL p l e R s m args below meth c Q cells slots n K F G lv (pc + 1) (.int (x - x / y * y) :: st)) : V X nL p l e R s m args below meth c Q cells slots n K F G lv pc (.int y :: .int x :: st) := fun H locs ls h1 h2 h3 => lv_irem hC.hx hC.hb hdg hne (k H locs ls h1 h2 h3)
theorem v_ineg (hC : Cx X p s m args meth c own cc nL ret) {x : Int32} (hdg : decode cc pc = .ok (.ineg, 1)) (k : V X nL p l e R s m args below meth c Q cells slots n K F G lv (pc + 1) (.int (0 - x) :: st)) : V X nL p l e R s m args below meth c Q cells slots n K F G lv pc (.int x :: st) := fun H locs ls h1 h2 h3 => lv_ineg hC.hx hC.hb hdg (k H locs ls h1 h2 h3)
theorem v_ladd (hC : Cx X p s m args meth c own cc nL ret) {x y : Int64} (hdg : decode cc pc = .ok (.ladd, 1)) (k : V X nL p l e R s m args below meth c Q cells slots n K F G lv (pc + 1) (.long (x + y) :: st)) : V X nL p l e R s m args below meth c Q cells slots n K F G lv pc (.long y :: .long x :: st) := fun H locs ls h1 h2 h3 => lv_ladd hC.hx hC.hb hdg (k H locs ls h1 h2 h3)
theorem v_lsub (hC : Cx X p s m args meth c own cc nL ret) {x y : Int64} (hdg : decode cc pc = .ok (.lsub, 1)) (k : V X nL p l e R s m args below meth c Q cells slots n K F G lv (pc + 1) (.long (x - y) :: st)) : V X nL p l e R s m args below meth c Q cells slots n K F G lv pc (.long y :: .long x :: st) := fun H locs ls h1 h2 h3 => lv_lsub hC.hx hC.hb hdg (k H locs ls h1 h2 h3)
theorem v_lmul (hC : Cx X p s m args meth c own cc nL ret) {x y : Int64} (hdg : decode cc pc = .ok (.lmul, 1)) (k : V X nL p l e R s m args below meth c Q cells slots n K F G lv (pc + 1) (.long (x * y) :: st)) : V X nL p l e R s m args below meth c Q cells slots n K F G lv pc (.long y :: .long x :: st) := fun H locs ls h1 h2 h3 => lv_lmul hC.hx hC.hb hdg (k H locs ls h1 h2 h3)
theorem v_land (hC : Cx X p s m args meth c own cc nL ret) {x y : Int64} (hdg : decode cc pc = .ok (.land, 1)) (k : V X nL p l e R s m args below meth c Q cells slots n K F G lv (pc + 1) (.long (x &&& y) :: st)) : V X nL p l e R s m args below meth c Q cells slots n K F G lv pc (.long y :: .long x :: st) := fun H locs ls h1 h2 h3 => lv_land hC.hx hC.hb hdg (k H locs ls h1 h2 h3)
theorem v_ldiv (hC : Cx X p s m args meth c own cc nL ret) {x y : Int64} (hdg : decode cc pc = .ok (.ldiv, 1)) (hne : ¬ y = 0) (k : V X nL p l e R s m args below meth c Q cells slots n K F G lv (pc + 1) (.long (x / y) :: st)) : V X nL p l e R s m args below meth c Q cells slots n K F G lv pc (.long y :: .long x :: st) := fun H locs ls h1 h2 h3 => lv_ldiv hC.hx hC.hb hdg hne (k H locs ls h1 h2 h3)
theorem v_i2l (hC : Cx X p s m args meth c own cc nL ret) {x : Int32} (hdg : decode cc pc = .ok (.i2l, 1)) (k : V X nL p l e R s m args below meth c Q cells slots n K F G lv (pc + 1) (.long x.toInt64 :: st)) : V X nL p l e R s m args below meth c Q cells slots n K F G lv pc (.int x :: st) := fun H locs ls h1 h2 h3 => lv_i2l hC.hx hC.hb hdg rfl (k H locs ls h1 h2 h3)
theorem v_l2i (hC : Cx X p s m args meth c own cc nL ret) {x : Int64} (hdg : decode cc pc = .ok (.l2i, 1)) (k : V X nL p l e R s m args below meth c Q cells slots n K F G lv (pc + 1) (.int x.toInt32 :: st)) : V X nL p l e R s m args below meth c Q cells slots n K F G lv pc (.long x :: st) := fun H locs ls h1 h2 h3 => lv_l2i hC.hx hC.hb hdg rfl (k H locs ls h1 h2 h3)
theorem v_i2d (hC : Cx X p s m args meth c own cc nL ret) {x : Int32} (hdg : decode cc pc = .ok (.i2d, 1)) (k : V X nL p l e R s m args below meth c Q cells slots n K F G lv (pc + 1) (.double (FP.i2d x) :: st)) : V X nL p l e R s m args below meth c Q cells slots n K F G lv pc (.int x :: st) := fun H locs ls h1 h2 h3 => lv_i2d hC.hx hC.hb hdg (k H locs ls h1 h2 h3)
theorem v_d2l (hC : Cx X p s m args meth c own cc nL ret) {x : UInt64} (hdg : decode cc pc = .ok (.d2l, 1)) (k : V X nL p l e R s m args below meth c Q cells slots n K F G lv (pc + 1) (.long (FP.d2l x) :: st)) : V X nL p l e R s m args below meth c Q cells slots n K F G lv pc (.double x :: st) := fun H locs ls h1 h2 h3 => lv_d2l hC.hx hC.hb hdg (k H locs ls h1 h2 h3)
theorem v_lcmp (hC : Cx X p s m args meth c own cc nL ret) {x y : Int64} (hdg : decode cc pc = .ok (.lcmp, 1)) (k : V X nL p l e R s m args below meth c Q cells slots n K F G lv (pc + 1) (.int (lg_cmp x y) :: st)) : V X nL p l e R s m args below meth c Q cells slots n K F G lv pc (.long y :: .long x :: st) := fun H locs ls h1 h2 h3 => W.lcmp hC.hx hC.hb hdg (k H locs ls h1 h2 h3)
theorem v_dup (hC : Cx X p s m args meth c own cc nL ret) {va : Value} (hdg : decode cc pc = .ok (.dup, 1)) (hva : va.category = 1) (k : V X nL p l e R s m args below meth c Q cells slots n K F G lv (pc + 1) (va :: va :: st)) : V X nL p l e R s m args below meth c Q cells slots n K F G lv pc (va :: st) := fun H locs ls h1 h2 h3 => lv_dup hC.hx hC.hb hdg hva (k H locs ls h1 h2 h3)
theorem v_pop (hC : Cx X p s m args meth c own cc nL ret) {va : Value} (hdg : decode cc pc = .ok (.pop, 1)) (hva : va.category = 1) (k : V X nL p l e R s m args below meth c Q cells slots n K F G lv (pc + 1) st) : V X nL p l e R s m args below meth c Q cells slots n K F G lv pc (va :: st) := fun H locs ls h1 h2 h3 => lv_pop hC.hx hC.hb hdg hva (k H locs ls h1 h2 h3)
theorem v_dup_x1 (hC : Cx X p s m args meth c own cc nL ret) {va vb : Value} (hdg : decode cc pc = .ok (.dup_x1, 1)) (hva : va.category = 1) (hvb : vb.category = 1) (k : V X nL p l e R s m args below meth c Q cells slots n K F G lv (pc + 1) (va :: vb :: va :: st)) : V X nL p l e R s m args below meth c Q cells slots n K F G lv pc (va :: vb :: st) := fun H locs ls h1 h2 h3 => lv_dup_x1 hC.hx hC.hb hdg hva hvb (k H locs ls h1 h2 h3)
theorem v_dup2 (hC : Cx X p s m args meth c own cc nL ret) {va vb : Value} (hdg : decode cc pc = .ok (.dup2, 1)) (hva : va.category = 1) (hvb : vb.category = 1) (k : V X nL p l e R s m args below meth c Q cells slots n K F G lv (pc + 1) (va :: vb :: va :: vb :: st)) : V X nL p l e R s m args below meth c Q cells slots n K F G lv pc (va :: vb :: st) := fun H locs ls h1 h2 h3 => lv_dup2_11 hC.hx hC.hb hdg hva hvb (k H locs ls h1 h2 h3)
theorem v_if_eq (hC : Cx X p s m args meth c own cc nL ret) {x : Int32} {off : Int} {tgt : Nat} (hdg : decode cc pc = .ok (.ifCond .eq off, 3)) (ht : (pc : Int) + off = (tgt : Int)) (kt : x = 0 → V X nL p l e R s m args below meth c Q cells slots n K F G lv tgt st) (kf : ¬ x = 0 → V X nL p l e R s m args below meth c Q cells slots n K F G lv (pc + 3) st) : V X nL p l e R s m args below meth c Q cells slots n K F G lv pc (.int x :: st) := fun H locs ls h1 h2 h3 => lv_if_eq hC.hx hC.hb hdg ht (fun q => kt q H locs ls h1 h2 h3) (fun q => kf q H locs ls h1 h2 h3)
theorem v_icmp_eq (hC : Cx X p s m args meth c own cc nL ret) {x y : Int32} {off : Int} {tgt : Nat} (hdg : decode cc pc = .ok (.if_icmp .eq off, 3)) (ht : (pc : Int) + off = (tgt : Int)) (kt : x = y → V X nL p l e R s m args below meth c Q cells slots n K F G lv tgt st) (kf : ¬ x = y → V X nL p l e R s m args below meth c Q cells slots n K F G lv (pc + 3) st) : V X nL p l e R s m args below meth c Q cells slots n K F G lv pc (.int y :: .int x :: st) := fun H locs ls h1 h2 h3 => lv_icmp_eq hC.hx hC.hb hdg ht (fun q => kt q H locs ls h1 h2 h3) (fun q => kf q H locs ls h1 h2 h3)
theorem v_if_ne (hC : Cx X p s m args meth c own cc nL ret) {x : Int32} {off : Int} {tgt : Nat} (hdg : decode cc pc = .ok (.ifCond .ne off, 3)) (ht : (pc : Int) + off = (tgt : Int)) (kt : ¬ x = 0 → V X nL p l e R s m args below meth c Q cells slots n K F G lv tgt st) (kf : x = 0 → V X nL p l e R s m args below meth c Q cells slots n K F G lv (pc + 3) st) : V X nL p l e R s m args below meth c Q cells slots n K F G lv pc (.int x :: st) := fun H locs ls h1 h2 h3 => lv_if_ne hC.hx hC.hb hdg ht (fun q => kt q H locs ls h1 h2 h3) (fun q => kf q H locs ls h1 h2 h3)
theorem v_icmp_ne (hC : Cx X p s m args meth c own cc nL ret) {x y : Int32} {off : Int} {tgt : Nat} (hdg : decode cc pc = .ok (.if_icmp .ne off, 3)) (ht : (pc : Int) + off = (tgt : Int)) (kt : ¬ x = y → V X nL p l e R s m args below meth c Q cells slots n K F G lv tgt st) (kf : x = y → V X nL p l e R s m args below meth c Q cells slots n K F G lv (pc + 3) st) : V X nL p l e R s m args below meth c Q cells slots n K F G lv pc (.int y :: .int x :: st) := fun H locs ls h1 h2 h3 => lv_icmp_ne hC.hx hC.hb hdg ht (fun q => kt q H locs ls h1 h2 h3) (fun q => kf q H locs ls h1 h2 h3)
theorem v_if_lt (hC : Cx X p s m args meth c own cc nL ret) {x : Int32} {off : Int} {tgt : Nat} (hdg : decode cc pc = .ok (.ifCond .lt off, 3)) (ht : (pc : Int) + off = (tgt : Int)) (kt : x < 0 → V X nL p l e R s m args below meth c Q cells slots n K F G lv tgt st) (kf : ¬ x < 0 → V X nL p l e R s m args below meth c Q cells slots n K F G lv (pc + 3) st) : V X nL p l e R s m args below meth c Q cells slots n K F G lv pc (.int x :: st) := fun H locs ls h1 h2 h3 => lv_if_lt hC.hx hC.hb hdg ht (fun q => kt q H locs ls h1 h2 h3) (fun q => kf q H locs ls h1 h2 h3)
theorem v_icmp_lt (hC : Cx X p s m args meth c own cc nL ret) {x y : Int32} {off : Int} {tgt : Nat} (hdg : decode cc pc = .ok (.if_icmp .lt off, 3)) (ht : (pc : Int) + off = (tgt : Int)) (kt : x < y → V X nL p l e R s m args below meth c Q cells slots n K F G lv tgt st) (kf : ¬ x < y → V X nL p l e R s m args below meth c Q cells slots n K F G lv (pc + 3) st) : V X nL p l e R s m args below meth c Q cells slots n K F G lv pc (.int y :: .int x :: st) := fun H locs ls h1 h2 h3 => lv_icmp_lt hC.hx hC.hb hdg ht (fun q => kt q H locs ls h1 h2 h3) (fun q => kf q H locs ls h1 h2 h3)
theorem v_if_ge (hC : Cx X p s m args meth c own cc nL ret) {x : Int32} {off : Int} {tgt : Nat} (hdg : decode cc pc = .ok (.ifCond .ge off, 3)) (ht : (pc : Int) + off = (tgt : Int)) (kt : 0 ≤ x → V X nL p l e R s m args below meth c Q cells slots n K F G lv tgt st) (kf : ¬ 0 ≤ x → V X nL p l e R s m args below meth c Q cells slots n K F G lv (pc + 3) st) : V X nL p l e R s m args below meth c Q cells slots n K F G lv pc (.int x :: st) := fun H locs ls h1 h2 h3 => lv_if_ge hC.hx hC.hb hdg ht (fun q => kt q H locs ls h1 h2 h3) (fun q => kf q H locs ls h1 h2 h3)
theorem v_icmp_ge (hC : Cx X p s m args meth c own cc nL ret) {x y : Int32} {off : Int} {tgt : Nat} (hdg : decode cc pc = .ok (.if_icmp .ge off, 3)) (ht : (pc : Int) + off = (tgt : Int)) (kt : y ≤ x → V X nL p l e R s m args below meth c Q cells slots n K F G lv tgt st) (kf : ¬ y ≤ x → V X nL p l e R s m args below meth c Q cells slots n K F G lv (pc + 3) st) : V X nL p l e R s m args below meth c Q cells slots n K F G lv pc (.int y :: .int x :: st) := fun H locs ls h1 h2 h3 => lv_icmp_ge hC.hx hC.hb hdg ht (fun q => kt q H locs ls h1 h2 h3) (fun q => kf q H locs ls h1 h2 h3)
theorem v_if_gt (hC : Cx X p s m args meth c own cc nL ret) {x : Int32} {off : Int} {tgt : Nat} (hdg : decode cc pc = .ok (.ifCond .gt off, 3)) (ht : (pc : Int) + off = (tgt : Int)) (kt : 0 < x → V X nL p l e R s m args below meth c Q cells slots n K F G lv tgt st) (kf : ¬ 0 < x → V X nL p l e R s m args below meth c Q cells slots n K F G lv (pc + 3) st) : V X nL p l e R s m args below meth c Q cells slots n K F G lv pc (.int x :: st) := fun H locs ls h1 h2 h3 => lv_if_gt hC.hx hC.hb hdg ht (fun q => kt q H locs ls h1 h2 h3) (fun q => kf q H locs ls h1 h2 h3)
theorem v_icmp_gt (hC : Cx X p s m args meth c own cc nL ret) {x y : Int32} {off : Int} {tgt : Nat} (hdg : decode cc pc = .ok (.if_icmp .gt off, 3)) (ht : (pc : Int) + off = (tgt : Int)) (kt : y < x → V X nL p l e R s m args below meth c Q cells slots n K F G lv tgt st) (kf : ¬ y < x → V X nL p l e R s m args below meth c Q cells slots n K F G lv (pc + 3) st) : V X nL p l e R s m args below meth c Q cells slots n K F G lv pc (.int y :: .int x :: st) := fun H locs ls h1 h2 h3 => lv_icmp_gt hC.hx hC.hb hdg ht (fun q => kt q H locs ls h1 h2 h3) (fun q => kf q H locs ls h1 h2 h3)
theorem v_if_le (hC : Cx X p s m args meth c own cc nL ret) {x : Int32} {off : Int} {tgt : Nat} (hdg : decode cc pc = .ok (.ifCond .le off, 3)) (ht : (pc : Int) + off = (tgt : Int)) (kt : x ≤ 0 → V X nL p l e R s m args below meth c Q cells slots n K F G lv tgt st) (kf : ¬ x ≤ 0 → V X nL p l e R s m args below meth c Q cells slots n K F G lv (pc + 3) st) : V X nL p l e R s m args below meth c Q cells slots n K F G lv pc (.int x :: st) := fun H locs ls h1 h2 h3 => lv_if_le hC.hx hC.hb hdg ht (fun q => kt q H locs ls h1 h2 h3) (fun q => kf q H locs ls h1 h2 h3)
theorem v_icmp_le (hC : Cx X p s m args meth c own cc nL ret) {x y : Int32} {off : Int} {tgt : Nat} (hdg : decode cc pc = .ok (.if_icmp .le off, 3)) (ht : (pc : Int) + off = (tgt : Int)) (kt : x ≤ y → V X nL p l e R s m args below meth c Q cells slots n K F G lv tgt st) (kf : ¬ x ≤ y → V X nL p l e R s m args below meth c Q cells slots n K F G lv (pc + 3) st) : V X nL p l e R s m args below meth c Q cells slots n K F G lv pc (.int y :: .int x :: st) := fun H locs ls h1 h2 h3 => lv_icmp_le hC.hx hC.hb hdg ht (fun q => kt q H locs ls h1 h2 h3) (fun q => kf q H locs ls h1 h2 h3)
theorem v_acmp_eq (hC : Cx X p s m args meth c own cc nL ret) {x y : Nat} {off : Int} {tgt : Nat} (hdg : decode cc pc = .ok (.if_acmp .eq off, 3)) (ht : (pc : Int) + off = (tgt : Int)) (kt : x = y → V X nL p l e R s m args below meth c Q cells slots n K F G lv tgt st) (kf : ¬ x = y → V X nL p l e R s m args below meth c Q cells slots n K F G lv (pc + 3) st) : V X nL p l e R s m args below meth c Q cells slots n K F G lv pc (.ref y :: .ref x :: st) := fun H locs ls h1 h2 h3 => lv_acmp_eq (rx := some x) (ry := some y) hC.hx hC.hb hdg ht (fun q => kt (Option.some.inj q) H locs ls h1 h2 h3) (fun q => kf (fun z => q (congrArg some z)) H locs ls h1 h2 h3)
theorem v_acmp_ne (hC : Cx X p s m args meth c own cc nL ret) {x y : Nat} {off : Int} {tgt : Nat} (hdg : decode cc pc = .ok (.if_acmp .ne off, 3)) (ht : (pc : Int) + off = (tgt : Int)) (kt : ¬ x = y → V X nL p l e R s m args below meth c Q cells slots n K F G lv tgt st) (kf : x = y → V X nL p l e R s m args below meth c Q cells slots n K F G lv (pc + 3) st) : V X nL p l e R s m args below meth c Q cells slots n K F G lv pc (.ref y :: .ref x :: st) := fun H locs ls h1 h2 h3 => lv_acmp_ne (rx := some x) (ry := some y) hC.hx hC.hb hdg ht (fun q => kt (fun z => q (congrArg some z)) H locs ls h1 h2 h3) (fun q => kf (Option.some.inj q) H locs ls h1 h2 h3)
theorem v_goto (hC : Cx X p s m args meth c own cc nL ret) {off : Int} {tgt : Nat} (hdg : decode cc pc = .ok (.goto off, 3)) (ht : (pc : Int) + off = (tgt : Int)) (k : V X nL p l e R s m args below meth c Q cells slots n K F G lv tgt st) : V X nL p l e R s m args below meth c Q cells slots n K F G lv pc st := fun H locs ls h1 h2 h3 => lv_goto hC.hx hC.hb hdg ht (k H locs ls h1 h2 h3)
theorem v_tabIn (hC : Cx X p s m args meth c own cc nL ret) {dflt lo hi : Int} {offs : Array Int} {len : Nat} {x : Int32} {off : Int} {tgt : Nat} (hdg : decode cc pc = .ok (.tableswitch dflt lo hi offs, len)) (hx : ¬ x.toInt < lo) (hy : ¬ hi < x.toInt) (ho : offs[(x.toInt - lo).toNat]? = some off) (ht : (pc : Int) + off = (tgt : Int)) (k : V X nL p l e R s m args below meth c Q cells slots n K F G lv tgt st) : V X nL p l e R s m args below meth c Q cells slots n K F G lv pc (.int x :: st) := fun H locs ls h1 h2 h3 => lv_tableIn hC.hx hC.hb hdg hx hy ho ht (k H locs ls h1 h2 h3)
theorem v_tabOut (hC : Cx X p s m args meth c own cc nL ret) {dflt lo hi : Int} {offs : Array Int} {len : Nat} {x : Int32} {tgt : Nat} (hdg : decode cc pc = .ok (.tableswitch dflt lo hi offs, len)) (h : x.toInt < lo ∨ hi < x.toInt) (ht : (pc : Int) + dflt = (tgt : Int)) (k : V X nL p l e R s m args below meth c Q cells slots n K F G lv tgt st) : V X nL p l e R s m args below meth c Q cells slots n K F G lv pc (.int x :: st) := fun H locs ls h1 h2 h3 => lv_tableOut hC.hx hC.hb hdg h ht (k H locs ls h1 h2 h3)
theorem v_lookup (hC : Cx X p s m args meth c own cc nL ret) {dflt : Int} {ps : Array (Int × Int)} {len : Nat} {x : Int32} {off : Int} {tgt : Nat} (hdg : decode cc pc = .ok (.lookupswitch dflt ps, len)) (hp : (ps.toList.zip (ps.toList.drop 1)).all (fun (a, next) => a.1 < next.1) = true) (ho : Op.lookupswitch.offset ps.toList dflt x.toInt = off) (ht : (pc : Int) + off = (tgt : Int)) (k : V X nL p l e R s m args below meth c Q cells slots n K F G lv tgt st) : V X nL p l e R s m args below meth c Q cells slots n K F G lv pc (.int x :: st) := fun H locs ls h1 h2 h3 => lv_lookup hC.hx hC.hb hdg hp ho ht (k H locs ls h1 h2 h3)
theorem v_sub (ks : List Nat) (hl : lv_pick lv ks = lv') (k : V X nL p l e R s m args below meth c Q cells slots n K F G lv' pc st) : V X nL p l e R s m args below meth c Q cells slots n K F G lv pc st := fun H locs ls h1 h2 h3 => k H locs ls h1 h2 (lv_sub h3 ks hl)
theorem v_widen {k2 n2 : Nat} (g1 : cells ≤ k2) (g2 : slots ≤ n2) (k : V X nL p l e R s m args below meth c Q k2 n2 n K F G lv pc st) : V X nL p l e R s m args below meth c Q cells slots n K F G lv pc st := fun H locs ls h1 h2 h3 => W.widen g1 g2 (k H locs ls h1 h2 h3)
theorem v_mmax (hC : Cx X p s m args meth c own cc nL ret) {index : Nat} (hl : Cond.methodLink own index Lib.Math.max.name ∈ Al) (hf : 1 ≤ R.frames) (hlo : 8 + 13 ≤ R.locals) (hc : cells ≤ R.cells) (hs : slots ≤ R.slots) (hst : (st.map fun v => v.category).sum ≤ 8) {x y : Int32} (hdg : decode cc pc = .ok (.invokestatic index, 3)) (k : V X nL p l e R s m args below meth c Q cells slots n K F G lv (pc + 3) (.int (if x < y then y else x) :: st)) : V X nL p l e R s m args below meth c Q cells slots n K F G lv pc (.int y :: .int x :: st) := fun H locs ls h1 h2 h3 => va_mmax hC.hx hC.hb (hC.hml.trans h3.1.symm) hC.hown (hC.hts _ hl) (hC.hts _ al_max1) (hC.hts _ al_math) (hC.hts _ al_max2) hf (by omega) hc hs hdg (k H locs ls h1 h2 h3)
theorem v_mmin (hC : Cx X p s m args meth c own cc nL ret) {index : Nat} (hl : Cond.methodLink own index Lib.Math.min.name ∈ Al) (hf : 1 ≤ R.frames) (hlo : 8 + 13 ≤ R.locals) (hc : cells ≤ R.cells) (hs : slots ≤ R.slots) (hst : (st.map fun v => v.category).sum ≤ 8) {x y : Int32} (hdg : decode cc pc = .ok (.invokestatic index, 3)) (k : V X nL p l e R s m args below meth c Q cells slots n K F G lv (pc + 3) (.int (if y < x then y else x) :: st)) : V X nL p l e R s m args below meth c Q cells slots n K F G lv pc (.int y :: .int x :: st) := fun H locs ls h1 h2 h3 => va_mmin hC.hx hC.hb (hC.hml.trans h3.1.symm) hC.hown (hC.hts _ hl) (hC.hts _ al_min1) (hC.hts _ al_math) (hC.hts _ al_min2) hf (by omega) hc hs hdg (k H locs ls h1 h2 h3)
theorem v_get (hC : Cx X p s m args meth c own cc nL ret) {ref C : String} {T : u_T} {N ci k index a : Nat} {fs : List Value} {v : Value} (ha : (K a).1 ≠ 0) (he : ce X K F G a = .inr (ci, fs)) (hc : cls[ci]? = some (C, T, N)) (hin : ∀ w ∈ u_ws C T N, w ∈ Al) (hk : k < N) (hlink : Cond.fieldLink own index ref (T k).2.1 (T k).2.2.1 ∈ Al) (hsame : ∀ x, s.fieldFound? (T k).1 (T k).2.1 (T k).2.2.1 = some x → s.fieldFound? ref (T k).2.1 (T k).2.2.1 = some x) (hv : fs[k]? = some v) (hdg : decode cc pc = .ok (.getfield index, 3))
    (kk : V X nL p l e R s m args below meth c Q cells slots n K F G lv (pc + 3) (v :: st)) : V X nL p l e R s m args below meth c Q cells slots n K F G lv pc (.ref a :: st) := fun H locs ls h1 h2 h3 =>
  va_get hC.hx hC.hb hC.hts hin hC.hown hC.hK (h1.one ha (nz_inr he) he) 0 rfl hc k hk (hC.hts _ hlink) hsame hv hdg (kk H locs ls h1 h2 h3)
theorem v_put (hC : Cx X p s m args meth c own cc nL ret) {ref C : String} {T : u_T} {N ci k index a : Nat} {fs : List Value} {v : Value} {K' : Kt} {F' : Ft} {G' : Gt} (ha : (K a).1 ≠ 0) (hb : K a ≠ (21, 0)) (he : ce X K F G a = .inr (ci, fs)) (hc : cls[ci]? = some (C, T, N)) (hin : ∀ w ∈ u_ws C T N, w ∈ Al) (ty0 : Nat → FieldType) (hty : ∀ k, k < N → parseFieldDescriptor (T k).2.2.1 = some (ty0 k)) (hnm : ∀ a, a < N → ∀ b, b < N → a ≠ b → (T a).2.1 ≠ (T b).2.1) (hk : k < N) (hlink : Cond.fieldLink own index ref (T k).2.1 (T k).2.2.1 ∈ Al) (hsame : ∀ x, s.fieldFound? (T k).1 (T k).2.1 (T k).2.2.1 = some x → s.fieldFound? ref (T k).2.1 (T k).2.2.1 = some x) (hfin : (T k).2.2.2 = false) {ty : FieldType} (hd : parseFieldDescriptor (T k).2.2.1 = some ty) (hn : narrow ty v = v) (hfit : fits ty v = true) (hl : k < fs.length) (hK' : ∀ x, x ≠ a → K' x = K x ∧ F' x = F x ∧ G' x = G x) (he' : ce X K' F' G' a = .inr (ci, fs.set k v)) (hdg : decode cc pc = .ok (.putfield index, 3))
    (kk : V X nL p l e R s m args below meth c Q cells slots n K' F' G' lv (pc + 3) st) : V X nL p l e R s m args below meth c Q cells slots n K F G lv pc (v :: .ref a :: st) := by
  intro H locs ls h1 h2 h3
  obtain ⟨r, e1, cell, q1, q2, q3, q4⟩ := h1.one ha hb he 0 _ rfl
  have hr : r = (C, T, N) := Option.some.inj (e1.symm.trans hc)
  subst hr
  have hap := va_apart (own := own) hC.hts hin ty0 hty hnm hC.hK hc
  obtain ⟨hS, hfc, kC, hkC, hkind⟩ := hC.hK.1 ci _ hc
  obtain ⟨cf, kf, fi, f, hi, hsl⟩ := hS k hk
  have hlay := hC.hts _ (hin _ (u_in_lay hk))
  unfold u_lay at hlay
  rw [if_neg (by rw [hfin]; decide)] at hlay
  have hst := (u_facts hfc hkC (u_lays hC.hts hin hk) hi).1
  have h6 := u_store hfc hkC hkind hlay hi hd hn hfit
  refine W.putK hC.hx hC.hb (f := f) ⟨hC.hown, hC.hts _ hlink, ⟨_, _, _, hsame _ hi⟩, hst⟩ (by rw [q2]; exact h6) q1 q3 (by rw [hsl]; exact k2_hasslot (q4 k hk)) rfl rfl hdg fun H' z1 z2 z3 => ?_
  rw [hsl] at z1 ⊢
  have hba := h1.base ha hb
  exact kk H' _ ls (h1.put hba z2 z3 hK' he' ⟨_, hc, t_OB.to (V := updV (vp_V fs) k v) ⟨_, z1, q2, q3, t_set q4 hap hk v⟩ (fun j _ => vp_updV_set hl v j)⟩) (h2.put z2 z3 hba) h3
theorem v_putF (hC : Cx X p s m args meth c own cc nL ret) {ref C : String} {T : u_T} {N ci k index a : Nat} {fs : List Value} {v : Value} {K' : Kt} {F' : Ft} {G' : Gt} (ha : (K a).1 ≠ 0) (hb : K a ≠ (21, 0)) (he : ce X K F G a = .inr (ci, fs)) (hc : cls[ci]? = some (C, T, N)) (hin : ∀ w ∈ u_ws C T N, w ∈ Al) (ty0 : Nat → FieldType) (hty : ∀ k, k < N → parseFieldDescriptor (T k).2.2.1 = some (ty0 k)) (hnm : ∀ a, a < N → ∀ b, b < N → a ≠ b → (T a).2.1 ≠ (T b).2.1) (hk : k < N) (hlink : Cond.fieldLink own index ref (T k).2.1 (T k).2.2.1 ∈ Al) (hsame : ∀ x, s.fieldFound? (T k).1 (T k).2.1 (T k).2.2.1 = some x → s.fieldFound? ref (T k).2.1 (T k).2.2.1 = some x) (hfin : (T k).2.2.2 = true) (hin2 : meth.name = "<init>") (hdecl : (T k).1 = own) {ty : FieldType} (hd : parseFieldDescriptor (T k).2.2.1 = some ty) (hn : narrow ty v = v) (hfit : fits ty v = true) (hl : k < fs.length) (hK' : ∀ x, x ≠ a → K' x = K x ∧ F' x = F x ∧ G' x = G x) (he' : ce X K' F' G' a = .inr (ci, fs.set k v)) (hdg : decode cc pc = .ok (.putfield index, 3))
    (kk : V X nL p l e R s m args below meth c Q cells slots n K' F' G' lv (pc + 3) st) : V X nL p l e R s m args below meth c Q cells slots n K F G lv pc (v :: .ref a :: st) := by
  intro H locs ls h1 h2 h3
  obtain ⟨r, e1, cell, q1, q2, q3, q4⟩ := h1.one ha hb he 0 _ rfl
  have hr : r = (C, T, N) := Option.some.inj (e1.symm.trans hc)
  subst hr
  have hap := va_apart (own := own) hC.hts hin ty0 hty hnm hC.hK hc
  obtain ⟨hS, hfc, kC, hkC, hkind⟩ := hC.hK.1 ci _ hc
  obtain ⟨cf, kf, fi, f, hi, hsl⟩ := hS k hk
  have hlay := hC.hts _ (hin _ (u_in_lay hk))
  unfold u_lay at hlay
  rw [if_pos hfin] at hlay
  have hst := (u_facts hfc hkC (u_lays hC.hts hin hk) hi).1
  have hcf : m.cls = cf := by
    obtain ⟨_, _, c', _, _, _, -, -, hf', -, -, -, hown2, -⟩ := Cond.laysFinal_spec hlay
    have e1 : c' = cf := by have := hi.symm.trans hf'; simp at this; exact this.1.symm
    rw [hdecl] at hown2
    rw [← e1]; exact Option.some.inj (hC.hown.symm.trans hown2)
  have h6 := u_fits hfc hkC hkind (Or.inr hlay) hi hd hn hfit
  refine W.putFinK hC.hx hC.hb hC.hown (hC.hts _ hlink) (hsame _ hi) hst hcf hin2 (by rw [q2]; exact h6) q1 q3 (by rw [hsl]; exact k2_hasslot (q4 k hk)) rfl rfl hdg fun H' z1 z2 z3 => ?_
  rw [hsl] at z1 ⊢
  have hba := h1.base ha hb
  exact kk H' _ ls (h1.put hba z2 z3 hK' he' ⟨_, hc, t_OB.to (V := updV (vp_V fs) k v) ⟨_, z1, q2, q3, t_set q4 hap hk v⟩ (fun j _ => vp_updV_set hl v j)⟩) (h2.put z2 z3 hba) h3
theorem va_S.grow {A : Nat → Prop} {H0 H H1 : Heap} {locs : List Loc} {n : Nat} (h : va_S A H0 H locs) (hn : H.size = n) (z : n ≤ H1.size) (oq : ∀ q : Nat, q < n → H1[q]? = H[q]?) : va_S A H0 H1 locs := by
  subst hn
  exact ⟨Nat.le_trans h.1 z, fun x g1 g2 => (oq x (Nat.lt_of_lt_of_le g1 h.1)).trans (h.2.1 x g1 g2), h.2.2⟩
theorem v_new (hC : Cx X p s m args meth c own cc nL ret) {C : String} {T : u_T} {N ci index : Nat} {fs : List Value} {K' : Kt} {F' : Ft} {G' : Gt} (hin : ∀ w ∈ u_ws C T N, w ∈ Al) (ty : Nat → FieldType) (hty : ∀ k, k < N → parseFieldDescriptor (T k).2.2.1 = some (ty k)) (hcl : Cond.classLink own index C ∈ Al) (hinst : Cond.instantiable C N ∈ Al) (hini : Cond.initialized C ∈ Al) (hc : cls[ci]? = some (C, T, N)) (hfs : ∀ j, j < N → defaultValue (ty j) = vp_V fs j) (hcells : cells + 1 ≤ R.cells) (hslots : slots + N ≤ R.slots) (hK' : ∀ x, x ≠ n → K' x = K x ∧ F' x = F x ∧ G' x = G x) (he' : ce X K' F' G' n = .inr (ci, fs)) (hdg : decode cc pc = .ok (.new index, 3))
    (kk : V X nL p l e R s m args below meth c Q (cells + 1) (slots + N) (n + 1) K' F' G' lv (pc + 3) (.ref n :: st)) : V X nL p l e R s m args below meth c Q cells slots n K F G lv pc st := by
  intro H locs ls h1 h2 h3
  have hKn := hC.hK.1 ci _ hc
  refine W.newcK hC.hx hC.hb hC.hown (hC.hts _ hcl) (hC.hts _ hinst) (hC.hts _ hini) rfl hdg hcells hslots hKn.2.1 h1.1 fun H1 kC hkC e1 z1 o1 => ?_
  exact kk H1 locs ls (h1.push z1 o1 hK' he' ⟨_, hc, (u_born ty hC.hts hin hKn hkC e1 hty).to hfs⟩) (h2.grow h1.1 (by omega) o1) h3
theorem v_newarr (hC : Cx X p s m args meth c own cc nL ret) {atype : ArrayType} {ty : FieldType} {z : Int32} {N t0 : Nat} {cA0 : ClassId} {a0 : vp_A} {K' : Kt} {F' : Ft} {G' : Gt} (harr : Cond.arrayClass (newarray.typeOf atype) ∈ Al) (hty : newarray.typeOf atype = ty) (ht : (tys X)[t0]? = some (cA0, ty)) (hra : va_RA s cA0 ty → s.vm.findClass ("[" ++ ty.toString) = some cA0) (ha : vp_cell cA0 a0 = arrV cA0 N (fun _ => defaultValue ty)) (hn : ¬ z < 0) (hN : z.toNatClampNeg = N) (hbytes : N * componentBytes ty ≤ 536870912) (hcells : cells + 1 ≤ R.cells) (hslots : slots + N ≤ R.slots) (hK' : ∀ x, x ≠ n → K' x = K x ∧ F' x = F x ∧ G' x = G x) (he' : ce X K' F' G' n = .inl (cA0, a0)) (hdg : decode cc pc = .ok (.newarray atype, 2))
    (kk : V X nL p l e R s m args below meth c Q (cells + 1) (slots + N) (n + 1) K' F' G' lv (pc + 2) (.ref n :: st)) : V X nL p l e R s m args below meth c Q cells slots n K F G lv pc (.int z :: st) := by
  intro H locs ls h1 h2 h3
  subst hty
  refine va_newaK hC.hx hC.hb (hC.hts _ harr) rfl hdg rfl hn hN hbytes hcells hslots h1.1 fun H1 cA e1 z1 o1 hAr hNm => ?_
  have hca : cA = cA0 := Option.some.inj (hNm.symm.trans (hra (hC.hK.2 t0 _ ht).2))
  subst hca
  exact kk H1 locs ls (h1.push z1 o1 hK' he' (show H1[n]? = some (vp_cell _ _) by rw [ha]; exact e1)) (h2.grow h1.1 (by omega) o1) h3
theorem v_anewO (hC : Cx X p s m args meth c own cc nL ret) {index : Nat} {z : Int32} {N : Nat} {K' : Kt} {F' : Ft} {G' : Gt} (hcl : Cond.classLink own index "java/lang/Object" ∈ Al)  (hn : ¬ z < 0) (hN : z.toNatClampNeg = N) (hbytes : N * 4 ≤ 536870912) (hcells : cells + 1 ≤ R.cells) (hslots : slots + N ≤ R.slots) (hK' : ∀ x, x ≠ n → K' x = K x ∧ F' x = F x ∧ G' x = G x) (he' : ce X K' F' G' n = .inl (xO X, N, .inr (.inr (.inr (.inr (fun _ => none)))))) (hdg : decode cc pc = .ok (.anewarray index, 3))
    (kk : V X nL p l e R s m args below meth c Q (cells + 1) (slots + N) (n + 1) K' F' G' lv (pc + 3) (.ref n :: st)) : V X nL p l e R s m args below meth c Q cells slots n K F G lv pc (.int z :: st) := by
  intro H locs ls h1 h2 h3
  subst hN
  refine W.anew hC.hx hC.hb hC.hown (hC.hts _ hcl) (hC.nw _ nw_1042) rfl hdg rfl hn hbytes hcells hslots fun cA kA comp f1 f2 f3 f4 => ?_
  generalize hH1 : H.push ({ cls := cA, slots := Array.replicate z.toNatClampNeg .null, vm := .none } : Cell) = H1
  have z1 : H1.size = n + 1 := by rw [← hH1, Array.size_push, h1.1]
  have e1 : H1[n]? = some (arrV cA z.toNatClampNeg (fun _ => .null)) := by rw [← hH1, ← h1.1, Array.getElem?_push_size, ← arrV_new]
  have o1 : ∀ q : Nat, q < n → H1[q]? = H[q]? := fun q hq => by rw [← hH1, Array.getElem?_push, if_neg (by rw [h1.1]; exact Nat.ne_of_lt hq)]
  obtain ⟨kA', comp', g1, g2, g3, g4⟩ := (hC.hK.2 1 _ rfl).2
  have hca : cA = xO X := Option.some.inj (f1.symm.trans g4)
  subst hca
  rw [h1.1]
  exact kk H1 locs ls (h1.push z1 o1 hK' he' (show H1[n]? = some (vp_cell _ _) by rw [vp_cell_q]; exact e1)) (h2.grow h1.1 (by omega) o1) h3
theorem v_iald (hC : Cx X p s m args meth c own cc nL ret) {a N : Nat} {i : Int32} (ha : K a = (20, N)) (hin : vp_in i N) (hdg : decode cc pc = .ok (.iaload, 1)) (kk : V X nL p l e R s m args below meth c Q cells slots n K F G lv (pc + 1) (.int (F a i.toNatClampNeg) :: st)) : V X nL p l e R s m args below meth c Q cells slots n K F G lv pc (.int i :: .ref a :: st) := fun H locs ls h1 h2 h3 =>
  va_iald hC.hx hC.hb hC.hK (h1.one (fun q => by rw [ha] at q; cases q) (fun q => by rw [ha] at q; cases q) ((ce_20 (by rw [ha])).trans (by rw [ha]))) 0 0 rfl rfl hin hdg (kk H locs ls h1 h2 h3)
theorem v_bald (hC : Cx X p s m args meth c own cc nL ret) {a N : Nat} {i : Int32} (ha : K a = (22, N)) (hin : vp_in i N) (hdg : decode cc pc = .ok (.baload, 1)) (kk : V X nL p l e R s m args below meth c Q cells slots n K F G lv (pc + 1) (.int (F a i.toNatClampNeg) :: st)) : V X nL p l e R s m args below meth c Q cells slots n K F G lv pc (.int i :: .ref a :: st) := fun H locs ls h1 h2 h3 =>
  va_bald hC.hx hC.hb hC.hK (h1.one (fun q => by rw [ha] at q; cases q) (fun q => by rw [ha] at q; cases q) ((ce_22 (by rw [ha])).trans (by rw [ha]))) 0 2 rfl rfl hin hdg (kk H locs ls h1 h2 h3)
theorem v_zald (hC : Cx X p s m args meth c own cc nL ret) {a N : Nat} {i : Int32} (ha : K a = (23, N)) (hin : vp_in i N) (hdg : decode cc pc = .ok (.baload, 1)) (kk : V X nL p l e R s m args below meth c Q cells slots n K F G lv (pc + 1) (.int (F a i.toNatClampNeg) :: st)) : V X nL p l e R s m args below meth c Q cells slots n K F G lv pc (.int i :: .ref a :: st) := fun H locs ls h1 h2 h3 =>
  va_zald hC.hx hC.hb hC.hK (h1.one (fun q => by rw [ha] at q; cases q) (fun q => by rw [ha] at q; cases q) ((ce_23 (by rw [ha])).trans (by rw [ha]))) 0 3 rfl rfl hin hdg (kk H locs ls h1 h2 h3)
theorem v_aald (hC : Cx X p s m args meth c own cc nL ret) {a N : Nat} {i : Int32} (ha : K a = (21, N)) (hin : vp_in i N) (hdg : decode cc pc = .ok (.aaload, 1)) (kk : V X nL p l e R s m args below meth c Q cells slots n K F G lv (pc + 1) (va_rf (G a i.toNatClampNeg) :: st)) : V X nL p l e R s m args below meth c Q cells slots n K F G lv pc (.int i :: .ref a :: st) := fun H locs ls h1 h2 h3 =>
  va_aldq hC.hx hC.hb hC.hK (h1.one (fun q => by rw [ha] at q; cases q) (fun q => by rw [ha] at q; cases q; exact hin (Or.inr (Nat.zero_le _))) ((ce_21 (by rw [ha])).trans (by rw [ha]))) 0 1 rfl rfl hin hdg (kk H locs ls h1 h2 h3)
theorem v_alen_20 (hC : Cx X p s m args meth c own cc nL ret) {a N : Nat} (ha : K a = (20, N)) (hdg : decode cc pc = .ok (.arraylength, 1)) (kk : V X nL p l e R s m args below meth c Q cells slots n K F G lv (pc + 1) (.int (nI N) :: st)) : V X nL p l e R s m args below meth c Q cells slots n K F G lv pc (.ref a :: st) := fun H locs ls h1 h2 h3 =>
  va_alen hC.hx hC.hb hC.hK (h1.one (fun q => by rw [ha] at q; cases q) (fun q => by rw [ha] at q; cases q) ((ce_20 (by rw [ha])).trans (by rw [ha]))) 0 0 (x := (N, .inl (F a))) rfl rfl rfl hdg (kk H locs ls h1 h2 h3)
theorem v_alen_22 (hC : Cx X p s m args meth c own cc nL ret) {a N : Nat} (ha : K a = (22, N)) (hdg : decode cc pc = .ok (.arraylength, 1)) (kk : V X nL p l e R s m args below meth c Q cells slots n K F G lv (pc + 1) (.int (nI N) :: st)) : V X nL p l e R s m args below meth c Q cells slots n K F G lv pc (.ref a :: st) := fun H locs ls h1 h2 h3 =>
  va_alen hC.hx hC.hb hC.hK (h1.one (fun q => by rw [ha] at q; cases q) (fun q => by rw [ha] at q; cases q) ((ce_22 (by rw [ha])).trans (by rw [ha]))) 0 2 (x := (N, .inl (F a))) rfl rfl rfl hdg (kk H locs ls h1 h2 h3)
theorem v_alen_23 (hC : Cx X p s m args meth c own cc nL ret) {a N : Nat} (ha : K a = (23, N)) (hdg : decode cc pc = .ok (.arraylength, 1)) (kk : V X nL p l e R s m args below meth c Q cells slots n K F G lv (pc + 1) (.int (nI N) :: st)) : V X nL p l e R s m args below meth c Q cells slots n K F G lv pc (.ref a :: st) := fun H locs ls h1 h2 h3 =>
  va_alen hC.hx hC.hb hC.hK (h1.one (fun q => by rw [ha] at q; cases q) (fun q => by rw [ha] at q; cases q) ((ce_23 (by rw [ha])).trans (by rw [ha]))) 0 3 (x := (N, .inl (F a))) rfl rfl rfl hdg (kk H locs ls h1 h2 h3)
theorem v_alen_21 (hC : Cx X p s m args meth c own cc nL ret) {a N : Nat} (ha : K a = (21, N)) (hdg : decode cc pc = .ok (.arraylength, 1)) (kk : V X nL p l e R s m args below meth c Q cells slots n K F G lv (pc + 1) (.int (nI N) :: st)) : V X nL p l e R s m args below meth c Q cells slots n K F G lv pc (.ref a :: st) := fun H locs ls h1 h2 h3 => by
  by_cases hN : N = 0
  · subst hN
    obtain ⟨cell, g1, g2, g3, g4, g5⟩ := (h1.2.2.1 a (fun q => by rw [ha] at q; cases q)).2 ha
    obtain ⟨-, k0, hk0, hkk0⟩ := (hC.hK.2 1 (xO X, .object "java/lang/Object") rfl).1 0 (fun _ => .null)
    exact W.alen (n := nI 0) (ty := .object "java/lang/Object") hC.hx hC.hb g1 ⟨fun k w => by rw [w] at g4; exact absurd (show true = false from g4) (by decide), k0, by rw [g2]; exact hk0, hkk0⟩ (by rw [g5]; rfl) rfl rfl hdg (kk H locs ls h1 h2 h3)
  · exact va_alen hC.hx hC.hb hC.hK (h1.one (fun q => by rw [ha] at q; cases q) (fun q => by rw [ha] at q; cases q; exact hN rfl) ((ce_21 (by rw [ha])).trans (by rw [ha]))) 0 1 (x := (N, .inr (.inr (.inr (.inr (G a)))))) rfl rfl rfl hdg (kk H locs ls h1 h2 h3)
theorem v_iast (hC : Cx X p s m args meth c own cc nL ret) {a N : Nat} {i x : Int32} (ha : K a = (20, N)) (hin : vp_in i N) (hdg : decode cc pc = .ok (.iastore, 1)) (kk : V X nL p l e R s m args below meth c Q cells slots n K (up2 F a i.toNatClampNeg x) G lv (pc + 1) st) : V X nL p l e R s m args below meth c Q cells slots n K F G lv pc (.int x :: .int i :: .ref a :: st) := by
  intro H locs ls h1 h2 h3
  have hcell := h1.one (fun q => by rw [ha] at q; cases q) (fun q => by rw [ha] at q; cases q) ((ce_20 (X := X) (F := F) (G := G) (by rw [ha])).trans (by rw [ha])) 0 _ rfl
  have hba := h1.base (a := a) (fun q => by rw [ha] at q; cases q) (by rw [ha]; intro q; cases q)
  refine W.iast hC.hx hC.hb hcell ((hC.hK.2 0 _ rfl).1 N (fun j => .int (F a j))) (fun q => by cases q) (by show ¬ (i < 0 ∨ (arrV _ _ _).slots.size ≤ _); rw [arrV_size]; exact hin) rfl rfl hdg fun H1 e1 z oq => ?_
  refine kk H1 _ ls (h1.put hba z oq (fun y hy => ⟨rfl, up2_a _ _ hy, rfl⟩) ((ce_20 (by rw [ha])).trans (by rw [ha])) ?_) (h2.put z oq hba) h3
  show H1[a]? = some (vp_cell _ _)
  rw [e1]
  rw [vp_cell_i, vp_cell_i, arrV_store]
  congr 2
  funext q
  by_cases hq : q = i.toNatClampNeg
  · subst hq
    simp [updV, up2_eq, vp_nar]
    try rfl
  · simp [updV, hq, up2_k _ _ hq]
theorem v_bast (hC : Cx X p s m args meth c own cc nL ret) {a N : Nat} {i x : Int32} (ha : K a = (22, N)) (hin : vp_in i N) (hdg : decode cc pc = .ok (.bastore, 1)) (kk : V X nL p l e R s m args below meth c Q cells slots n K (up2 F a i.toNatClampNeg (vp_nar .byte x)) G lv (pc + 1) st) : V X nL p l e R s m args below meth c Q cells slots n K F G lv pc (.int x :: .int i :: .ref a :: st) := by
  intro H locs ls h1 h2 h3
  have hcell := h1.one (fun q => by rw [ha] at q; cases q) (fun q => by rw [ha] at q; cases q) ((ce_22 (X := X) (F := F) (G := G) (by rw [ha])).trans (by rw [ha])) 0 _ rfl
  have hba := h1.base (a := a) (fun q => by rw [ha] at q; cases q) (by rw [ha]; intro q; cases q)
  refine W.bast hC.hx hC.hb hcell ((hC.hK.2 2 _ rfl).1 N (fun j => .int (F a j))) (fun q => by cases q) (by show ¬ (i < 0 ∨ (arrV _ _ _).slots.size ≤ _); rw [arrV_size]; exact hin) rfl rfl hdg fun H1 e1 z oq => ?_
  refine kk H1 _ ls (h1.put hba z oq (fun y hy => ⟨rfl, up2_a _ _ hy, rfl⟩) ((ce_22 (by rw [ha])).trans (by rw [ha])) ?_) (h2.put z oq hba) h3
  show H1[a]? = some (vp_cell _ _)
  rw [e1]
  rw [vp_cell_i, vp_cell_i, arrV_store]
  congr 2
  funext q
  by_cases hq : q = i.toNatClampNeg
  · subst hq
    simp [updV, up2_eq, vp_nar]
    try rfl
  · simp [updV, hq, up2_k _ _ hq]
theorem v_zast (hC : Cx X p s m args meth c own cc nL ret) {a N : Nat} {i x : Int32} (ha : K a = (23, N)) (hin : vp_in i N) (hdg : decode cc pc = .ok (.bastore, 1)) (kk : V X nL p l e R s m args below meth c Q cells slots n K (up2 F a i.toNatClampNeg (vp_nar .boolean x)) G lv (pc + 1) st) : V X nL p l e R s m args below meth c Q cells slots n K F G lv pc (.int x :: .int i :: .ref a :: st) := by
  intro H locs ls h1 h2 h3
  have hcell := h1.one (fun q => by rw [ha] at q; cases q) (fun q => by rw [ha] at q; cases q) ((ce_23 (X := X) (F := F) (G := G) (by rw [ha])).trans (by rw [ha])) 0 _ rfl
  have hba := h1.base (a := a) (fun q => by rw [ha] at q; cases q) (by rw [ha]; intro q; cases q)
  refine W.zast hC.hx hC.hb hcell ((hC.hK.2 3 _ rfl).1 N (fun j => .int (F a j))) (fun q => by cases q) (by show ¬ (i < 0 ∨ (arrV _ _ _).slots.size ≤ _); rw [arrV_size]; exact hin) rfl rfl hdg fun H1 e1 z oq => ?_
  refine kk H1 _ ls (h1.put hba z oq (fun y hy => ⟨rfl, up2_a _ _ hy, rfl⟩) ((ce_23 (by rw [ha])).trans (by rw [ha])) ?_) (h2.put z oq hba) h3
  show H1[a]? = some (vp_cell _ _)
  rw [e1]
  rw [vp_cell_i, vp_cell_i, arrV_store]
  congr 2
  funext q
  by_cases hq : q = i.toNatClampNeg
  · subst hq
    simp [updV, up2_eq, vp_nar]
    try rfl
  · simp [updV, hq, up2_k _ _ hq]
theorem v_aastO (hC : Cx X p s m args meth c own cc nL ret) {a v N ci : Nat} {r : vw_C} {fs : List Value} {i : Int32} (ha : K a = (21, N)) (hv : (K v).1 ≠ 0) (he : ce X K F G v = .inr (ci, fs)) (hc : cls[ci]? = some r) (hca : Cond.castable r.1 "java/lang/Object" ∈ Nwl) (hin : vp_in i N) (hdg : decode cc pc = .ok (.aastore, 1)) (kk : V X nL p l e R s m args below meth c Q cells slots n K F (up2 G a i.toNatClampNeg (some v)) lv (pc + 1) st) : V X nL p l e R s m args below meth c Q cells slots n K F G lv pc (.ref v :: .int i :: .ref a :: st) := by
  intro H locs ls h1 h2 h3
  have hlt : i.toNatClampNeg < N := Nat.not_le.mp fun q => hin (Or.inr q)
  have h0 : ¬ i < 0 := fun q => hin (Or.inl q)
  have hcell := h1.one (fun q => by rw [ha] at q; cases q) (fun q => by rw [ha] at q; cases q; exact hin (Or.inr (Nat.zero_le _))) ((ce_21 (X := X) (F := F) (G := G) (by rw [ha])).trans (by rw [ha])) 0 _ rfl
  have hba := h1.base (a := a) (fun q => by rw [ha] at q; cases q) (by rw [ha]; intro q; cases q; omega)
  obtain ⟨r', hr', cellV, g1, g2, g3, -⟩ := h1.one hv (nz_inr he) he 0 _ rfl
  have hcls := (hC.hK.1 ci r hc).2
  obtain ⟨kA, comp, k1, k2, k3, -⟩ := (hC.hK.2 1 _ rfl).2
  obtain ⟨kE, hkE, -⟩ := Vm.findClass_spec k3
  obtain ⟨c0, t1, f1, f2, f3⟩ := Cond.castable_spec (hC.nw _ hca)
  cases hcls.1.symm.trans f1
  cases k3.symm.trans f2
  obtain ⟨kC, hkC, -⟩ := hcls.2
  refine W.aast hC.hx hC.hb hcell (fun q h => by cases h) (fun h => by cases h) k1 k2 rfl hkE ⟨h0, by show _ < (arrV _ _ _).slots.size; rw [arrV_size]; exact hlt⟩ g1 (fun q h => by rw [g3] at h; cases h) (by rw [g2]; exact hkC) (by rw [g2]; exact f3) rfl rfl hdg fun H1 e1 z oq => ?_
  refine kk H1 _ ls (h1.put hba z oq (fun y hy => ⟨rfl, rfl, up2_a _ _ hy⟩) ((ce_21 (by rw [ha])).trans (by rw [ha])) ?_) (h2.put z oq hba) h3
  show H1[a]? = some (vp_cell _ _)
  rw [e1]
  rw [vp_cell_q, vp_cell_q, arrV_store]
  congr 2
  funext q
  by_cases hq : q = i.toNatClampNeg
  · subst hq
    simp [updV, up2_eq, va_rf]
  · simp [updV, hq, up2_k _ _ hq]
theorem v_cast (hC : Cx X p s m args meth c own cc nL ret) {a ci index : Nat} {r : vw_C} {fs : List Value} (ha : (K a).1 ≠ 0) (he : ce X K F G a = .inr (ci, fs)) (hc : cls[ci]? = some r) (hlink : Cond.classLink own index r.1 ∈ Al) (hdg : decode cc pc = .ok (.checkcast index, 3)) (kk : V X nL p l e R s m args below meth c Q cells slots n K F G lv (pc + 3) (.ref a :: st)) : V X nL p l e R s m args below meth c Q cells slots n K F G lv pc (.ref a :: st) := fun H locs ls h1 h2 h3 =>
  va_castS hC.hx hC.hb hC.hown (hC.hts _ hlink) (hC.hK.1 ci r hc).2 (va_recv hC.hK (h1.one ha (nz_inr he) he) hc (q0 := 0) rfl) hdg (kk H locs ls h1 h2 h3)
theorem v_objInit (hC : Cx X p s m args meth c own cc nL ret) {index a : Nat} (h0 : Cond.methodLink own index objectInit ∈ Al) (hf : 1 ≤ R.frames) (hlo : 8 + 13 ≤ R.locals) (hst : (st.map fun v => v.category).sum ≤ 8) (hdg : decode cc pc = .ok (.invokespecial index, 3)) (kk : V X nL p l e R s m args below meth c Q cells slots n K F G lv (pc + 3) st) : V X nL p l e R s m args below meth c Q cells slots n K F G lv pc (.ref a :: st) := fun H locs ls h1 h2 h3 =>
  W.objInit hC.hx hC.hb hC.hown (hC.hts _ h0) (hC.hts _ al_obj1) (hC.hts _ al_obj2) rfl (by rw [hC.hml]; exact h3.1) rfl hdg hf (by show 2 * 0 + _ + _ ≤ _; omega) (kk H locs ls h1 h2 h3)
theorem v_after {a : Array Value} {mc ms c2 s2 : Nat} {o : Option Value} {n' : Nat} {K' : Kt} {F' : Ft} {G' : Gt} {st0 : List Value} {H : Heap} {locs : List Loc} {ls : Array Slot} (hb0 : Bs X H.size) (hr : va_Run p l e R s m args below meth c H locs cells slots mc ms (F0 m pc ls st0) st (QW X o n' K' F' G' a) (Aft X)) (h2 : va_S (Aft X) s.heap H locs) (h3 : lv_has ls nL lv) (hc : cells + mc ≤ c2) (hs : slots + ms ≤ s2)
    (kk : V X nL p l e R s m args below meth c Q c2 s2 n' K' F' G' lv (pc + 3) (o.toList ++ st)) : W p l e R s m args below meth c H locs cells slots Q (F0 m pc ls st0) := by
  intro T hT Y
  obtain ⟨v, st₀, t, T', L, h0, X', hL, e1, e2, ⟨hv, hW, hz, hk⟩, stp⟩ := hr T hT Y
  cases hv
  rw [h0] at hz hk
  have hS : va_S (Aft X) s.heap T'.heap (locs ++ L) := ⟨Nat.le_trans h2.1 (by rw [e1]; exact hz), fun q g1 g2 => by rw [e1, hk q (Nat.lt_of_lt_of_le g1 h2.1) g2]; exact h2.2.1 q g1 g2, fun q hq => by
      rcases List.mem_append.mp hq with h | h
      · exact h2.2.2 q h
      · exact hL q h⟩
  obtain ⟨t2, a1, b1⟩ := W.widen hc hs (kk T'.heap (locs ++ L) ls (by rw [e1]; exact hW.1) hS h3) T' rfl X'
  exact ⟨t2, stp t2 a1, b1⟩
/-- the words that a call by name needs -/
def qV (own : String) (index : Nat) (C : String) (y : MethodName) (bytes : ByteArray) (maxL : Nat) (ret1 : Option FieldType) : Prop := Cond.methodLink own index y ∈ Al ∧ Cond.instanceMethod y ∈ Al ∧ Cond.selects C y y ∈ Al ∧ Cond.initialized C ∈ Al ∧ Cond.code y bytes maxL ret1 ∈ Al
def qS (own : String) (index : Nat) (y : MethodName) (bytes : ByteArray) (maxL : Nat) (ret1 : Option FieldType) : Prop := Cond.methodLink own index y ∈ Al ∧ Cond.static y ∈ Al ∧ Cond.initialized y.cls ∈ Al ∧ Cond.code y bytes maxL ret1 ∈ Al
def qI (own : String) (index : Nat) (y : MethodName) (bytes : ByteArray) (maxL : Nat) : Prop := Cond.methodLink own index y ∈ Al ∧ Cond.instanceMethod y ∈ Al ∧ Cond.initialized y.cls ∈ Al ∧ Cond.code y bytes maxL none ∈ Al
def qN (own : String) (index : Nat) (y : MethodName) (host : String) (bytes : ByteArray) (maxL : Nat) : Prop := Cond.methodLinkNest own index y host ∈ Nwl ∧ Cond.instanceMethod y ∈ Al ∧ Cond.initialized y.cls ∈ Al ∧ Cond.code y bytes maxL none ∈ Al
theorem qV.good {own : String} {index : Nat} {C : String} {y : MethodName} {bytes : ByteArray} {maxL : Nat} {ret1 : Option FieldType} (h : qV own index C y bytes maxL ret1) : GoodIn Al (wsV own index C y (wl y bytes maxL ret1)) := by
  obtain ⟨a1, a2, a3, a4, a5⟩ := h
  intro w hw
  unfold wsV at hw
  rcases List.mem_append.mp hw with h | h
  · simp only [List.mem_cons, List.not_mem_nil, or_false] at h
    rcases h with rfl | rfl | rfl | rfl
    · exact ⟨a1, al_good a1⟩
    · exact ⟨a2, al_good a2⟩
    · exact ⟨a3, al_good a3⟩
    · exact ⟨a4, al_good a4⟩
  · exact al_goodIn a5 w h
theorem qS.good {own : String} {index : Nat} {y : MethodName} {bytes : ByteArray} {maxL : Nat} {ret1 : Option FieldType} (h : qS own index y bytes maxL ret1) : GoodIn Al (va_wsS own index y (wl y bytes maxL ret1)) := by
  obtain ⟨a1, a2, a3, a4⟩ := h
  intro w hw
  unfold va_wsS at hw
  rcases List.mem_append.mp hw with h | h
  · simp only [List.mem_cons, List.not_mem_nil, or_false] at h
    rcases h with rfl | rfl | rfl
    · exact ⟨a1, al_good a1⟩
    · exact ⟨a2, al_good a2⟩
    · exact ⟨a3, al_good a3⟩
  · exact al_goodIn a4 w h
theorem Hd.recv {H : Heap} {a ci : Nat} {q : vw_C} {fs : List Value} (hK : KX X s) (h1 : Hd X n K F G H) (ha : (K a).1 ≠ 0) (he : ce X K F G a = .inr (ci, fs)) (hc : cls[ci]? = some q) : ∃ cell : Cell, H[a]? = some cell ∧ cell.vm.isStatics = false ∧ s.vm.findClass q.1 = some cell.cls := va_recv hK (h1.one ha (nz_inr he) he) hc (q0 := 0) rfl
theorem Wd.blind {As : List Value} : FrameBlind (va_Pc As (Wd X n K F G)) := fun _ _ _ _ q => ⟨q.1, q.2.calling⟩
theorem v_callV (hC : Cx X p s m args meth c own cc nL ret) {y : MethodName} {bytes : ByteArray} {maxL fr lo mc ms index c2 s2 : Nat} {ret1 : Option FieldType} {As : List Value} {o : Option Value} {n' : Nat} {K' : Kt} {F' : Ft} {G' : Gt} {a ci nn : Nat} {q : vw_C} {fs : List Value} (hM : Mw X l y bytes maxL ret1 fr lo mc ms (.ref a :: As) n K F G o n' K' F' G') (hq : qV own index q.1 y bytes maxL ret1) (ha : (K a).1 ≠ 0) (he : ce X K F G a = .inr (ci, fs)) (hc : cls[ci]? = some q) (hd : y.cls = q.1 ∧ y.cls ≠ "java/lang/invoke/MethodHandle" ∧ y.cls ≠ "java/lang/invoke/VarHandle" ∧ (parseMethodDescriptor y.desc).map (fun d => d.parameters.length) = some nn) (hnn : As.length = nn) {st0 : List Value} (hst0 : st0 = As.reverse ++ .ref a :: st) (hrf : fr + 1 ≤ R.frames) (hrl : 8 + (maxL + 11) + lo ≤ R.locals) (hrc : cells + mc ≤ R.cells) (hrs : slots + ms ≤ R.slots) (hc2 : cells + mc ≤ c2) (hs2 : slots + ms ≤ s2) (hst : (st.map fun v => v.category).sum ≤ 8) (hdg : decode cc pc = .ok (.invokevirtual index, 3))
    (kk : V X nL p l e R s m args below meth c Q c2 s2 n' K' F' G' lv (pc + 3) (o.toList ++ st)) : V X nL p l e R s m args below meth c Q cells slots n K F G lv pc st0 := by
  intro H locs ls h1 h2 h3
  refine v_after (hC.hbs.le h2.1) (va_runV (As := As) (rest := st) hC.fix hM (cwV nn hC.hts hq.good rfl rfl rfl hd ⟨hrf, hrl⟩) ⟨Wd.blind, h1.recv hC.hK ha he hc, fun U hU hW => ⟨rfl, Wd.of hC h1 h2 hU hW⟩⟩ rfl hnn h3.1 hst0 (lv_room hst) hdg ⟨hrc, hrs⟩) h2 h3 hc2 hs2 kk
theorem v_callS (hC : Cx X p s m args meth c own cc nL ret) {y : MethodName} {bytes : ByteArray} {maxL fr lo mc ms index c2 s2 : Nat} {ret1 : Option FieldType} {As : List Value} {o : Option Value} {n' : Nat} {K' : Kt} {F' : Ft} {G' : Gt} {nn : Nat} (hM : Mw X l y bytes maxL ret1 fr lo mc ms As n K F G o n' K' F' G') (hq : qS own index y bytes maxL ret1) (hd : y.cls ≠ "java/lang/invoke/MethodHandle" ∧ y.cls ≠ "java/lang/invoke/VarHandle" ∧ (parseMethodDescriptor y.desc).map (fun d => d.parameters.length) = some nn) (hnn : As.length = nn) {st0 : List Value} (hst0 : st0 = As.reverse ++ st) (hrf : fr + 1 ≤ R.frames) (hrl : 8 + (maxL + 11) + lo ≤ R.locals) (hrc : cells + mc ≤ R.cells) (hrs : slots + ms ≤ R.slots) (hc2 : cells + mc ≤ c2) (hs2 : slots + ms ≤ s2) (hst : (st.map fun v => v.category).sum ≤ 8) (hdg : decode cc pc = .ok (.invokestatic index, 3))
    (kk : V X nL p l e R s m args below meth c Q c2 s2 n' K' F' G' lv (pc + 3) (o.toList ++ st)) : V X nL p l e R s m args below meth c Q cells slots n K F G lv pc st0 := by
  intro H locs ls h1 h2 h3
  refine v_after (hC.hbs.le h2.1) (va_runS (As := As) (rest := st) hC.fix hM (va_cwS nn hC.hts hq.good rfl rfl rfl hd ⟨hrf, hrl⟩) ⟨Wd.blind, fun U hU hW => ⟨rfl, Wd.of hC h1 h2 hU hW⟩⟩ rfl hnn h3.1 hst0 (lv_room hst) hdg ⟨hrc, hrs⟩) h2 h3 hc2 hs2 kk
theorem v_callI (hC : Cx X p s m args meth c own cc nL ret) {y : MethodName} {bytes : ByteArray} {maxL fr lo mc ms index c2 s2 : Nat} {As : List Value} {o : Option Value} {n' : Nat} {K' : Kt} {F' : Ft} {G' : Gt} {a nn : Nat} (hM : Mw X l y bytes maxL none fr lo mc ms (.ref a :: As) n K F G o n' K' F' G') (hq : qI own index y bytes maxL) (hy1 : y.name = "<init>") (hd : y.cls ≠ "java/lang/invoke/MethodHandle" ∧ y.cls ≠ "java/lang/invoke/VarHandle" ∧ (parseMethodDescriptor y.desc).map (fun d => d.parameters.length) = some nn) (hnn : As.length = nn) {st0 : List Value} (hst0 : st0 = As.reverse ++ .ref a :: st) (hrf : fr + 1 ≤ R.frames) (hrl : 8 + (maxL + 11) + lo ≤ R.locals) (hrc : cells + mc ≤ R.cells) (hrs : slots + ms ≤ R.slots) (hc2 : cells + mc ≤ c2) (hs2 : slots + ms ≤ s2) (hst : (st.map fun v => v.category).sum ≤ 8) (hdg : decode cc pc = .ok (.invokespecial index, 3))
    (kk : V X nL p l e R s m args below meth c Q c2 s2 n' K' F' G' lv (pc + 3) (o.toList ++ st)) : V X nL p l e R s m args below meth c Q cells slots n K F G lv pc st0 := by
  intro H locs ls h1 h2 h3
  refine v_after (hC.hbs.le h2.1) (va_runI (As := As) (rest := st) hC.fix hM (cwI nn hC.hts (al_goodIn hq.2.2.2) rfl rfl rfl (hC.hts _ hq.2.2.1) (hC.hts _ hq.1) (hC.hts _ hq.2.1) hy1 hd ⟨hrf, hrl⟩) ⟨Wd.blind, fun U hU hW => ⟨rfl, Wd.of hC h1 h2 hU hW⟩⟩ rfl hnn h3.1 hst0 (lv_room hst) hdg ⟨hrc, hrs⟩) h2 h3 hc2 hs2 kk
theorem v_callIN (hC : Cx X p s m args meth c own cc nL ret) {y : MethodName} {bytes : ByteArray} {maxL fr lo mc ms index c2 s2 : Nat} {As : List Value} {o : Option Value} {n' : Nat} {K' : Kt} {F' : Ft} {G' : Gt} {a nn : Nat} {host : String} (hM : Mw X l y bytes maxL none fr lo mc ms (.ref a :: As) n K F G o n' K' F' G') (hq : qN own index y host bytes maxL) (hy1 : y.name = "<init>") (hd : y.cls ≠ "java/lang/invoke/MethodHandle" ∧ y.cls ≠ "java/lang/invoke/VarHandle" ∧ (parseMethodDescriptor y.desc).map (fun d => d.parameters.length) = some nn) (hnn : As.length = nn) {st0 : List Value} (hst0 : st0 = As.reverse ++ .ref a :: st) (hrf : fr + 1 ≤ R.frames) (hrl : 8 + (maxL + 11) + lo ≤ R.locals) (hrc : cells + mc ≤ R.cells) (hrs : slots + ms ≤ R.slots) (hc2 : cells + mc ≤ c2) (hs2 : slots + ms ≤ s2) (hst : (st.map fun v => v.category).sum ≤ 8) (hdg : decode cc pc = .ok (.invokespecial index, 3))
    (kk : V X nL p l e R s m args below meth c Q c2 s2 n' K' F' G' lv (pc + 3) (o.toList ++ st)) : V X nL p l e R s m args below meth c Q cells slots n K F G lv pc st0 := by
  intro H locs ls h1 h2 h3
  refine v_after (hC.hbs.le h2.1) (va_runIN (As := As) (rest := st) hC.fix hM ⟨va_cnB nn hC.hts (al_goodIn hq.2.2.2) rfl rfl rfl (hC.hZ.1 _ hq.1) (hC.hts _ hq.2.2.1) hd ⟨hrf, hrl⟩, hy1, hC.hts _ hq.2.1⟩ ⟨Wd.blind, fun U hU hW => ⟨rfl, Wd.of hC h1 h2 hU hW⟩⟩ rfl hnn h3.1 hst0 (lv_room hst) hdg ⟨hrc, hrs⟩) h2 h3 hc2 hs2 kk
theorem v_iret (hC : Cx X p s m args meth c own cc nL ret) {o : Option Value} {n' : Nat} {K' : Kt} {F' : Ft} {G' : Gt} {v : Int32} (hr : ret = some .int) (hQ : Q = MQ below (QW X o n' K' F' G') args s cells slots (Aft X)) (hdg : decode cc pc = .ok (.ireturn, 1)) (ho : some (.int v) = o) (hn : n = n') (hK : K = K') (hF : F = F') (hG : G = G') : V X nL p l e R s m args below meth c Q cells slots n K F G lv pc [.int v] := by
  subst hQ ho hn hK hF hG
  intro H locs ls h1 h2 h3
  exact W.iret hC.hx hC.hb (hC.hr.trans hr) (fun t ht hW => ⟨rfl, Wd.of hC h1 h2 ht hW, h2.F ht⟩) h2.2.2 hdg (hlocks := hC.hlk)
theorem v_zret (hC : Cx X p s m args meth c own cc nL ret) {o : Option Value} {n' : Nat} {K' : Kt} {F' : Ft} {G' : Gt} {v : Int32} {ty : FieldType} (hr : ret = some ty) (hnw : narrow ty (.int v) = .int v) (hQ : Q = MQ below (QW X o n' K' F' G') args s cells slots (Aft X)) (hdg : decode cc pc = .ok (.ireturn, 1)) (ho : some (.int v) = o) (hn : n = n') (hK : K = K') (hF : F = F') (hG : G = G') : V X nL p l e R s m args below meth c Q cells slots n K F G lv pc [.int v] := by
  subst hQ ho hn hK hF hG
  intro H locs ls h1 h2 h3
  exact W.zret hC.hx hC.hb (hC.hr.trans hr) hnw (fun t ht hW => ⟨rfl, Wd.of hC h1 h2 ht hW, h2.F ht⟩) h2.2.2 hdg (hlocks := hC.hlk)
theorem v_lret (hC : Cx X p s m args meth c own cc nL ret) {o : Option Value} {n' : Nat} {K' : Kt} {F' : Ft} {G' : Gt} {v : Int64} (hr : ret = some .long) (hQ : Q = MQ below (QW X o n' K' F' G') args s cells slots (Aft X)) (hdg : decode cc pc = .ok (.lreturn, 1)) (ho : some (.long v) = o) (hn : n = n') (hK : K = K') (hF : F = F') (hG : G = G') : V X nL p l e R s m args below meth c Q cells slots n K F G lv pc [.long v] := by
  subst hQ ho hn hK hF hG
  intro H locs ls h1 h2 h3
  exact W.lret hC.hx hC.hb (hC.hr.trans hr) (fun t ht hW => ⟨rfl, Wd.of hC h1 h2 ht hW, h2.F ht⟩) h2.2.2 hdg (hlocks := hC.hlk)
theorem v_dret (hC : Cx X p s m args meth c own cc nL ret) {o : Option Value} {n' : Nat} {K' : Kt} {F' : Ft} {G' : Gt} {v : UInt64} (hr : ret = some .double) (hQ : Q = MQ below (QW X o n' K' F' G') args s cells slots (Aft X)) (hdg : decode cc pc = .ok (.dreturn, 1)) (ho : some (.double v) = o) (hn : n = n') (hK : K = K') (hF : F = F') (hG : G = G') : V X nL p l e R s m args below meth c Q cells slots n K F G lv pc [.double v] := by
  subst hQ ho hn hK hF hG
  intro H locs ls h1 h2 h3
  exact W.dret hC.hx hC.hb (hC.hr.trans hr) (fun t ht hW => ⟨rfl, Wd.of hC h1 h2 ht hW, h2.F ht⟩) h2.2.2 hdg (hlocks := hC.hlk)
theorem v_vret (hC : Cx X p s m args meth c own cc nL ret) {o : Option Value} {n' : Nat} {K' : Kt} {F' : Ft} {G' : Gt} (hr : ret = none) (hQ : Q = MQ below (QW X o n' K' F' G') args s cells slots (Aft X)) (hdg : decode cc pc = .ok (.return_, 1)) (ho : none = o) (hn : n = n') (hK : K = K') (hF : F = F') (hG : G = G') : V X nL p l e R s m args below meth c Q cells slots n K F G lv pc [] := by
  subst hQ ho hn hK hF hG
  intro H locs ls h1 h2 h3
  exact W.vret hC.hx hC.hb (hC.hr.trans hr) (fun t ht hW => ⟨rfl, Wd.of hC h1 h2 ht hW, h2.F ht⟩) h2.2.2 hdg (hlocks := hC.hlk)
theorem v_aret (hC : Cx X p s m args meth c own cc nL ret) {o : Option Value} {n' : Nat} {K' : Kt} {F' : Ft} {G' : Gt} {v : Nat} {rt : FieldType} (hr : ret = some rt) (hrt : (∃ n, rt = .object n) ∨ ∃ t, rt = .array t) (hQ : Q = MQ below (QW X o n' K' F' G') args s cells slots (Aft X)) (hdg : decode cc pc = .ok (.areturn, 1)) (ho : some (.ref v) = o) (hn : n = n') (hK : K = K') (hF : F = F') (hG : G = G') : V X nL p l e R s m args below meth c Q cells slots n K F G lv pc [.ref v] := by
  subst hQ ho hn hK hF hG
  intro H locs ls h1 h2 h3
  exact W.aret hC.hx hC.hb (hC.hr.trans hr) hrt (Or.inr ⟨_, rfl⟩) (fun t ht hW => ⟨rfl, Wd.of hC h1 h2 ht hW, h2.F ht⟩) h2.2.2 hdg (hlocks := hC.hlk)
theorem v_aretq (hC : Cx X p s m args meth c own cc nL ret) {o : Option Value} {n' : Nat} {K' : Kt} {F' : Ft} {G' : Gt} {v : Option Nat} {rt : FieldType} (hr : ret = some rt) (hrt : (∃ n, rt = .object n) ∨ ∃ t, rt = .array t) (hQ : Q = MQ below (QW X o n' K' F' G') args s cells slots (Aft X)) (hdg : decode cc pc = .ok (.areturn, 1)) (ho : some (va_rf v) = o) (hn : n = n') (hK : K = K') (hF : F = F') (hG : G = G') : V X nL p l e R s m args below meth c Q cells slots n K F G lv pc [va_rf v] := by
  subst hQ ho hn hK hF hG
  intro H locs ls h1 h2 h3
  exact W.aret hC.hx hC.hb (hC.hr.trans hr) hrt (by cases v with | none => exact Or.inl rfl | some x => exact Or.inr ⟨x, rfl⟩) (fun t ht hW => ⟨rfl, Wd.of hC h1 h2 ht hW, h2.F ht⟩) h2.2.2 hdg (hlocks := hC.hlk)
end PB3
section PQW
theorem q_X0_11 : qN RX0 11 yX1_init "Exportcover" cX1_init 1 := ⟨nw_1092, aw_894, aw_59, aw_895⟩
theorem q_X0_32 : qV RX0 32 RX0 yX0_isBroke cX0_isBroke 1 (some .boolean) := ⟨aw_221, aw_222, aw_223, aw_74, aw_224⟩
theorem q_X0_36 : qV RX0 36 RX5 yX5_isTroubled cX5_isTroubled 1 (some .boolean) := ⟨aw_225, aw_226, aw_227, aw_65, aw_228⟩
theorem q_X2_31 : qV RX2 31 RX2 yX2_partOf cX2_partOf 2 (some .int) := ⟨aw_249, aw_250, aw_251, aw_77, aw_252⟩
theorem q_X2_35 : qV RX2 35 RX2 yX2_dueOf cX2_dueOf 2 (some .int) := ⟨aw_253, aw_255, aw_3, aw_77, aw_257⟩
theorem q_X2_38 : qV RX2 38 RX2 yX2_hadBy cX2_hadBy 2 (some .int) := ⟨aw_390, aw_391, aw_392, aw_77, aw_393⟩
theorem q_X3_22 : qS RX3 22 yJ9_min_7cf53 cJ9_min_7cf53 2 (some .int) := ⟨aw_270, aw_234, aw_67, aw_235⟩
theorem q_X4_9 : qN RX4 9 yX1_init "Exportcover" cX1_init 1 := ⟨nw_1056, aw_894, aw_59, aw_895⟩
theorem q_X5_30 : qS RX5 30 yJ9_min_7cf53 cJ9_min_7cf53 2 (some .int) := ⟨aw_233, aw_234, aw_67, aw_235⟩
theorem q_X5_36 : qV RX5 36 RX5 yX5_trouble cX5_trouble 1 (some .int) := ⟨aw_229, aw_230, aw_231, aw_65, aw_232⟩
theorem q_X5_43 : qV RX5 43 RX5 yX5_noticeOn cX5_noticeOn 3 (some .int) := ⟨aw_431, aw_424, aw_425, aw_65, aw_426⟩
theorem q_X7_59 : qV RX7 59 RX7 yX7_isOpen cX7_isOpen 1 (some .boolean) := ⟨aw_418, aw_419, aw_420, aw_76, aw_421⟩
theorem q_X7_63 : qS RX7 63 yJ9_min_7cf53 cJ9_min_7cf53 2 (some .int) := ⟨aw_422, aw_234, aw_67, aw_235⟩
theorem q_X7_69 : qV RX7 69 RX7 yX7_causeOnceDue cX7_causeOnceDue 4 (some .int) := ⟨aw_325, aw_326, aw_327, aw_76, aw_328⟩
theorem q_X7_79 : qV RX7 79 RX5 yX5_trouble cX5_trouble 1 (some .int) := ⟨aw_329, aw_230, aw_231, aw_65, aw_232⟩
theorem q_X7_84 : qV RX7 84 RX0 yX0_isBroke cX0_isBroke 1 (some .boolean) := ⟨aw_330, aw_222, aw_223, aw_74, aw_224⟩
theorem q_X7_93 : qV RX7 93 RX7 yX7_waiting cX7_waiting 1 (some .int) := ⟨aw_521, aw_522, aw_523, aw_76, aw_524⟩
theorem q_X7_98 : qI RX7 98 yX3_init cX3_init 4 := ⟨aw_1391, aw_1392, aw_78, aw_1393⟩
theorem q_X7_104 : qV RX7 104 RX7 yX7_isDamageSound cX7_isDamageSound 2 (some .boolean) := ⟨aw_381, aw_383, aw_19, aw_76, aw_385⟩
theorem q_X7_110 : qV RX7 110 RX2 yX2_isSplitSound cX2_isSplitSound 2 (some .boolean) := ⟨aw_386, aw_387, aw_388, aw_77, aw_389⟩
theorem q_X8_9 : qI RX8 9 yJx4a65c_init_da8c8 cJx4a65c_init_da8c8 1 := ⟨aw_867, aw_868, aw_58, aw_869⟩
theorem q_X8_30 : qN RX8 30 yX1_init "Exportcover" cX1_init 1 := ⟨nw_893, aw_894, aw_59, aw_895⟩
theorem q_X8_44 : qS RX8 44 yX8_isWithin cX8_isWithin 3 (some .boolean) := ⟨aw_92, aw_93, aw_55, aw_94⟩
theorem q_X8_48 : qS RX8 48 yX8_demandArgument cX8_demandArgument 1 none := ⟨aw_95, aw_96, aw_55, aw_97⟩
theorem q_X8_52 : qV RX8 52 RJx4a65c yJx4a65c_isEmpty_aae02 cJx4a65c_isEmpty_aae02 1 (some .boolean) := ⟨aw_949, aw_950, aw_951, aw_58, aw_952⟩
theorem q_X8_56 : qS RX8 56 yX8_demandState cX8_demandState 1 none := ⟨aw_170, aw_171, aw_55, aw_172⟩
theorem q_X8_59 : qS RX8 59 yX8_nextInRow cX8_nextInRow 1 (some .int) := ⟨aw_953, aw_954, aw_55, aw_955⟩
theorem q_X8_63 : qV RX8 63 RX8 yX8_addLand cX8_addLand 4 (some (.object "Exportcover$Land")) := ⟨aw_956, aw_958, aw_35, aw_55, aw_959⟩
theorem q_X8_67 : qV RX8 67 RX8 yX8_addExporter cX8_addExporter 2 (some (.object "Exportcover$Exporter")) := ⟨aw_1046, aw_1048, aw_39, aw_55, aw_1049⟩
theorem q_X8_71 : qV RX8 71 RX8 yX8_landAt cX8_landAt 2 (some (.object "Exportcover$Land")) := ⟨aw_1077, aw_1079, aw_40, aw_55, aw_1080⟩
theorem q_X8_75 : qV RX8 75 RX8 yX8_addBuyer cX8_addBuyer 4 (some (.object "Exportcover$Buyer")) := ⟨aw_1082, aw_1084, aw_41, aw_55, aw_1085⟩
theorem q_X8_84 : qV RX8 84 RX1 yX1_giveTo cX1_giveTo 3 none := ⟨aw_241, aw_242, aw_243, aw_59, aw_244⟩
theorem q_X8_89 : qV RX8 89 RJx4a65c yJx4a65c_size_8abf5 cJx4a65c_size_8abf5 1 (some .int) := ⟨aw_194, aw_195, aw_196, aw_58, aw_197⟩
theorem q_X8_116 : qV RX8 116 RX8 yX8_since cX8_since 3 (some .int) := ⟨aw_1423, aw_1425, aw_53, aw_55, aw_1426⟩
theorem q_X8_124 : qV RX8 124 RX8 yX8_buyerAt cX8_buyerAt 2 (some (.object "Exportcover$Buyer")) := ⟨aw_1133, aw_1135, aw_42, aw_55, aw_1136⟩
theorem q_X8_132 : qV RX8 132 RX0 yX0_isBroke cX0_isBroke 1 (some .boolean) := ⟨aw_1287, aw_222, aw_223, aw_74, aw_224⟩
theorem q_X8_141 : qV RX8 141 RX8 yX8_exporterAt cX8_exporterAt 2 (some (.object "Exportcover$Exporter")) := ⟨aw_1143, aw_1145, aw_43, aw_55, aw_1146⟩
theorem q_X8_154 : qV RX8 154 RX5 yX5_noticeOn cX5_noticeOn 3 (some .int) := ⟨aw_423, aw_424, aw_425, aw_65, aw_426⟩
theorem q_X8_163 : qS RX8 163 yX8_demandRival cX8_demandRival 1 none := ⟨aw_1148, aw_1149, aw_55, aw_1150⟩
theorem q_X8_169 : qI RX8 169 yX6_init cX6_init 6 := ⟨aw_1153, aw_1154, aw_75, aw_1155⟩
theorem q_X8_172 : qV RX8 172 RJx4a65c yJx4a65c_add_9ea2d cJx4a65c_add_9ea2d 2 (some .boolean) := ⟨aw_997, aw_998, aw_999, aw_58, aw_1000⟩
theorem q_X8_177 : qV RX8 177 RX8 yX8_policyAt cX8_policyAt 2 (some (.object "Exportcover$Policy")) := ⟨aw_275, aw_277, aw_6, aw_55, aw_278⟩
theorem q_X8_185 : qS RX8 185 yJ9_min_7cf53 cJ9_min_7cf53 2 (some .int) := ⟨aw_236, aw_234, aw_67, aw_235⟩
theorem q_X8_191 : qV RX8 191 RX6 yX6_grant cX6_grant 3 none := ⟨aw_1188, aw_1189, aw_1190, aw_75, aw_1191⟩
theorem q_X8_195 : qV RX8 195 RX6 yX6_grantedFor cX6_grantedFor 2 (some .int) := ⟨aw_468, aw_469, aw_470, aw_75, aw_471⟩
theorem q_X8_198 : qS RX8 198 yX8_demandGoods cX8_demandGoods 2 none := ⟨aw_1202, aw_1203, aw_55, aw_1204⟩
theorem q_X8_203 : qI RX8 203 yX7_init cX7_init 7 := ⟨aw_1205, aw_1206, aw_76, aw_1207⟩
theorem q_X8_210 : qV RX8 210 RX5 yX5_rateOn cX5_rateOn 7 (some .int) := ⟨aw_1274, aw_1275, aw_1276, aw_65, aw_1277⟩
theorem q_X8_213 : qV RX8 213 RX8 yX8_reasonOf cX8_reasonOf 8 (some .int) := ⟨aw_1278, aw_1280, aw_44, aw_55, aw_1281⟩
theorem q_X8_217 : qV RX8 217 RX8 yX8_insuredOf cX8_insuredOf 5 (some .int) := ⟨aw_1305, aw_1307, aw_49, aw_55, aw_1308⟩
theorem q_X8_220 : qV RX8 220 RX7 yX7_keepTerms cX7_keepTerms 5 none := ⟨aw_1309, aw_1310, aw_1311, aw_76, aw_1312⟩
theorem q_X8_231 : qV RX8 231 RX8 yX8_takePremium cX8_takePremium 4 none := ⟨aw_1313, aw_1315, aw_50, aw_55, aw_1316⟩
theorem q_X8_235 : qV RX8 235 RX0 yX0_canPay cX0_canPay 1 (some .boolean) := ⟨aw_217, aw_218, aw_219, aw_74, aw_220⟩
theorem q_X8_238 : qV RX8 238 RX8 yX8_firstToPay cX8_firstToPay 5 (some (.object "Exportcover$Shipment")) := ⟨aw_1321, aw_1323, aw_51, aw_55, aw_1324⟩
theorem q_X8_245 : qV RX8 245 RX8 yX8_settle cX8_settle 10 none := ⟨aw_237, aw_239, aw_2, aw_55, aw_240⟩
theorem q_X8_249 : qV RX8 249 RX8 yX8_shipmentAt cX8_shipmentAt 2 (some (.object "Exportcover$Shipment")) := ⟨aw_312, aw_314, aw_10, aw_55, aw_315⟩
theorem q_X8_259 : qV RX8 259 RX7 yX7_causeOn cX7_causeOn 2 (some .int) := ⟨aw_321, aw_322, aw_323, aw_76, aw_324⟩
theorem q_X8_262 : qV RX8 262 RX7 yX7_isOpen cX7_isOpen 1 (some .boolean) := ⟨aw_1333, aw_419, aw_420, aw_76, aw_421⟩
theorem q_X8_271 : qV RX8 271 RX7 yX7_claimableFrom cX7_claimableFrom 1 (some .int) := ⟨aw_517, aw_518, aw_519, aw_76, aw_520⟩
theorem q_X8_286 : qI RX8 286 yX2_init cX2_init 4 := ⟨aw_1343, aw_1344, aw_77, aw_1345⟩
theorem q_X8_296 : qV RX8 296 RX8 yX8_chestOfRival cX8_chestOfRival 2 (some (.object "Exportcover$Chest")) := ⟨aw_258, aw_260, aw_4, aw_55, aw_261⟩
theorem q_X8_306 : qV RX8 306 RJx4a65c yJx4a65c_get_915e3 cJx4a65c_get_915e3 2 (some (.object "java/lang/Object")) := ⟨aw_198, aw_199, aw_200, aw_58, aw_201⟩
theorem q_X8_314 : qV RX8 314 RX7 yX7_isToPay cX7_isToPay 1 (some .boolean) := ⟨aw_213, aw_214, aw_215, aw_76, aw_216⟩
theorem q_X8_317 : qV RX8 317 RX7 yX7_putOff cX7_putOff 4 none := ⟨aw_1385, aw_1386, aw_1387, aw_76, aw_1388⟩
theorem q_X8_323 : qV RX8 323 RX8 yX8_payBack cX8_payBack 4 none := ⟨aw_1415, aw_1417, aw_52, aw_55, aw_1418⟩
theorem q_X8_326 : qV RX8 326 RX8 yX8_payWhatIsDue cX8_payWhatIsDue 4 none := ⟨aw_189, aw_191, aw_1, aw_55, aw_193⟩
theorem q_X8_329 : qV RX8 329 RX8 yX8_payWhatIsPutOff cX8_payWhatIsPutOff 5 none := ⟨aw_262, aw_264, aw_5, aw_55, aw_265⟩
theorem q_X8_339 : qV RX8 339 RX8 yX8_figureOfBuyer cX8_figureOfBuyer 3 (some .int) := ⟨aw_436, aw_438, aw_24, aw_55, aw_439⟩
theorem q_X8_343 : qV RX8 343 RX8 yX8_figureOfExporter cX8_figureOfExporter 3 (some .int) := ⟨aw_448, aw_450, aw_27, aw_55, aw_451⟩
theorem q_X8_347 : qV RX8 347 RX8 yX8_figureOfPolicy cX8_figureOfPolicy 3 (some .int) := ⟨aw_296, aw_298, aw_7, aw_55, aw_299⟩
theorem q_X8_355 : qV RX8 355 RX8 yX8_figureOfShipment cX8_figureOfShipment 5 (some .int) := ⟨aw_317, aw_319, aw_11, aw_55, aw_320⟩
theorem q_X8_359 : qS RX8 359 yX8_figureOfPart cX8_figureOfPart 4 (some .int) := ⟨aw_512, aw_513, aw_55, aw_514⟩
theorem q_X8_363 : qV RX8 363 RX8 yX8_figureOfBooks cX8_figureOfBooks 2 (some .int) := ⟨aw_339, aw_341, aw_12, aw_55, aw_342⟩
theorem q_X8_377 : qV RX8 377 RX8 yX8_isInCircle cX8_isInCircle 2 (some .boolean) := ⟨aw_460, aw_462, aw_30, aw_55, aw_463⟩
theorem q_X8_381 : qV RX8 381 RX5 yX5_chanceToFail cX5_chanceToFail 1 (some .double) := ⟨aw_831, aw_832, aw_833, aw_65, aw_834⟩
theorem q_X8_385 : qV RX8 385 RX8 yX8_riskIn cX8_riskIn 5 (some .int) := ⟨aw_410, aw_412, aw_22, aw_55, aw_413⟩
theorem q_X8_389 : qS RX8 389 yX8_sumOfSet cX8_sumOfSet 4 (some .int) := ⟨aw_840, aw_841, aw_55, aw_842⟩
theorem q_X8_393 : qV RX8 393 RX8 yX8_chanceOfSet cX8_chanceOfSet 7 (some .double) := ⟨aw_843, aw_845, aw_34, aw_55, aw_846⟩
theorem q_X8_397 : qV RX8 397 RX8 yX8_areChestsSound cX8_areChestsSound 4 (some .boolean) := ⟨aw_372, aw_374, aw_18, aw_55, aw_375⟩
theorem q_X8_400 : qV RX8 400 RX8 yX8_balance cX8_balance 1 (some .int) := ⟨aw_343, aw_345, aw_13, aw_55, aw_346⟩
theorem q_X8_403 : qV RX8 403 RX7 yX7_isSoundAlone cX7_isSoundAlone 1 (some .boolean) := ⟨aw_377, aw_378, aw_379, aw_76, aw_380⟩
theorem q_X8_410 : qV RX8 410 RX8 yX8_digestOfLands cX8_digestOfLands 8 (some .long) := ⟨aw_400, aw_402, aw_20, aw_55, aw_403⟩
theorem q_X8_414 : qV RX8 414 RX8 yX8_digestOfBuyers cX8_digestOfBuyers 8 (some .long) := ⟨aw_432, aw_434, aw_23, aw_55, aw_435⟩
theorem q_X8_417 : qV RX8 417 RX8 yX8_digestOfExporters cX8_digestOfExporters 8 (some .long) := ⟨aw_444, aw_446, aw_26, aw_55, aw_447⟩
theorem q_X8_420 : qV RX8 420 RX8 yX8_digestOfPolicies cX8_digestOfPolicies 9 (some .long) := ⟨aw_464, aw_466, aw_31, aw_55, aw_467⟩
theorem q_X8_423 : qV RX8 423 RX8 yX8_digestOfShipments cX8_digestOfShipments 9 (some .long) := ⟨aw_476, aw_478, aw_33, aw_55, aw_479⟩
theorem q_X8_426 : qV RX8 426 RX8 yX8_circles cX8_circles 3 (some .int) := ⟨aw_822, aw_823, aw_824, aw_55, aw_825⟩
theorem q_X8_431 : qV RX8 431 RX8 yX8_expected cX8_expected 5 (some .double) := ⟨aw_827, aw_828, aw_829, aw_55, aw_830⟩
theorem q_X8_434 : qV RX8 434 RX8 yX8_probable cX8_probable 6 (some .double) := ⟨aw_836, aw_837, aw_838, aw_55, aw_839⟩
theorem q_X8_437 : qV RX8 437 RX8 yX8_isSound cX8_isSound 2 (some .boolean) := ⟨aw_847, aw_369, aw_370, aw_55, aw_371⟩
theorem q_X8_470 : qI RX8 470 yX5_init cX5_init 4 := ⟨aw_961, aw_962, aw_65, aw_963⟩
theorem q_X8_471 : qI RX8 471 yX0_init cX0_init 4 := ⟨aw_1087, aw_1088, aw_74, aw_1089⟩
theorem q_X8_474 : qI RX8 474 yX4_init cX4_init 2 := ⟨aw_1051, aw_1052, aw_70, aw_1053⟩
theorem q_X8_476 : qV RX8 476 RX7 yX7_atRisk cX7_atRisk 1 (some .int) := ⟨aw_414, aw_415, aw_416, aw_76, aw_417⟩
theorem q_X8_479 : qV RX8 479 RX7 yX7_isOverdue cX7_isOverdue 2 (some .boolean) := ⟨aw_1292, aw_1293, aw_1294, aw_76, aw_1295⟩
theorem q_X8_483 : qV RX8 483 RX5 yX5_isTroubled cX5_isTroubled 1 (some .boolean) := ⟨aw_1286, aw_226, aw_227, aw_65, aw_228⟩
theorem q_X8_486 : qV RX8 486 RX8 yX8_isCoverStopped cX8_isCoverStopped 6 (some .boolean) := ⟨aw_1288, aw_1290, aw_46, aw_55, aw_1291⟩
theorem q_X8_490 : qV RX8 490 RX5 yX5_longestTermOn cX5_longestTermOn 2 (some .int) := ⟨aw_427, aw_428, aw_429, aw_65, aw_430⟩
theorem q_X8_351 : qV RX8 351 RX8 yX8_riskUnder cX8_riskUnder 6 (some .int) := ⟨aw_472, aw_474, aw_32, aw_55, aw_475⟩
theorem q_X8_467 : qS RX8 467 yJ9_max_7cf53 cJ9_max_7cf53 2 (some .int) := ⟨aw_1300, aw_563, aw_67, aw_564⟩
theorem q_X8_493 : qV RX8 493 RX8 yX8_refusalOf cX8_refusalOf 4 (some .int) := ⟨aw_1282, aw_1284, aw_45, aw_55, aw_1285⟩
theorem q_X8_497 : qV RX8 497 RX8 yX8_roomFor cX8_roomFor 3 (some .int) := ⟨aw_1296, aw_1298, aw_47, aw_55, aw_1299⟩
theorem q_X8_500 : qV RX8 500 RX8 yX8_spaceIn cX8_spaceIn 2 (some .int) := ⟨aw_1301, aw_1303, aw_48, aw_55, aw_1304⟩
theorem q_X8_521 : qV RX8 521 RX2 yX2_recover cX2_recover 4 none := ⟨aw_245, aw_246, aw_247, aw_77, aw_248⟩
theorem q_X8_531 : qV RX8 531 RX3 yX3_nextOf cX3_nextOf 2 (some .int) := ⟨aw_266, aw_267, aw_268, aw_78, aw_269⟩
theorem q_X8_536 : qV RX8 536 RX4 yX4_suppliers cX4_suppliers 1 (some .int) := ⟨aw_364, aw_365, aw_366, aw_70, aw_367⟩
theorem q_X8_539 : qV RX8 539 RX8 yX8_reachedFrom cX8_reachedFrom 7 (some .int) := ⟨aw_359, aw_361, aw_17, aw_55, aw_362⟩
theorem q_X8_542 : qV RX8 542 RX8 yX8_isSuspect cX8_isSuspect 3 (some .boolean) := ⟨aw_355, aw_357, aw_16, aw_55, aw_358⟩
theorem q_X8_546 : qV RX8 546 RX5 yX5_trouble cX5_trouble 1 (some .int) := ⟨aw_409, aw_230, aw_231, aw_65, aw_232⟩
theorem q_X8_549 : qV RX8 549 RX8 yX8_debtOf cX8_debtOf 5 (some .int) := ⟨aw_440, aw_442, aw_25, aw_55, aw_443⟩
theorem q_X8_553 : qV RX8 553 RX8 yX8_countOfRunningPolicies cX8_countOfRunningPolicies 5 (some .int) := ⟨aw_452, aw_454, aw_28, aw_55, aw_455⟩
theorem q_X8_557 : qV RX8 557 RX8 yX8_countOfShipmentsBy cX8_countOfShipmentsBy 4 (some .int) := ⟨aw_456, aw_458, aw_29, aw_55, aw_459⟩
theorem q_X8_560 : qV RX8 560 RX8 yX8_countOfShipmentsUnder cX8_countOfShipmentsUnder 4 (some .int) := ⟨aw_300, aw_302, aw_8, aw_55, aw_303⟩
theorem q_X8_564 : qV RX8 564 RX8 yX8_premiumsUnder cX8_premiumsUnder 5 (some .int) := ⟨aw_304, aw_306, aw_9, aw_55, aw_307⟩
theorem q_X8_579 : qV RX8 579 RX7 yX7_marks cX7_marks 2 (some .int) := ⟨aw_331, aw_332, aw_333, aw_76, aw_334⟩
theorem q_X8_594 : qV RX8 594 RX2 yX2_hadBy cX2_hadBy 2 (some .int) := ⟨aw_515, aw_391, aw_392, aw_77, aw_393⟩
theorem q_X8_597 : qV RX8 597 RX2 yX2_partOf cX2_partOf 2 (some .int) := ⟨aw_516, aw_250, aw_251, aw_77, aw_252⟩
theorem q_X8_600 : qV RX8 600 RX8 yX8_countOfMarked cX8_countOfMarked 4 (some .int) := ⟨aw_347, aw_349, aw_14, aw_55, aw_350⟩
theorem q_X8_603 : qV RX8 603 RX8 yX8_countOfSuspect cX8_countOfSuspect 3 (some .int) := ⟨aw_351, aw_353, aw_15, aw_55, aw_354⟩
theorem q_X8_606 : qV RX8 606 RJ4 yJ4_append_bf812 cJ4_append_bf812 2 (some (.object "java/lang/StringBuilder")) := ⟨aw_790, aw_659, aw_660, aw_80, aw_661⟩
theorem q_X8_612 : qV RX8 612 RJ4 yJ4_append_15ec4 cJ4_append_15ec4 2 (some (.object "java/lang/StringBuilder")) := ⟨aw_792, aw_541, aw_542, aw_80, aw_543⟩
theorem q_X8_615 : qV RX8 615 RJ4 yJ4_append_cf468 cJ4_append_cf468 2 (some (.object "java/lang/StringBuilder")) := ⟨aw_793, aw_794, aw_795, aw_80, aw_796⟩
theorem q_X8_620 : qS RX8 620 yX8_writeIfMarked cX8_writeIfMarked 4 none := ⟨aw_814, aw_815, aw_55, aw_816⟩
theorem q_X8_335 : qV RX8 335 RX8 yX8_figureOfLand cX8_figureOfLand 3 (some .int) := ⟨aw_405, aw_407, aw_21, aw_55, aw_408⟩
theorem q_X8_368 : qI RX8 368 yJ4_init_da8c8 cJ4_init_da8c8 1 := ⟨aw_482, aw_483, aw_80, aw_484⟩
theorem q_X8_632 : qV RX8 632 RJ4 yJ4_setLength_d00df cJ4_setLength_d00df 2 none := ⟨aw_525, aw_526, aw_527, aw_80, aw_528⟩
theorem q_X8_369 : qS RX8 369 yX8_writeSlip cX8_writeSlip 4 none := ⟨aw_787, aw_788, aw_55, aw_789⟩
theorem q_X8_635 : qV RX8 635 RJ4 yJ4_length_8abf5 cJ4_length_8abf5 1 (some .int) := ⟨aw_821, aw_705, aw_1474, aw_80, aw_706⟩
theorem q_L_11 : qI RL 11 yX8_init cX8_init 1 := ⟨aw_861, aw_862, aw_55, aw_863⟩
theorem q_L_12 : qS RL 12 yL_cell cL_cell 2 (some .int) := ⟨aw_853, aw_854, aw_54, aw_855⟩
theorem q_L_18 : qS RL 18 yL_below cL_below 2 (some .int) := ⟨aw_849, aw_850, aw_54, aw_851⟩
theorem q_L_22 : qV RL 22 RX8 yX8_market cX8_market 7 (some .int) := ⟨aw_945, aw_946, aw_947, aw_55, aw_948⟩
theorem q_L_26 : qV RL 26 RX8 yX8_land cX8_land 3 (some .int) := ⟨aw_1116, aw_1117, aw_1118, aw_55, aw_1119⟩
theorem q_L_29 : qV RL 29 RX8 yX8_exporter cX8_exporter 1 (some .int) := ⟨aw_1121, aw_1122, aw_1123, aw_55, aw_1124⟩
theorem q_L_33 : qV RL 33 RX8 yX8_buyer cX8_buyer 4 (some .int) := ⟨aw_1125, aw_1126, aw_1127, aw_55, aw_1128⟩
theorem q_L_36 : qV RL 36 RX8 yX8_earn cX8_earn 4 (some .int) := ⟨aw_1129, aw_1130, aw_1131, aw_55, aw_1132⟩
theorem q_L_39 : qV RL 39 RX8 yX8_policy cX8_policy 7 (some .int) := ⟨aw_1139, aw_1140, aw_1141, aw_55, aw_1142⟩
theorem q_L_43 : qV RL 43 RX8 yX8_limit cX8_limit 7 (some .int) := ⟨aw_1184, aw_1185, aw_1186, aw_55, aw_1187⟩
theorem q_L_47 : qV RL 47 RX8 yX8_books cX8_books 2 (some .int) := ⟨aw_335, aw_336, aw_337, aw_55, aw_338⟩
theorem q_L_50 : qS RL 50 yJ9_max_7cf53 cJ9_max_7cf53 2 (some .int) := ⟨aw_1197, aw_563, aw_67, aw_564⟩
theorem q_L_55 : qV RL 55 RX8 yX8_ship cX8_ship 11 (some .int) := ⟨aw_1198, aw_1199, aw_1200, aw_55, aw_1201⟩
theorem q_L_59 : qV RL 59 RX8 yX8_pay cX8_pay 9 (some .int) := ⟨aw_1317, aw_1318, aw_1319, aw_55, aw_1320⟩
theorem q_L_62 : qV RL 62 RX8 yX8_report cX8_report 3 (some .int) := ⟨aw_1325, aw_1326, aw_1327, aw_55, aw_1328⟩
theorem q_L_65 : qV RL 65 RX8 yX8_dispute cX8_dispute 3 (some .int) := ⟨aw_1329, aw_1330, aw_1331, aw_55, aw_1332⟩
theorem q_L_68 : qV RL 68 RX8 yX8_judge cX8_judge 4 (some .int) := ⟨aw_1334, aw_1335, aw_1336, aw_55, aw_1337⟩
theorem q_L_72 : qV RL 72 RX8 yX8_claim cX8_claim 7 (some .int) := ⟨aw_1338, aw_1339, aw_1340, aw_55, aw_1341⟩
theorem q_L_75 : qV RL 75 RX8 yX8_salvage cX8_salvage 5 (some .int) := ⟨aw_1377, aw_1378, aw_1379, aw_55, aw_1380⟩
theorem q_L_78 : qV RL 78 RX8 yX8_club cX8_club 8 (some .int) := ⟨aw_1381, aw_1382, aw_1383, aw_55, aw_1384⟩
theorem q_L_81 : qV RL 81 RX8 yX8_inspect cX8_inspect 3 (some .boolean) := ⟨aw_1411, aw_1412, aw_1413, aw_55, aw_1414⟩
theorem q_L_85 : qV RL 85 RX8 yX8_stop cX8_stop 5 (some .int) := ⟨aw_1419, aw_1420, aw_1421, aw_55, aw_1422⟩
theorem q_L_88 : qV RL 88 RX8 yX8_war cX8_war 5 (some .int) := ⟨aw_1427, aw_1428, aw_1429, aw_55, aw_1430⟩
theorem q_L_91 : qV RL 91 RX8 yX8_broke cX8_broke 4 (some .boolean) := ⟨aw_1431, aw_1432, aw_1433, aw_55, aw_1434⟩
theorem q_L_94 : qV RL 94 RX8 yX8_notice cX8_notice 5 (some .int) := ⟨aw_1435, aw_1436, aw_1437, aw_55, aw_1438⟩
theorem q_L_97 : qV RL 97 RX8 yX8_link cX8_link 6 (some .int) := ⟨aw_1439, aw_1440, aw_1441, aw_55, aw_1442⟩
theorem q_L_101 : qV RL 101 RX8 yX8_cut cX8_cut 7 (some .int) := ⟨aw_1443, aw_1444, aw_1445, aw_55, aw_1446⟩
theorem q_L_108 : qS RL 108 yL_office cL_office 5 (some (.object "Exportcover")) := ⟨aw_857, aw_858, aw_54, aw_859⟩
theorem q_L_116 : qV RL 116 RX8 yX8_ofShipment cX8_ofShipment 4 (some .int) := ⟨aw_308, aw_309, aw_310, aw_55, aw_311⟩
theorem q_L_119 : qV RL 119 RX8 yX8_pass cX8_pass 3 (some .int) := ⟨aw_88, aw_89, aw_90, aw_55, aw_91⟩
theorem q_L_122 : qV RL 122 RX8 yX8_ofPolicy cX8_ofPolicy 4 (some .int) := ⟨aw_271, aw_272, aw_273, aw_55, aw_274⟩
theorem q_L_125 : qS RL 125 yL_isSo cL_isSo 10 (some .boolean) := ⟨aw_1447, aw_1448, aw_54, aw_1449⟩
theorem q_L_129 : qV RL 129 RX8 yX8_digest cX8_digest 4 (some .long) := ⟨aw_394, aw_395, aw_396, aw_55, aw_397⟩
theorem q_L_133 : qV RL 133 RX8 yX8_isSound cX8_isSound 2 (some .boolean) := ⟨aw_368, aw_369, aw_370, aw_55, aw_371⟩
theorem q_L_137 : qV RL 137 RX8 yX8_ofExporter cX8_ofExporter 4 (some .int) := ⟨aw_1450, aw_1451, aw_1452, aw_55, aw_1453⟩
theorem q_L_140 : qV RL 140 RX8 yX8_ofBuyer cX8_ofBuyer 4 (some .int) := ⟨aw_1454, aw_1455, aw_1456, aw_55, aw_1457⟩
theorem q_L_143 : qV RL 143 RX8 yX8_part cX8_part 5 (some .int) := ⟨aw_1458, aw_1459, aw_1460, aw_55, aw_1461⟩
theorem q_Jxc12de_1 : qI RJxc12de 1 yJxa1e45_init_da8c8 cJxa1e45_init_da8c8 1 := ⟨aw_873, aw_874, aw_56, aw_875⟩
theorem q_Jx4a65c_1 : qI RJx4a65c 1 yJxc12de_init_da8c8 cJxc12de_init_da8c8 1 := ⟨aw_870, aw_871, aw_57, aw_872⟩
theorem q_Jx4a65c_73 : qS RJx4a65c 73 yJ8_newLength_cabcc cJ8_newLength_cabcc 4 (some .int) := ⟨aw_1013, aw_560, aw_66, aw_561⟩
theorem q_Jx4a65c_66 : qS RJx4a65c 66 yJ7_copyOf_1904c cJ7_copyOf_1904c 2 (some (.array (.object "java/lang/Object"))) := ⟨aw_1014, aw_1015, aw_68, aw_1016⟩
theorem q_Jx4a65c_79 : qS RJx4a65c 79 yJ9_max_7cf53 cJ9_max_7cf53 2 (some .int) := ⟨aw_1044, aw_563, aw_67, aw_564⟩
theorem q_Jx4a65c_69 : qV RJx4a65c 69 RJx4a65c yJx4a65c_grow_92f84 cJx4a65c_grow_92f84 4 (some (.array (.object "java/lang/Object"))) := ⟨aw_1009, aw_1011, aw_38, aw_58, aw_1012⟩
theorem q_Jx4a65c_118 : qS RJx4a65c 118 yJ15_checkIndex_7cf53 cJ15_checkIndex_7cf53 2 (some .int) := ⟨aw_202, aw_203, aw_72, aw_204⟩
theorem q_Jx4a65c_123 : qV RJx4a65c 123 RJx4a65c yJx4a65c_elementData_915e3 cJx4a65c_elementData_915e3 2 (some (.object "java/lang/Object")) := ⟨aw_208, aw_209, aw_210, aw_58, aw_211⟩
theorem q_Jx4a65c_129 : qV RJx4a65c 129 RJx4a65c yJx4a65c_grow_d5877 cJx4a65c_grow_d5877 1 (some (.array (.object "java/lang/Object"))) := ⟨aw_1005, aw_1007, aw_37, aw_58, aw_1008⟩
theorem q_Jx4a65c_131 : qV RJx4a65c 131 RJx4a65c yJx4a65c_add_72be8 cJx4a65c_add_72be8 4 none := ⟨aw_1001, aw_1003, aw_36, aw_58, aw_1004⟩
theorem q_J15_105 : qS RJ15 105 yJ3_checkIndex_8e157 cJ3_checkIndex_8e157 3 (some .int) := ⟨aw_205, aw_206, aw_73, aw_207⟩
theorem q_J8_194 : qS RJ8 194 yJ9_max_7cf53 cJ9_max_7cf53 2 (some .int) := ⟨aw_562, aw_563, aw_67, aw_564⟩
theorem q_J8_201 : qS RJ8 201 yJ8_hugeLength_7cf53 cJ8_hugeLength_7cf53 3 (some .int) := ⟨aw_566, aw_567, aw_66, aw_568⟩
theorem q_J7_300 : qS RJ7 300 yJ7_copyOf_6403c cJ7_copyOf_6403c 4 (some (.array (.object "java/lang/Object"))) := ⟨aw_1038, aw_1039, aw_68, aw_1040⟩
theorem q_J7_304 : qS RJ7 304 yJ9_min_7cf53 cJ9_min_7cf53 2 (some .int) := ⟨aw_580, aw_234, aw_67, aw_235⟩
theorem q_J4_1 : qI RJ4 1 yJ5_init_d00df cJ5_init_d00df 2 := ⟨aw_485, aw_486, aw_79, aw_487⟩
theorem q_J5_26 : qS RJ5 26 yJ2_newBytesFor_77867 cJ2_newBytesFor_77867 1 (some (.array .byte)) := ⟨aw_491, aw_492, aw_82, aw_493⟩
theorem q_J4_53 : Cond.methodLink RJ4 53 yJ5_append_c97b9 ∈ Al ∧ Cond.instanceMethod yJ5_append_c97b9 ∈ Al ∧ Cond.initialized RJ5 ∈ Al ∧ Cond.code yJ5_append_c97b9 cJ5_append_c97b9 4 (some (.object "java/lang/AbstractStringBuilder")) ∈ Al := ⟨aw_662, aw_663, aw_79, aw_664⟩
theorem q_J5_245 : qS RJ5 245 yJ6_stringSize_0f7a4 cJ6_stringSize_0f7a4 4 (some .int) := ⟨aw_665, aw_666, aw_86, aw_667⟩
theorem q_J5_83 : qV RJ5 83 RJ4 yJ5_isLatin1_aae02 cJ5_isLatin1_aae02 1 (some .boolean) := ⟨aw_584, aw_585, aw_587, aw_80, aw_588⟩
theorem q_J5_248 : qS RJ5 248 yJ6_getChars_ba4f3 cJ6_getChars_ba4f3 7 (some .int) := ⟨aw_668, aw_669, aw_86, aw_670⟩
theorem q_J5_251 : qS RJ5 251 yJ2_getChars_46870 cJ2_getChars_46870 5 (some .int) := ⟨aw_675, aw_676, aw_82, aw_677⟩
theorem q_J5_108 : qS RJ5 108 yJ7_copyOf_9075b cJ7_copyOf_9075b 3 (some (.array .byte)) := ⟨aw_570, aw_571, aw_68, aw_572⟩
theorem q_J5_114 : qS RJ5 114 yJ8_newLength_cabcc cJ8_newLength_cabcc 4 (some .int) := ⟨aw_559, aw_560, aw_66, aw_561⟩
theorem q_J4_50 : Cond.methodLink RJ4 50 yJ5_append_3fe6f ∈ Al ∧ Cond.instanceMethod yJ5_append_3fe6f ∈ Al ∧ Cond.initialized RJ5 ∈ Al ∧ Cond.code yJ5_append_3fe6f cJ5_append_3fe6f 2 (some (.object "java/lang/AbstractStringBuilder")) ∈ Al := ⟨aw_797, aw_798, aw_79, aw_799⟩
theorem q_J5_191 : qS RJ5 191 yJ1_canEncode_fc78d cJ1_canEncode_fc78d 1 (some .boolean) := ⟨aw_800, aw_801, aw_84, aw_802⟩
theorem q_J5_197 : qS RJ5 197 yJ2_putCharSB_b72d1 cJ2_putCharSB_b72d1 3 none := ⟨aw_803, aw_804, aw_82, aw_805⟩
theorem q_J4_29 : Cond.methodLink RJ4 29 yJ5_append_cf1ce ∈ Al ∧ Cond.instanceMethod yJ5_append_cf1ce ∈ Al ∧ Cond.initialized RJ5 ∈ Al ∧ Cond.code yJ5_append_cf1ce cJ5_append_cf1ce 3 (some (.object "java/lang/AbstractStringBuilder")) ∈ Al := ⟨aw_544, aw_545, aw_79, aw_546⟩
theorem q_J5_32 : qV RJ5 32 RJ0 yJ0_length_8abf5 cJ0_length_8abf5 1 (some .int) := ⟨aw_615, aw_616, aw_617, aw_81, aw_618⟩
theorem q_J0_335 : qV RJ0 335 RJ0 yJ0_coder_7d493 cJ0_coder_7d493 1 (some .byte) := ⟨aw_619, aw_620, aw_621, aw_81, aw_622⟩
theorem q_J5_40 : qV RJ5 40 RJ0 yJ0_coder_7d493 cJ0_coder_7d493 1 (some .byte) := ⟨aw_632, aw_620, aw_621, aw_81, aw_622⟩
theorem q_J5_399 : qV RJ5 399 RJ0 yJ0_getBytes_840e7 cJ0_getBytes_840e7 4 none := ⟨aw_652, aw_653, aw_654, aw_81, aw_655⟩
theorem q_J0_106 : qS RJ0 106 yJ1_inflate_0e8fd cJ1_inflate_0e8fd 5 none := ⟨aw_657, aw_638, aw_84, aw_639⟩
theorem q_J4_333 : qI RJ4 333 yJ5_setLength_d00df cJ5_setLength_d00df 2 := ⟨aw_529, aw_530, aw_79, aw_531⟩
theorem q_J5_131 : qI RJ5 131 yJx7c733_init_d00df cJx7c733_init_d00df 2 := ⟨aw_534, aw_535, aw_83, aw_536⟩
theorem q_J5_133 : qS RJ5 133 yJ1_fillNull_b72d1 cJ1_fillNull_b72d1 3 none := ⟨aw_751, aw_752, aw_84, aw_753⟩
theorem q_J5_137 : qS RJ5 137 yJ2_fillNull_b72d1 cJ2_fillNull_b72d1 3 none := ⟨aw_783, aw_784, aw_82, aw_785⟩
theorem q_J1_236 : qS RJ1 236 yJ7_fill_eb02e cJ7_fill_eb02e 5 none := ⟨aw_754, aw_755, aw_68, aw_756⟩
theorem q_J7_13 : qS RJ7 13 yJ7_rangeCheck_23922 cJ7_rangeCheck_23922 3 none := ⟨aw_757, aw_758, aw_68, aw_759⟩
theorem q_J7_70 : qI RJ7 70 yJx00060_init_d00df cJx00060_init_d00df 2 := ⟨aw_771, aw_772, aw_87, aw_773⟩
theorem q_J4_343 : Cond.methodLink RJ4 343 yJ5_length_8abf5 ∈ Al ∧ Cond.instanceMethod yJ5_length_8abf5 ∈ Al ∧ Cond.initialized RJ5 ∈ Al ∧ Cond.code yJ5_length_8abf5 cJ5_length_8abf5 1 (some .int) ∈ Al := ⟨aw_707, aw_702, aw_79, aw_708⟩
end PQW
