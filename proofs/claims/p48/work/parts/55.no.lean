/-! the text of a slip: sizes, digits, room -/
section PNO
variable {X : Xt}
section
variable {p : Program} {l : Launch} {e : Env} {R : Room} {s : State} {m : MethodId} {args : Array Value} {below : List Frame} {meth : Method} {c : Code} {own : String} {cc : ByteArray} {nL : Nat} {ret : Option FieldType}
variable {Q : State → Prop} {cells slots n : Nat} {K : Kt} {F : Ft} {G : Gt} {lv : List (Nat × Value)} {pc : Nat} {st : List Value}
theorem v_cst {x y : Value} (h : x = y) (k : V X nL p l e R s m args below meth c Q cells slots n K F G lv pc (y :: st)) : V X nL p l e R s m args below meth c Q cells slots n K F G lv pc (x :: st) := by
  subst h
  exact k
theorem gz22 (hC : Cx X p s m args meth c RJ5 cc nL ret) {a : Nat} (ha : (K a).1 = 11) (h1 : F a 1 = 0) (hdg : decode cc pc = .ok (.getfield 22, 3)) (kk : V X nL p l e R s m args below meth c Q cells slots n K F G lv (pc + 3) (.int 0 :: st)) : V X nL p l e R s m args below meth c Q cells slots n K F G lv pc (.ref a :: st) := by
  refine gf_J5_22 hC ha hdg ?_
  rw [h1]
  exact kk
theorem gz79 (hC : Cx X p s m args meth c RJ5 cc nL ret) {a len : Nat} (ha : (K a).1 = 11) (h1 : F a 3 = nI len) (hdg : decode cc pc = .ok (.getfield 79, 3)) (kk : V X nL p l e R s m args below meth c Q cells slots n K F G lv (pc + 3) (.int (nI len) :: st)) : V X nL p l e R s m args below meth c Q cells slots n K F G lv pc (.ref a :: st) := by
  refine gf_J5_79 hC ha hdg ?_
  rw [h1]
  exact kk
end

def capS (c : Nat) : Prop := c = 16 ∨ c = 34 ∨ c = 70 ∨ c = 142 ∨ c = 286
def spC (c : Nat) : Nat := if c ≤ 16 then 1 else if c ≤ 34 then 2 else if c ≤ 70 then 3 else if c ≤ 142 then 4 else 5
def spS (c : Nat) : Nat := if c ≤ 16 then 16 else if c ≤ 34 then 50 else if c ≤ 70 then 120 else if c ≤ 142 then 262 else 548
def gw (c m : Nat) : Nat := if m ≤ c then c else 2 * c + 2
def eC (c m : Nat) : Nat := if m ≤ c then 0 else 1
def eS (c m : Nat) : Nat := if m ≤ c then 0 else 2 * c + 2
theorem gw_ok {c len m : Nat} (h : capS c) (hl : len ≤ c) (hm : m ≤ len + 18) (hb : m ≤ 286) : capS (gw c m) ∧ m ≤ gw c m ∧ c ≤ gw c m ∧ spC c + eC c m = spC (gw c m) ∧ spS c + eS c m = spS (gw c m) := by
  by_cases q : m ≤ c
  · have e1 : gw c m = c := if_pos q
    rw [e1, show eC c m = 0 from if_pos q, show eS c m = 0 from if_pos q]
    exact ⟨h, q, Nat.le_refl _, rfl, rfl⟩
  · have e1 : gw c m = 2 * c + 2 := if_neg q
    rw [e1, show eC c m = 1 from if_neg q, show eS c m = 2 * c + 2 from if_neg q]
    unfold capS at h ⊢
    rcases h with rfl | rfl | rfl | rfl | rfl
    · exact ⟨by decide, by omega, by omega, by decide, by decide⟩
    · exact ⟨by decide, by omega, by omega, by decide, by decide⟩
    · exact ⟨by decide, by omega, by omega, by decide, by decide⟩
    · exact ⟨by decide, by omega, by omega, by decide, by decide⟩
    · omega
theorem capS_b {c : Nat} (h : capS c) : 16 ≤ c ∧ c ≤ 286 := by unfold capS at h; omega
theorem spC_le (c : Nat) : spC c ≤ 5 := by unfold spC; repeat' split
                                           all_goals omega
theorem spS_le (c : Nat) : spS c ≤ 548 := by unfold spS; repeat' split
                                             all_goals omega
def By (F F' : Ft) (arr : Nat) : Prop := (∀ x, x ≠ arr → F' x = F x) ∧ sb_Fit (F' arr)
theorem By.rf {F : Ft} {arr : Nat} (h : sb_Fit (F arr)) : By F F arr := ⟨fun _ _ => rfl, h⟩
theorem nar_fit (x : Int32) : fits .byte (.int (vp_nar .byte x)) = true := pk_fb x
theorem By.up {F F' : Ft} {arr i : Nat} {x : Int32} (h : By F F' arr) : By F (up2 F' arr i (vp_nar .byte x)) arr := by
  refine ⟨fun y hy => (up2_a _ _ hy).trans (h.1 y hy), fun j => ?_⟩
  by_cases q : j = i
  · subst q
    rw [show up2 F' arr j (vp_nar .byte x) arr j = vp_nar .byte x by simp [up2, va_up]]
    exact nar_fit x
  · rw [show up2 F' arr i (vp_nar .byte x) arr j = F' arr j by simp [up2, va_up, q]]
    exact h.2 j
/-- a StringBuilder with len letters, behind the cells of K0 F0 G0 -/
def Sbf (K0 : Kt) (F0 : Ft) (G0 : Gt) (K : Kt) (F : Ft) (G : Gt) (q len cap : Nat) : Prop := (∀ x, (K0 x).1 ≠ 0 → K x = K0 x ∧ F x = F0 x ∧ G x = G0 x) ∧ (K0 q).1 = 0 ∧ (K q).1 = 11 ∧ F q 1 = 0 ∧ F q 3 = nI len ∧ len ≤ cap ∧ capS cap ∧ ∃ arr, G q 0 = some arr ∧ (K0 arr).1 = 0 ∧ K arr = (22, cap) ∧ sb_Fit (F arr)
theorem nI_sub {a b : Nat} (h : b ≤ a) : nI a - nI b = nI (a - b) := by
  obtain ⟨d, rfl⟩ : ∃ d, a = d + b := ⟨a - b, by omega⟩
  rw [← nI_add, Int32.add_sub_cancel, Nat.add_sub_cancel]
theorem nl2_eq {K : Kt} {F : Ft} {G : Gt} {c m : Nat} {x y z : Int32} (h : capS c) (h0 : c < m) (h1 : m ≤ c + 18) (hx : x = nI c) (hy : y = nI m - nI c) (hz : z = nI c + nI 2) : (¬ x + (if y < z then z else y) ≤ 0) ∧ (¬ 2147483639 < x + (if y < z then z else y)) ∧ f_J8_newLength_cabcc K F G x y z = nI (2 * c + 2) := by
  obtain ⟨b1, b2⟩ := capS_b h
  have e : x + (if y < z then z else y) = nI (2 * c + 2) := by
    rw [hx, hy, hz, nI_sub (Nat.le_of_lt h0), nI_add]
    by_cases q : m - c < c + 2
    · rw [if_pos (nI_lt q (by omega)), nI_add, show c + (c + 2) = 2 * c + 2 by omega]
    · rw [if_neg (nI_nlt (by omega) (by omega)), nI_add, show c + (m - c) = 2 * c + 2 by omega]
  refine ⟨?_, ?_, e⟩
  · rw [e]
    exact nI_nle (by omega) (by omega)
  · rw [e]
    exact nI_nlt (a := 2147483639) (b := 2 * c + 2) (by omega) (by omega)
def dgz (z : Int32) : Nat := if z ≤ -10 then (if z ≤ -100 then (if z ≤ -1000 then (if z ≤ -10000 then (if z ≤ -100000 then (if z ≤ -1000000 then (if z ≤ -10000000 then (if z ≤ -100000000 then (if z ≤ -1000000000 then 10 else 9) else 8) else 7) else 6) else 5) else 4) else 3) else 2) else 1
def ssz (v : Int32) : Nat := dgz (if v < 0 then v else 0 - v) + (if v < 0 then 1 else 0)
theorem dgz_b {z : Int32} : 1 ≤ dgz z ∧ dgz z ≤ 10 ∧ -((10 : Int) ^ dgz z) < z.toInt := by
  have h0 := fb_rng z
  have h1 : z ≤ -10 ↔ z.toInt ≤ -10 := by rw [Int32.le_iff_toInt_le, show (-10 : Int32).toInt = -10 from by decide]
  have h2 : z ≤ -100 ↔ z.toInt ≤ -100 := by rw [Int32.le_iff_toInt_le, show (-100 : Int32).toInt = -100 from by decide]
  have h3 : z ≤ -1000 ↔ z.toInt ≤ -1000 := by rw [Int32.le_iff_toInt_le, show (-1000 : Int32).toInt = -1000 from by decide]
  have h4 : z ≤ -10000 ↔ z.toInt ≤ -10000 := by rw [Int32.le_iff_toInt_le, show (-10000 : Int32).toInt = -10000 from by decide]
  have h5 : z ≤ -100000 ↔ z.toInt ≤ -100000 := by rw [Int32.le_iff_toInt_le, show (-100000 : Int32).toInt = -100000 from by decide]
  have h6 : z ≤ -1000000 ↔ z.toInt ≤ -1000000 := by rw [Int32.le_iff_toInt_le, show (-1000000 : Int32).toInt = -1000000 from by decide]
  have h7 : z ≤ -10000000 ↔ z.toInt ≤ -10000000 := by rw [Int32.le_iff_toInt_le, show (-10000000 : Int32).toInt = -10000000 from by decide]
  have h8 : z ≤ -100000000 ↔ z.toInt ≤ -100000000 := by rw [Int32.le_iff_toInt_le, show (-100000000 : Int32).toInt = -100000000 from by decide]
  have h9 : z ≤ -1000000000 ↔ z.toInt ≤ -1000000000 := by rw [Int32.le_iff_toInt_le, show (-1000000000 : Int32).toInt = -1000000000 from by decide]
  by_cases c1 : z ≤ -10
  rotate_left
  · rw [show dgz z = 1 from by unfold dgz; rw [if_neg c1]]
    rw [h1] at c1
    exact ⟨by decide, by decide, by rw [show (10 : Int) ^ 1 = 10 from by decide]; omega⟩
  by_cases c2 : z ≤ -100
  rotate_left
  · rw [show dgz z = 2 from by unfold dgz; rw [if_pos c1, if_neg c2]]
    rw [h2] at c2
    exact ⟨by decide, by decide, by rw [show (10 : Int) ^ 2 = 100 from by decide]; omega⟩
  by_cases c3 : z ≤ -1000
  rotate_left
  · rw [show dgz z = 3 from by unfold dgz; rw [if_pos c1, if_pos c2, if_neg c3]]
    rw [h3] at c3
    exact ⟨by decide, by decide, by rw [show (10 : Int) ^ 3 = 1000 from by decide]; omega⟩
  by_cases c4 : z ≤ -10000
  rotate_left
  · rw [show dgz z = 4 from by unfold dgz; rw [if_pos c1, if_pos c2, if_pos c3, if_neg c4]]
    rw [h4] at c4
    exact ⟨by decide, by decide, by rw [show (10 : Int) ^ 4 = 10000 from by decide]; omega⟩
  by_cases c5 : z ≤ -100000
  rotate_left
  · rw [show dgz z = 5 from by unfold dgz; rw [if_pos c1, if_pos c2, if_pos c3, if_pos c4, if_neg c5]]
    rw [h5] at c5
    exact ⟨by decide, by decide, by rw [show (10 : Int) ^ 5 = 100000 from by decide]; omega⟩
  by_cases c6 : z ≤ -1000000
  rotate_left
  · rw [show dgz z = 6 from by unfold dgz; rw [if_pos c1, if_pos c2, if_pos c3, if_pos c4, if_pos c5, if_neg c6]]
    rw [h6] at c6
    exact ⟨by decide, by decide, by rw [show (10 : Int) ^ 6 = 1000000 from by decide]; omega⟩
  by_cases c7 : z ≤ -10000000
  rotate_left
  · rw [show dgz z = 7 from by unfold dgz; rw [if_pos c1, if_pos c2, if_pos c3, if_pos c4, if_pos c5, if_pos c6, if_neg c7]]
    rw [h7] at c7
    exact ⟨by decide, by decide, by rw [show (10 : Int) ^ 7 = 10000000 from by decide]; omega⟩
  by_cases c8 : z ≤ -100000000
  rotate_left
  · rw [show dgz z = 8 from by unfold dgz; rw [if_pos c1, if_pos c2, if_pos c3, if_pos c4, if_pos c5, if_pos c6, if_pos c7, if_neg c8]]
    rw [h8] at c8
    exact ⟨by decide, by decide, by rw [show (10 : Int) ^ 8 = 100000000 from by decide]; omega⟩
  by_cases c9 : z ≤ -1000000000
  rotate_left
  · rw [show dgz z = 9 from by unfold dgz; rw [if_pos c1, if_pos c2, if_pos c3, if_pos c4, if_pos c5, if_pos c6, if_pos c7, if_pos c8, if_neg c9]]
    rw [h9] at c9
    exact ⟨by decide, by decide, by rw [show (10 : Int) ^ 9 = 1000000000 from by decide]; omega⟩
  rw [show dgz z = 10 from by unfold dgz; rw [if_pos c1, if_pos c2, if_pos c3, if_pos c4, if_pos c5, if_pos c6, if_pos c7, if_pos c8, if_pos c9]]
  exact ⟨by decide, by decide, by rw [show (10 : Int) ^ 10 = 10000000000 from by decide]; omega⟩
theorem ssz_b (v : Int32) : 1 ≤ ssz v ∧ ssz v ≤ 11 := by
  obtain ⟨h1, h2, -⟩ := dgz_b (z := if v < 0 then v else 0 - v)
  unfold ssz
  have h3 : (if v < 0 then 1 else 0 : Nat) ≤ 1 := by split <;> omega
  omega
theorem hdS_J6_stringSize_0f7a4 : yJ6_stringSize_0f7a4.cls ≠ "java/lang/invoke/MethodHandle" ∧ yJ6_stringSize_0f7a4.cls ≠ "java/lang/invoke/VarHandle" ∧ (parseMethodDescriptor yJ6_stringSize_0f7a4.desc).map (fun d => d.parameters.length) = some 1 := by decide +kernel
theorem hdV_J6_stringSize_0f7a4 : yJ6_stringSize_0f7a4.cls = RJ6 ∧ yJ6_stringSize_0f7a4.cls ≠ "java/lang/invoke/MethodHandle" ∧ yJ6_stringSize_0f7a4.cls ≠ "java/lang/invoke/VarHandle" ∧ (parseMethodDescriptor yJ6_stringSize_0f7a4.desc).map (fun d => d.parameters.length) = some 1 := by decide +kernel
theorem hdS_J6_getChars_ba4f3 : yJ6_getChars_ba4f3.cls ≠ "java/lang/invoke/MethodHandle" ∧ yJ6_getChars_ba4f3.cls ≠ "java/lang/invoke/VarHandle" ∧ (parseMethodDescriptor yJ6_getChars_ba4f3.desc).map (fun d => d.parameters.length) = some 3 := by decide +kernel
theorem hdV_J6_getChars_ba4f3 : yJ6_getChars_ba4f3.cls = RJ6 ∧ yJ6_getChars_ba4f3.cls ≠ "java/lang/invoke/MethodHandle" ∧ yJ6_getChars_ba4f3.cls ≠ "java/lang/invoke/VarHandle" ∧ (parseMethodDescriptor yJ6_getChars_ba4f3.desc).map (fun d => d.parameters.length) = some 3 := by decide +kernel
theorem hdS_J5_isLatin1_aae02 : yJ5_isLatin1_aae02.cls ≠ "java/lang/invoke/MethodHandle" ∧ yJ5_isLatin1_aae02.cls ≠ "java/lang/invoke/VarHandle" ∧ (parseMethodDescriptor yJ5_isLatin1_aae02.desc).map (fun d => d.parameters.length) = some 0 := by decide +kernel
theorem hdV_J5_isLatin1_aae02 : yJ5_isLatin1_aae02.cls = RJ5 ∧ yJ5_isLatin1_aae02.cls ≠ "java/lang/invoke/MethodHandle" ∧ yJ5_isLatin1_aae02.cls ≠ "java/lang/invoke/VarHandle" ∧ (parseMethodDescriptor yJ5_isLatin1_aae02.desc).map (fun d => d.parameters.length) = some 0 := by decide +kernel
theorem hdS_J5_newCapacity_0f7a4 : yJ5_newCapacity_0f7a4.cls ≠ "java/lang/invoke/MethodHandle" ∧ yJ5_newCapacity_0f7a4.cls ≠ "java/lang/invoke/VarHandle" ∧ (parseMethodDescriptor yJ5_newCapacity_0f7a4.desc).map (fun d => d.parameters.length) = some 1 := by decide +kernel
theorem hdV_J5_newCapacity_0f7a4 : yJ5_newCapacity_0f7a4.cls = RJ5 ∧ yJ5_newCapacity_0f7a4.cls ≠ "java/lang/invoke/MethodHandle" ∧ yJ5_newCapacity_0f7a4.cls ≠ "java/lang/invoke/VarHandle" ∧ (parseMethodDescriptor yJ5_newCapacity_0f7a4.desc).map (fun d => d.parameters.length) = some 1 := by decide +kernel
theorem hdS_J7_copyOf_9075b : yJ7_copyOf_9075b.cls ≠ "java/lang/invoke/MethodHandle" ∧ yJ7_copyOf_9075b.cls ≠ "java/lang/invoke/VarHandle" ∧ (parseMethodDescriptor yJ7_copyOf_9075b.desc).map (fun d => d.parameters.length) = some 2 := by decide +kernel
theorem hdV_J7_copyOf_9075b : yJ7_copyOf_9075b.cls = RJ7 ∧ yJ7_copyOf_9075b.cls ≠ "java/lang/invoke/MethodHandle" ∧ yJ7_copyOf_9075b.cls ≠ "java/lang/invoke/VarHandle" ∧ (parseMethodDescriptor yJ7_copyOf_9075b.desc).map (fun d => d.parameters.length) = some 2 := by decide +kernel
theorem hdS_J5_ensureCapacityInternal_d00df : yJ5_ensureCapacityInternal_d00df.cls ≠ "java/lang/invoke/MethodHandle" ∧ yJ5_ensureCapacityInternal_d00df.cls ≠ "java/lang/invoke/VarHandle" ∧ (parseMethodDescriptor yJ5_ensureCapacityInternal_d00df.desc).map (fun d => d.parameters.length) = some 1 := by decide +kernel
theorem hdV_J5_ensureCapacityInternal_d00df : yJ5_ensureCapacityInternal_d00df.cls = RJ5 ∧ yJ5_ensureCapacityInternal_d00df.cls ≠ "java/lang/invoke/MethodHandle" ∧ yJ5_ensureCapacityInternal_d00df.cls ≠ "java/lang/invoke/VarHandle" ∧ (parseMethodDescriptor yJ5_ensureCapacityInternal_d00df.desc).map (fun d => d.parameters.length) = some 1 := by decide +kernel
theorem hdS_J5_init_d00df : yJ5_init_d00df.cls ≠ "java/lang/invoke/MethodHandle" ∧ yJ5_init_d00df.cls ≠ "java/lang/invoke/VarHandle" ∧ (parseMethodDescriptor yJ5_init_d00df.desc).map (fun d => d.parameters.length) = some 1 := by decide +kernel
theorem hdV_J5_init_d00df : yJ5_init_d00df.cls = RJ5 ∧ yJ5_init_d00df.cls ≠ "java/lang/invoke/MethodHandle" ∧ yJ5_init_d00df.cls ≠ "java/lang/invoke/VarHandle" ∧ (parseMethodDescriptor yJ5_init_d00df.desc).map (fun d => d.parameters.length) = some 1 := by decide +kernel
theorem hdS_J4_init_da8c8 : yJ4_init_da8c8.cls ≠ "java/lang/invoke/MethodHandle" ∧ yJ4_init_da8c8.cls ≠ "java/lang/invoke/VarHandle" ∧ (parseMethodDescriptor yJ4_init_da8c8.desc).map (fun d => d.parameters.length) = some 0 := by decide +kernel
theorem hdV_J4_init_da8c8 : yJ4_init_da8c8.cls = RJ4 ∧ yJ4_init_da8c8.cls ≠ "java/lang/invoke/MethodHandle" ∧ yJ4_init_da8c8.cls ≠ "java/lang/invoke/VarHandle" ∧ (parseMethodDescriptor yJ4_init_da8c8.desc).map (fun d => d.parameters.length) = some 0 := by decide +kernel
theorem hdS_J5_length_8abf5 : yJ5_length_8abf5.cls ≠ "java/lang/invoke/MethodHandle" ∧ yJ5_length_8abf5.cls ≠ "java/lang/invoke/VarHandle" ∧ (parseMethodDescriptor yJ5_length_8abf5.desc).map (fun d => d.parameters.length) = some 0 := by decide +kernel
theorem hdV_J5_length_8abf5 : yJ5_length_8abf5.cls = RJ5 ∧ yJ5_length_8abf5.cls ≠ "java/lang/invoke/MethodHandle" ∧ yJ5_length_8abf5.cls ≠ "java/lang/invoke/VarHandle" ∧ (parseMethodDescriptor yJ5_length_8abf5.desc).map (fun d => d.parameters.length) = some 0 := by decide +kernel
theorem hdS_J4_length_8abf5 : yJ4_length_8abf5.cls ≠ "java/lang/invoke/MethodHandle" ∧ yJ4_length_8abf5.cls ≠ "java/lang/invoke/VarHandle" ∧ (parseMethodDescriptor yJ4_length_8abf5.desc).map (fun d => d.parameters.length) = some 0 := by decide +kernel
theorem hdV_J4_length_8abf5 : yJ4_length_8abf5.cls = RJ4 ∧ yJ4_length_8abf5.cls ≠ "java/lang/invoke/MethodHandle" ∧ yJ4_length_8abf5.cls ≠ "java/lang/invoke/VarHandle" ∧ (parseMethodDescriptor yJ4_length_8abf5.desc).map (fun d => d.parameters.length) = some 0 := by decide +kernel
theorem hdS_J5_setLength_d00df : yJ5_setLength_d00df.cls ≠ "java/lang/invoke/MethodHandle" ∧ yJ5_setLength_d00df.cls ≠ "java/lang/invoke/VarHandle" ∧ (parseMethodDescriptor yJ5_setLength_d00df.desc).map (fun d => d.parameters.length) = some 1 := by decide +kernel
theorem hdV_J5_setLength_d00df : yJ5_setLength_d00df.cls = RJ5 ∧ yJ5_setLength_d00df.cls ≠ "java/lang/invoke/MethodHandle" ∧ yJ5_setLength_d00df.cls ≠ "java/lang/invoke/VarHandle" ∧ (parseMethodDescriptor yJ5_setLength_d00df.desc).map (fun d => d.parameters.length) = some 1 := by decide +kernel
theorem hdS_J4_setLength_d00df : yJ4_setLength_d00df.cls ≠ "java/lang/invoke/MethodHandle" ∧ yJ4_setLength_d00df.cls ≠ "java/lang/invoke/VarHandle" ∧ (parseMethodDescriptor yJ4_setLength_d00df.desc).map (fun d => d.parameters.length) = some 1 := by decide +kernel
theorem hdV_J4_setLength_d00df : yJ4_setLength_d00df.cls = RJ4 ∧ yJ4_setLength_d00df.cls ≠ "java/lang/invoke/MethodHandle" ∧ yJ4_setLength_d00df.cls ≠ "java/lang/invoke/VarHandle" ∧ (parseMethodDescriptor yJ4_setLength_d00df.desc).map (fun d => d.parameters.length) = some 1 := by decide +kernel
set_option maxRecDepth 100000 in
set_option maxHeartbeats 4000000 in
theorem m_J6_stringSize_0f7a4 (l : Launch) {n : Nat} {K : Kt} {F : Ft} {G : Gt} {v : Int32} : Mw X l yJ6_stringSize_0f7a4 cJ6_stringSize_0f7a4 4 (some .int) 0 0 0 0 [.int v] n K F G (some (.int (nI (ssz v)))) n K F G := by
  refine Mw.of (lv := [(0, .int v)]) (by decide) (Nat.le_of_ble_eq_true rfl) rfl ?_
  intro p e s m args below meth c Q hC hin hQ
  have hC : Cx X p s m args meth c RJ6 cJ6_stringSize_0f7a4 4 (some .int) := hC
  have T : ∀ (z : Int32) (g : Nat), dgz z + g = ssz v → V X 4 p l e ({ frames := 0, cells := 0, slots := 0, locals := 0 } : Room) s m args below meth c Q 0 0 n K F G [(0, .int z), (1, .int (nI g))] 11 [] := by
    intro z g hd
    refine v_bipush (v := (-10)) hC dJ6_stringSize_0f7a4_11 (by decide) ?_
    refine v_istore_n (i := 2) (lv' := [(2, .int (-10)), (0, .int z), (1, .int (nI g))]) hC dJ6_stringSize_0f7a4_13 rfl (by decide) rfl ?_
    refine v_iconst (v := nI 1) hC dJ6_stringSize_0f7a4_14 (by decide) ?_
    refine v_istore_n (i := 3) (lv' := [(3, .int (nI 1)), (2, .int (-10)), (0, .int z), (1, .int (nI g))]) hC dJ6_stringSize_0f7a4_15 rfl (by decide) rfl ?_
    refine v_iload_n hC dJ6_stringSize_0f7a4_16 rfl 0 rfl ?_
    refine v_bipush (v := 10) hC dJ6_stringSize_0f7a4_17 (by decide) ?_
    refine v_icmp_ge (tgt := 42) hC dJ6_stringSize_0f7a4_19 (by decide) (fun q => absurd q (by decide)) (fun _ => ?_)
    refine v_iload_n hC dJ6_stringSize_0f7a4_22 rfl 2 rfl ?_
    refine v_iload_n hC dJ6_stringSize_0f7a4_23 rfl 1 rfl ?_
    refine v_icmp_le (tgt := 31) hC dJ6_stringSize_0f7a4_24 (by decide) (fun w1 => ?_) (fun w1 => ?_)
    rotate_left
    · have hz : dgz z = 1 := by unfold dgz; rw [if_neg w1]
      refine v_iload_n hC dJ6_stringSize_0f7a4_27 rfl 0 rfl ?_
      refine v_iload_n hC dJ6_stringSize_0f7a4_28 rfl 3 rfl ?_
      refine v_iadd hC dJ6_stringSize_0f7a4_29 ?_
      exact v_iret hC rfl hQ dJ6_stringSize_0f7a4_30 (by rw [nI_add, ← hd, hz]) rfl rfl rfl rfl
    refine v_bipush (v := 10) hC dJ6_stringSize_0f7a4_31 (by decide) ?_
    refine v_iload_n hC dJ6_stringSize_0f7a4_33 rfl 1 rfl ?_
    refine v_imul hC dJ6_stringSize_0f7a4_34 ?_
    refine v_cst (show _ = Value.int (-100) from by decide) ?_
    refine v_istore_n (i := 2) (lv' := [(2, .int (-100)), (3, .int (nI 1)), (0, .int z), (1, .int (nI g))]) hC dJ6_stringSize_0f7a4_35 rfl (by decide) rfl ?_
    refine v_iinc (v := nI 2) (lv' := [(3, .int (nI 2)), (2, .int (-100)), (0, .int z), (1, .int (nI g))]) hC dJ6_stringSize_0f7a4_36 1 rfl (by decide) (by decide) rfl ?_
    refine v_goto (tgt := 16) hC dJ6_stringSize_0f7a4_39 (by decide) ?_
    refine v_iload_n hC dJ6_stringSize_0f7a4_16 rfl 0 rfl ?_
    refine v_bipush (v := 10) hC dJ6_stringSize_0f7a4_17 (by decide) ?_
    refine v_icmp_ge (tgt := 42) hC dJ6_stringSize_0f7a4_19 (by decide) (fun q => absurd q (by decide)) (fun _ => ?_)
    refine v_iload_n hC dJ6_stringSize_0f7a4_22 rfl 2 rfl ?_
    refine v_iload_n hC dJ6_stringSize_0f7a4_23 rfl 1 rfl ?_
    refine v_icmp_le (tgt := 31) hC dJ6_stringSize_0f7a4_24 (by decide) (fun w2 => ?_) (fun w2 => ?_)
    rotate_left
    · have hz : dgz z = 2 := by unfold dgz; rw [if_pos w1, if_neg w2]
      refine v_iload_n hC dJ6_stringSize_0f7a4_27 rfl 0 rfl ?_
      refine v_iload_n hC dJ6_stringSize_0f7a4_28 rfl 3 rfl ?_
      refine v_iadd hC dJ6_stringSize_0f7a4_29 ?_
      exact v_iret hC rfl hQ dJ6_stringSize_0f7a4_30 (by rw [nI_add, ← hd, hz]) rfl rfl rfl rfl
    refine v_bipush (v := 10) hC dJ6_stringSize_0f7a4_31 (by decide) ?_
    refine v_iload_n hC dJ6_stringSize_0f7a4_33 rfl 1 rfl ?_
    refine v_imul hC dJ6_stringSize_0f7a4_34 ?_
    refine v_cst (show _ = Value.int (-1000) from by decide) ?_
    refine v_istore_n (i := 2) (lv' := [(2, .int (-1000)), (3, .int (nI 2)), (0, .int z), (1, .int (nI g))]) hC dJ6_stringSize_0f7a4_35 rfl (by decide) rfl ?_
    refine v_iinc (v := nI 3) (lv' := [(3, .int (nI 3)), (2, .int (-1000)), (0, .int z), (1, .int (nI g))]) hC dJ6_stringSize_0f7a4_36 1 rfl (by decide) (by decide) rfl ?_
    refine v_goto (tgt := 16) hC dJ6_stringSize_0f7a4_39 (by decide) ?_
    refine v_iload_n hC dJ6_stringSize_0f7a4_16 rfl 0 rfl ?_
    refine v_bipush (v := 10) hC dJ6_stringSize_0f7a4_17 (by decide) ?_
    refine v_icmp_ge (tgt := 42) hC dJ6_stringSize_0f7a4_19 (by decide) (fun q => absurd q (by decide)) (fun _ => ?_)
    refine v_iload_n hC dJ6_stringSize_0f7a4_22 rfl 2 rfl ?_
    refine v_iload_n hC dJ6_stringSize_0f7a4_23 rfl 1 rfl ?_
    refine v_icmp_le (tgt := 31) hC dJ6_stringSize_0f7a4_24 (by decide) (fun w3 => ?_) (fun w3 => ?_)
    rotate_left
    · have hz : dgz z = 3 := by unfold dgz; rw [if_pos w1, if_pos w2, if_neg w3]
      refine v_iload_n hC dJ6_stringSize_0f7a4_27 rfl 0 rfl ?_
      refine v_iload_n hC dJ6_stringSize_0f7a4_28 rfl 3 rfl ?_
      refine v_iadd hC dJ6_stringSize_0f7a4_29 ?_
      exact v_iret hC rfl hQ dJ6_stringSize_0f7a4_30 (by rw [nI_add, ← hd, hz]) rfl rfl rfl rfl
    refine v_bipush (v := 10) hC dJ6_stringSize_0f7a4_31 (by decide) ?_
    refine v_iload_n hC dJ6_stringSize_0f7a4_33 rfl 1 rfl ?_
    refine v_imul hC dJ6_stringSize_0f7a4_34 ?_
    refine v_cst (show _ = Value.int (-10000) from by decide) ?_
    refine v_istore_n (i := 2) (lv' := [(2, .int (-10000)), (3, .int (nI 3)), (0, .int z), (1, .int (nI g))]) hC dJ6_stringSize_0f7a4_35 rfl (by decide) rfl ?_
    refine v_iinc (v := nI 4) (lv' := [(3, .int (nI 4)), (2, .int (-10000)), (0, .int z), (1, .int (nI g))]) hC dJ6_stringSize_0f7a4_36 1 rfl (by decide) (by decide) rfl ?_
    refine v_goto (tgt := 16) hC dJ6_stringSize_0f7a4_39 (by decide) ?_
    refine v_iload_n hC dJ6_stringSize_0f7a4_16 rfl 0 rfl ?_
    refine v_bipush (v := 10) hC dJ6_stringSize_0f7a4_17 (by decide) ?_
    refine v_icmp_ge (tgt := 42) hC dJ6_stringSize_0f7a4_19 (by decide) (fun q => absurd q (by decide)) (fun _ => ?_)
    refine v_iload_n hC dJ6_stringSize_0f7a4_22 rfl 2 rfl ?_
    refine v_iload_n hC dJ6_stringSize_0f7a4_23 rfl 1 rfl ?_
    refine v_icmp_le (tgt := 31) hC dJ6_stringSize_0f7a4_24 (by decide) (fun w4 => ?_) (fun w4 => ?_)
    rotate_left
    · have hz : dgz z = 4 := by unfold dgz; rw [if_pos w1, if_pos w2, if_pos w3, if_neg w4]
      refine v_iload_n hC dJ6_stringSize_0f7a4_27 rfl 0 rfl ?_
      refine v_iload_n hC dJ6_stringSize_0f7a4_28 rfl 3 rfl ?_
      refine v_iadd hC dJ6_stringSize_0f7a4_29 ?_
      exact v_iret hC rfl hQ dJ6_stringSize_0f7a4_30 (by rw [nI_add, ← hd, hz]) rfl rfl rfl rfl
    refine v_bipush (v := 10) hC dJ6_stringSize_0f7a4_31 (by decide) ?_
    refine v_iload_n hC dJ6_stringSize_0f7a4_33 rfl 1 rfl ?_
    refine v_imul hC dJ6_stringSize_0f7a4_34 ?_
    refine v_cst (show _ = Value.int (-100000) from by decide) ?_
    refine v_istore_n (i := 2) (lv' := [(2, .int (-100000)), (3, .int (nI 4)), (0, .int z), (1, .int (nI g))]) hC dJ6_stringSize_0f7a4_35 rfl (by decide) rfl ?_
    refine v_iinc (v := nI 5) (lv' := [(3, .int (nI 5)), (2, .int (-100000)), (0, .int z), (1, .int (nI g))]) hC dJ6_stringSize_0f7a4_36 1 rfl (by decide) (by decide) rfl ?_
    refine v_goto (tgt := 16) hC dJ6_stringSize_0f7a4_39 (by decide) ?_
    refine v_iload_n hC dJ6_stringSize_0f7a4_16 rfl 0 rfl ?_
    refine v_bipush (v := 10) hC dJ6_stringSize_0f7a4_17 (by decide) ?_
    refine v_icmp_ge (tgt := 42) hC dJ6_stringSize_0f7a4_19 (by decide) (fun q => absurd q (by decide)) (fun _ => ?_)
    refine v_iload_n hC dJ6_stringSize_0f7a4_22 rfl 2 rfl ?_
    refine v_iload_n hC dJ6_stringSize_0f7a4_23 rfl 1 rfl ?_
    refine v_icmp_le (tgt := 31) hC dJ6_stringSize_0f7a4_24 (by decide) (fun w5 => ?_) (fun w5 => ?_)
    rotate_left
    · have hz : dgz z = 5 := by unfold dgz; rw [if_pos w1, if_pos w2, if_pos w3, if_pos w4, if_neg w5]
      refine v_iload_n hC dJ6_stringSize_0f7a4_27 rfl 0 rfl ?_
      refine v_iload_n hC dJ6_stringSize_0f7a4_28 rfl 3 rfl ?_
      refine v_iadd hC dJ6_stringSize_0f7a4_29 ?_
      exact v_iret hC rfl hQ dJ6_stringSize_0f7a4_30 (by rw [nI_add, ← hd, hz]) rfl rfl rfl rfl
    refine v_bipush (v := 10) hC dJ6_stringSize_0f7a4_31 (by decide) ?_
    refine v_iload_n hC dJ6_stringSize_0f7a4_33 rfl 1 rfl ?_
    refine v_imul hC dJ6_stringSize_0f7a4_34 ?_
    refine v_cst (show _ = Value.int (-1000000) from by decide) ?_
    refine v_istore_n (i := 2) (lv' := [(2, .int (-1000000)), (3, .int (nI 5)), (0, .int z), (1, .int (nI g))]) hC dJ6_stringSize_0f7a4_35 rfl (by decide) rfl ?_
    refine v_iinc (v := nI 6) (lv' := [(3, .int (nI 6)), (2, .int (-1000000)), (0, .int z), (1, .int (nI g))]) hC dJ6_stringSize_0f7a4_36 1 rfl (by decide) (by decide) rfl ?_
    refine v_goto (tgt := 16) hC dJ6_stringSize_0f7a4_39 (by decide) ?_
    refine v_iload_n hC dJ6_stringSize_0f7a4_16 rfl 0 rfl ?_
    refine v_bipush (v := 10) hC dJ6_stringSize_0f7a4_17 (by decide) ?_
    refine v_icmp_ge (tgt := 42) hC dJ6_stringSize_0f7a4_19 (by decide) (fun q => absurd q (by decide)) (fun _ => ?_)
    refine v_iload_n hC dJ6_stringSize_0f7a4_22 rfl 2 rfl ?_
    refine v_iload_n hC dJ6_stringSize_0f7a4_23 rfl 1 rfl ?_
    refine v_icmp_le (tgt := 31) hC dJ6_stringSize_0f7a4_24 (by decide) (fun w6 => ?_) (fun w6 => ?_)
    rotate_left
    · have hz : dgz z = 6 := by unfold dgz; rw [if_pos w1, if_pos w2, if_pos w3, if_pos w4, if_pos w5, if_neg w6]
      refine v_iload_n hC dJ6_stringSize_0f7a4_27 rfl 0 rfl ?_
      refine v_iload_n hC dJ6_stringSize_0f7a4_28 rfl 3 rfl ?_
      refine v_iadd hC dJ6_stringSize_0f7a4_29 ?_
      exact v_iret hC rfl hQ dJ6_stringSize_0f7a4_30 (by rw [nI_add, ← hd, hz]) rfl rfl rfl rfl
    refine v_bipush (v := 10) hC dJ6_stringSize_0f7a4_31 (by decide) ?_
    refine v_iload_n hC dJ6_stringSize_0f7a4_33 rfl 1 rfl ?_
    refine v_imul hC dJ6_stringSize_0f7a4_34 ?_
    refine v_cst (show _ = Value.int (-10000000) from by decide) ?_
    refine v_istore_n (i := 2) (lv' := [(2, .int (-10000000)), (3, .int (nI 6)), (0, .int z), (1, .int (nI g))]) hC dJ6_stringSize_0f7a4_35 rfl (by decide) rfl ?_
    refine v_iinc (v := nI 7) (lv' := [(3, .int (nI 7)), (2, .int (-10000000)), (0, .int z), (1, .int (nI g))]) hC dJ6_stringSize_0f7a4_36 1 rfl (by decide) (by decide) rfl ?_
    refine v_goto (tgt := 16) hC dJ6_stringSize_0f7a4_39 (by decide) ?_
    refine v_iload_n hC dJ6_stringSize_0f7a4_16 rfl 0 rfl ?_
    refine v_bipush (v := 10) hC dJ6_stringSize_0f7a4_17 (by decide) ?_
    refine v_icmp_ge (tgt := 42) hC dJ6_stringSize_0f7a4_19 (by decide) (fun q => absurd q (by decide)) (fun _ => ?_)
    refine v_iload_n hC dJ6_stringSize_0f7a4_22 rfl 2 rfl ?_
    refine v_iload_n hC dJ6_stringSize_0f7a4_23 rfl 1 rfl ?_
    refine v_icmp_le (tgt := 31) hC dJ6_stringSize_0f7a4_24 (by decide) (fun w7 => ?_) (fun w7 => ?_)
    rotate_left
    · have hz : dgz z = 7 := by unfold dgz; rw [if_pos w1, if_pos w2, if_pos w3, if_pos w4, if_pos w5, if_pos w6, if_neg w7]
      refine v_iload_n hC dJ6_stringSize_0f7a4_27 rfl 0 rfl ?_
      refine v_iload_n hC dJ6_stringSize_0f7a4_28 rfl 3 rfl ?_
      refine v_iadd hC dJ6_stringSize_0f7a4_29 ?_
      exact v_iret hC rfl hQ dJ6_stringSize_0f7a4_30 (by rw [nI_add, ← hd, hz]) rfl rfl rfl rfl
    refine v_bipush (v := 10) hC dJ6_stringSize_0f7a4_31 (by decide) ?_
    refine v_iload_n hC dJ6_stringSize_0f7a4_33 rfl 1 rfl ?_
    refine v_imul hC dJ6_stringSize_0f7a4_34 ?_
    refine v_cst (show _ = Value.int (-100000000) from by decide) ?_
    refine v_istore_n (i := 2) (lv' := [(2, .int (-100000000)), (3, .int (nI 7)), (0, .int z), (1, .int (nI g))]) hC dJ6_stringSize_0f7a4_35 rfl (by decide) rfl ?_
    refine v_iinc (v := nI 8) (lv' := [(3, .int (nI 8)), (2, .int (-100000000)), (0, .int z), (1, .int (nI g))]) hC dJ6_stringSize_0f7a4_36 1 rfl (by decide) (by decide) rfl ?_
    refine v_goto (tgt := 16) hC dJ6_stringSize_0f7a4_39 (by decide) ?_
    refine v_iload_n hC dJ6_stringSize_0f7a4_16 rfl 0 rfl ?_
    refine v_bipush (v := 10) hC dJ6_stringSize_0f7a4_17 (by decide) ?_
    refine v_icmp_ge (tgt := 42) hC dJ6_stringSize_0f7a4_19 (by decide) (fun q => absurd q (by decide)) (fun _ => ?_)
    refine v_iload_n hC dJ6_stringSize_0f7a4_22 rfl 2 rfl ?_
    refine v_iload_n hC dJ6_stringSize_0f7a4_23 rfl 1 rfl ?_
    refine v_icmp_le (tgt := 31) hC dJ6_stringSize_0f7a4_24 (by decide) (fun w8 => ?_) (fun w8 => ?_)
    rotate_left
    · have hz : dgz z = 8 := by unfold dgz; rw [if_pos w1, if_pos w2, if_pos w3, if_pos w4, if_pos w5, if_pos w6, if_pos w7, if_neg w8]
      refine v_iload_n hC dJ6_stringSize_0f7a4_27 rfl 0 rfl ?_
      refine v_iload_n hC dJ6_stringSize_0f7a4_28 rfl 3 rfl ?_
      refine v_iadd hC dJ6_stringSize_0f7a4_29 ?_
      exact v_iret hC rfl hQ dJ6_stringSize_0f7a4_30 (by rw [nI_add, ← hd, hz]) rfl rfl rfl rfl
    refine v_bipush (v := 10) hC dJ6_stringSize_0f7a4_31 (by decide) ?_
    refine v_iload_n hC dJ6_stringSize_0f7a4_33 rfl 1 rfl ?_
    refine v_imul hC dJ6_stringSize_0f7a4_34 ?_
    refine v_cst (show _ = Value.int (-1000000000) from by decide) ?_
    refine v_istore_n (i := 2) (lv' := [(2, .int (-1000000000)), (3, .int (nI 8)), (0, .int z), (1, .int (nI g))]) hC dJ6_stringSize_0f7a4_35 rfl (by decide) rfl ?_
    refine v_iinc (v := nI 9) (lv' := [(3, .int (nI 9)), (2, .int (-1000000000)), (0, .int z), (1, .int (nI g))]) hC dJ6_stringSize_0f7a4_36 1 rfl (by decide) (by decide) rfl ?_
    refine v_goto (tgt := 16) hC dJ6_stringSize_0f7a4_39 (by decide) ?_
    refine v_iload_n hC dJ6_stringSize_0f7a4_16 rfl 0 rfl ?_
    refine v_bipush (v := 10) hC dJ6_stringSize_0f7a4_17 (by decide) ?_
    refine v_icmp_ge (tgt := 42) hC dJ6_stringSize_0f7a4_19 (by decide) (fun q => absurd q (by decide)) (fun _ => ?_)
    refine v_iload_n hC dJ6_stringSize_0f7a4_22 rfl 2 rfl ?_
    refine v_iload_n hC dJ6_stringSize_0f7a4_23 rfl 1 rfl ?_
    refine v_icmp_le (tgt := 31) hC dJ6_stringSize_0f7a4_24 (by decide) (fun w9 => ?_) (fun w9 => ?_)
    rotate_left
    · have hz : dgz z = 9 := by unfold dgz; rw [if_pos w1, if_pos w2, if_pos w3, if_pos w4, if_pos w5, if_pos w6, if_pos w7, if_pos w8, if_neg w9]
      refine v_iload_n hC dJ6_stringSize_0f7a4_27 rfl 0 rfl ?_
      refine v_iload_n hC dJ6_stringSize_0f7a4_28 rfl 3 rfl ?_
      refine v_iadd hC dJ6_stringSize_0f7a4_29 ?_
      exact v_iret hC rfl hQ dJ6_stringSize_0f7a4_30 (by rw [nI_add, ← hd, hz]) rfl rfl rfl rfl
    refine v_bipush (v := 10) hC dJ6_stringSize_0f7a4_31 (by decide) ?_
    refine v_iload_n hC dJ6_stringSize_0f7a4_33 rfl 1 rfl ?_
    refine v_imul hC dJ6_stringSize_0f7a4_34 ?_
    refine v_cst (show _ = Value.int (-1410065408) from by decide) ?_
    refine v_istore_n (i := 2) (lv' := [(2, .int (-1410065408)), (3, .int (nI 9)), (0, .int z), (1, .int (nI g))]) hC dJ6_stringSize_0f7a4_35 rfl (by decide) rfl ?_
    refine v_iinc (v := nI 10) (lv' := [(3, .int (nI 10)), (2, .int (-1410065408)), (0, .int z), (1, .int (nI g))]) hC dJ6_stringSize_0f7a4_36 1 rfl (by decide) (by decide) rfl ?_
    refine v_goto (tgt := 16) hC dJ6_stringSize_0f7a4_39 (by decide) ?_
    refine v_iload_n hC dJ6_stringSize_0f7a4_16 rfl 0 rfl ?_
    refine v_bipush (v := 10) hC dJ6_stringSize_0f7a4_17 (by decide) ?_
    refine v_icmp_ge (tgt := 42) hC dJ6_stringSize_0f7a4_19 (by decide) (fun _ => ?_) (fun q => absurd (by decide) q)
    have hz : dgz z = 10 := by unfold dgz; rw [if_pos w1, if_pos w2, if_pos w3, if_pos w4, if_pos w5, if_pos w6, if_pos w7, if_pos w8, if_pos w9]
    refine v_bipush (v := nI 10) hC dJ6_stringSize_0f7a4_42 (by decide) ?_
    refine v_iload_n hC dJ6_stringSize_0f7a4_44 rfl 3 rfl ?_
    refine v_iadd hC dJ6_stringSize_0f7a4_45 ?_
    exact v_iret hC rfl hQ dJ6_stringSize_0f7a4_46 (by rw [nI_add, ← hd, hz]) rfl rfl rfl rfl
  refine v_iconst (v := nI 1) hC dJ6_stringSize_0f7a4_0 (by decide) ?_
  refine v_istore_n (i := 1) (lv' := [(1, .int (nI 1)), (0, .int v)]) hC dJ6_stringSize_0f7a4_1 rfl (by decide) rfl ?_
  refine v_iload_n hC dJ6_stringSize_0f7a4_2 rfl 1 rfl ?_
  refine v_if_lt (tgt := 11) hC dJ6_stringSize_0f7a4_3 (by decide) (fun w => ?_) (fun w => ?_)
  · refine v_sub (lv' := [(0, .int v), (1, .int (nI 1))]) [1, 0] rfl ?_
    exact T _ _ (by unfold ssz; rw [if_pos w, if_pos w])
  · refine v_iconst (v := nI 0) hC dJ6_stringSize_0f7a4_6 (by decide) ?_
    refine v_istore_n (i := 1) (lv' := [(1, .int (nI 0)), (0, .int v)]) hC dJ6_stringSize_0f7a4_7 rfl (by decide) rfl ?_
    refine v_iload_n hC dJ6_stringSize_0f7a4_8 rfl 1 rfl ?_
    refine v_ineg hC dJ6_stringSize_0f7a4_9 ?_
    refine v_istore_n (i := 0) (lv' := [(0, .int (0 - v)), (1, .int (nI 0))]) hC dJ6_stringSize_0f7a4_10 rfl (by decide) rfl ?_
    refine v_sub (lv' := [(0, .int (0 - v)), (1, .int (nI 0))]) [0, 1] rfl ?_
    exact T _ _ (by unfold ssz; rw [if_neg w, if_neg w])
theorem i_div100 {z : Int32} (h : z.toInt ≤ 0) : (z / 100).toInt = -((-z.toInt) / 100) := by
  have h0 := fb_rng z
  have h1 : (100 : Int32).toInt = 100 := by decide
  obtain ⟨w, hw⟩ : ∃ w : Int, w = -z.toInt := ⟨_, rfl⟩
  rw [Int32.toInt_div, h1, show z.toInt = -w by omega, Int.neg_tdiv, Int.tdiv_eq_ediv_of_nonneg (by omega), Int.neg_neg]
  exact fb_bmod (by omega) (by omega)
theorem i_rem100 {z : Int32} (h : z.toInt ≤ 0) : (z / 100 * 100 - z).toInt = (-z.toInt) % 100 := by
  have h0 := fb_rng z
  have h1 : (100 : Int32).toInt = 100 := by decide
  have h2 := i_div100 h
  have h3 : (z / 100 * 100).toInt = (z / 100).toInt * 100 := by
    have := fb_mulI (x := z / 100) (y := 100) (by rw [h1, h2]; omega) (by rw [h1, h2]; omega)
    rw [this, h1]
  rw [fb_subI (by rw [h3, h2]; omega) (by rw [h3, h2]; omega), h3, h2]
  omega
theorem vin_i {x : Int32} {N : Nat} (h0 : 0 ≤ x.toInt) (h1 : x.toInt < N) : vp_in x N := by
  rintro (h | h)
  · rw [Int32.lt_iff_toInt_lt, Int32.toInt_zero] at h
    omega
  · have h3 : N ≤ x.toInt.toNat := h
    omega
theorem nI_m1 {p : Nat} (h : 0 < p) : nI p + Int32.ofInt (-1) = nI (p - 1) := by
  rw [show Int32.ofInt (-1) = -1 from by decide]
  exact sb_m1 h
set_option maxRecDepth 100000 in
set_option maxHeartbeats 4000000 in
theorem m_J6_getChars_ba4f3 (l : Launch) {n : Nat} {K : Kt} {F : Ft} {G : Gt} {v : Int32} {P0 arr cap : Nat} (ha : K arr = (22, cap)) (hcap : cap ≤ 300) (hp0 : ssz v ≤ P0) (hp1 : P0 ≤ cap) (hfit : sb_Fit (F arr)) : Mr X l yJ6_getChars_ba4f3 cJ6_getChars_ba4f3 7 (some .int) 0 0 0 0 [.int v, .int (nI P0), .ref arr] n K F G (fun o n' K' F' G' => (∃ i, o = some (.int i)) ∧ n' = n ∧ K' = K ∧ G' = G ∧ By F F' arr) := by
  refine Mr.of (lv := [(0, .int v), (1, .int (nI P0)), (2, .ref arr)]) (by decide) (Nat.le_of_ble_eq_true rfl) rfl ?_
  intro p e s m args below meth c Q hC hin hQ
  have hC : Cx X p s m args meth c RJ6 cJ6_getChars_ba4f3 7 (some .int) := hC
  have E : ∀ (g p1 : Nat) (F' : Ft), g ≤ 1 → g ≤ p1 → p1 ≤ cap → By F F' arr → V X 7 p l e ({ frames := 0, cells := 0, slots := 0, locals := 0 } : Room) s m args below meth c Q 0 0 n K F' G [(5, .int (nI p1)), (6, .int (nI g)), (2, .ref arr)] 104 [] := by
    intro g p1 F' hg hgp hpc hB
    refine v_iload hC dJ6_getChars_ba4f3_104 1 rfl ?_
    refine v_if_eq (tgt := 118) hC dJ6_getChars_ba4f3_106 (by decide) (fun w => ?_) (fun w => ?_)
    · refine v_iload hC dJ6_getChars_ba4f3_118 0 rfl ?_
      refine v_toR (o := some (.int (nI p1))) (n' := n) hQ ⟨⟨_, rfl⟩, rfl, rfl, rfl, hB⟩ ?_
      exact v_iret hC rfl rfl dJ6_getChars_ba4f3_120 rfl rfl rfl rfl rfl
    · have hg0 : 0 < p1 := by
        rcases Nat.eq_zero_or_pos g with q | q
        · exact absurd (by rw [q]; rfl) w
        · omega
      refine v_aload_n hC dJ6_getChars_ba4f3_109 rfl 2 rfl ?_
      refine v_iinc (v := nI (p1 - 1)) (lv' := [(5, .int (nI (p1 - 1))), (6, .int (nI g)), (2, .ref arr)]) hC dJ6_getChars_ba4f3_110 0 rfl (nI_m1 hg0) (by decide) rfl ?_
      refine v_iload hC dJ6_getChars_ba4f3_113 0 rfl ?_
      refine v_bipush (v := 45) hC dJ6_getChars_ba4f3_115 (by decide) ?_
      refine v_bast (N := cap) hC ha (nI_in (by omega) (by omega)) dJ6_getChars_ba4f3_117 ?_
      have hB := hB.up (i := (nI (p1 - 1)).toNatClampNeg) (x := 45)
      refine v_iload hC dJ6_getChars_ba4f3_118 0 rfl ?_
      refine v_toR (o := some (.int (nI (p1 - 1)))) (n' := n) hQ ⟨⟨_, rfl⟩, rfl, rfl, rfl, hB⟩ ?_
      exact v_iret hC rfl rfl dJ6_getChars_ba4f3_120 rfl rfl rfl rfl rfl
  have L : ∀ (g r : Nat) (z : Int32) (p1 : Nat) (F' : Ft), g ≤ 1 → z.toInt ≤ 0 → -((10 : Int) ^ r) < z.toInt → 1 ≤ r → r + g ≤ p1 → p1 ≤ cap → By F F' arr → V X 7 p l e ({ frames := 0, cells := 0, slots := 0, locals := 0 } : Room) s m args below meth c Q 0 0 n K F' G [(0, .int z), (5, .int (nI p1)), (6, .int (nI g)), (2, .ref arr)] 22 [] := by
    intro g r
    induction r using Nat.strongRecOn with
    | ind r ih =>
      intro z p1 F' hg hz hr h1 hp hpc hB
      refine v_iload_n hC dJ6_getChars_ba4f3_22 rfl 0 rfl ?_
      refine v_bipush (v := (-100)) hC dJ6_getChars_ba4f3_23 (by decide) ?_
      refine v_icmp_gt (tgt := 72) hC dJ6_getChars_ba4f3_25 (by decide) (fun w => ?_) (fun w => ?_)
      rotate_left
      · have w1 : z.toInt ≤ -100 := by rw [Int32.lt_iff_toInt_lt, show (-100 : Int32).toInt = -100 from by decide] at w; omega
        obtain ⟨r2, rfl⟩ : ∃ r2, r = r2 + 2 := ⟨r - 2, by
          rcases (show r = 1 ∨ 2 ≤ r by omega) with rfl | q
          · rw [show (10 : Int) ^ 1 = 10 from by decide] at hr; omega
          · omega⟩
        have hr2 : 1 ≤ r2 := by
          rcases Nat.eq_zero_or_pos r2 with q | q
          · subst q; rw [show (10 : Int) ^ (0 + 2) = 100 from by decide] at hr; omega
          · exact q
        have e1 := i_div100 hz
        have e2 := i_rem100 hz
        have e3 : (10 : Int) ^ (r2 + 2) = (10 : Int) ^ r2 * 100 := by rw [Int.pow_add]; rfl
        rw [e3] at hr
        refine v_iload_n hC dJ6_getChars_ba4f3_28 rfl 0 rfl ?_
        refine v_bipush (v := 100) hC dJ6_getChars_ba4f3_29 (by decide) ?_
        refine v_idiv hC dJ6_getChars_ba4f3_31 (by decide) ?_
        refine v_istore_n (i := 3) (lv' := [(3, .int (z / 100)), (0, .int z), (5, .int (nI p1)), (6, .int (nI g)), (2, .ref arr)]) hC dJ6_getChars_ba4f3_32 rfl (by decide) rfl ?_
        refine v_iload_n hC dJ6_getChars_ba4f3_33 rfl 0 rfl ?_
        refine v_bipush (v := 100) hC dJ6_getChars_ba4f3_34 (by decide) ?_
        refine v_imul hC dJ6_getChars_ba4f3_36 ?_
        refine v_iload_n hC dJ6_getChars_ba4f3_37 rfl 1 rfl ?_
        refine v_isub hC dJ6_getChars_ba4f3_38 ?_
        refine v_istore (i := 4) (lv' := [(4, .int (((z / 100) * 100) - z)), (3, .int (z / 100)), (0, .int z), (5, .int (nI p1)), (6, .int (nI g)), (2, .ref arr)]) hC dJ6_getChars_ba4f3_39 (by decide) rfl ?_
        refine v_iload_n hC dJ6_getChars_ba4f3_41 rfl 1 rfl ?_
        refine v_istore_n (i := 0) (lv' := [(0, .int (z / 100)), (4, .int (((z / 100) * 100) - z)), (3, .int (z / 100)), (5, .int (nI p1)), (6, .int (nI g)), (2, .ref arr)]) hC dJ6_getChars_ba4f3_42 rfl (by decide) rfl ?_
        refine v_aload_n hC dJ6_getChars_ba4f3_43 rfl 5 rfl ?_
        refine v_iinc (v := nI (p1 - 1)) (lv' := [(5, .int (nI (p1 - 1))), (0, .int (z / 100)), (4, .int (((z / 100) * 100) - z)), (3, .int (z / 100)), (6, .int (nI g)), (2, .ref arr)]) hC dJ6_getChars_ba4f3_44 3 rfl (nI_m1 (by omega)) (by decide) rfl ?_
        refine v_iload hC dJ6_getChars_ba4f3_47 0 rfl ?_
        refine v_getsO hC aw_671 dJ6_getChars_ba4f3_49 (fun d1 hd1 => ?_)
        refine v_iload hC dJ6_getChars_ba4f3_52 2 rfl ?_
        refine v_tbl hC hd1 (vin_i (by rw [e2]; omega) (by rw [e2]; omega)) dJ6_getChars_ba4f3_54 (fun b1 => ?_)
        refine v_bast (N := cap) hC ha (nI_in (by omega) (by omega)) dJ6_getChars_ba4f3_55 ?_
        refine v_aload_n hC dJ6_getChars_ba4f3_56 rfl 5 rfl ?_
        refine v_iinc (v := nI (p1 - 1 - 1)) (lv' := [(5, .int (nI (p1 - 1 - 1))), (0, .int (z / 100)), (4, .int (((z / 100) * 100) - z)), (3, .int (z / 100)), (6, .int (nI g)), (2, .ref arr)]) hC dJ6_getChars_ba4f3_57 0 rfl (nI_m1 (by omega)) (by decide) rfl ?_
        refine v_iload hC dJ6_getChars_ba4f3_60 0 rfl ?_
        refine v_getsT hC aw_673 dJ6_getChars_ba4f3_62 (fun d2 hd2 => ?_)
        refine v_iload hC dJ6_getChars_ba4f3_65 2 rfl ?_
        refine v_tbl hC hd2 (vin_i (by rw [e2]; omega) (by rw [e2]; omega)) dJ6_getChars_ba4f3_67 (fun b2 => ?_)
        refine v_bast (N := cap) hC ha (nI_in (by omega) (by omega)) dJ6_getChars_ba4f3_68 ?_
        refine v_goto (tgt := 22) hC dJ6_getChars_ba4f3_69 (by decide) ?_
        refine v_sub (lv' := [(0, .int (z / 100)), (5, .int (nI (p1 - 1 - 1))), (6, .int (nI g)), (2, .ref arr)]) [1, 0, 4, 5] rfl ?_
        exact ih r2 (by omega) _ _ _ hg (by rw [e1]; omega) (by rw [e1]; omega) hr2 (by omega) (by omega) (hB.up.up)
      · have w1 : -100 < z.toInt := by rw [Int32.lt_iff_toInt_lt, show (-100 : Int32).toInt = -100 from by decide] at w; exact w
        have e1 : ((0 : Int32) - z).toInt = -z.toInt := by rw [fb_subI (by rw [Int32.toInt_zero]; omega) (by rw [Int32.toInt_zero]; omega), Int32.toInt_zero]; omega
        refine v_aload_n hC dJ6_getChars_ba4f3_72 rfl 3 rfl ?_
        refine v_iinc (v := nI (p1 - 1)) (lv' := [(5, .int (nI (p1 - 1))), (0, .int z), (6, .int (nI g)), (2, .ref arr)]) hC dJ6_getChars_ba4f3_73 1 rfl (nI_m1 (by omega)) (by decide) rfl ?_
        refine v_iload hC dJ6_getChars_ba4f3_76 0 rfl ?_
        refine v_getsO hC aw_671 dJ6_getChars_ba4f3_78 (fun d1 hd1 => ?_)
        refine v_iload_n hC dJ6_getChars_ba4f3_81 rfl 1 rfl ?_
        refine v_ineg hC dJ6_getChars_ba4f3_82 ?_
        refine v_tbl hC hd1 (vin_i (by rw [e1]; omega) (by rw [e1]; omega)) dJ6_getChars_ba4f3_83 (fun b1 => ?_)
        refine v_bast (N := cap) hC ha (nI_in (by omega) (by omega)) dJ6_getChars_ba4f3_84 ?_
        refine v_iload_n hC dJ6_getChars_ba4f3_85 rfl 1 rfl ?_
        refine v_bipush (v := (-9)) hC dJ6_getChars_ba4f3_86 (by decide) ?_
        refine v_icmp_ge (tgt := 104) hC dJ6_getChars_ba4f3_88 (by decide) (fun w2 => ?_) (fun w2 => ?_)
        · refine v_sub (lv' := [(5, .int (nI (p1 - 1))), (6, .int (nI g)), (2, .ref arr)]) [0, 2, 3] rfl ?_
          exact E _ _ _ hg (by omega) (by omega) hB.up
        · have w3 : z.toInt < -9 := by rw [Int32.le_iff_toInt_le, show (-9 : Int32).toInt = -9 from by decide] at w2; omega
          have h2 : 2 ≤ r := by
            rcases (show r = 1 ∨ 2 ≤ r by omega) with rfl | q
            · rw [show (10 : Int) ^ 1 = 10 from by decide] at hr; omega
            · exact q
          refine v_aload_n hC dJ6_getChars_ba4f3_91 rfl 3 rfl ?_
          refine v_iinc (v := nI (p1 - 1 - 1)) (lv' := [(5, .int (nI (p1 - 1 - 1))), (0, .int z), (6, .int (nI g)), (2, .ref arr)]) hC dJ6_getChars_ba4f3_92 0 rfl (nI_m1 (by omega)) (by decide) rfl ?_
          refine v_iload hC dJ6_getChars_ba4f3_95 0 rfl ?_
          refine v_getsT hC aw_673 dJ6_getChars_ba4f3_97 (fun d2 hd2 => ?_)
          refine v_iload_n hC dJ6_getChars_ba4f3_100 rfl 1 rfl ?_
          refine v_ineg hC dJ6_getChars_ba4f3_101 ?_
          refine v_tbl hC hd2 (vin_i (by rw [e1]; omega) (by rw [e1]; omega)) dJ6_getChars_ba4f3_102 (fun b2 => ?_)
          refine v_bast (N := cap) hC ha (nI_in (by omega) (by omega)) dJ6_getChars_ba4f3_103 ?_
          refine v_sub (lv' := [(5, .int (nI (p1 - 1 - 1))), (6, .int (nI g)), (2, .ref arr)]) [0, 2, 3] rfl ?_
          exact E _ _ _ hg (by omega) (by omega) hB.up.up
  refine v_iload_n hC dJ6_getChars_ba4f3_0 rfl 1 rfl ?_
  refine v_istore (i := 5) (lv' := [(5, .int (nI P0)), (0, .int v), (1, .int (nI P0)), (2, .ref arr)]) hC dJ6_getChars_ba4f3_1 (by decide) rfl ?_
  refine v_iload_n hC dJ6_getChars_ba4f3_3 rfl 1 rfl ?_
  refine v_if_ge (tgt := 11) hC dJ6_getChars_ba4f3_4 (by decide) (fun w => ?_) (fun w => ?_)
  · have w1 : ¬ v < 0 := Int32.not_lt.mpr w
    have hs : ssz v = dgz (0 - v) + 0 := by unfold ssz; rw [if_neg w1, if_neg w1]
    have h0 := fb_rng v
    have w2 : 0 ≤ v.toInt := by rw [Int32.le_iff_toInt_le, Int32.toInt_zero] at w; exact w
    have e1 : ((0 : Int32) - v).toInt = -v.toInt := by rw [fb_subI (by rw [Int32.toInt_zero]; omega) (by rw [Int32.toInt_zero]; omega), Int32.toInt_zero]; omega
    obtain ⟨g1, g2, g3⟩ := dgz_b (z := 0 - v)
    refine v_iconst (v := nI 0) hC dJ6_getChars_ba4f3_11 (by decide) ?_
    refine v_istore (i := 6) (lv' := [(6, .int (nI 0)), (5, .int (nI P0)), (0, .int v), (1, .int (nI P0)), (2, .ref arr)]) hC dJ6_getChars_ba4f3_12 (by decide) rfl ?_
    refine v_iload hC dJ6_getChars_ba4f3_14 0 rfl ?_
    refine v_if_ne (tgt := 22) hC dJ6_getChars_ba4f3_16 (by decide) (fun q => absurd (by decide) q) (fun _ => ?_)
    refine v_iload_n hC dJ6_getChars_ba4f3_19 rfl 2 rfl ?_
    refine v_ineg hC dJ6_getChars_ba4f3_20 ?_
    refine v_istore_n (i := 0) (lv' := [(0, .int (0 - v)), (6, .int (nI 0)), (5, .int (nI P0)), (1, .int (nI P0)), (2, .ref arr)]) hC dJ6_getChars_ba4f3_21 rfl (by decide) rfl ?_
    refine v_sub (lv' := [(0, .int (0 - v)), (5, .int (nI P0)), (6, .int (nI 0)), (2, .ref arr)]) [0, 2, 1, 4] rfl ?_
    exact L 0 _ _ _ _ (by omega) (by rw [e1]; omega) g3 g1 (by omega) hp1 (By.rf hfit)
  · have w1 : v < 0 := Int32.not_le.mp w
    have hs : ssz v = dgz v + 1 := by unfold ssz; rw [if_pos w1, if_pos w1]
    have w2 : v.toInt < 0 := by rw [Int32.lt_iff_toInt_lt, Int32.toInt_zero] at w1; exact w1
    obtain ⟨g1, g2, g3⟩ := dgz_b (z := v)
    refine v_iconst (v := nI 1) hC dJ6_getChars_ba4f3_7 (by decide) ?_
    refine v_goto (tgt := 12) hC dJ6_getChars_ba4f3_8 (by decide) ?_
    refine v_istore (i := 6) (lv' := [(6, .int (nI 1)), (5, .int (nI P0)), (0, .int v), (1, .int (nI P0)), (2, .ref arr)]) hC dJ6_getChars_ba4f3_12 (by decide) rfl ?_
    refine v_iload hC dJ6_getChars_ba4f3_14 0 rfl ?_
    refine v_if_ne (tgt := 22) hC dJ6_getChars_ba4f3_16 (by decide) (fun _ => ?_) (fun q => absurd q (by decide))
    refine v_sub (lv' := [(0, .int v), (5, .int (nI P0)), (6, .int (nI 1)), (2, .ref arr)]) [2, 1, 0, 4] rfl ?_
    exact L 1 _ _ _ _ (by omega) (by omega) g3 g1 (by omega) hp1 (By.rf hfit)
end PNO
