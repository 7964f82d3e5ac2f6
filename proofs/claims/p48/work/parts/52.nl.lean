/-! office: the law's office from the script -/
section PNL
section
variable {X : Xt} {p : Program} {l : Launch} {e : Env} {R : Room} {s : State} {m : MethodId} {args : Array Value} {below : List Frame} {meth : Method} {c : Code} {cc : ByteArray} {nL : Nat} {ret : Option FieldType}
variable {Q : State → Prop} {cells slots n : Nat} {K : Kt} {F : Ft} {G : Gt} {lv : List (Nat × Value)} {pc : Nat} {st : List Value} {b L : Nat} {xs : Nat → Int32}
theorem v_bel (hC : Cx X p s m args meth c RL cc nL ret) {v md : Int32} {k : Nat} (hm : md.toInt = (k : Int)) (hk : 0 < k) (hrf : 0 + 1 ≤ R.frames) (hrl : 8 + (2 + 11) + 0 ≤ R.locals) (hrc : cells + 0 ≤ R.cells) (hrs : slots + 0 ≤ R.slots) (hst : (st.map fun v => v.category).sum ≤ 8) (hdg : decode cc pc = .ok (.invokestatic 18, 3)) (kk : ∀ i, i < k → V X nL p l e R s m args below meth c Q cells slots n K F G lv (pc + 3) (.int (nI i) :: st)) : V X nL p l e R s m args below meth c Q cells slots n K F G lv pc (.int md :: .int v :: st) := by
  refine v_callS (c2 := cells) (s2 := slots) (As := [.int v, .int md]) hC (m_L_below l (fun q => by rw [q, Int32.toInt_zero] at hm; omega)) q_L_18 hdS_L_below rfl rfl hrf hrl hrc hrs (Nat.le_refl _) (Nat.le_refl _) hst hdg ?_
  obtain ⟨i, hi, ei⟩ := bel_nI (v := v) hm hk
  rw [ei]
  exact kk i hi
theorem v_cell (hC : Cx X p s m args meth c RL cc nL ret) (hSc : Sc X b L xs s) (hL : L < 2 ^ 31) {k : Int32} (hk : 0 ≤ k) (hrf : 0 + 1 ≤ R.frames) (hrl : 8 + (2 + 11) + 0 ≤ R.locals) (hrc : cells + 0 ≤ R.cells) (hrs : slots + 0 ≤ R.slots) (hst : (st.map fun v => v.category).sum ≤ 8) (hdg : decode cc pc = .ok (.invokestatic 12, 3)) (kk : ∀ v, V X nL p l e R s m args below meth c Q cells slots n K F G lv (pc + 3) (.int v :: st)) : V X nL p l e R s m args below meth c Q cells slots n K F G lv pc (.int k :: .ref b :: st) := by
  refine v_scallS (c2 := cells) (s2 := slots) (As := [.ref b, .int k]) hC hSc (m_L_cell l hk hL) q_L_12 hdS_L_cell rfl rfl hrf hrl hrc hrs (Nat.le_refl _) (Nat.le_refl _) hst hdg (fun o n' K' F' G' hP => ?_)
  obtain ⟨⟨v, rfl⟩, h2, h3, h4, h5⟩ := hP
  rw [h2, h3, h4, h5]
  exact kk v
theorem v_freshs (k : (∀ i, (K (n + i)).1 = 0) → V X nL p l e R s m args below meth c Q cells slots n K F G lv pc st) : V X nL p l e R s m args below meth c Q cells slots n K F G lv pc st := fun H locs ls h1 => k (fun i => by
  by_cases q : (K (n + i)).1 = 0
  · exact q
  · exact absurd (h1.lt q) (by omega)) H locs ls h1
end
theorem i_mul_n {a : Int32} {x k i : Nat} (ha : a.toInt = (x : Int)) (hi : i < k) (hb : x * k < 2147483648) : (a * nI i).toInt = x * i := by
  have h1 : (x : Int) * i ≤ x * k := Int.mul_le_mul_of_nonneg_left (by omega) (by omega)
  have h2 : (0 : Int) ≤ (x : Int) * i := Int.mul_nonneg (by omega) (by omega)
  have hk : i < 2147483648 ∨ x = 0 := by
    by_cases q : x = 0
    · exact Or.inr q
    · have := Nat.le_mul_of_pos_left k (Nat.pos_of_ne_zero q)
      exact Or.inl (by omega)
  rcases hk with hk | hk
  · have e1 : (nI i).toInt = i := nI_toInt (by omega)
    have h9 : ((x * k : Nat) : Int) < 2147483648 := by omega
    rw [Int.natCast_mul] at h9
    rw [fb_mulI (by rw [ha, e1]; omega) (by rw [ha, e1]; omega), ha, e1]
  · subst hk
    have e0 : a = 0 := Int32.toInt_inj.mp (by rw [ha]; rfl)
    rw [e0, Int32.zero_mul, Int32.toInt_zero]; omega
theorem i_add_n {a : Int32} {x k i : Nat} (ha : a.toInt = (x : Int)) (hi : i < k) (hb : x + k < 2147483648) : (a + nI i).toInt = x + i := by
  have e1 : (nI i).toInt = i := nI_toInt (by omega)
  rw [fb_addI (by rw [ha, e1]; omega) (by rw [ha, e1]; omega), ha, e1]
theorem FI_day {F : Ft} {n : Nat} : FI (va_up F n (fun _ => 0)) (n + 1) n 9 = 0 := by
  unfold FI
  simp [up2, va_up]
  repeat rw [if_neg (by omega)]
variable {X : Xt} {b L : Nat} {xs : Nat → Int32}
theorem hdS_L_office : yL_office.cls ≠ "java/lang/invoke/MethodHandle" ∧ yL_office.cls ≠ "java/lang/invoke/VarHandle" ∧ (parseMethodDescriptor yL_office.desc).map (fun d => d.parameters.length) = some 1 := by decide +kernel
theorem hdV_L_office : yL_office.cls = RL ∧ yL_office.cls ≠ "java/lang/invoke/MethodHandle" ∧ yL_office.cls ≠ "java/lang/invoke/VarHandle" ∧ (parseMethodDescriptor yL_office.desc).map (fun d => d.parameters.length) = some 1 := by decide +kernel
set_option maxHeartbeats 8000000 in
set_option maxRecDepth 100000 in
theorem m_L_office (l : Launch) {n : Nat} {K : Kt} {F : Ft} {G : Gt} (hL : L < 2 ^ 31) (hz : K (xz X) = (21, 0)) : Ms X l yL_office cL_office 5 (some (.object "Exportcover")) 9 218 52 903 [.ref b] b L xs n K F G (fun o n' K' F' G' => ∃ a0, o = some (.ref a0) ∧ Off X (99999 * 6) K' F' G' a0 3 6 3 3) := by
  refine Ms.of (lv := [(0, .ref b)]) (by decide) (Nat.le_of_ble_eq_true rfl) rfl ?_
  intro p e s m args below meth c Q hC hSc hQ
  have hC : Cx X p s m args meth c RL cL_office 5 (some (.object "Exportcover")) := hC
  refine v_freshs (fun hfr => ?_)
  have hzn : xz X ≠ n := kne (hfr 0) (by rw [hz]; exact (by decide : (21 : Nat) ≠ 0))
  refine nw_L_9 hC (Nat.le_of_ble_eq_true rfl) (Nat.le_of_ble_eq_true rfl) dL_office_0 ?_
  have ha : va_up K n (1, 0) n = (1, 0) := kat
  have hz1 : va_up K n (1, 0) (xz X) = (21, 0) := by rw [va_up_ne _ _ hzn]; exact hz
  have hfr1 : ∀ i, i < 9 → (va_up K n (1, 0) (n + 1 + i)).1 = 0 := fun i _ => by rw [va_up_ne _ _ (by omega), show n + 1 + i = n + (1 + i) by omega]; exact hfr (1 + i)
  obtain ⟨i1, i2, i3⟩ := init_inv (X := X) (G := va_up G n (fun _ => none)) (F := va_up F n (fun _ => 0)) ha hz1 hfr1 (fun k => by rw [kat])
  refine v_dup hC dL_office_3 rfl ?_
  refine v_callI (c2 := 10) (s2 := 33) (As := []) hC (m_X8_init l (a0 := n) (by rw [ha])) q_L_11 rfl hdS_X8_init rfl rfl (Nat.le_of_ble_eq_true rfl) (Nat.le_of_ble_eq_true rfl) (Nat.le_of_ble_eq_true rfl) (Nat.le_of_ble_eq_true rfl) (Nat.le_of_ble_eq_true rfl) (Nat.le_of_ble_eq_true rfl) (Nat.le_of_ble_eq_true rfl) dL_office_4 ?_
  have st0 : Off X 0 (KI (va_up K n (1, 0)) (n + 1)) (FI (va_up F n (fun _ => 0)) (n + 1)) (GI X (va_up G n (fun _ => none)) n (n + 1)) n 0 0 0 0 := ⟨i1, i2, i3 0 (by decide), i3 1 (by decide), i3 2 (by decide), i3 3 (by decide), i3 4 (by decide), FI_day, fun i hi => absurd hi (Nat.not_lt_zero i)⟩
  show V _ _ _ _ _ _ _ _ _ _ _ _ _ _ _ _ (KI (va_up K n (1, 0)) (n + 1)) (FI (va_up F n (fun _ => 0)) (n + 1)) (GI X (va_up G n (fun _ => none)) n (n + 1)) _ _ _
  generalize KI (va_up K n (1, 0)) (n + 1) = K0 at st0 ⊢
  generalize FI (va_up F n (fun _ => 0)) (n + 1) = F0 at st0 ⊢
  generalize GI X (va_up G n (fun _ => none)) n (n + 1) = G0 at st0 ⊢
  generalize n + 1 + 1 + 1 + 1 + 1 + 1 + 1 + 1 + 1 + 1 = n0
  generalize hna : n = a0 at st0 ⊢
  refine v_astore_n (i := 1) (lv' := [(1, .ref a0), (0, .ref b)]) hC dL_office_7 rfl (by decide) rfl ?_
  have KC : ∀ (j k n1 : Nat) (K1 : Kt) (F1 : Ft) (G1 : Gt), k + j = 3 → Off X (99999 * 6) K1 F1 G1 a0 3 6 3 k → V X 5 p l e ({ frames := 9, cells := 52, slots := 903, locals := 218 } : Room) s m args below meth c Q (43 + 3 * k) (699 + 68 * k) n1 K1 F1 G1 [(2, .int (nI k)), (1, .ref a0), (0, .ref b)] 162 [] := by
    intro j
    induction j with
    | zero =>
      intro k n1 K1 F1 G1 hj st
      have hk3 : k = 3 := by omega
      subst hk3
      refine v_iload_n hC dL_office_162 rfl 0 rfl ?_
      refine v_iconst (v := nI 3) hC dL_office_163 (by decide) ?_
      refine v_icmp_ge (tgt := 295) hC dL_office_164 (by decide) (fun _ => ?_) (fun q => absurd (Int32.le_refl _) q)
      refine v_aload_n hC dL_office_295 rfl 1 rfl ?_
      refine v_widen (k2 := 52) (n2 := 903) (by omega) (by omega) ?_
      refine v_toR (n' := n1) hQ ⟨a0, rfl, st⟩ ?_
      exact v_aret hC rfl (Or.inl ⟨_, rfl⟩) rfl dL_office_296 rfl rfl rfl rfl rfl
    | succ j ih =>
      intro k n1 K1 F1 G1 hj st
      have t1 := st.1.1.1
      refine v_iload_n hC dL_office_162 rfl 0 rfl ?_
      refine v_iconst (v := nI 3) hC dL_office_163 (by decide) ?_
      refine v_icmp_ge (tgt := 295) hC dL_office_164 (by decide) (fun q => absurd q (lp_s hj (by decide))) (fun _ => ?_)
      refine v_aload_n hC dL_office_167 rfl 2 rfl ?_
      refine v_bipush (v := 6) hC dL_office_168 (by decide) ?_
      refine v_cell hC hSc hL (by decide) (Nat.le_of_ble_eq_true rfl) (Nat.le_of_ble_eq_true rfl) (by show (43 + 3 * k) + 0 ≤ 52; omega) (by show (699 + 68 * k) + 0 ≤ 903; omega) (Nat.le_of_ble_eq_true rfl) dL_office_170 (fun w1 => ?_)
      refine v_iconst (v := 2) hC dL_office_173 (by decide) ?_
      refine v_iload_n hC dL_office_174 rfl 0 rfl ?_
      refine v_imul hC dL_office_175 ?_
      refine v_ishr hC dL_office_176 ?_
      refine v_iconst (v := 3) hC dL_office_177 (by decide) ?_
      refine v_bel (k := 3) hC rfl (by decide) (Nat.le_of_ble_eq_true rfl) (Nat.le_of_ble_eq_true rfl) (by show (43 + 3 * k) + 0 ≤ 52; omega) (by show (699 + 68 * k) + 0 ≤ 903; omega) (Nat.le_of_ble_eq_true rfl) dL_office_178 (fun i2 hi2 => ?_)
      refine v_iconst (v := 1) hC dL_office_181 (by decide) ?_
      refine v_isub hC dL_office_182 ?_
      obtain ⟨rv, hrv⟩ : ∃ r, r = nI i2 - 1 := ⟨_, rfl⟩
      have hrb : -1 ≤ rv.toInt ∧ rv.toInt ≤ 1 := by rw [hrv, fb_subI (by rw [nI_toInt (by omega), show (1 : Int32).toInt = 1 from rfl]; omega) (by rw [nI_toInt (by omega), show (1 : Int32).toInt = 1 from rfl]; omega), nI_toInt (by omega), show (1 : Int32).toInt = 1 from rfl]; omega
      rw [← hrv]
      refine v_istore_n (i := 3) (lv' := [(3, .int rv), (2, .int (nI k)), (1, .ref a0), (0, .ref b)]) hC dL_office_183 rfl (by decide) rfl ?_
      refine v_aload_n hC dL_office_184 rfl 2 rfl ?_
      refine v_aload_n hC dL_office_185 rfl 3 rfl ?_
      refine v_bipush (v := 7) hC dL_office_186 (by decide) ?_
      refine v_cell hC hSc hL (by decide) (Nat.le_of_ble_eq_true rfl) (Nat.le_of_ble_eq_true rfl) (by show (43 + 3 * k) + 0 ≤ 52; omega) (by show (699 + 68 * k) + 0 ≤ 903; omega) (Nat.le_of_ble_eq_true rfl) dL_office_188 (fun w3 => ?_)
      refine v_iconst (v := 2) hC dL_office_191 (by decide) ?_
      refine v_iload_n hC dL_office_192 rfl 1 rfl ?_
      refine v_imul hC dL_office_193 ?_
      refine v_ishr hC dL_office_194 ?_
      refine v_iconst (v := 3) hC dL_office_195 (by decide) ?_
      refine v_bel (k := 3) hC rfl (by decide) (Nat.le_of_ble_eq_true rfl) (Nat.le_of_ble_eq_true rfl) (by show (43 + 3 * k) + 0 ≤ 52; omega) (by show (699 + 68 * k) + 0 ≤ 903; omega) (Nat.le_of_ble_eq_true rfl) dL_office_196 (fun i4 hi4 => ?_)
      refine v_bipush (v := 50) hC dL_office_199 (by decide) ?_
      refine v_aload_n hC dL_office_201 rfl 3 rfl ?_
      refine v_bipush (v := 8) hC dL_office_202 (by decide) ?_
      refine v_cell hC hSc hL (by decide) (Nat.le_of_ble_eq_true rfl) (Nat.le_of_ble_eq_true rfl) (by show (43 + 3 * k) + 0 ≤ 52; omega) (by show (699 + 68 * k) + 0 ≤ 903; omega) (Nat.le_of_ble_eq_true rfl) dL_office_204 (fun w5 => ?_)
      refine v_iconst (v := 3) hC dL_office_207 (by decide) ?_
      refine v_iload_n hC dL_office_208 rfl 1 rfl ?_
      refine v_imul hC dL_office_209 ?_
      refine v_ishr hC dL_office_210 ?_
      refine v_bipush (v := 46) hC dL_office_211 (by decide) ?_
      refine v_bel (k := 46) hC rfl (by decide) (Nat.le_of_ble_eq_true rfl) (Nat.le_of_ble_eq_true rfl) (by show (43 + 3 * k) + 0 ≤ 52; omega) (by show (699 + 68 * k) + 0 ≤ 903; omega) (Nat.le_of_ble_eq_true rfl) dL_office_213 (fun i6 hi6 => ?_)
      refine v_iadd hC dL_office_216 ?_
      have ecv := i_add_n (a := 50) (x := 50) rfl hi6 (by decide)
      generalize (50 : Int32) + nI i6 = cov at ecv ⊢
      refine v_iload_n hC dL_office_217 rfl 0 rfl ?_
      refine v_iload_n hC dL_office_218 rfl 0 rfl ?_
      have KJ : ∀ qv : Int32, (0 ≤ qv.toInt ∧ qv.toInt ≤ 60) → (rv = -1 → qv = 0) → V X 5 p l e ({ frames := 9, cells := 52, slots := 903, locals := 218 } : Room) s m args below meth c Q (43 + 3 * k) (699 + 68 * k) n1 K1 F1 G1 [(3, .int rv), (2, .int (nI k)), (1, .ref a0), (0, .ref b)] 241 (.int qv :: [.int rv, .int cov, .int (nI i4), .ref a0]) := by
        intro qv hq hq0
        have hxe : i4 < (K1 (gp G1 a0 2)).2 := by rw [show (K1 (gp G1 a0 2)).2 = 3 from st.2.2.2.2.1]; exact hi4
        have hs8 : (K1 (gp G1 a0 3)).2 < 8 := by rw [show (K1 (gp G1 a0 3)).2 = k from st.2.2.2.2.2.1]; omega
        have w1 : ¬ f_X8_isWithin K1 F1 G1 rv (-1) 1 = 0 := within_of (by rw [show (-1 : Int32).toInt = -1 from rfl]; omega) (by rw [show (1 : Int32).toInt = 1 from rfl]; omega)
        have w2 : ¬ f_X8_isWithin K1 F1 G1 cov 50 95 = 0 := within_of (by rw [show (50 : Int32).toInt = 50 from rfl]; omega) (by rw [show (95 : Int32).toInt = 95 from rfl]; omega)
        have w3 : ¬ f_X8_isWithin K1 F1 G1 qv 0 (if rv = -1 then 0 else 60) = 0 := by
          by_cases c1 : rv = -1
          · rw [if_pos c1, hq0 c1]; exact within_of (Int.le_refl _) (Int.le_refl _)
          · rw [if_neg c1]; exact within_of (by rw [Int32.toInt_zero]; omega) (by rw [show (60 : Int32).toInt = 60 from rfl]; omega)
        refine v_rcallV (c2 := (43 + 3 * k + 3)) (s2 := (699 + 68 * k + 68)) (As := [.int (nI i4), .int cov, .int rv, .int qv]) hC (m_X8_policy l st.1.1 hxe hs8 w1 w2 w3) q_L_39 (by rw [t1.1]; decide) (ce_1 t1.1) (ci := 0) rfl hdV_X8_policy rfl rfl (Nat.le_of_ble_eq_true rfl) (Nat.le_of_ble_eq_true rfl) (by show (43 + 3 * k) + 3 ≤ 52; omega) (by show (699 + 68 * k) + 68 ≤ 903; omega) (by omega) (by omega) (Nat.le_of_ble_eq_true rfl) dL_office_241 ?_
        intro o n2 K2 F2 G2 hP
        obtain ⟨⟨pv, rfl⟩, hf1, hf2, F3, p1, f0, f2, f3, f4, f6, hA⟩ := hP
        have st2 := st.policy (by omega) (by omega) (x2 := cov) (x4 := qv) (by omega) (by omega) hf1 hf2 p1 f0 f2 f4 f6 hA
        refine v_pop hC dL_office_244 rfl ?_
        refine v_iconst (v := nI 0) hC dL_office_245 (by decide) ?_
        refine v_istore (i := 4) (lv' := [(4, .int (nI 0)), (3, .int rv), (2, .int (nI k)), (1, .ref a0), (0, .ref b)]) hC dL_office_246 (by decide) rfl ?_
        have KI2 : ∀ (j2 i : Nat) (F4 : Ft), i + j2 = 6 → Off X (99999 * 6) K2 F4 G2 a0 3 6 3 (k + 1) → V X 5 p l e ({ frames := 9, cells := 52, slots := 903, locals := 218 } : Room) s m args below meth c Q (43 + 3 * k + 3) (699 + 68 * k + 68) n2 K2 F4 G2 [(4, .int (nI i)), (2, .int (nI k)), (1, .ref a0), (0, .ref b)] 248 [] := by
          intro j2
          induction j2 with
          | zero =>
            intro i F4 hj2 st3
            refine v_iload hC dL_office_248 0 rfl ?_
            refine v_bipush (v := nI 6) hC dL_office_250 (by decide) ?_
            refine v_icmp_ge (tgt := 289) hC dL_office_252 (by decide) (fun _ => ?_) (fun q => absurd (lp_z hj2) q)
            refine v_iinc (lv' := [(2, .int (nI (k + 1))), (4, .int (nI i)), (1, .ref a0), (0, .ref b)]) (v := nI (k + 1)) hC dL_office_289 1 rfl (nI_inc k) (by decide) rfl ?_
            refine v_goto (tgt := 162) hC dL_office_292 (by decide) ?_
            refine v_sub [0, 2, 3] rfl ?_
            exact v_widen (by omega) (by omega) (ih (k + 1) n2 K2 F4 G2 (by omega) st3)
          | succ j2 ih2 =>
            intro i F4 hj2 st3
            have t1 := st3.1.1.1
            refine v_iload hC dL_office_248 0 rfl ?_
            refine v_bipush (v := nI 6) hC dL_office_250 (by decide) ?_
            refine v_icmp_ge (tgt := 289) hC dL_office_252 (by decide) (fun q => absurd q (lp_s hj2 (by decide))) (fun _ => ?_)
            refine v_aload_n hC dL_office_255 rfl 2 rfl ?_
            refine v_iload_n hC dL_office_256 rfl 1 rfl ?_
            refine v_iload hC dL_office_257 0 rfl ?_
            refine v_sipush (v := 300) hC dL_office_259 (by decide) ?_
            refine v_aload_n hC dL_office_262 rfl 3 rfl ?_
            refine v_bipush (v := 10) hC dL_office_263 (by decide) ?_
            refine v_cell hC hSc hL (by decide) (Nat.le_of_ble_eq_true rfl) (Nat.le_of_ble_eq_true rfl) (by show (43 + 3 * k + 3) + 0 ≤ 52; omega) (by show (699 + 68 * k + 68) + 0 ≤ 903; omega) (Nat.le_of_ble_eq_true rfl) dL_office_265 (fun w1 => ?_)
            refine v_iload_n hC dL_office_268 rfl 1 rfl ?_
            refine v_iload hC dL_office_269 0 rfl ?_
            refine v_iadd hC dL_office_271 ?_
            refine v_ishr hC dL_office_272 ?_
            refine v_bipush (v := 40) hC dL_office_273 (by decide) ?_
            refine v_bel (k := 40) hC rfl (by decide) (Nat.le_of_ble_eq_true rfl) (Nat.le_of_ble_eq_true rfl) (by show (43 + 3 * k + 3) + 0 ≤ 52; omega) (by show (699 + 68 * k + 68) + 0 ≤ 903; omega) (Nat.le_of_ble_eq_true rfl) dL_office_275 (fun i2 hi2 => ?_)
            refine v_imul hC dL_office_278 ?_
            have elv := i_mul_n (a := 300) (x := 300) rfl hi2 (by decide)
            generalize (300 : Int32) * nI i2 = lim at elv ⊢
            have hpk : k < (K2 (gp G2 a0 3)).2 := by rw [show (K2 (gp G2 a0 3)).2 = k + 1 from st3.2.2.2.2.2.1]; omega
            have hbi : i < (K2 (gp G2 a0 1)).2 := by rw [show (K2 (gp G2 a0 1)).2 = 6 from st3.2.2.2.1]; omega
            have w4 : ¬ f_X8_isWithin K2 F4 G2 lim 0 99999 = 0 := within_of (by rw [Int32.toInt_zero]; omega) (by rw [show (99999 : Int32).toInt = 99999 from rfl]; omega)
            refine v_rcallV (c2 := (43 + 3 * k + 3)) (s2 := (699 + 68 * k + 68)) (As := [.int (nI k), .int (nI i), .int lim]) hC (m_X8_limit_r l t1 hpk hbi w4 (st3.2.2.2.2.2.2.2.2 k (by omega))) q_L_43 (by rw [t1.1]; decide) (ce_1 t1.1) (ci := 0) rfl hdV_X8_limit rfl rfl (Nat.le_of_ble_eq_true rfl) (Nat.le_of_ble_eq_true rfl) (by show (43 + 3 * k + 3) + 0 ≤ 52; omega) (by show (699 + 68 * k + 68) + 0 ≤ 903; omega) (by omega) (by omega) (Nat.le_of_ble_eq_true rfl) dL_office_279 ?_
            intro o n5 K5 F5 G5 hP
            obtain ⟨⟨pv2, rfl⟩, en, eK, eG, x9, y9, eF⟩ := hP
            have st5 : Off X (99999 * 6) K2 F5 G2 a0 3 6 3 (k + 1) := by rw [eF]; exact st3.grant (by omega)
            rw [en, eK, eG]
            refine v_pop hC dL_office_282 rfl ?_
            refine v_iinc (lv' := [(4, .int (nI (i + 1))), (2, .int (nI k)), (1, .ref a0), (0, .ref b)]) (v := nI (i + 1)) hC dL_office_283 0 rfl (nI_inc i) (by decide) rfl ?_
            refine v_goto (tgt := 248) hC dL_office_286 (by decide) ?_
            exact ih2 (i + 1) F5 (by omega) st5
        refine v_sub [0, 2, 3, 4] rfl ?_
        exact KI2 6 0 F2 (by omega) st2
      refine v_if_ge (tgt := 226) hC dL_office_219 (by decide) (fun c9 => ?_) (fun _ => ?_)
      · refine v_aload_n hC dL_office_226 rfl 3 rfl ?_
        refine v_bipush (v := 9) hC dL_office_227 (by decide) ?_
        refine v_cell hC hSc hL (by decide) (Nat.le_of_ble_eq_true rfl) (Nat.le_of_ble_eq_true rfl) (by show (43 + 3 * k) + 0 ≤ 52; omega) (by show (699 + 68 * k) + 0 ≤ 903; omega) (Nat.le_of_ble_eq_true rfl) dL_office_229 (fun w7 => ?_)
        refine v_iconst (v := 3) hC dL_office_232 (by decide) ?_
        refine v_iload_n hC dL_office_233 rfl 1 rfl ?_
        refine v_imul hC dL_office_234 ?_
        refine v_ishr hC dL_office_235 ?_
        refine v_bipush (v := 61) hC dL_office_236 (by decide) ?_
        refine v_bel (k := 61) hC rfl (by decide) (Nat.le_of_ble_eq_true rfl) (Nat.le_of_ble_eq_true rfl) (by show (43 + 3 * k) + 0 ≤ 52; omega) (by show (699 + 68 * k) + 0 ≤ 903; omega) (Nat.le_of_ble_eq_true rfl) dL_office_238 (fun i8 hi8 => ?_)
        exact KJ (nI i8) (by rw [nI_toInt (by omega)]; omega) (fun c8 => by rw [c8] at c9; exact absurd c9 (by decide))
      · refine v_iconst (v := 0) hC dL_office_222 (by decide) ?_
        refine v_goto (tgt := 241) hC dL_office_223 (by decide) ?_
        exact KJ 0 ⟨Int.le_refl _, by rw [Int32.toInt_zero]; omega⟩ (fun _ => rfl)
  have KD : ∀ (n1 : Nat) (K1 : Kt) (F1 : Ft) (G1 : Gt), Off X (99999 * 6) K1 F1 G1 a0 3 6 3 0 → V X 5 p l e ({ frames := 9, cells := 52, slots := 903, locals := 218 } : Room) s m args below meth c Q 43 699 n1 K1 F1 G1 [(1, .ref a0), (0, .ref b)] 160 [] := by
    intro n1 K1 F1 G1 st
    refine v_iconst (v := nI 0) hC dL_office_160 (by decide) ?_
    refine v_istore_n (i := 2) (lv' := [(2, .int (nI 0)), (1, .ref a0), (0, .ref b)]) hC dL_office_161 rfl (by decide) rfl ?_
    exact KC 3 0 n1 K1 F1 G1 (by omega) st
  have KB : ∀ (j i n1 : Nat) (K1 : Kt) (F1 : Ft) (G1 : Gt), i + j = 6 → Off X (99999 * (i : Int)) K1 F1 G1 a0 3 i 3 0 → V X 5 p l e ({ frames := 9, cells := 52, slots := 903, locals := 218 } : Room) s m args below meth c Q (25 + 3 * i) (369 + 55 * i) n1 K1 F1 G1 [(2, .int (nI i)), (1, .ref a0), (0, .ref b)] 95 [] := by
    intro j
    induction j with
    | zero =>
      intro i n1 K1 F1 G1 hj st
      have hi6 : i = 6 := by omega
      subst hi6
      refine v_iload_n hC dL_office_95 rfl 0 rfl ?_
      refine v_bipush (v := nI 6) hC dL_office_96 (by decide) ?_
      refine v_icmp_ge (tgt := 160) hC dL_office_98 (by decide) (fun _ => ?_) (fun q => absurd (Int32.le_refl _) q)
      refine v_sub [1, 2] rfl ?_
      exact v_widen (by omega) (by omega) (KD n1 K1 F1 G1 st)
    | succ j ih =>
      intro i n1 K1 F1 G1 hj st
      have t1 := st.1.1.1
      refine v_iload_n hC dL_office_95 rfl 0 rfl ?_
      refine v_bipush (v := nI 6) hC dL_office_96 (by decide) ?_
      refine v_icmp_ge (tgt := 160) hC dL_office_98 (by decide) (fun q => absurd q (lp_s hj (by decide))) (fun _ => ?_)
      refine v_aload_n hC dL_office_101 rfl 1 rfl ?_
      refine v_aload_n hC dL_office_102 rfl 2 rfl ?_
      refine v_iconst (v := 3) hC dL_office_103 (by decide) ?_
      refine v_cell hC hSc hL (by decide) (Nat.le_of_ble_eq_true rfl) (Nat.le_of_ble_eq_true rfl) (by show (25 + 3 * i) + 0 ≤ 52; omega) (by show (369 + 55 * i) + 0 ≤ 903; omega) (Nat.le_of_ble_eq_true rfl) dL_office_104 (fun w1 => ?_)
      refine v_iconst (v := 2) hC dL_office_107 (by decide) ?_
      refine v_iload_n hC dL_office_108 rfl 0 rfl ?_
      refine v_imul hC dL_office_109 ?_
      refine v_ishr hC dL_office_110 ?_
      refine v_iconst (v := 3) hC dL_office_111 (by decide) ?_
      refine v_bel (k := 3) hC rfl (by decide) (Nat.le_of_ble_eq_true rfl) (Nat.le_of_ble_eq_true rfl) (by show (25 + 3 * i) + 0 ≤ 52; omega) (by show (369 + 55 * i) + 0 ≤ 903; omega) (Nat.le_of_ble_eq_true rfl) dL_office_112 (fun i2 hi2 => ?_)
      refine v_aload_n hC dL_office_115 rfl 2 rfl ?_
      refine v_iconst (v := 4) hC dL_office_116 (by decide) ?_
      refine v_cell hC hSc hL (by decide) (Nat.le_of_ble_eq_true rfl) (Nat.le_of_ble_eq_true rfl) (by show (25 + 3 * i) + 0 ≤ 52; omega) (by show (369 + 55 * i) + 0 ≤ 903; omega) (Nat.le_of_ble_eq_true rfl) dL_office_117 (fun w3 => ?_)
      refine v_iconst (v := 2) hC dL_office_120 (by decide) ?_
      refine v_iload_n hC dL_office_121 rfl 0 rfl ?_
      refine v_imul hC dL_office_122 ?_
      refine v_ishr hC dL_office_123 ?_
      refine v_bipush (v := 6) hC dL_office_124 (by decide) ?_
      refine v_bel (k := 6) hC rfl (by decide) (Nat.le_of_ble_eq_true rfl) (Nat.le_of_ble_eq_true rfl) (by show (25 + 3 * i) + 0 ≤ 52; omega) (by show (369 + 55 * i) + 0 ≤ 903; omega) (Nat.le_of_ble_eq_true rfl) dL_office_126 (fun i4 hi4 => ?_)
      have hla : i2 < (K1 (gp G1 a0 0)).2 := by rw [show (K1 (gp G1 a0 0)).2 = 3 from st.2.2.1]; exact hi2
      have hs12 : (K1 (gp G1 a0 1)).2 < 12 := by rw [show (K1 (gp G1 a0 1)).2 = i from st.2.2.2.1]; omega
      have w1 : ¬ f_X8_isWithin K1 F1 G1 (nI i4) 0 5 = 0 := within_of (by rw [Int32.toInt_zero, nI_toInt (by omega)]; omega) (by rw [show (5 : Int32).toInt = 5 from rfl, nI_toInt (by omega)]; omega)
      have kld : (K1 (el G1 (gp G1 a0 0) i2)).1 = 3 := st.1.land hla
      refine v_rcallV (c2 := (25 + 3 * (i + 1))) (s2 := (369 + 55 * (i + 1))) (As := [.int (nI i2), .int (nI i4)]) hC (m_X8_buyer l st.1.1 hla hs12 w1) q_L_33 (by rw [t1.1]; decide) (ce_1 t1.1) (ci := 0) rfl hdV_X8_buyer rfl rfl (Nat.le_of_ble_eq_true rfl) (Nat.le_of_ble_eq_true rfl) (by show (25 + 3 * i) + 3 ≤ 52; omega) (by show (369 + 55 * i) + 55 ≤ 903; omega) (by omega) (by omega) (Nat.le_of_ble_eq_true rfl) dL_office_129 ?_
      intro o n2 K2 F2 G2 hP
      obtain ⟨⟨pv, rfl⟩, hf1, hf2, F3, p1, p2, hA⟩ := hP
      obtain ⟨st2, en⟩ := st.buyer (by omega) kld (by omega) hf1 hf2 p1 p2 hA
      have t1 := st2.1.1.1
      refine v_pop hC dL_office_132 rfl ?_
      refine v_aload_n hC dL_office_133 rfl 1 rfl ?_
      refine v_iload_n hC dL_office_134 rfl 0 rfl ?_
      refine v_iconst (v := 1) hC dL_office_135 (by decide) ?_
      refine v_aload_n hC dL_office_136 rfl 2 rfl ?_
      refine v_iconst (v := 5) hC dL_office_137 (by decide) ?_
      refine v_cell hC hSc hL (by decide) (Nat.le_of_ble_eq_true rfl) (Nat.le_of_ble_eq_true rfl) (by show (25 + 3 * (i + 1)) + 0 ≤ 52; omega) (by show (369 + 55 * (i + 1)) + 0 ≤ 903; omega) (Nat.le_of_ble_eq_true rfl) dL_office_138 (fun w5 => ?_)
      refine v_iload_n hC dL_office_141 rfl 0 rfl ?_
      refine v_ishr hC dL_office_142 ?_
      refine v_sipush (v := 3000) hC dL_office_143 (by decide) ?_
      refine v_bel (k := 3000) hC rfl (by decide) (Nat.le_of_ble_eq_true rfl) (Nat.le_of_ble_eq_true rfl) (by show (25 + 3 * (i + 1)) + 0 ≤ 52; omega) (by show (369 + 55 * (i + 1)) + 0 ≤ 903; omega) (Nat.le_of_ble_eq_true rfl) dL_office_146 (fun i6 hi6 => ?_)
      refine v_iadd hC dL_office_149 ?_
      have eam := i_add_n (a := 1) (x := 1) rfl hi6 (by decide)
      generalize (1 : Int32) + nI i6 = amt at eam ⊢
      have hbi : i < (K2 (gp G2 a0 1)).2 := by rw [show (K2 (gp G2 a0 1)).2 = i + 1 from st2.2.2.2.1]; omega
      have w2 : ¬ f_X8_isWithin K2 F2 G2 amt 1 99999 = 0 := within_of (by rw [show (1 : Int32).toInt = 1 from rfl]; omega) (by rw [show (99999 : Int32).toInt = 99999 from rfl]; omega)
      refine v_callV (c2 := (25 + 3 * (i + 1))) (s2 := (369 + 55 * (i + 1))) (As := [.int (nI i), .int amt]) hC (m_X8_earn l t1 hbi w2) q_L_36 (by rw [t1.1]; decide) (ce_1 t1.1) (ci := 0) rfl hdV_X8_earn rfl rfl (Nat.le_of_ble_eq_true rfl) (Nat.le_of_ble_eq_true rfl) (by show (25 + 3 * (i + 1)) + 0 ≤ 52; omega) (by show (369 + 55 * (i + 1)) + 0 ≤ 903; omega) (by omega) (by omega) (Nat.le_of_ble_eq_true rfl) dL_office_150 ?_
      have st3 : Off X (99999 * (i : Int) + 99999) K2 (f_X8_earn K2 F2 G2 a0 i amt).1 G2 a0 3 (i + 1) 3 0 := st2.give (x1 := i) (x2 := amt) (by omega) (by omega) (by omega) (by omega)
      refine v_pop hC dL_office_153 rfl ?_
      refine v_iinc (lv' := [(2, .int (nI (i + 1))), (1, .ref a0), (0, .ref b)]) (v := nI (i + 1)) hC dL_office_154 0 rfl (nI_inc i) (by decide) rfl ?_
      refine v_goto (tgt := 95) hC dL_office_157 (by decide) ?_
      refine ih (i + 1) _ _ _ _ (by omega) ?_
      exact st3.up (by omega)
  have KA : ∀ (j i n1 : Nat) (K1 : Kt) (F1 : Ft) (G1 : Gt), i + j = 3 → Off X 0 K1 F1 G1 a0 i 0 i 0 → V X 5 p l e ({ frames := 9, cells := 52, slots := 903, locals := 218 } : Room) s m args below meth c Q (10 + 5 * i) (33 + 112 * i) n1 K1 F1 G1 [(2, .int (nI i)), (1, .ref a0), (0, .ref b)] 40 [] := by
    intro j
    induction j with
    | zero =>
      intro i n1 K1 F1 G1 hj st
      have hi3 : i = 3 := by omega
      subst hi3
      refine v_iload_n hC dL_office_40 rfl 0 rfl ?_
      refine v_iconst (v := nI 3) hC dL_office_41 (by decide) ?_
      refine v_icmp_ge (tgt := 93) hC dL_office_42 (by decide) (fun _ => ?_) (fun q => absurd (Int32.le_refl _) q)
      refine v_iconst (v := nI 0) hC dL_office_93 (by decide) ?_
      refine v_istore_n (i := 2) (lv' := [(2, .int (nI 0)), (1, .ref a0), (0, .ref b)]) hC dL_office_94 rfl (by decide) rfl ?_
      exact v_widen (by omega) (by omega) (KB 6 0 n1 K1 F1 G1 (by omega) st)
    | succ j ih =>
      intro i n1 K1 F1 G1 hj st
      have t1 := st.1.1.1
      refine v_iload_n hC dL_office_40 rfl 0 rfl ?_
      refine v_iconst (v := nI 3) hC dL_office_41 (by decide) ?_
      refine v_icmp_ge (tgt := 93) hC dL_office_42 (by decide) (fun q => absurd q (lp_s hj (by decide))) (fun _ => ?_)
      refine v_aload_n hC dL_office_45 rfl 1 rfl ?_
      refine v_aload_n hC dL_office_46 rfl 2 rfl ?_
      refine v_iconst (v := 1) hC dL_office_47 (by decide) ?_
      refine v_cell hC hSc hL (by decide) (Nat.le_of_ble_eq_true rfl) (Nat.le_of_ble_eq_true rfl) (by show (10 + 5 * i) + 0 ≤ 52; omega) (by show (33 + 112 * i) + 0 ≤ 903; omega) (Nat.le_of_ble_eq_true rfl) dL_office_48 (fun w1 => ?_)
      refine v_iconst (v := 3) hC dL_office_51 (by decide) ?_
      refine v_iload_n hC dL_office_52 rfl 0 rfl ?_
      refine v_imul hC dL_office_53 ?_
      refine v_ishr hC dL_office_54 ?_
      refine v_bipush (v := 8) hC dL_office_55 (by decide) ?_
      refine v_bel (k := 8) hC rfl (by decide) (Nat.le_of_ble_eq_true rfl) (Nat.le_of_ble_eq_true rfl) (by show (10 + 5 * i) + 0 ≤ 52; omega) (by show (33 + 112 * i) + 0 ≤ 903; omega) (Nat.le_of_ble_eq_true rfl) dL_office_57 (fun i2 hi2 => ?_)
      refine v_sipush (v := 1000) hC dL_office_60 (by decide) ?_
      refine v_aload_n hC dL_office_63 rfl 2 rfl ?_
      refine v_iconst (v := 2) hC dL_office_64 (by decide) ?_
      refine v_cell hC hSc hL (by decide) (Nat.le_of_ble_eq_true rfl) (Nat.le_of_ble_eq_true rfl) (by show (10 + 5 * i) + 0 ≤ 52; omega) (by show (33 + 112 * i) + 0 ≤ 903; omega) (Nat.le_of_ble_eq_true rfl) dL_office_65 (fun w3 => ?_)
      refine v_iconst (v := 4) hC dL_office_68 (by decide) ?_
      refine v_iload_n hC dL_office_69 rfl 0 rfl ?_
      refine v_imul hC dL_office_70 ?_
      refine v_ishr hC dL_office_71 ?_
      refine v_bipush (v := 20) hC dL_office_72 (by decide) ?_
      refine v_bel (k := 20) hC rfl (by decide) (Nat.le_of_ble_eq_true rfl) (Nat.le_of_ble_eq_true rfl) (by show (10 + 5 * i) + 0 ≤ 52; omega) (by show (33 + 112 * i) + 0 ≤ 903; omega) (Nat.le_of_ble_eq_true rfl) dL_office_74 (fun i4 hi4 => ?_)
      refine v_imul hC dL_office_77 ?_
      have ece := i_mul_n (a := 1000) (x := 1000) rfl hi4 (by decide)
      generalize (1000 : Int32) * nI i4 = cei at ece ⊢
      have hs5 : (K1 (gp G1 a0 0)).2 < 5 := by rw [show (K1 (gp G1 a0 0)).2 = i from st.2.2.1]; omega
      have w1 : ¬ f_X8_isWithin K1 F1 G1 (nI i2) 0 7 = 0 := within_of (by rw [Int32.toInt_zero, nI_toInt (by omega)]; omega) (by rw [show (7 : Int32).toInt = 7 from rfl, nI_toInt (by omega)]; omega)
      have w2 : ¬ f_X8_isWithin K1 F1 G1 cei 0 999999 = 0 := within_of (by rw [Int32.toInt_zero]; omega) (by rw [show (999999 : Int32).toInt = 999999 from rfl]; omega)
      refine v_rcallV (c2 := (10 + 5 * i + 2)) (s2 := (33 + 112 * i + 57)) (As := [.int (nI i2), .int cei]) hC (m_X8_land l st.1.1 hs5 w1 w2) q_L_26 (by rw [t1.1]; decide) (ce_1 t1.1) (ci := 0) rfl hdV_X8_land rfl rfl (Nat.le_of_ble_eq_true rfl) (Nat.le_of_ble_eq_true rfl) (by show (10 + 5 * i) + 2 ≤ 52; omega) (by show (33 + 112 * i) + 57 ≤ 903; omega) (by omega) (by omega) (Nat.le_of_ble_eq_true rfl) dL_office_78 ?_
      intro o n2 K2 F2 G2 hP
      obtain ⟨⟨pv, rfl⟩, hf1, F3, p1, hA⟩ := hP
      have st2 := st.land (by omega) hf1 p1 hA
      have t1 := st2.1.1.1
      refine v_pop hC dL_office_81 rfl ?_
      refine v_aload_n hC dL_office_82 rfl 1 rfl ?_
      have hs6 : (K2 (gp G2 a0 2)).2 < 6 := by rw [show (K2 (gp G2 a0 2)).2 = i from st2.2.2.2.2.1]; omega
      refine v_rcallV (c2 := (10 + 5 * (i + 1))) (s2 := (33 + 112 * (i + 1))) (As := []) hC (m_X8_exporter l st2.1.1 hs6) q_L_29 (by rw [t1.1]; decide) (ce_1 t1.1) (ci := 0) rfl hdV_X8_exporter rfl rfl (Nat.le_of_ble_eq_true rfl) (Nat.le_of_ble_eq_true rfl) (by show (10 + 5 * i + 2) + 3 ≤ 52; omega) (by show (33 + 112 * i + 57) + 55 ≤ 903; omega) (by omega) (by omega) (Nat.le_of_ble_eq_true rfl) dL_office_83 ?_
      intro o n3 K3 F4 G3 hP
      obtain ⟨⟨pv2, rfl⟩, hf3, hf4, F5, p3, p4, hA2⟩ := hP
      have st3 := st2.exporter (Int.le_refl _) (by omega) hf3 hf4 p3 p4 hA2
      refine v_pop hC dL_office_86 rfl ?_
      refine v_iinc (lv' := [(2, .int (nI (i + 1))), (1, .ref a0), (0, .ref b)]) (v := nI (i + 1)) hC dL_office_87 0 rfl (nI_inc i) (by decide) rfl ?_
      refine v_goto (tgt := 40) hC dL_office_90 (by decide) ?_
      exact ih (i + 1) _ _ _ _ (by omega) st3
  refine v_aload_n hC dL_office_8 rfl 1 rfl ?_
  refine v_iconst (v := 0) hC dL_office_9 (by decide) ?_
  refine v_cell hC hSc hL (by decide) (Nat.le_of_ble_eq_true rfl) (Nat.le_of_ble_eq_true rfl) (Nat.le_of_ble_eq_true rfl) (Nat.le_of_ble_eq_true rfl) (Nat.le_of_ble_eq_true rfl) dL_office_10 (fun w1 => ?_)
  refine v_iconst (v := 2) hC dL_office_13 (by decide) ?_
  refine v_bel (k := 2) hC rfl (by decide) (Nat.le_of_ble_eq_true rfl) (Nat.le_of_ble_eq_true rfl) (Nat.le_of_ble_eq_true rfl) (Nat.le_of_ble_eq_true rfl) (Nat.le_of_ble_eq_true rfl) dL_office_14 (fun i2 hi2 => ?_)
  have t1 := st0.1.1.1
  refine v_if_ne (tgt := 38) hC dL_office_17 (by decide) (fun _ => ?_) (fun _ => ?_)
  · refine v_iconst (v := nI 0) hC dL_office_38 (by decide) ?_
    refine v_istore_n (i := 2) (lv' := [(2, .int (nI 0)), (1, .ref a0), (0, .ref b)]) hC dL_office_39 rfl (by decide) rfl ?_
    exact v_widen (by omega) (by omega) (KA 3 0 n0 K0 F0 G0 (by omega) st0)
  refine v_aload_n hC dL_office_20 rfl 0 rfl ?_
  refine v_aload_n hC dL_office_21 rfl 1 rfl ?_
  refine v_iconst (v := 1) hC dL_office_22 (by decide) ?_
  refine v_cell hC hSc hL (by decide) (Nat.le_of_ble_eq_true rfl) (Nat.le_of_ble_eq_true rfl) (Nat.le_of_ble_eq_true rfl) (Nat.le_of_ble_eq_true rfl) (Nat.le_of_ble_eq_true rfl) dL_office_23 (fun w3 => ?_)
  refine v_bipush (v := 100) hC dL_office_26 (by decide) ?_
  refine v_bel (k := 100) hC rfl (by decide) (Nat.le_of_ble_eq_true rfl) (Nat.le_of_ble_eq_true rfl) (Nat.le_of_ble_eq_true rfl) (Nat.le_of_ble_eq_true rfl) (Nat.le_of_ble_eq_true rfl) dL_office_28 (fun i4 hi4 => ?_)
  refine v_rcallV (c2 := 43) (s2 := 699) (As := [.int (nI i4)]) hC (m_X8_market l st0 (x1 := nI i4) (by rw [nI_toInt (by omega)]; omega)) q_L_22 (by rw [t1.1]; decide) (ce_1 t1.1) (ci := 0) rfl hdV_X8_market rfl rfl (Nat.le_of_ble_eq_true rfl) (Nat.le_of_ble_eq_true rfl) (by show 10 + 33 ≤ 52; omega) (by show 33 + 666 ≤ 903; omega) (by omega) (by omega) (Nat.le_of_ble_eq_true rfl) dL_office_31 ?_
  intro o n2 K2 F2 G2 hP
  obtain ⟨⟨pv, rfl⟩, st2⟩ := hP
  refine v_pop hC dL_office_34 rfl ?_
  refine v_goto (tgt := 160) hC dL_office_35 (by decide) ?_
  exact KD n2 K2 F2 G2 st2
end PNL
