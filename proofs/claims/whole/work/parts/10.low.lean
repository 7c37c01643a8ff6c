def qI (z : Int) : Int32 := Int32.ofInt z
theorem qI_toInt {z : Int} (h1 : -2147483648 ≤ z) (h2 : z < 2147483648) : (qI z).toInt = z := by
  unfold qI
  exact Int32.toInt_ofInt_of_le (by omega) (by omega)
theorem qI_of (x : Int32) : qI x.toInt = x := by unfold qI; rw [Int32.ofInt_toInt]
theorem qI_N (k : Nat) : nI k = qI k := by unfold qI nI; rw [← Int32.ofInt_eq_ofNat]
theorem qI_add (a b : Int) : qI a + qI b = qI (a + b) := (Int32.ofInt_add a b).symm
theorem qI_sub (a b : Int) : qI a - qI b = qI (a - b) := (Int32.ofInt_sub a b).symm
theorem qI_mul (a b : Int) : qI a * qI b = qI (a * b) := (Int32.ofInt_mul a b).symm
theorem qI_neg (a : Int) : -qI a = qI (-a) := (Int32.ofInt_neg a).symm
theorem qI_lt {a b : Int} (h1 : -2147483648 ≤ a) (h2 : a < 2147483648) (h3 : -2147483648 ≤ b) (h4 : b < 2147483648) : qI a < qI b ↔ a < b := by
  rw [Int32.lt_iff_toInt_lt, qI_toInt h1 h2, qI_toInt h3 h4]
theorem qI_le {a b : Int} (h1 : -2147483648 ≤ a) (h2 : a < 2147483648) (h3 : -2147483648 ≤ b) (h4 : b < 2147483648) : qI a ≤ qI b ↔ a ≤ b := by
  rw [Int32.le_iff_toInt_le, qI_toInt h1 h2, qI_toInt h3 h4]
theorem qI_inj {a b : Int} (h1 : -2147483648 ≤ a) (h2 : a < 2147483648) (h3 : -2147483648 ≤ b) (h4 : b < 2147483648) (h : qI a = qI b) : a = b := by
  rw [← qI_toInt h1 h2, ← qI_toInt h3 h4, h]
theorem qI_0 : qI 0 = 0 := by decide
theorem qI_range (x : Int32) : -2147483648 ≤ x.toInt ∧ x.toInt < 2147483648 := ⟨by have := Int32.le_toInt x; omega, by have := Int32.toInt_lt x; omega⟩
theorem qI_div {a b : Int} (h1 : -2147483648 ≤ a) (h2 : a < 2147483648) (h3 : 0 < b) (h4 : b < 2147483648) : qI a / qI b = qI (a.tdiv b) := by
  apply Int32.toInt_inj.mp
  have h5 : -2147483648 ≤ a.tdiv b ∧ a.tdiv b < 2147483648 := by
    rcases Int.le_total 0 a with h | h
    · have := Int.tdiv_nonneg h (Int.le_of_lt h3)
      have := Int.tdiv_le_self b h
      omega
    · have e : a = -(-a) := by omega
      have := Int.tdiv_nonneg (a := -a) (by omega) (Int.le_of_lt h3)
      have := Int.tdiv_le_self (a := -a) b (by omega)
      rw [e, Int.neg_tdiv]
      omega
  rw [Int32.toInt_div_of_ne_right, qI_toInt h1 h2, qI_toInt (by omega) h4, qI_toInt h5.1 h5.2]
  intro h
  have h6 := congrArg Int32.toInt h
  rw [qI_toInt (by omega) h4] at h6
  have : (-1 : Int32).toInt = -1 := by decide
  omega
/-- left over, as the class has it -/
theorem q_lo (x : Int32) (g : Nat) (hg : 0 < g) (h2 : g < 2147483648) : (0 ≤ x - x / nI g * nI g → x - x / nI g * nI g = nI ((x.toInt % g).toNat)) ∧ (¬ 0 ≤ x - x / nI g * nI g → (x - x / nI g * nI g) + nI g = nI ((x.toInt % g).toNat)) := by
  obtain ⟨r1, r2⟩ := qI_range x
  have hgI : (0 : Int) < (g : Int) := by omega
  have e : x - x / nI g * nI g = qI (x.toInt.tmod g) := by
    conv => lhs; rw [← qI_of x]
    rw [qI_N g, qI_div r1 r2 (by omega) (by omega), qI_mul, qI_sub]
    congr 1
    have := Int.tmod_add_mul_tdiv x.toInt g
    rw [Int.mul_comm] at this
    omega
  have b1 : x.toInt.tmod g < g := Int.tmod_lt_of_pos _ hgI
  have b2 : -(g : Int) < x.toInt.tmod g := Int.lt_tmod_of_pos _ hgI
  have hem : x.toInt % g = if 0 ≤ x.toInt.tmod g then x.toInt.tmod g else x.toInt.tmod g + g := by
    have h0 := Int.emod_nonneg x.toInt (by omega : (g : Int) ≠ 0)
    have h1 := Int.emod_lt_of_pos x.toInt hgI
    have h2 := Int.mul_tdiv_add_tmod x.toInt g
    have h3 := Int.mul_ediv_add_emod x.toInt g
    have key : ∃ k : Int, x.toInt % g - x.toInt.tmod g = g * k := ⟨x.toInt.tdiv g - x.toInt / g, by rw [Int.mul_sub]; omega⟩
    obtain ⟨k, hk⟩ := key
    split
    · have : k = 0 := by
        rcases Int.lt_trichotomy k 0 with z | z | z
        · have : (g : Int) * k ≤ g * (-1) := Int.mul_le_mul_of_nonneg_left (by omega) (by omega)
          omega
        · exact z
        · have : (g : Int) * 1 ≤ g * k := Int.mul_le_mul_of_nonneg_left (by omega) (by omega)
          omega
      subst this
      omega
    · have : k = 1 := by
        rcases Int.lt_trichotomy k 1 with z | z | z
        · have : (g : Int) * k ≤ g * 0 := Int.mul_le_mul_of_nonneg_left (by omega) (by omega)
          omega
        · exact z
        · have : (g : Int) * 2 ≤ g * k := Int.mul_le_mul_of_nonneg_left (by omega) (by omega)
          omega
      subst this
      omega
  rw [e, ← qI_0]
  have h0 := Int.emod_nonneg x.toInt (by omega : (g : Int) ≠ 0)
  constructor
  · intro h
    rw [qI_le (by omega) (by omega) (by omega) (by omega)] at h
    rw [if_pos h] at hem
    rw [qI_N, Int.toNat_of_nonneg h0, hem]
  · intro h
    rw [qI_le (by omega) (by omega) (by omega) (by omega)] at h
    rw [if_neg h] at hem
    rw [qI_N, qI_N, Int.toNat_of_nonneg h0, hem, qI_add]
abbrev TO (c g tu mi o p e b : Nat) : q_E := .inr (.inr (4, [.ref c, .int (nI g), .int (nI tu), .int (nI mi), .int (nI o), .int (nI p), .int (nI e), .int (nI b)]))
abbrev TA (f : Nat → Nat) : q_E := .inl (0, 48, qN f)
theorem q_up_u (h : q_H) (a : Nat) (x z : q_E) : q_up (q_up h a x) a z = q_up h a z := by funext k; unfold q_up; by_cases hk : k = a <;> simp [hk]
theorem q_up_c (h : q_H) {a b : Nat} (hab : a ≠ b) (x z : q_E) : q_up (q_up h a x) b z = q_up (q_up h b z) a x := by
  funext k; unfold q_up
  by_cases hk : k = a
  · subst hk; simp [hab]
  · simp [hk]
section QE
variable {Γ : q_X} {ad : Nat → Nat} {d mc ms : Nat} {own : String} {y : MethodName} {cc : ByteArray} {nL : Nat} {ret : Option FieldType} {pc : Nat} {la : List (Option Value)} {st : List Value} {n : Nat} {h : q_H} {k1 k2 : Nat}
theorem g_iaddE (C : q_C Γ ad d mc ms own y cc nL ret) {x z w : Int32} (hw : x + z = w) (hdg : decode cc pc = .ok (.iadd, 1)) (kk : q_G Γ ad nL (pc + 1) la (.int w :: st) n h k1 k2) : q_G Γ ad nL pc la (.int z :: .int x :: st) n h k1 k2 := g_iadd C hdg (by rw [hw]; exact kk)
theorem g_isubE (C : q_C Γ ad d mc ms own y cc nL ret) {x z w : Int32} (hw : x - z = w) (hdg : decode cc pc = .ok (.isub, 1)) (kk : q_G Γ ad nL (pc + 1) la (.int w :: st) n h k1 k2) : q_G Γ ad nL pc la (.int z :: .int x :: st) n h k1 k2 := g_isub C hdg (by rw [hw]; exact kk)
theorem g_absE (C : q_C Γ ad d mc ms own y cc nL ret) {ix : Nat} {x w : Int32} (hw : (if 0 ≤ x then x else 0 - x) = w) (hl : q_LM own ix Lib.Math.abs.name Lib.Math.abs.code 1) (hdg : decode cc pc = .ok (.invokestatic ix, 3)) (hd : 1 ≤ d) (hst : (st.map fun v => v.category).sum ≤ 8) (hk : k1 ≤ mc ∧ k2 ≤ ms) (kk : q_G Γ ad nL (pc + 3) la (.int w :: st) n h k1 k2) : q_G Γ ad nL pc la (.int x :: st) n h k1 k2 := g_abs C hl hdg hd hst hk (by rw [hw]; exact kk)
end QE
set_option maxHeartbeats 2000000 in
set_option maxRecDepth 20000 in
theorem s7_leftOver {n : Nat} {h : q_H} (x : Int32) (g : Nat) (hg : 0 < g) (h2 : g < 2147483648) : SP 0 yX7_leftOver cX7_leftOver 3 (some .int) [.int x, .int (nI g)] n h (some (.int (nI ((x.toInt % g).toNat)))) h := by
  refine q_SPi RX7 rfl (by decide +kernel) (la := _) rfl rfl (fun Γ ad C F => ?_)
  refine g_iload_n (pc := 0) C (hl := rfl) dX7_leftOver_0 ?_
  refine g_if_gtN (pc := 1) C 6 dX7_leftOver_1 (by decide) (by omega) (fun c1 => ?_) (fun c1 => ?_)
  · refine g_iload_n (pc := 6) C (hl := rfl) dX7_leftOver_6 ?_
    refine g_iload_n (pc := 7) C (hl := rfl) dX7_leftOver_7 ?_
    refine g_irem (pc := 8) C (by exact nI_ne0 hg h2) dX7_leftOver_8 ?_
    refine g_istore_n (pc := 9) C rfl dX7_leftOver_9 ?_
    refine g_iload_n (pc := 10) C (hl := rfl) dX7_leftOver_10 ?_
    refine g_if_ge (pc := 11) C 20 dX7_leftOver_11 (by decide) (fun c11 => ?_) (fun c11 => ?_)
    · refine g_iload_n (pc := 20) C (hl := rfl) dX7_leftOver_20 ?_
      exact g_iret (pc := 21) C F dX7_leftOver_21 rfl rfl (by first | rw [(q_lo x g hg h2).1 c11] | rw [(q_lo x g hg h2).2 c11] | omega) (rfl)
    · refine g_iload_n (pc := 14) C (hl := rfl) dX7_leftOver_14 ?_
      refine g_iload_n (pc := 15) C (hl := rfl) dX7_leftOver_15 ?_
      refine g_iadd (pc := 16) C dX7_leftOver_16 ?_
      refine g_goto (pc := 17) C 21 dX7_leftOver_17 (by decide) ?_
      exact g_iret (pc := 21) C F dX7_leftOver_21 rfl rfl (by first | rw [(q_lo x g hg h2).1 c11] | rw [(q_lo x g hg h2).2 c11] | omega) (rfl)
  · refine g_iconst (pc := 4) C qk_iconst_0 dX7_leftOver_4 ?_
    exact absurd hg c1
set_option maxHeartbeats 2000000 in
set_option maxRecDepth 20000 in
theorem s7_within {n : Nat} {h : q_H} (x a b : Int32) : SP 0 yX7_within cX7_within 3 (some .boolean) [.int x, .int a, .int b] n h (some (.int (if x < a ∨ b < x then nI 0 else nI 1))) h := by
  refine q_SPi RX7 rfl (by decide +kernel) (la := _) rfl rfl (fun Γ ad C F => ?_)
  refine g_iload_n (pc := 0) C (hl := rfl) dX7_within_0 ?_
  refine g_iload_n (pc := 1) C (hl := rfl) dX7_within_1 ?_
  refine g_ic_lt (pc := 2) C 14 dX7_within_2 (by decide) (fun c2 => ?_) (fun c2 => ?_)
  · refine g_iconst (pc := 14) C qk_iconst_0 dX7_within_14 ?_
    exact g_iret (pc := 15) C F dX7_within_15 rfl rfl (by simp [*]) (rfl)
  · refine g_iload_n (pc := 5) C (hl := rfl) dX7_within_5 ?_
    refine g_iload_n (pc := 6) C (hl := rfl) dX7_within_6 ?_
    refine g_ic_gt (pc := 7) C 14 dX7_within_7 (by decide) (fun c7 => ?_) (fun c7 => ?_)
    · refine g_iconst (pc := 14) C qk_iconst_0 dX7_within_14 ?_
      exact g_iret (pc := 15) C F dX7_within_15 rfl rfl (by simp [*]) (rfl)
    · refine g_iconst (pc := 10) C qk_iconst_1 dX7_within_10 ?_
      refine g_goto (pc := 11) C 15 dX7_within_11 (by decide) ?_
      exact g_iret (pc := 15) C F dX7_within_15 rfl rfl (by simp [*]) (rfl)
set_option maxHeartbeats 2000000 in
set_option maxRecDepth 20000 in
theorem s4_of {n : Nat} {h : q_H} {t c g tu mi o p e b : Nat} {f : Nat → Nat} (k j : Nat) (ht : h t = TO c g tu mi o p e b) (hc : h c = TA f) (hk : k < 8) (hj : j < 6) : SP 0 yX4_of cX4_of 4 (some .int) [.ref t, .int (nI k), .int (nI j)] n h (some (.int (nI (f (k * 6 + j))))) h := by
  refine q_SPi RX4 rfl (by decide +kernel) (la := _) rfl rfl (fun Γ ad C F => ?_)
  refine g_iload_n (pc := 0) C (hl := rfl) dX4_of_0 ?_
  refine g_bipush (pc := 1) C qk_bipush_6 dX4_of_1 ?_
  refine g_imulN (pc := 3) C dX4_of_3 ?_
  refine g_iload_n (pc := 4) C (hl := rfl) dX4_of_4 ?_
  refine g_iaddN (pc := 5) C dX4_of_5 ?_
  refine g_istore_n (pc := 6) C rfl dX4_of_6 ?_
  refine g_iload_n (pc := 7) C (hl := rfl) dX4_of_7 ?_
  refine g_if_ltN (pc := 8) C 39 dX4_of_8 (by decide) (by omega) ?_
  refine g_iload_n (pc := 11) C (hl := rfl) dX4_of_11 ?_
  refine g_bipush (pc := 12) C qk_bipush_6 dX4_of_12 ?_
  refine g_ic_geN (pc := 14) C 39 dX4_of_14 (by decide) (by omega) (fun q => absurd q (by omega)) (fun _ => ?_)
  refine g_iload_n (pc := 17) C (hl := rfl) dX4_of_17 ?_
  refine g_if_ltN (pc := 18) C 39 dX4_of_18 (by decide) (by omega) ?_
  refine g_iload_n (pc := 21) C (hl := rfl) dX4_of_21 ?_
  refine g_aload_n (pc := 22) C (hl := rfl) dX4_of_22 ?_
  refine g_get (pc := 23) C fl4_11 dX4_of_23 ht rfl ?_
  refine g_alenN (pc := 26) C dX4_of_26 hc ?_
  refine g_ic_geN (pc := 27) C 39 dX4_of_27 (by decide) (by omega) (fun q => absurd q (by omega)) (fun _ => ?_)
  refine g_aload_n (pc := 30) C (hl := rfl) dX4_of_30 ?_
  refine g_get (pc := 31) C fl4_11 dX4_of_31 ht rfl ?_
  refine g_iload_n (pc := 34) C (hl := rfl) dX4_of_34 ?_
  refine g_ialdN (pc := 35) C dX4_of_35 hc (by omega) ?_
  refine g_goto (pc := 36) C 40 dX4_of_36 (by decide) ?_
  exact g_iret (pc := 40) C F dX4_of_40 rfl rfl (rfl) (rfl)
theorem s4_of0 {n : Nat} {h : q_H} {t c g tu mi o p e b : Nat} {f : Nat → Nat} (j : Nat) (ht : h t = TO c g tu mi o p e b) (hc : h c = TA f) (hj : j < 6) : SP 0 yX4_of cX4_of 4 (some .int) [.ref t, .int (nI 0), .int (nI j)] n h (some (.int (nI (f (0 + j))))) h := s4_of 0 j ht hc (by decide) hj
theorem s4_of1 {n : Nat} {h : q_H} {t c g tu mi o p e b : Nat} {f : Nat → Nat} (j : Nat) (ht : h t = TO c g tu mi o p e b) (hc : h c = TA f) (hj : j < 6) : SP 0 yX4_of cX4_of 4 (some .int) [.ref t, .int (nI 1), .int (nI j)] n h (some (.int (nI (f (6 + j))))) h := s4_of 1 j ht hc (by decide) hj
theorem s4_of2 {n : Nat} {h : q_H} {t c g tu mi o p e b : Nat} {f : Nat → Nat} (j : Nat) (ht : h t = TO c g tu mi o p e b) (hc : h c = TA f) (hj : j < 6) : SP 0 yX4_of cX4_of 4 (some .int) [.ref t, .int (nI 2), .int (nI j)] n h (some (.int (nI (f (12 + j))))) h := s4_of 2 j ht hc (by decide) hj
theorem s4_of3 {n : Nat} {h : q_H} {t c g tu mi o p e b : Nat} {f : Nat → Nat} (j : Nat) (ht : h t = TO c g tu mi o p e b) (hc : h c = TA f) (hj : j < 6) : SP 0 yX4_of cX4_of 4 (some .int) [.ref t, .int (nI 3), .int (nI j)] n h (some (.int (nI (f (18 + j))))) h := s4_of 3 j ht hc (by decide) hj
theorem s4_of4 {n : Nat} {h : q_H} {t c g tu mi o p e b : Nat} {f : Nat → Nat} (j : Nat) (ht : h t = TO c g tu mi o p e b) (hc : h c = TA f) (hj : j < 6) : SP 0 yX4_of cX4_of 4 (some .int) [.ref t, .int (nI 4), .int (nI j)] n h (some (.int (nI (f (24 + j))))) h := s4_of 4 j ht hc (by decide) hj
theorem s4_of5 {n : Nat} {h : q_H} {t c g tu mi o p e b : Nat} {f : Nat → Nat} (j : Nat) (ht : h t = TO c g tu mi o p e b) (hc : h c = TA f) (hj : j < 6) : SP 0 yX4_of cX4_of 4 (some .int) [.ref t, .int (nI 5), .int (nI j)] n h (some (.int (nI (f (30 + j))))) h := s4_of 5 j ht hc (by decide) hj
theorem s4_of6 {n : Nat} {h : q_H} {t c g tu mi o p e b : Nat} {f : Nat → Nat} (j : Nat) (ht : h t = TO c g tu mi o p e b) (hc : h c = TA f) (hj : j < 6) : SP 0 yX4_of cX4_of 4 (some .int) [.ref t, .int (nI 6), .int (nI j)] n h (some (.int (nI (f (36 + j))))) h := s4_of 6 j ht hc (by decide) hj
theorem s4_of7 {n : Nat} {h : q_H} {t c g tu mi o p e b : Nat} {f : Nat → Nat} (j : Nat) (ht : h t = TO c g tu mi o p e b) (hc : h c = TA f) (hj : j < 6) : SP 0 yX4_of cX4_of 4 (some .int) [.ref t, .int (nI 7), .int (nI j)] n h (some (.int (nI (f (42 + j))))) h := s4_of 7 j ht hc (by decide) hj
set_option maxHeartbeats 2000000 in
set_option maxRecDepth 20000 in
theorem s4_put {n : Nat} {h : q_H} {t c g tu mi o p e b : Nat} {f : Nat → Nat} (k j v : Nat) (ht : h t = TO c g tu mi o p e b) (hc : h c = TA f) (hk : k < 8) (hj : j < 6) : SP 0 yX4_put cX4_put 5 none [.ref t, .int (nI k), .int (nI j), .int (nI v)] n h none (q_up h c (TA (va_up f (k * 6 + j) v))) := by
  refine q_SPi RX4 rfl (by decide +kernel) (la := _) rfl rfl (fun Γ ad C F => ?_)
  refine g_iload_n (pc := 0) C (hl := rfl) dX4_put_0 ?_
  refine g_bipush (pc := 1) C qk_bipush_6 dX4_put_1 ?_
  refine g_imulN (pc := 3) C dX4_put_3 ?_
  refine g_iload_n (pc := 4) C (hl := rfl) dX4_put_4 ?_
  refine g_iaddN (pc := 5) C dX4_put_5 ?_
  refine g_istore (pc := 6) C rfl dX4_put_6 ?_
  refine g_iload_n (pc := 8) C (hl := rfl) dX4_put_8 ?_
  refine g_if_ltN (pc := 9) C 41 dX4_put_9 (by decide) (by omega) ?_
  refine g_iload_n (pc := 12) C (hl := rfl) dX4_put_12 ?_
  refine g_bipush (pc := 13) C qk_bipush_6 dX4_put_13 ?_
  refine g_ic_geN (pc := 15) C 41 dX4_put_15 (by decide) (by omega) (fun q => absurd q (by omega)) (fun _ => ?_)
  refine g_iload (pc := 18) C (hl := rfl) dX4_put_18 ?_
  refine g_if_ltN (pc := 20) C 41 dX4_put_20 (by decide) (by omega) ?_
  refine g_iload (pc := 23) C (hl := rfl) dX4_put_23 ?_
  refine g_aload_n (pc := 25) C (hl := rfl) dX4_put_25 ?_
  refine g_get (pc := 26) C fl4_11 dX4_put_26 ht rfl ?_
  refine g_alenN (pc := 29) C dX4_put_29 hc ?_
  refine g_ic_geN (pc := 30) C 41 dX4_put_30 (by decide) (by omega) (fun q => absurd q (by omega)) (fun _ => ?_)
  refine g_aload_n (pc := 33) C (hl := rfl) dX4_put_33 ?_
  refine g_get (pc := 34) C fl4_11 dX4_put_34 ht rfl ?_
  refine g_iload (pc := 37) C (hl := rfl) dX4_put_37 ?_
  refine g_iload_n (pc := 39) C (hl := rfl) dX4_put_39 ?_
  refine g_iastN (pc := 40) C dX4_put_40 hc (by omega) ?_
  exact g_vret (pc := 41) C F dX4_put_41 rfl rfl (rfl)
theorem s4_put0 {n : Nat} {h : q_H} {t c g tu mi o p e b : Nat} {f : Nat → Nat} (j v : Nat) (ht : h t = TO c g tu mi o p e b) (hc : h c = TA f) (hj : j < 6) : SP 0 yX4_put cX4_put 5 none [.ref t, .int (nI 0), .int (nI j), .int (nI v)] n h none (q_up h c (TA (va_up f (0 + j) v))) := s4_put 0 j v ht hc (by decide) hj
theorem s4_put1 {n : Nat} {h : q_H} {t c g tu mi o p e b : Nat} {f : Nat → Nat} (j v : Nat) (ht : h t = TO c g tu mi o p e b) (hc : h c = TA f) (hj : j < 6) : SP 0 yX4_put cX4_put 5 none [.ref t, .int (nI 1), .int (nI j), .int (nI v)] n h none (q_up h c (TA (va_up f (6 + j) v))) := s4_put 1 j v ht hc (by decide) hj
theorem s4_put2 {n : Nat} {h : q_H} {t c g tu mi o p e b : Nat} {f : Nat → Nat} (j v : Nat) (ht : h t = TO c g tu mi o p e b) (hc : h c = TA f) (hj : j < 6) : SP 0 yX4_put cX4_put 5 none [.ref t, .int (nI 2), .int (nI j), .int (nI v)] n h none (q_up h c (TA (va_up f (12 + j) v))) := s4_put 2 j v ht hc (by decide) hj
theorem s4_put3 {n : Nat} {h : q_H} {t c g tu mi o p e b : Nat} {f : Nat → Nat} (j v : Nat) (ht : h t = TO c g tu mi o p e b) (hc : h c = TA f) (hj : j < 6) : SP 0 yX4_put cX4_put 5 none [.ref t, .int (nI 3), .int (nI j), .int (nI v)] n h none (q_up h c (TA (va_up f (18 + j) v))) := s4_put 3 j v ht hc (by decide) hj
theorem s4_put4 {n : Nat} {h : q_H} {t c g tu mi o p e b : Nat} {f : Nat → Nat} (j v : Nat) (ht : h t = TO c g tu mi o p e b) (hc : h c = TA f) (hj : j < 6) : SP 0 yX4_put cX4_put 5 none [.ref t, .int (nI 4), .int (nI j), .int (nI v)] n h none (q_up h c (TA (va_up f (24 + j) v))) := s4_put 4 j v ht hc (by decide) hj
theorem s4_put5 {n : Nat} {h : q_H} {t c g tu mi o p e b : Nat} {f : Nat → Nat} (j v : Nat) (ht : h t = TO c g tu mi o p e b) (hc : h c = TA f) (hj : j < 6) : SP 0 yX4_put cX4_put 5 none [.ref t, .int (nI 5), .int (nI j), .int (nI v)] n h none (q_up h c (TA (va_up f (30 + j) v))) := s4_put 5 j v ht hc (by decide) hj
theorem s4_put6 {n : Nat} {h : q_H} {t c g tu mi o p e b : Nat} {f : Nat → Nat} (j v : Nat) (ht : h t = TO c g tu mi o p e b) (hc : h c = TA f) (hj : j < 6) : SP 0 yX4_put cX4_put 5 none [.ref t, .int (nI 6), .int (nI j), .int (nI v)] n h none (q_up h c (TA (va_up f (36 + j) v))) := s4_put 6 j v ht hc (by decide) hj
theorem s4_put7 {n : Nat} {h : q_H} {t c g tu mi o p e b : Nat} {f : Nat → Nat} (j v : Nat) (ht : h t = TO c g tu mi o p e b) (hc : h c = TA f) (hj : j < 6) : SP 0 yX4_put cX4_put 5 none [.ref t, .int (nI 7), .int (nI j), .int (nI v)] n h none (q_up h c (TA (va_up f (42 + j) v))) := s4_put 7 j v ht hc (by decide) hj
set_option maxHeartbeats 2000000 in
set_option maxRecDepth 20000 in
theorem s4_add {n : Nat} {h : q_H} {t c g tu mi o p e b : Nat} {f : Nat → Nat} (k j v : Nat) (x : Int32) (ht : h t = TO c g tu mi o p e b) (hc : h c = TA f) (hk : k < 8) (hj : j < 6) (hv : nI (f (k * 6 + j)) + x = nI v) : SP 1 yX4_add cX4_add 4 none [.ref t, .int (nI k), .int (nI j), .int x] n h none (q_up h c (TA (va_up f (k * 6 + j) v))) := by
  refine q_SPi RX4 rfl (by decide +kernel) (la := _) rfl rfl (fun Γ ad C F => ?_)
  refine g_aload_n (pc := 0) C (hl := rfl) dX4_add_0 ?_
  refine g_iload_n (pc := 1) C (hl := rfl) dX4_add_1 ?_
  refine g_iload_n (pc := 2) C (hl := rfl) dX4_add_2 ?_
  refine g_aload_n (pc := 3) C (hl := rfl) dX4_add_3 ?_
  refine g_iload_n (pc := 4) C (hl := rfl) dX4_add_4 ?_
  refine g_iload_n (pc := 5) C (hl := rfl) dX4_add_5 ?_
  refine g_V2v (pc := 6) C lv4_15 dX4_add_6 (s4_of k j ht hc hk hj) ht (by decide) (Nat.le_of_ble_eq_true rfl) ?_
  refine g_iload_n (pc := 9) C (hl := rfl) dX4_add_9 ?_
  refine g_iaddE (pc := 10) C hv dX4_add_10 ?_
  refine g_V3u (pc := 11) C lv4_19 dX4_add_11 (s4_put k j v ht hc hk hj) ht (by decide) (Nat.le_of_ble_eq_true rfl) ?_
  exact g_vret (pc := 14) C F dX4_add_14 rfl rfl (rfl)
theorem s4_add0 {n : Nat} {h : q_H} {t c g tu mi o p e b : Nat} {f : Nat → Nat} (j v : Nat) (x : Int32) (ht : h t = TO c g tu mi o p e b) (hc : h c = TA f) (hj : j < 6) (hv : nI (f (0 + j)) + x = nI v) : SP 1 yX4_add cX4_add 4 none [.ref t, .int (nI 0), .int (nI j), .int x] n h none (q_up h c (TA (va_up f (0 + j) v))) := s4_add 0 j v x ht hc (by decide) hj hv
theorem s4_add1 {n : Nat} {h : q_H} {t c g tu mi o p e b : Nat} {f : Nat → Nat} (j v : Nat) (x : Int32) (ht : h t = TO c g tu mi o p e b) (hc : h c = TA f) (hj : j < 6) (hv : nI (f (6 + j)) + x = nI v) : SP 1 yX4_add cX4_add 4 none [.ref t, .int (nI 1), .int (nI j), .int x] n h none (q_up h c (TA (va_up f (6 + j) v))) := s4_add 1 j v x ht hc (by decide) hj hv
theorem s4_add2 {n : Nat} {h : q_H} {t c g tu mi o p e b : Nat} {f : Nat → Nat} (j v : Nat) (x : Int32) (ht : h t = TO c g tu mi o p e b) (hc : h c = TA f) (hj : j < 6) (hv : nI (f (12 + j)) + x = nI v) : SP 1 yX4_add cX4_add 4 none [.ref t, .int (nI 2), .int (nI j), .int x] n h none (q_up h c (TA (va_up f (12 + j) v))) := s4_add 2 j v x ht hc (by decide) hj hv
theorem s4_add3 {n : Nat} {h : q_H} {t c g tu mi o p e b : Nat} {f : Nat → Nat} (j v : Nat) (x : Int32) (ht : h t = TO c g tu mi o p e b) (hc : h c = TA f) (hj : j < 6) (hv : nI (f (18 + j)) + x = nI v) : SP 1 yX4_add cX4_add 4 none [.ref t, .int (nI 3), .int (nI j), .int x] n h none (q_up h c (TA (va_up f (18 + j) v))) := s4_add 3 j v x ht hc (by decide) hj hv
theorem s4_add4 {n : Nat} {h : q_H} {t c g tu mi o p e b : Nat} {f : Nat → Nat} (j v : Nat) (x : Int32) (ht : h t = TO c g tu mi o p e b) (hc : h c = TA f) (hj : j < 6) (hv : nI (f (24 + j)) + x = nI v) : SP 1 yX4_add cX4_add 4 none [.ref t, .int (nI 4), .int (nI j), .int x] n h none (q_up h c (TA (va_up f (24 + j) v))) := s4_add 4 j v x ht hc (by decide) hj hv
theorem s4_add5 {n : Nat} {h : q_H} {t c g tu mi o p e b : Nat} {f : Nat → Nat} (j v : Nat) (x : Int32) (ht : h t = TO c g tu mi o p e b) (hc : h c = TA f) (hj : j < 6) (hv : nI (f (30 + j)) + x = nI v) : SP 1 yX4_add cX4_add 4 none [.ref t, .int (nI 5), .int (nI j), .int x] n h none (q_up h c (TA (va_up f (30 + j) v))) := s4_add 5 j v x ht hc (by decide) hj hv
theorem s4_add6 {n : Nat} {h : q_H} {t c g tu mi o p e b : Nat} {f : Nat → Nat} (j v : Nat) (x : Int32) (ht : h t = TO c g tu mi o p e b) (hc : h c = TA f) (hj : j < 6) (hv : nI (f (36 + j)) + x = nI v) : SP 1 yX4_add cX4_add 4 none [.ref t, .int (nI 6), .int (nI j), .int x] n h none (q_up h c (TA (va_up f (36 + j) v))) := s4_add 6 j v x ht hc (by decide) hj hv
theorem s4_add7 {n : Nat} {h : q_H} {t c g tu mi o p e b : Nat} {f : Nat → Nat} (j v : Nat) (x : Int32) (ht : h t = TO c g tu mi o p e b) (hc : h c = TA f) (hj : j < 6) (hv : nI (f (42 + j)) + x = nI v) : SP 1 yX4_add cX4_add 4 none [.ref t, .int (nI 7), .int (nI j), .int x] n h none (q_up h c (TA (va_up f (42 + j) v))) := s4_add 7 j v x ht hc (by decide) hj hv
set_option maxHeartbeats 2000000 in
set_option maxRecDepth 20000 in
theorem s4_stands {n : Nat} {h : q_H} {t c g tu mi o p e b : Nat} (ht : h t = TO c g tu mi o p e b) (hg : g < 100) : SP 0 yX4_stands cX4_stands 1 (some .boolean) [.ref t] n h (some (.int (if 0 < g then nI 1 else nI 0))) h := by
  refine q_SPi RX4 rfl (by decide +kernel) (la := _) rfl rfl (fun Γ ad C F => ?_)
  refine g_aload_n (pc := 0) C (hl := rfl) dX4_stands_0 ?_
  refine g_get (pc := 1) C fl4_23 dX4_stands_1 ht rfl ?_
  refine g_if_leN (pc := 4) C 11 dX4_stands_4 (by decide) (by omega) (fun c4 => ?_) (fun c4 => ?_)
  · refine g_iconst (pc := 11) C qk_iconst_0 dX4_stands_11 ?_
    exact g_iret (pc := 12) C F dX4_stands_12 rfl rfl (by first | rw [if_pos (by omega)] | rw [if_neg (by omega)]) (rfl)
  · refine g_iconst (pc := 7) C qk_iconst_1 dX4_stands_7 ?_
    refine g_goto (pc := 8) C 12 dX4_stands_8 (by decide) ?_
    exact g_iret (pc := 12) C F dX4_stands_12 rfl rfl (by first | rw [if_pos (by omega)] | rw [if_neg (by omega)]) (rfl)
set_option maxHeartbeats 2000000 in
set_option maxRecDepth 20000 in
theorem s4_has {n : Nat} {h : q_H} {t c g tu mi o p e b : Nat} (x : Int32) (ht : h t = TO c g tu mi o p e b) : SP 0 yX4_has cX4_has 2 (some .boolean) [.ref t, .int x] n h (some (.int (if x < 0 ∨ nI g ≤ x then nI 0 else nI 1))) h := by
  refine q_SPi RX4 rfl (by decide +kernel) (la := _) rfl rfl (fun Γ ad C F => ?_)
  refine g_iload_n (pc := 0) C (hl := rfl) dX4_has_0 ?_
  refine g_if_lt (pc := 1) C 16 dX4_has_1 (by decide) (fun c1 => ?_) (fun c1 => ?_)
  · refine g_iconst (pc := 16) C qk_iconst_0 dX4_has_16 ?_
    exact g_iret (pc := 17) C F dX4_has_17 rfl rfl (by simp [*]) (rfl)
  · refine g_iload_n (pc := 4) C (hl := rfl) dX4_has_4 ?_
    refine g_aload_n (pc := 5) C (hl := rfl) dX4_has_5 ?_
    refine g_get (pc := 6) C fl4_23 dX4_has_6 ht rfl ?_
    refine g_ic_ge (pc := 9) C 16 dX4_has_9 (by decide) (fun c9 => ?_) (fun c9 => ?_)
    · refine g_iconst (pc := 16) C qk_iconst_0 dX4_has_16 ?_
      exact g_iret (pc := 17) C F dX4_has_17 rfl rfl (by simp [*]) (rfl)
    · refine g_iconst (pc := 12) C qk_iconst_1 dX4_has_12 ?_
      refine g_goto (pc := 13) C 17 dX4_has_13 (by decide) ?_
      exact g_iret (pc := 17) C F dX4_has_17 rfl rfl (by simp [*]) (rfl)
theorem s4_hasN {n : Nat} {h : q_H} {t c g tu mi o p e b : Nat} (j : Nat) (ht : h t = TO c g tu mi o p e b) (hg : g < 100) (hj : j < 2147483648) : SP 0 yX4_has cX4_has 2 (some .boolean) [.ref t, .int (nI j)] n h (some (.int (if j < g then nI 1 else nI 0))) h := by
  have := s4_has (n := n) (nI j) ht
  rw [show (if j < g then nI 1 else nI 0) = (if nI j < 0 ∨ nI g ≤ nI j then nI 0 else nI 1) by
    have h0 := nI_pos hj
    by_cases hjg : j < g
    · rw [if_pos hjg, if_neg (fun q => q.elim h0 (fun z => absurd ((nI_leI (by omega) hj).mp z) (by omega)))]
    · rw [if_neg hjg, if_pos (Or.inr ((nI_leI (by omega) hj).mpr (by omega)))]]
  exact this
