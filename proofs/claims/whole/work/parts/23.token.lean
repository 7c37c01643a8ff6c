abbrev XO (pt t tk ts te nu di fa : Nat) : q_E := .inr (.inr (5, [.ref pt, .ref t, .int (nI tk), .int (nI ts), .int (nI te), .int (nI nu), .int (nI di), .int (nI fa)]))
def mVal (f : Nat → Nat) (s : Nat) : Nat → Nat
  | 0 => 0
  | k + 1 => 10 * mVal f s k + f (s + k) - 48
theorem mEnd_b (Q : Nat → Bool) (len : Nat) : ∀ (m i : Nat), i ≤ len → i ≤ mEnd Q len m i ∧ mEnd Q len m i ≤ len
  | 0, i, h => ⟨Nat.le_refl _, h⟩
  | m + 1, i, h => by
    show i ≤ (if i < len ∧ Q i = true then mEnd Q len m (i + 1) else i) ∧ (if i < len ∧ Q i = true then mEnd Q len m (i + 1) else i) ≤ len
    by_cases hq : i < len ∧ Q i = true
    · rw [if_pos hq]
      have := mEnd_b Q len m (i + 1) (by omega)
      omega
    · rw [if_neg hq]; omega
theorem mEnd_all (Q : Nat → Bool) (len : Nat) : ∀ (m i j : Nat), i ≤ j → j < mEnd Q len m i → Q j = true
  | 0, i, j, h1, h2 => absurd h2 (Nat.not_lt.mpr h1)
  | m + 1, i, j, h1, h2 => by
    have h2 : j < (if i < len ∧ Q i = true then mEnd Q len m (i + 1) else i) := h2
    by_cases hq : i < len ∧ Q i = true
    · rw [if_pos hq] at h2
      by_cases hij : i = j
      · rw [← hij]; exact hq.2
      · exact mEnd_all Q len m (i + 1) j (by omega) h2
    · rw [if_neg hq] at h2; omega
theorem q_nm1 {a : Nat} (h : a < 2147483648) : ¬ nI a = -1 := fun q => by
  have h1 := congrArg Int32.toInt q
  rw [nI_toInt h] at h1
  have : (-1 : Int32).toInt = -1 := by decide
  omega
theorem mFi_b {c : Nat} (h : mFi c = true) : 48 ≤ c ∧ c ≤ 57 := by unfold mFi at h; simpa using h
theorem mVal_lt {f : Nat → Nat} {s : Nat} : ∀ k, k ≤ 3 → (∀ j, j < k → f (s + j) ≤ 57) → mVal f s k < 10 ^ k
  | 0, _, _ => Nat.one_pos
  | k + 1, hk, h => by
    have h1 := mVal_lt (f := f) (s := s) k (by omega) (fun j hj => h j (by omega))
    have h2 := h k (by omega)
    show 10 * mVal f s k + f (s + k) - 48 < 10 ^ (k + 1)
    rw [Nat.pow_succ]
    omega
theorem s6_atY {n : Nat} {h : q_H} {r b len : Nat} {f : Nat → Nat} (k : Nat) (hr : h r = PO b len) (hb : h b = PA f) (hlen : len ≤ 300) (hk : k < len) : SP 0 yX6_at cX6_at 2 (some .int) [.ref r, .int (nI k)] n h (some (.int (nI (f k)))) h := by
  have hq := s6_at (n := n) k hr hb hlen (by omega)
  unfold mAt at hq
  rw [if_pos hk] at hq
  exact hq
theorem s6_atZ {n : Nat} {h : q_H} {r b len : Nat} {f : Nat → Nat} (k : Nat) (hr : h r = PO b len) (hb : h b = PA f) (hlen : len ≤ 300) (hk : len ≤ k) (hk2 : k < 1000000) : SP 0 yX6_at cX6_at 2 (some .int) [.ref r, .int (nI k)] n h (some (.int (-1))) h := by
  have hq := s6_at (n := n) k hr hb hlen hk2
  unfold mAt at hq
  rw [if_neg (by omega)] at hq
  exact hq
theorem s6_endOfBlanksE {n : Nat} {h : q_H} {r b len e : Nat} {f : Nat → Nat} (i : Nat) (hr : h r = PO b len) (hb : h b = PA f) (hlen : len ≤ 300) (hf : ∀ k, k < len → f k < 256) (hi : i ≤ len) (he : mEnd (fun k => mBl (f k)) len 301 i = e) : SP 1 yX6_endOfBlanks cX6_endOfBlanks 3 (some .int) [.ref r, .int (nI i)] n h (some (.int (nI e))) h := by
  have hq := s6_endOfBlanks (n := n) i hr hb hlen hf hi
  rw [he] at hq
  exact hq
theorem s6_endOfLettersE {n : Nat} {h : q_H} {r b len e : Nat} {f : Nat → Nat} (i : Nat) (hr : h r = PO b len) (hb : h b = PA f) (hlen : len ≤ 300) (hf : ∀ k, k < len → f k < 256) (hi : i ≤ len) (he : mEnd (fun k => mLe (f k)) len 301 i = e) : SP 1 yX6_endOfLetters cX6_endOfLetters 3 (some .int) [.ref r, .int (nI i)] n h (some (.int (nI e))) h := by
  have hq := s6_endOfLetters (n := n) i hr hb hlen hf hi
  rw [he] at hq
  exact hq
theorem s6_endOfFiguresE {n : Nat} {h : q_H} {r b len e : Nat} {f : Nat → Nat} (i : Nat) (hr : h r = PO b len) (hb : h b = PA f) (hlen : len ≤ 300) (hf : ∀ k, k < len → f k < 256) (hi : i ≤ len) (he : mEnd (fun k => mFi (f k)) len 301 i = e) : SP 1 yX6_endOfFigures cX6_endOfFigures 3 (some .int) [.ref r, .int (nI i)] n h (some (.int (nI e))) h := by
  have hq := s6_endOfFigures (n := n) i hr hb hlen hf hi
  rw [he] at hq
  exact hq
theorem s6_isBlankT {n : Nat} {h : q_H} (c : Nat) (hc : c < 1000000) (h1 : mBl c = true) : SP 0 yX6_isBlank cX6_isBlank 1 (some .boolean) [.int (nI c)] n h (some (.int (nI 1))) h := by
  have hq := s6_isBlank (n := n) (h := h) c hc
  rw [if_pos h1] at hq
  exact hq
theorem s6_isBlankF {n : Nat} {h : q_H} (c : Nat) (hc : c < 1000000) (h1 : ¬ mBl c = true) : SP 0 yX6_isBlank cX6_isBlank 1 (some .boolean) [.int (nI c)] n h (some (.int (nI 0))) h := by
  have hq := s6_isBlank (n := n) (h := h) c hc
  rw [if_neg h1] at hq
  exact hq
theorem s6_isLetterT {n : Nat} {h : q_H} (c : Nat) (hc : c < 1000000) (h1 : mLe c = true) : SP 0 yX6_isLetter cX6_isLetter 1 (some .boolean) [.int (nI c)] n h (some (.int (nI 1))) h := by
  have hq := s6_isLetter (n := n) (h := h) c hc
  rw [if_pos h1] at hq
  exact hq
theorem s6_isLetterF {n : Nat} {h : q_H} (c : Nat) (hc : c < 1000000) (h1 : ¬ mLe c = true) : SP 0 yX6_isLetter cX6_isLetter 1 (some .boolean) [.int (nI c)] n h (some (.int (nI 0))) h := by
  have hq := s6_isLetter (n := n) (h := h) c hc
  rw [if_neg h1] at hq
  exact hq
theorem s6_isFigureT {n : Nat} {h : q_H} (c : Nat) (hc : c < 1000000) (h1 : mFi c = true) : SP 0 yX6_isFigure cX6_isFigure 1 (some .boolean) [.int (nI c)] n h (some (.int (nI 1))) h := by
  have hq := s6_isFigure (n := n) (h := h) c hc
  rw [if_pos h1] at hq
  exact hq
theorem s6_isFigureF {n : Nat} {h : q_H} (c : Nat) (hc : c < 1000000) (h1 : ¬ mFi c = true) : SP 0 yX6_isFigure cX6_isFigure 1 (some .boolean) [.int (nI c)] n h (some (.int (nI 0))) h := by
  have hq := s6_isFigure (n := n) (h := h) c hc
  rw [if_neg h1] at hq
  exact hq
set_option maxHeartbeats 2000000 in
set_option maxRecDepth 20000 in
theorem l5_val {Γ : q_X} {ad : Nat → Nat} {n : Nat} {h : q_H} {r pt pb t tk ts te nu di fa len k0 : Nat} {f : Nat → Nat} {rz : Int32} (hr : h r = XO pt t tk ts te nu di fa) (hpt : h pt = PO pb len) (hpb : h pb = PA f) (hlen : len ≤ 300) (hf : ∀ k, k < len → f k < 256) (hk : te = ts + k0 ∧ k0 ≤ 3 ∧ te ≤ len) (hfi : ∀ j, j < k0 → 48 ≤ f (ts + j) ∧ f (ts + j) ≤ 57) (hz : rz = nI (mVal f ts k0)) (C : q_C Γ ad 1 0 0 RX5 yX5_valueOfFigures cX5_valueOfFigures 3 (some .int)) (F : q_N Γ ad n (some (.int rz)) h) : ∀ (m i : Nat), k0 < i + m → i ≤ k0 → q_G Γ ad 3 7 [some (.ref r), some (.int (nI (mVal f ts i))), some (.int (nI (ts + i)))] [] n h 0 0 := by
  intro m
  induction m with
  | zero => intro i; intros; omega
  | succ m ih =>
    intro i hm hi
    have hv := mVal_lt (f := f) (s := ts) i (by omega) (fun j hj => (hfi j (by omega)).2)
    refine g_iload_n (pc := 7) C (hl := rfl) dX5_valueOfFigures_7 ?_
    refine g_aload_n (pc := 8) C (hl := rfl) dX5_valueOfFigures_8 ?_
    refine g_get (pc := 9) C fl5_28 dX5_valueOfFigures_9 hr rfl ?_
    refine g_ic_geN (pc := 12) C 38 dX5_valueOfFigures_12 (by decide) (by omega) (fun c12 => ?_) (fun c12 => ?_)
    · refine g_iload_n (pc := 38) C (hl := rfl) dX5_valueOfFigures_38 ?_
      exact g_iret (pc := 39) C F dX5_valueOfFigures_39 rfl rfl (by rw [hz, show i = k0 by omega]) (rfl)
    · refine g_bipush (pc := 15) C qk_bipush_10 dX5_valueOfFigures_15 ?_
      refine g_iload_n (pc := 17) C (hl := rfl) dX5_valueOfFigures_17 ?_
      refine g_imulN (pc := 18) C dX5_valueOfFigures_18 ?_
      refine g_aload_n (pc := 19) C (hl := rfl) dX5_valueOfFigures_19 ?_
      refine g_get (pc := 20) C fl5_12 dX5_valueOfFigures_20 hr rfl ?_
      refine g_iload_n (pc := 23) C (hl := rfl) dX5_valueOfFigures_23 ?_
      refine g_V1v (pc := 24) C lv5_98 dX5_valueOfFigures_24 (s6_atY (ts + i) (hpt) (hpb) hlen (by omega)) hpt (by decide) (Nat.le_of_ble_eq_true rfl) ?_
      refine g_iaddN (pc := 27) C dX5_valueOfFigures_27 ?_
      refine g_bipush (pc := 28) C qk_bipush_48 dX5_valueOfFigures_28 ?_
      refine g_isubN (pc := 30) C dX5_valueOfFigures_30 (by have := hfi i (by omega); omega) ?_
      refine g_istore_n (pc := 31) C rfl dX5_valueOfFigures_31 ?_
      refine g_iincN (pc := 32) C (hl := rfl) (q_inc1 _) rfl dX5_valueOfFigures_32 ?_
      refine g_goto (pc := 35) C 7 dX5_valueOfFigures_35 (by decide) ?_
      exact ih (i + 1) (by omega) (by omega) 
set_option maxHeartbeats 2000000 in
set_option maxRecDepth 20000 in
theorem s5_val {n : Nat} {h : q_H} {r pt pb t tk ts te nu di fa len : Nat} {f : Nat → Nat} {k0 : Nat} (hr : h r = XO pt t tk ts te nu di fa) (hpt : h pt = PO pb len) (hpb : h pb = PA f) (hlen : len ≤ 300) (hf : ∀ k, k < len → f k < 256) (hk : te = ts + k0 ∧ k0 ≤ 3 ∧ te ≤ len) (hfi : ∀ j, j < k0 → 48 ≤ f (ts + j) ∧ f (ts + j) ≤ 57) : SP 1 yX5_valueOfFigures cX5_valueOfFigures 3 (some .int) [.ref r] n h (some (.int (nI (mVal f ts k0)))) h := by
  refine q_SPi RX5 rfl (by decide +kernel) (la := _) rfl rfl (fun Γ ad C F => ?_)
  refine g_iconst (pc := 0) C qk_iconst_0 dX5_valueOfFigures_0 ?_
  refine g_istore_n (pc := 1) C rfl dX5_valueOfFigures_1 ?_
  refine g_aload_n (pc := 2) C (hl := rfl) dX5_valueOfFigures_2 ?_
  refine g_get (pc := 3) C fl5_90 dX5_valueOfFigures_3 hr rfl ?_
  refine g_istore_n (pc := 6) C rfl dX5_valueOfFigures_6 ?_
  exact l5_val hr hpt hpb hlen hf hk hfi rfl C F (k0 + 1) 0 (by omega) (by omega)
set_option maxHeartbeats 2000000 in
set_option maxRecDepth 20000 in
theorem s5_nxE {n : Nat} {h : q_H} {r pt pb t tk ts te nu di fa len : Nat} {f : Nat → Nat} (s : Nat) (hr : h r = XO pt t tk ts te nu di fa) (hpt : h pt = PO pb len) (hpb : h pb = PA f) (hlen : len ≤ 300) (hf : ∀ k, k < len → f k < 256) (hte : te ≤ len) (hs : mEnd (fun k => mBl (f k)) len 301 te = s) (hc : len ≤ s) : SP 2 yX5_next cX5_next 2 none [.ref r] n h none (q_up h r (XO pt t 3 s s nu di fa)) := by
  have nrp : r ≠ pt := fun q => by rw [q, hpt] at hr; cases hr
  have nrb : r ≠ pb := fun q => by rw [q, hpb] at hr; cases hr
  have hsb := mEnd_b (fun k => mBl (f k)) len 301 te hte
  rw [hs] at hsb
  refine q_SPi RX5 rfl (by decide +kernel) (la := _) rfl rfl (fun Γ ad C F => ?_)
  refine g_aload_n (pc := 0) C (hl := rfl) dX5_next_0 ?_
  refine g_aload_n (pc := 1) C (hl := rfl) dX5_next_1 ?_
  refine g_get (pc := 2) C fl5_12 dX5_next_2 hr rfl ?_
  refine g_aload_n (pc := 5) C (hl := rfl) dX5_next_5 ?_
  refine g_get (pc := 6) C fl5_28 dX5_next_6 hr rfl ?_
  refine g_V1v (pc := 9) C lv5_105 dX5_next_9 (s6_endOfBlanksE _ (hpt) (hpb) hlen hf (by omega) hs) hpt (by decide) (Nat.le_of_ble_eq_true rfl) ?_
  refine g_put (pc := 12) C fp5_90 dX5_next_12 hr (Nat.le_of_ble_eq_true rfl) ?_
  refine g_aload_n (pc := 15) C (hl := rfl) dX5_next_15 ?_
  refine g_aload_n (pc := 16) C (hl := rfl) dX5_next_16 ?_
  refine g_get (pc := 17) C fl5_90 dX5_next_17 (q_up_s _ _ _) rfl ?_
  refine g_iconst (pc := 20) C qk_iconst_1 dX5_next_20 ?_
  refine g_iaddN (pc := 21) C dX5_next_21 ?_
  refine g_put (pc := 22) C fp5_28 dX5_next_22 (q_up_s _ _ _) (Nat.le_of_ble_eq_true rfl) ?_
  refine g_aload_n (pc := 25) C (hl := rfl) dX5_next_25 ?_
  refine g_get (pc := 26) C fl5_12 dX5_next_26 (q_up_s _ _ _) rfl ?_
  refine g_aload_n (pc := 29) C (hl := rfl) dX5_next_29 ?_
  refine g_get (pc := 30) C fl5_90 dX5_next_30 (q_up_s _ _ _) rfl ?_
  refine g_V1v (pc := 33) C lv5_98 dX5_next_33 (s6_atZ s (((q_up_n _ _ (Ne.symm nrp)).trans ((q_up_n _ _ (Ne.symm nrp)).trans hpt))) (((q_up_n _ _ (Ne.symm nrb)).trans ((q_up_n _ _ (Ne.symm nrb)).trans hpb))) hlen hc (by omega)) ((q_up_n _ _ (Ne.symm nrp)).trans ((q_up_n _ _ (Ne.symm nrp)).trans hpt)) (by decide) (Nat.le_of_ble_eq_true rfl) ?_
  refine g_istore_n (pc := 36) C rfl dX5_next_36 ?_
  refine g_iload_n (pc := 37) C (hl := rfl) dX5_next_37 ?_
  refine g_iconst (pc := 38) C qk_iconst_m1 dX5_next_38 ?_
  refine g_ic_ne (pc := 39) C 58 dX5_next_39 (by decide) (fun q => absurd q (fun z => z rfl)) (fun _ => ?_)
  refine g_aload_n (pc := 42) C (hl := rfl) dX5_next_42 ?_
  refine g_iconst (pc := 43) C qk_iconst_3 dX5_next_43 ?_
  refine g_put (pc := 44) C fp5_55 dX5_next_44 (q_up_s _ _ _) (Nat.le_of_ble_eq_true rfl) ?_
  refine g_aload_n (pc := 47) C (hl := rfl) dX5_next_47 ?_
  refine g_aload_n (pc := 48) C (hl := rfl) dX5_next_48 ?_
  refine g_get (pc := 49) C fl5_90 dX5_next_49 (q_up_s _ _ _) rfl ?_
  refine g_put (pc := 52) C fp5_28 dX5_next_52 (q_up_s _ _ _) (Nat.le_of_ble_eq_true rfl) ?_
  refine g_goto (pc := 55) C 170 dX5_next_55 (by decide) ?_
  exact g_vret (pc := 170) C F dX5_next_170 rfl rfl (by simp only [q_up_u]; rfl)
set_option maxHeartbeats 2000000 in
set_option maxRecDepth 20000 in
theorem s5_nxL {n : Nat} {h : q_H} {r pt pb t tk ts te nu di fa len : Nat} {f : Nat → Nat} (s : Nat) (hr : h r = XO pt t tk ts te nu di fa) (hpt : h pt = PO pb len) (hpb : h pb = PA f) (hlen : len ≤ 300) (hf : ∀ k, k < len → f k < 256) (hte : te ≤ len) (hs : mEnd (fun k => mBl (f k)) len 301 te = s) (e : Nat) (hc : s < len) (h1 : mLe (f s) = true) (he : mEnd (fun k => mLe (f k)) len 301 s = e) : SP 2 yX5_next cX5_next 2 none [.ref r] n h none (q_up h r (XO pt t 0 s e nu di fa)) := by
  have nrp : r ≠ pt := fun q => by rw [q, hpt] at hr; cases hr
  have nrb : r ≠ pb := fun q => by rw [q, hpb] at hr; cases hr
  have hsb := mEnd_b (fun k => mBl (f k)) len 301 te hte
  rw [hs] at hsb
  refine q_SPi RX5 rfl (by decide +kernel) (la := _) rfl rfl (fun Γ ad C F => ?_)
  refine g_aload_n (pc := 0) C (hl := rfl) dX5_next_0 ?_
  refine g_aload_n (pc := 1) C (hl := rfl) dX5_next_1 ?_
  refine g_get (pc := 2) C fl5_12 dX5_next_2 hr rfl ?_
  refine g_aload_n (pc := 5) C (hl := rfl) dX5_next_5 ?_
  refine g_get (pc := 6) C fl5_28 dX5_next_6 hr rfl ?_
  refine g_V1v (pc := 9) C lv5_105 dX5_next_9 (s6_endOfBlanksE _ (hpt) (hpb) hlen hf (by omega) hs) hpt (by decide) (Nat.le_of_ble_eq_true rfl) ?_
  refine g_put (pc := 12) C fp5_90 dX5_next_12 hr (Nat.le_of_ble_eq_true rfl) ?_
  refine g_aload_n (pc := 15) C (hl := rfl) dX5_next_15 ?_
  refine g_aload_n (pc := 16) C (hl := rfl) dX5_next_16 ?_
  refine g_get (pc := 17) C fl5_90 dX5_next_17 (q_up_s _ _ _) rfl ?_
  refine g_iconst (pc := 20) C qk_iconst_1 dX5_next_20 ?_
  refine g_iaddN (pc := 21) C dX5_next_21 ?_
  refine g_put (pc := 22) C fp5_28 dX5_next_22 (q_up_s _ _ _) (Nat.le_of_ble_eq_true rfl) ?_
  refine g_aload_n (pc := 25) C (hl := rfl) dX5_next_25 ?_
  refine g_get (pc := 26) C fl5_12 dX5_next_26 (q_up_s _ _ _) rfl ?_
  refine g_aload_n (pc := 29) C (hl := rfl) dX5_next_29 ?_
  refine g_get (pc := 30) C fl5_90 dX5_next_30 (q_up_s _ _ _) rfl ?_
  refine g_V1v (pc := 33) C lv5_98 dX5_next_33 (s6_atY s (((q_up_n _ _ (Ne.symm nrp)).trans ((q_up_n _ _ (Ne.symm nrp)).trans hpt))) (((q_up_n _ _ (Ne.symm nrb)).trans ((q_up_n _ _ (Ne.symm nrb)).trans hpb))) hlen hc) ((q_up_n _ _ (Ne.symm nrp)).trans ((q_up_n _ _ (Ne.symm nrp)).trans hpt)) (by decide) (Nat.le_of_ble_eq_true rfl) ?_
  refine g_istore_n (pc := 36) C rfl dX5_next_36 ?_
  refine g_iload_n (pc := 37) C (hl := rfl) dX5_next_37 ?_
  refine g_iconst (pc := 38) C qk_iconst_m1 dX5_next_38 ?_
  refine g_ic_ne (pc := 39) C 58 dX5_next_39 (by decide) (fun _ => ?_) (fun q => absurd q (q_nm1 (by have := hf s (by omega); omega)))
  refine g_iload_n (pc := 58) C (hl := rfl) dX5_next_58 ?_
  refine g_S1v (pc := 59) C ls5_108 dX5_next_59 (s6_isLetterT (f s) (by have := hf s (by omega); omega) h1) (by decide) (Nat.le_of_ble_eq_true rfl) ?_
  refine g_if_eqN (pc := 62) C 88 dX5_next_62 (by decide) (by decide) (fun q => absurd q (by decide)) (fun _ => ?_)
  refine g_aload_n (pc := 65) C (hl := rfl) dX5_next_65 ?_
  refine g_iconst (pc := 66) C qk_iconst_0 dX5_next_66 ?_
  refine g_put (pc := 67) C fp5_55 dX5_next_67 (q_up_s _ _ _) (Nat.le_of_ble_eq_true rfl) ?_
  refine g_aload_n (pc := 70) C (hl := rfl) dX5_next_70 ?_
  refine g_aload_n (pc := 71) C (hl := rfl) dX5_next_71 ?_
  refine g_get (pc := 72) C fl5_12 dX5_next_72 (q_up_s _ _ _) rfl ?_
  refine g_aload_n (pc := 75) C (hl := rfl) dX5_next_75 ?_
  refine g_get (pc := 76) C fl5_90 dX5_next_76 (q_up_s _ _ _) rfl ?_
  refine g_V1v (pc := 79) C lv5_112 dX5_next_79 (s6_endOfLettersE _ (((q_up_n _ _ (Ne.symm nrp)).trans ((q_up_n _ _ (Ne.symm nrp)).trans ((q_up_n _ _ (Ne.symm nrp)).trans hpt)))) (((q_up_n _ _ (Ne.symm nrb)).trans ((q_up_n _ _ (Ne.symm nrb)).trans ((q_up_n _ _ (Ne.symm nrb)).trans hpb)))) hlen hf (by omega) he) ((q_up_n _ _ (Ne.symm nrp)).trans ((q_up_n _ _ (Ne.symm nrp)).trans ((q_up_n _ _ (Ne.symm nrp)).trans hpt))) (by decide) (Nat.le_of_ble_eq_true rfl) ?_
  refine g_put (pc := 82) C fp5_28 dX5_next_82 (q_up_s _ _ _) (Nat.le_of_ble_eq_true rfl) ?_
  refine g_goto (pc := 85) C 170 dX5_next_85 (by decide) ?_
  exact g_vret (pc := 170) C F dX5_next_170 rfl rfl (by simp only [q_up_u]; rfl)
set_option maxHeartbeats 2000000 in
set_option maxRecDepth 20000 in
theorem s5_nxF {n : Nat} {h : q_H} {r pt pb t tk ts te nu di fa len : Nat} {f : Nat → Nat} (s : Nat) (hr : h r = XO pt t tk ts te nu di fa) (hpt : h pt = PO pb len) (hpb : h pb = PA f) (hlen : len ≤ 300) (hf : ∀ k, k < len → f k < 256) (hte : te ≤ len) (hs : mEnd (fun k => mBl (f k)) len 301 te = s) (e : Nat) (hc : s < len) (h1 : ¬ mLe (f s) = true) (h2 : mFi (f s) = true) (he : mEnd (fun k => mFi (f k)) len 301 s = e) (h3 : e - s ≤ 3) : SP 2 yX5_next cX5_next 2 none [.ref r] n h none (q_up h r (XO pt t 1 s e (mVal f s (e - s)) di fa)) := by
  have nrp : r ≠ pt := fun q => by rw [q, hpt] at hr; cases hr
  have nrb : r ≠ pb := fun q => by rw [q, hpb] at hr; cases hr
  have hsb := mEnd_b (fun k => mBl (f k)) len 301 te hte
  rw [hs] at hsb
  have heb := mEnd_b (fun k => mFi (f k)) len 301 s (by omega)
  rw [he] at heb
  have hall : ∀ j, j < e - s → 48 ≤ f (s + j) ∧ f (s + j) ≤ 57 := fun j hj => mFi_b (mEnd_all (fun k => mFi (f k)) len 301 s (s + j) (by omega) (by rw [he]; omega))
  refine q_SPi RX5 rfl (by decide +kernel) (la := _) rfl rfl (fun Γ ad C F => ?_)
  refine g_aload_n (pc := 0) C (hl := rfl) dX5_next_0 ?_
  refine g_aload_n (pc := 1) C (hl := rfl) dX5_next_1 ?_
  refine g_get (pc := 2) C fl5_12 dX5_next_2 hr rfl ?_
  refine g_aload_n (pc := 5) C (hl := rfl) dX5_next_5 ?_
  refine g_get (pc := 6) C fl5_28 dX5_next_6 hr rfl ?_
  refine g_V1v (pc := 9) C lv5_105 dX5_next_9 (s6_endOfBlanksE _ (hpt) (hpb) hlen hf (by omega) hs) hpt (by decide) (Nat.le_of_ble_eq_true rfl) ?_
  refine g_put (pc := 12) C fp5_90 dX5_next_12 hr (Nat.le_of_ble_eq_true rfl) ?_
  refine g_aload_n (pc := 15) C (hl := rfl) dX5_next_15 ?_
  refine g_aload_n (pc := 16) C (hl := rfl) dX5_next_16 ?_
  refine g_get (pc := 17) C fl5_90 dX5_next_17 (q_up_s _ _ _) rfl ?_
  refine g_iconst (pc := 20) C qk_iconst_1 dX5_next_20 ?_
  refine g_iaddN (pc := 21) C dX5_next_21 ?_
  refine g_put (pc := 22) C fp5_28 dX5_next_22 (q_up_s _ _ _) (Nat.le_of_ble_eq_true rfl) ?_
  refine g_aload_n (pc := 25) C (hl := rfl) dX5_next_25 ?_
  refine g_get (pc := 26) C fl5_12 dX5_next_26 (q_up_s _ _ _) rfl ?_
  refine g_aload_n (pc := 29) C (hl := rfl) dX5_next_29 ?_
  refine g_get (pc := 30) C fl5_90 dX5_next_30 (q_up_s _ _ _) rfl ?_
  refine g_V1v (pc := 33) C lv5_98 dX5_next_33 (s6_atY s (((q_up_n _ _ (Ne.symm nrp)).trans ((q_up_n _ _ (Ne.symm nrp)).trans hpt))) (((q_up_n _ _ (Ne.symm nrb)).trans ((q_up_n _ _ (Ne.symm nrb)).trans hpb))) hlen hc) ((q_up_n _ _ (Ne.symm nrp)).trans ((q_up_n _ _ (Ne.symm nrp)).trans hpt)) (by decide) (Nat.le_of_ble_eq_true rfl) ?_
  refine g_istore_n (pc := 36) C rfl dX5_next_36 ?_
  refine g_iload_n (pc := 37) C (hl := rfl) dX5_next_37 ?_
  refine g_iconst (pc := 38) C qk_iconst_m1 dX5_next_38 ?_
  refine g_ic_ne (pc := 39) C 58 dX5_next_39 (by decide) (fun _ => ?_) (fun q => absurd q (q_nm1 (by have := hf s (by omega); omega)))
  refine g_iload_n (pc := 58) C (hl := rfl) dX5_next_58 ?_
  refine g_S1v (pc := 59) C ls5_108 dX5_next_59 (s6_isLetterF (f s) (by have := hf s (by omega); omega) h1) (by decide) (Nat.le_of_ble_eq_true rfl) ?_
  refine g_if_eqN (pc := 62) C 88 dX5_next_62 (by decide) (by decide) (fun _ => ?_) (fun q => absurd q (by decide))
  refine g_iload_n (pc := 88) C (hl := rfl) dX5_next_88 ?_
  refine g_S1v (pc := 89) C ls5_115 dX5_next_89 (s6_isFigureT (f s) (by have := hf s (by omega); omega) h2) (by decide) (Nat.le_of_ble_eq_true rfl) ?_
  refine g_if_eqN (pc := 92) C 155 dX5_next_92 (by decide) (by decide) (fun q => absurd q (by decide)) (fun _ => ?_)
  refine g_aload_n (pc := 95) C (hl := rfl) dX5_next_95 ?_
  refine g_aload_n (pc := 96) C (hl := rfl) dX5_next_96 ?_
  refine g_get (pc := 97) C fl5_12 dX5_next_97 (q_up_s _ _ _) rfl ?_
  refine g_aload_n (pc := 100) C (hl := rfl) dX5_next_100 ?_
  refine g_get (pc := 101) C fl5_90 dX5_next_101 (q_up_s _ _ _) rfl ?_
  refine g_V1v (pc := 104) C lv5_118 dX5_next_104 (s6_endOfFiguresE _ (((q_up_n _ _ (Ne.symm nrp)).trans ((q_up_n _ _ (Ne.symm nrp)).trans hpt))) (((q_up_n _ _ (Ne.symm nrb)).trans ((q_up_n _ _ (Ne.symm nrb)).trans hpb))) hlen hf (by omega) he) ((q_up_n _ _ (Ne.symm nrp)).trans ((q_up_n _ _ (Ne.symm nrp)).trans hpt)) (by decide) (Nat.le_of_ble_eq_true rfl) ?_
  refine g_put (pc := 107) C fp5_28 dX5_next_107 (q_up_s _ _ _) (Nat.le_of_ble_eq_true rfl) ?_
  refine g_aload_n (pc := 110) C (hl := rfl) dX5_next_110 ?_
  refine g_aload_n (pc := 111) C (hl := rfl) dX5_next_111 ?_
  refine g_get (pc := 112) C fl5_28 dX5_next_112 (q_up_s _ _ _) rfl ?_
  refine g_aload_n (pc := 115) C (hl := rfl) dX5_next_115 ?_
  refine g_get (pc := 116) C fl5_90 dX5_next_116 (q_up_s _ _ _) rfl ?_
  refine g_isubN (pc := 119) C dX5_next_119 (by omega) ?_
  refine g_iconst (pc := 120) C qk_iconst_3 dX5_next_120 ?_
  refine g_ic_gtN (pc := 121) C 128 dX5_next_121 (by decide) (by omega) (fun q => absurd q (by omega)) (fun _ => ?_)
  refine g_iconst (pc := 124) C qk_iconst_1 dX5_next_124 ?_
  refine g_goto (pc := 125) C 129 dX5_next_125 (by decide) ?_
  refine g_put (pc := 129) C fp5_55 dX5_next_129 (q_up_s _ _ _) (Nat.le_of_ble_eq_true rfl) ?_
  refine g_aload_n (pc := 132) C (hl := rfl) dX5_next_132 ?_
  refine g_aload_n (pc := 133) C (hl := rfl) dX5_next_133 ?_
  refine g_get (pc := 134) C fl5_55 dX5_next_134 (q_up_s _ _ _) rfl ?_
  refine g_iconst (pc := 137) C qk_iconst_1 dX5_next_137 ?_
  refine g_ic_neN (pc := 138) C 148 dX5_next_138 (by decide) (by decide) (fun q => absurd q (by decide)) (fun _ => ?_)
  refine g_aload_n (pc := 141) C (hl := rfl) dX5_next_141 ?_
  refine g_V0v (pc := 142) C lv5_121 dX5_next_142 (s5_val (k0 := e - s) ((q_up_s _ _ _)) (((q_up_n _ _ (Ne.symm nrp)).trans ((q_up_n _ _ (Ne.symm nrp)).trans ((q_up_n _ _ (Ne.symm nrp)).trans ((q_up_n _ _ (Ne.symm nrp)).trans hpt))))) (((q_up_n _ _ (Ne.symm nrb)).trans ((q_up_n _ _ (Ne.symm nrb)).trans ((q_up_n _ _ (Ne.symm nrb)).trans ((q_up_n _ _ (Ne.symm nrb)).trans hpb))))) hlen hf (by omega) hall) (q_up_s _ _ _) (by decide) (Nat.le_of_ble_eq_true rfl) ?_
  refine g_goto (pc := 145) C 149 dX5_next_145 (by decide) ?_
  refine g_put (pc := 149) C fp5_77 dX5_next_149 (q_up_s _ _ _) (Nat.le_of_ble_eq_true rfl) ?_
  refine g_goto (pc := 152) C 170 dX5_next_152 (by decide) ?_
  exact g_vret (pc := 170) C F dX5_next_170 rfl rfl (by simp only [q_up_u]; rfl)
set_option maxHeartbeats 2000000 in
set_option maxRecDepth 20000 in
theorem s5_nxG {n : Nat} {h : q_H} {r pt pb t tk ts te nu di fa len : Nat} {f : Nat → Nat} (s : Nat) (hr : h r = XO pt t tk ts te nu di fa) (hpt : h pt = PO pb len) (hpb : h pb = PA f) (hlen : len ≤ 300) (hf : ∀ k, k < len → f k < 256) (hte : te ≤ len) (hs : mEnd (fun k => mBl (f k)) len 301 te = s) (e : Nat) (hc : s < len) (h1 : ¬ mLe (f s) = true) (h2 : mFi (f s) = true) (he : mEnd (fun k => mFi (f k)) len 301 s = e) (h3 : ¬ e - s ≤ 3) : SP 2 yX5_next cX5_next 2 none [.ref r] n h none (q_up h r (XO pt t 4 s e 0 di fa)) := by
  have nrp : r ≠ pt := fun q => by rw [q, hpt] at hr; cases hr
  have nrb : r ≠ pb := fun q => by rw [q, hpb] at hr; cases hr
  have hsb := mEnd_b (fun k => mBl (f k)) len 301 te hte
  rw [hs] at hsb
  have heb := mEnd_b (fun k => mFi (f k)) len 301 s (by omega)
  rw [he] at heb
  have hall : ∀ j, j < e - s → 48 ≤ f (s + j) ∧ f (s + j) ≤ 57 := fun j hj => mFi_b (mEnd_all (fun k => mFi (f k)) len 301 s (s + j) (by omega) (by rw [he]; omega))
  refine q_SPi RX5 rfl (by decide +kernel) (la := _) rfl rfl (fun Γ ad C F => ?_)
  refine g_aload_n (pc := 0) C (hl := rfl) dX5_next_0 ?_
  refine g_aload_n (pc := 1) C (hl := rfl) dX5_next_1 ?_
  refine g_get (pc := 2) C fl5_12 dX5_next_2 hr rfl ?_
  refine g_aload_n (pc := 5) C (hl := rfl) dX5_next_5 ?_
  refine g_get (pc := 6) C fl5_28 dX5_next_6 hr rfl ?_
  refine g_V1v (pc := 9) C lv5_105 dX5_next_9 (s6_endOfBlanksE _ (hpt) (hpb) hlen hf (by omega) hs) hpt (by decide) (Nat.le_of_ble_eq_true rfl) ?_
  refine g_put (pc := 12) C fp5_90 dX5_next_12 hr (Nat.le_of_ble_eq_true rfl) ?_
  refine g_aload_n (pc := 15) C (hl := rfl) dX5_next_15 ?_
  refine g_aload_n (pc := 16) C (hl := rfl) dX5_next_16 ?_
  refine g_get (pc := 17) C fl5_90 dX5_next_17 (q_up_s _ _ _) rfl ?_
  refine g_iconst (pc := 20) C qk_iconst_1 dX5_next_20 ?_
  refine g_iaddN (pc := 21) C dX5_next_21 ?_
  refine g_put (pc := 22) C fp5_28 dX5_next_22 (q_up_s _ _ _) (Nat.le_of_ble_eq_true rfl) ?_
  refine g_aload_n (pc := 25) C (hl := rfl) dX5_next_25 ?_
  refine g_get (pc := 26) C fl5_12 dX5_next_26 (q_up_s _ _ _) rfl ?_
  refine g_aload_n (pc := 29) C (hl := rfl) dX5_next_29 ?_
  refine g_get (pc := 30) C fl5_90 dX5_next_30 (q_up_s _ _ _) rfl ?_
  refine g_V1v (pc := 33) C lv5_98 dX5_next_33 (s6_atY s (((q_up_n _ _ (Ne.symm nrp)).trans ((q_up_n _ _ (Ne.symm nrp)).trans hpt))) (((q_up_n _ _ (Ne.symm nrb)).trans ((q_up_n _ _ (Ne.symm nrb)).trans hpb))) hlen hc) ((q_up_n _ _ (Ne.symm nrp)).trans ((q_up_n _ _ (Ne.symm nrp)).trans hpt)) (by decide) (Nat.le_of_ble_eq_true rfl) ?_
  refine g_istore_n (pc := 36) C rfl dX5_next_36 ?_
  refine g_iload_n (pc := 37) C (hl := rfl) dX5_next_37 ?_
  refine g_iconst (pc := 38) C qk_iconst_m1 dX5_next_38 ?_
  refine g_ic_ne (pc := 39) C 58 dX5_next_39 (by decide) (fun _ => ?_) (fun q => absurd q (q_nm1 (by have := hf s (by omega); omega)))
  refine g_iload_n (pc := 58) C (hl := rfl) dX5_next_58 ?_
  refine g_S1v (pc := 59) C ls5_108 dX5_next_59 (s6_isLetterF (f s) (by have := hf s (by omega); omega) h1) (by decide) (Nat.le_of_ble_eq_true rfl) ?_
  refine g_if_eqN (pc := 62) C 88 dX5_next_62 (by decide) (by decide) (fun _ => ?_) (fun q => absurd q (by decide))
  refine g_iload_n (pc := 88) C (hl := rfl) dX5_next_88 ?_
  refine g_S1v (pc := 89) C ls5_115 dX5_next_89 (s6_isFigureT (f s) (by have := hf s (by omega); omega) h2) (by decide) (Nat.le_of_ble_eq_true rfl) ?_
  refine g_if_eqN (pc := 92) C 155 dX5_next_92 (by decide) (by decide) (fun q => absurd q (by decide)) (fun _ => ?_)
  refine g_aload_n (pc := 95) C (hl := rfl) dX5_next_95 ?_
  refine g_aload_n (pc := 96) C (hl := rfl) dX5_next_96 ?_
  refine g_get (pc := 97) C fl5_12 dX5_next_97 (q_up_s _ _ _) rfl ?_
  refine g_aload_n (pc := 100) C (hl := rfl) dX5_next_100 ?_
  refine g_get (pc := 101) C fl5_90 dX5_next_101 (q_up_s _ _ _) rfl ?_
  refine g_V1v (pc := 104) C lv5_118 dX5_next_104 (s6_endOfFiguresE _ (((q_up_n _ _ (Ne.symm nrp)).trans ((q_up_n _ _ (Ne.symm nrp)).trans hpt))) (((q_up_n _ _ (Ne.symm nrb)).trans ((q_up_n _ _ (Ne.symm nrb)).trans hpb))) hlen hf (by omega) he) ((q_up_n _ _ (Ne.symm nrp)).trans ((q_up_n _ _ (Ne.symm nrp)).trans hpt)) (by decide) (Nat.le_of_ble_eq_true rfl) ?_
  refine g_put (pc := 107) C fp5_28 dX5_next_107 (q_up_s _ _ _) (Nat.le_of_ble_eq_true rfl) ?_
  refine g_aload_n (pc := 110) C (hl := rfl) dX5_next_110 ?_
  refine g_aload_n (pc := 111) C (hl := rfl) dX5_next_111 ?_
  refine g_get (pc := 112) C fl5_28 dX5_next_112 (q_up_s _ _ _) rfl ?_
  refine g_aload_n (pc := 115) C (hl := rfl) dX5_next_115 ?_
  refine g_get (pc := 116) C fl5_90 dX5_next_116 (q_up_s _ _ _) rfl ?_
  refine g_isubN (pc := 119) C dX5_next_119 (by omega) ?_
  refine g_iconst (pc := 120) C qk_iconst_3 dX5_next_120 ?_
  refine g_ic_gtN (pc := 121) C 128 dX5_next_121 (by decide) (by omega) (fun _ => ?_) (fun q => absurd (by omega) q)
  refine g_iconst (pc := 128) C qk_iconst_4 dX5_next_128 ?_
  refine g_put (pc := 129) C fp5_55 dX5_next_129 (q_up_s _ _ _) (Nat.le_of_ble_eq_true rfl) ?_
  refine g_aload_n (pc := 132) C (hl := rfl) dX5_next_132 ?_
  refine g_aload_n (pc := 133) C (hl := rfl) dX5_next_133 ?_
  refine g_get (pc := 134) C fl5_55 dX5_next_134 (q_up_s _ _ _) rfl ?_
  refine g_iconst (pc := 137) C qk_iconst_1 dX5_next_137 ?_
  refine g_ic_neN (pc := 138) C 148 dX5_next_138 (by decide) (by decide) (fun _ => ?_) (fun q => absurd q (by decide))
  refine g_iconst (pc := 148) C qk_iconst_0 dX5_next_148 ?_
  refine g_put (pc := 149) C fp5_77 dX5_next_149 (q_up_s _ _ _) (Nat.le_of_ble_eq_true rfl) ?_
  refine g_goto (pc := 152) C 170 dX5_next_152 (by decide) ?_
  exact g_vret (pc := 170) C F dX5_next_170 rfl rfl (by simp only [q_up_u]; rfl)
set_option maxHeartbeats 2000000 in
set_option maxRecDepth 20000 in
theorem s5_nxS {n : Nat} {h : q_H} {r pt pb t tk ts te nu di fa len : Nat} {f : Nat → Nat} (s : Nat) (hr : h r = XO pt t tk ts te nu di fa) (hpt : h pt = PO pb len) (hpb : h pb = PA f) (hlen : len ≤ 300) (hf : ∀ k, k < len → f k < 256) (hte : te ≤ len) (hs : mEnd (fun k => mBl (f k)) len 301 te = s) (hc : s < len) (h1 : ¬ mLe (f s) = true) (h2 : ¬ mFi (f s) = true) (h3 : f s = 59) : SP 2 yX5_next cX5_next 2 none [.ref r] n h none (q_up h r (XO pt t 2 s (s + 1) nu di fa)) := by
  have nrp : r ≠ pt := fun q => by rw [q, hpt] at hr; cases hr
  have nrb : r ≠ pb := fun q => by rw [q, hpb] at hr; cases hr
  have hsb := mEnd_b (fun k => mBl (f k)) len 301 te hte
  rw [hs] at hsb
  refine q_SPi RX5 rfl (by decide +kernel) (la := _) rfl rfl (fun Γ ad C F => ?_)
  refine g_aload_n (pc := 0) C (hl := rfl) dX5_next_0 ?_
  refine g_aload_n (pc := 1) C (hl := rfl) dX5_next_1 ?_
  refine g_get (pc := 2) C fl5_12 dX5_next_2 hr rfl ?_
  refine g_aload_n (pc := 5) C (hl := rfl) dX5_next_5 ?_
  refine g_get (pc := 6) C fl5_28 dX5_next_6 hr rfl ?_
  refine g_V1v (pc := 9) C lv5_105 dX5_next_9 (s6_endOfBlanksE _ (hpt) (hpb) hlen hf (by omega) hs) hpt (by decide) (Nat.le_of_ble_eq_true rfl) ?_
  refine g_put (pc := 12) C fp5_90 dX5_next_12 hr (Nat.le_of_ble_eq_true rfl) ?_
  refine g_aload_n (pc := 15) C (hl := rfl) dX5_next_15 ?_
  refine g_aload_n (pc := 16) C (hl := rfl) dX5_next_16 ?_
  refine g_get (pc := 17) C fl5_90 dX5_next_17 (q_up_s _ _ _) rfl ?_
  refine g_iconst (pc := 20) C qk_iconst_1 dX5_next_20 ?_
  refine g_iaddN (pc := 21) C dX5_next_21 ?_
  refine g_put (pc := 22) C fp5_28 dX5_next_22 (q_up_s _ _ _) (Nat.le_of_ble_eq_true rfl) ?_
  refine g_aload_n (pc := 25) C (hl := rfl) dX5_next_25 ?_
  refine g_get (pc := 26) C fl5_12 dX5_next_26 (q_up_s _ _ _) rfl ?_
  refine g_aload_n (pc := 29) C (hl := rfl) dX5_next_29 ?_
  refine g_get (pc := 30) C fl5_90 dX5_next_30 (q_up_s _ _ _) rfl ?_
  refine g_V1v (pc := 33) C lv5_98 dX5_next_33 (s6_atY s (((q_up_n _ _ (Ne.symm nrp)).trans ((q_up_n _ _ (Ne.symm nrp)).trans hpt))) (((q_up_n _ _ (Ne.symm nrb)).trans ((q_up_n _ _ (Ne.symm nrb)).trans hpb))) hlen hc) ((q_up_n _ _ (Ne.symm nrp)).trans ((q_up_n _ _ (Ne.symm nrp)).trans hpt)) (by decide) (Nat.le_of_ble_eq_true rfl) ?_
  refine g_istore_n (pc := 36) C rfl dX5_next_36 ?_
  refine g_iload_n (pc := 37) C (hl := rfl) dX5_next_37 ?_
  refine g_iconst (pc := 38) C qk_iconst_m1 dX5_next_38 ?_
  refine g_ic_ne (pc := 39) C 58 dX5_next_39 (by decide) (fun _ => ?_) (fun q => absurd q (q_nm1 (by have := hf s (by omega); omega)))
  refine g_iload_n (pc := 58) C (hl := rfl) dX5_next_58 ?_
  refine g_S1v (pc := 59) C ls5_108 dX5_next_59 (s6_isLetterF (f s) (by have := hf s (by omega); omega) h1) (by decide) (Nat.le_of_ble_eq_true rfl) ?_
  refine g_if_eqN (pc := 62) C 88 dX5_next_62 (by decide) (by decide) (fun _ => ?_) (fun q => absurd q (by decide))
  refine g_iload_n (pc := 88) C (hl := rfl) dX5_next_88 ?_
  refine g_S1v (pc := 89) C ls5_115 dX5_next_89 (s6_isFigureF (f s) (by have := hf s (by omega); omega) h2) (by decide) (Nat.le_of_ble_eq_true rfl) ?_
  refine g_if_eqN (pc := 92) C 155 dX5_next_92 (by decide) (by decide) (fun _ => ?_) (fun q => absurd q (by decide))
  refine g_aload_n (pc := 155) C (hl := rfl) dX5_next_155 ?_
  refine g_iload_n (pc := 156) C (hl := rfl) dX5_next_156 ?_
  refine g_bipush (pc := 157) C qk_bipush_59 dX5_next_157 ?_
  refine g_ic_neN (pc := 159) C 166 dX5_next_159 (by decide) (by have := hf s (by omega); omega) (fun q => absurd q (by omega)) (fun _ => ?_)
  refine g_iconst (pc := 162) C qk_iconst_2 dX5_next_162 ?_
  refine g_goto (pc := 163) C 167 dX5_next_163 (by decide) ?_
  refine g_put (pc := 167) C fp5_55 dX5_next_167 (q_up_s _ _ _) (Nat.le_of_ble_eq_true rfl) ?_
  exact g_vret (pc := 170) C F dX5_next_170 rfl rfl (by simp only [q_up_u]; rfl)
set_option maxHeartbeats 2000000 in
set_option maxRecDepth 20000 in
theorem s5_nxT {n : Nat} {h : q_H} {r pt pb t tk ts te nu di fa len : Nat} {f : Nat → Nat} (s : Nat) (hr : h r = XO pt t tk ts te nu di fa) (hpt : h pt = PO pb len) (hpb : h pb = PA f) (hlen : len ≤ 300) (hf : ∀ k, k < len → f k < 256) (hte : te ≤ len) (hs : mEnd (fun k => mBl (f k)) len 301 te = s) (hc : s < len) (h1 : ¬ mLe (f s) = true) (h2 : ¬ mFi (f s) = true) (h3 : ¬ f s = 59) : SP 2 yX5_next cX5_next 2 none [.ref r] n h none (q_up h r (XO pt t 4 s (s + 1) nu di fa)) := by
  have nrp : r ≠ pt := fun q => by rw [q, hpt] at hr; cases hr
  have nrb : r ≠ pb := fun q => by rw [q, hpb] at hr; cases hr
  have hsb := mEnd_b (fun k => mBl (f k)) len 301 te hte
  rw [hs] at hsb
  refine q_SPi RX5 rfl (by decide +kernel) (la := _) rfl rfl (fun Γ ad C F => ?_)
  refine g_aload_n (pc := 0) C (hl := rfl) dX5_next_0 ?_
  refine g_aload_n (pc := 1) C (hl := rfl) dX5_next_1 ?_
  refine g_get (pc := 2) C fl5_12 dX5_next_2 hr rfl ?_
  refine g_aload_n (pc := 5) C (hl := rfl) dX5_next_5 ?_
  refine g_get (pc := 6) C fl5_28 dX5_next_6 hr rfl ?_
  refine g_V1v (pc := 9) C lv5_105 dX5_next_9 (s6_endOfBlanksE _ (hpt) (hpb) hlen hf (by omega) hs) hpt (by decide) (Nat.le_of_ble_eq_true rfl) ?_
  refine g_put (pc := 12) C fp5_90 dX5_next_12 hr (Nat.le_of_ble_eq_true rfl) ?_
  refine g_aload_n (pc := 15) C (hl := rfl) dX5_next_15 ?_
  refine g_aload_n (pc := 16) C (hl := rfl) dX5_next_16 ?_
  refine g_get (pc := 17) C fl5_90 dX5_next_17 (q_up_s _ _ _) rfl ?_
  refine g_iconst (pc := 20) C qk_iconst_1 dX5_next_20 ?_
  refine g_iaddN (pc := 21) C dX5_next_21 ?_
  refine g_put (pc := 22) C fp5_28 dX5_next_22 (q_up_s _ _ _) (Nat.le_of_ble_eq_true rfl) ?_
  refine g_aload_n (pc := 25) C (hl := rfl) dX5_next_25 ?_
  refine g_get (pc := 26) C fl5_12 dX5_next_26 (q_up_s _ _ _) rfl ?_
  refine g_aload_n (pc := 29) C (hl := rfl) dX5_next_29 ?_
  refine g_get (pc := 30) C fl5_90 dX5_next_30 (q_up_s _ _ _) rfl ?_
  refine g_V1v (pc := 33) C lv5_98 dX5_next_33 (s6_atY s (((q_up_n _ _ (Ne.symm nrp)).trans ((q_up_n _ _ (Ne.symm nrp)).trans hpt))) (((q_up_n _ _ (Ne.symm nrb)).trans ((q_up_n _ _ (Ne.symm nrb)).trans hpb))) hlen hc) ((q_up_n _ _ (Ne.symm nrp)).trans ((q_up_n _ _ (Ne.symm nrp)).trans hpt)) (by decide) (Nat.le_of_ble_eq_true rfl) ?_
  refine g_istore_n (pc := 36) C rfl dX5_next_36 ?_
  refine g_iload_n (pc := 37) C (hl := rfl) dX5_next_37 ?_
  refine g_iconst (pc := 38) C qk_iconst_m1 dX5_next_38 ?_
  refine g_ic_ne (pc := 39) C 58 dX5_next_39 (by decide) (fun _ => ?_) (fun q => absurd q (q_nm1 (by have := hf s (by omega); omega)))
  refine g_iload_n (pc := 58) C (hl := rfl) dX5_next_58 ?_
  refine g_S1v (pc := 59) C ls5_108 dX5_next_59 (s6_isLetterF (f s) (by have := hf s (by omega); omega) h1) (by decide) (Nat.le_of_ble_eq_true rfl) ?_
  refine g_if_eqN (pc := 62) C 88 dX5_next_62 (by decide) (by decide) (fun _ => ?_) (fun q => absurd q (by decide))
  refine g_iload_n (pc := 88) C (hl := rfl) dX5_next_88 ?_
  refine g_S1v (pc := 89) C ls5_115 dX5_next_89 (s6_isFigureF (f s) (by have := hf s (by omega); omega) h2) (by decide) (Nat.le_of_ble_eq_true rfl) ?_
  refine g_if_eqN (pc := 92) C 155 dX5_next_92 (by decide) (by decide) (fun _ => ?_) (fun q => absurd q (by decide))
  refine g_aload_n (pc := 155) C (hl := rfl) dX5_next_155 ?_
  refine g_iload_n (pc := 156) C (hl := rfl) dX5_next_156 ?_
  refine g_bipush (pc := 157) C qk_bipush_59 dX5_next_157 ?_
  refine g_ic_neN (pc := 159) C 166 dX5_next_159 (by decide) (by have := hf s (by omega); omega) (fun _ => ?_) (fun q => absurd q (by omega))
  refine g_iconst (pc := 166) C qk_iconst_4 dX5_next_166 ?_
  refine g_put (pc := 167) C fp5_55 dX5_next_167 (q_up_s _ _ _) (Nat.le_of_ble_eq_true rfl) ?_
  exact g_vret (pc := 170) C F dX5_next_170 rfl rfl (by simp only [q_up_u]; rfl)
abbrev mK : Type := Nat × Nat × Nat × Nat
def mNxt (f : Nat → Nat) (len : Nat) (K : mK) : mK :=
  if len ≤ mEnd (fun k => mBl (f k)) len 301 K.2.2.1 then (3, mEnd (fun k => mBl (f k)) len 301 K.2.2.1, mEnd (fun k => mBl (f k)) len 301 K.2.2.1, K.2.2.2)
  else if mLe (f (mEnd (fun k => mBl (f k)) len 301 K.2.2.1)) = true then (0, mEnd (fun k => mBl (f k)) len 301 K.2.2.1, mEnd (fun k => mLe (f k)) len 301 (mEnd (fun k => mBl (f k)) len 301 K.2.2.1), K.2.2.2)
  else if mFi (f (mEnd (fun k => mBl (f k)) len 301 K.2.2.1)) = true then
    (if mEnd (fun k => mFi (f k)) len 301 (mEnd (fun k => mBl (f k)) len 301 K.2.2.1) - mEnd (fun k => mBl (f k)) len 301 K.2.2.1 ≤ 3 then (1, mEnd (fun k => mBl (f k)) len 301 K.2.2.1, mEnd (fun k => mFi (f k)) len 301 (mEnd (fun k => mBl (f k)) len 301 K.2.2.1), mVal f (mEnd (fun k => mBl (f k)) len 301 K.2.2.1) (mEnd (fun k => mFi (f k)) len 301 (mEnd (fun k => mBl (f k)) len 301 K.2.2.1) - mEnd (fun k => mBl (f k)) len 301 K.2.2.1))
    else (4, mEnd (fun k => mBl (f k)) len 301 K.2.2.1, mEnd (fun k => mFi (f k)) len 301 (mEnd (fun k => mBl (f k)) len 301 K.2.2.1), 0))
  else (if f (mEnd (fun k => mBl (f k)) len 301 K.2.2.1) = 59 then 2 else 4, mEnd (fun k => mBl (f k)) len 301 K.2.2.1, mEnd (fun k => mBl (f k)) len 301 K.2.2.1 + 1, K.2.2.2)
abbrev XK (pt t : Nat) (K : mK) (di fa : Nat) : q_E := XO pt t K.1 K.2.1 K.2.2.1 K.2.2.2 di fa
/-- the places are in the text -/
def mKo (len : Nat) (K : mK) : Prop := K.2.1 ≤ K.2.2.1 ∧ K.2.2.1 ≤ len ∧ K.1 ≤ 4 ∧ K.2.2.2 < 1000
theorem mNxt_ok {f : Nat → Nat} {len : Nat} {K : mK} (hf : ∀ k, k < len → f k < 256) (h : K.2.2.1 ≤ len ∧ K.2.2.2 < 1000) : mKo len (mNxt f len K) := by
  have h1 := mEnd_b (fun k => mBl (f k)) len 301 K.2.2.1 h.1
  unfold mNxt
  generalize mEnd (fun k => mBl (f k)) len 301 K.2.2.1 = s at h1 ⊢
  split
  · exact ⟨Nat.le_refl _, h1.2, Nat.le_of_ble_eq_true rfl, h.2⟩
  · have h2 := mEnd_b (fun k => mLe (f k)) len 301 s h1.2
    have h3 := mEnd_b (fun k => mFi (f k)) len 301 s h1.2
    split
    · exact ⟨h2.1, h2.2, Nat.le_of_ble_eq_true rfl, h.2⟩
    · split
      · split
        · refine ⟨h3.1, h3.2, Nat.le_of_ble_eq_true rfl, ?_⟩
          have := mVal_lt (f := f) (s := s) (mEnd (fun k => mFi (f k)) len 301 s - s) (by omega) (fun j hj => (mFi_b (mEnd_all (fun k => mFi (f k)) len 301 s (s + j) (by omega) (by omega))).2)
          refine Nat.lt_of_lt_of_le this ?_
          show _ ≤ 10 ^ 3
          exact Nat.pow_le_pow_right (by decide) (by omega)
        · exact ⟨h3.1, h3.2, Nat.le_of_ble_eq_true rfl, Nat.le_of_ble_eq_true rfl⟩
      · refine ⟨Nat.le_succ _, by show s + 1 ≤ len; omega, ?_, h.2⟩
        show (if f s = 59 then 2 else 4) ≤ 4
        split <;> omega
set_option maxHeartbeats 2000000 in
set_option maxRecDepth 20000 in
theorem s5_next {n : Nat} {h : q_H} {r pt pb t di fa len : Nat} {K : mK} {f : Nat → Nat} (hr : h r = XK pt t K di fa) (hpt : h pt = PO pb len) (hpb : h pb = PA f) (hlen : len ≤ 300) (hf : ∀ k, k < len → f k < 256) (hte : K.2.2.1 ≤ len) : SP 2 yX5_next cX5_next 2 none [.ref r] n h none (q_up h r (XK pt t (mNxt f len K) di fa)) := by
  have h1 := mEnd_b (fun k => mBl (f k)) len 301 K.2.2.1 hte
  unfold mNxt
  split
  · exact s5_nxE _ hr hpt hpb hlen hf hte rfl (by assumption)
  · split
    · exact s5_nxL _ hr hpt hpb hlen hf hte rfl _ (by omega) (by assumption) rfl
    · split
      · split
        · exact s5_nxF _ hr hpt hpb hlen hf hte rfl _ (by omega) (by assumption) (by assumption) rfl (by assumption)
        · exact s5_nxG _ hr hpt hpb hlen hf hte rfl _ (by omega) (by assumption) (by assumption) rfl (by assumption)
      · by_cases h9 : f (mEnd (fun k => mBl (f k)) len 301 K.2.2.1) = 59
        · have := s5_nxS (n := n) _ hr hpt hpb hlen hf hte rfl (by omega) (by assumption) (by assumption) h9
          rw [if_pos h9]
          exact this
        · have := s5_nxT (n := n) _ hr hpt hpb hlen hf hte rfl (by omega) (by assumption) (by assumption) h9
          rw [if_neg h9]
          exact this
