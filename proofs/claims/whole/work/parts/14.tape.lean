abbrev PO (b len : Nat) : q_E := .inr (.inr (6, [.ref b, .int (nI len)]))
abbrev PA (f : Nat → Nat) : q_E := .inl (0, 300, qN f)
def mAt (f : Nat → Nat) (len k : Nat) : Int32 := if k < len then nI (f k) else -1
def mBl (c : Nat) : Bool := decide (c = 32 ∨ c = 10)
def mLe (c : Nat) : Bool := decide (97 ≤ c ∧ c ≤ 122)
def mFi (c : Nat) : Bool := decide (48 ≤ c ∧ c ≤ 57)
def mEnd (Q : Nat → Bool) (len : Nat) : Nat → Nat → Nat
  | 0, i => i
  | m + 1, i => if i < len ∧ Q i = true then mEnd Q len m (i + 1) else i
set_option maxHeartbeats 2000000 in
set_option maxRecDepth 20000 in
theorem s6_at {n : Nat} {h : q_H} {r b len : Nat} {f : Nat → Nat} (k : Nat) (hr : h r = PO b len) (hb : h b = PA f) (hlen : len ≤ 300) (hk : k < 1000000) : SP 0 yX6_at cX6_at 2 (some .int) [.ref r, .int (nI k)] n h (some (.int (mAt f len k))) h := by
  refine q_SPi RX6 rfl (by decide +kernel) (la := _) rfl rfl (fun Γ ad C F => ?_)
  refine g_iload_n (pc := 0) C (hl := rfl) dX6_at_0 ?_
  refine g_if_ltN (pc := 1) C 30 dX6_at_1 (by decide) (by omega) ?_
  refine g_iload_n (pc := 4) C (hl := rfl) dX6_at_4 ?_
  refine g_aload_n (pc := 5) C (hl := rfl) dX6_at_5 ?_
  refine g_get (pc := 6) C fl6_15 dX6_at_6 hr rfl ?_
  refine g_ic_geN (pc := 9) C 30 dX6_at_9 (by decide) (by omega) (fun c9 => ?_) (fun c9 => ?_)
  · refine g_iconst (pc := 30) C qk_iconst_m1 dX6_at_30 ?_
    exact g_iret (pc := 31) C F dX6_at_31 rfl rfl (by unfold mAt; first | rw [if_pos (by omega)] | rw [if_neg (by omega)]) (rfl)
  · refine g_iload_n (pc := 12) C (hl := rfl) dX6_at_12 ?_
    refine g_aload_n (pc := 13) C (hl := rfl) dX6_at_13 ?_
    refine g_get (pc := 14) C fl6_9 dX6_at_14 hr rfl ?_
    refine g_alenN (pc := 17) C dX6_at_17 hb ?_
    refine g_ic_geN (pc := 18) C 30 dX6_at_18 (by decide) (by omega) (fun q => absurd q (by omega)) (fun _ => ?_)
    refine g_aload_n (pc := 21) C (hl := rfl) dX6_at_21 ?_
    refine g_get (pc := 22) C fl6_9 dX6_at_22 hr rfl ?_
    refine g_iload_n (pc := 25) C (hl := rfl) dX6_at_25 ?_
    refine g_ialdN (pc := 26) C dX6_at_26 hb (by omega) ?_
    refine g_goto (pc := 27) C 31 dX6_at_27 (by decide) ?_
    exact g_iret (pc := 31) C F dX6_at_31 rfl rfl (by unfold mAt; first | rw [if_pos (by omega)] | rw [if_neg (by omega)]) (rfl)
set_option maxHeartbeats 2000000 in
set_option maxRecDepth 20000 in
theorem s6_isBlank {n : Nat} {h : q_H} (c : Nat) (hc : c < 1000000) : SP 0 yX6_isBlank cX6_isBlank 1 (some .boolean) [.int (nI c)] n h (some (.int (if mBl c = true then nI 1 else nI 0))) h := by
  refine q_SPi RX6 rfl (by decide +kernel) (la := _) rfl rfl (fun Γ ad C F => ?_)
  refine g_iload_n (pc := 0) C (hl := rfl) dX6_isBlank_0 ?_
  refine g_bipush (pc := 1) C qk_bipush_32 dX6_isBlank_1 ?_
  refine g_ic_eqN (pc := 3) C 12 dX6_isBlank_3 (by decide) (by omega) (fun c3 => ?_) (fun c3 => ?_)
  · refine g_iconst (pc := 12) C qk_iconst_1 dX6_isBlank_12 ?_
    refine g_goto (pc := 13) C 17 dX6_isBlank_13 (by decide) ?_
    exact g_iret (pc := 17) C F dX6_isBlank_17 rfl rfl (by unfold mBl; first | rw [if_pos (by simp; omega)] | rw [if_neg (by simp; omega)]) (rfl)
  · refine g_iload_n (pc := 6) C (hl := rfl) dX6_isBlank_6 ?_
    refine g_bipush (pc := 7) C qk_bipush_10 dX6_isBlank_7 ?_
    refine g_ic_neN (pc := 9) C 16 dX6_isBlank_9 (by decide) (by omega) (fun c9 => ?_) (fun c9 => ?_)
    · refine g_iconst (pc := 16) C qk_iconst_0 dX6_isBlank_16 ?_
      exact g_iret (pc := 17) C F dX6_isBlank_17 rfl rfl (by unfold mBl; first | rw [if_pos (by simp; omega)] | rw [if_neg (by simp; omega)]) (rfl)
    · refine g_iconst (pc := 12) C qk_iconst_1 dX6_isBlank_12 ?_
      refine g_goto (pc := 13) C 17 dX6_isBlank_13 (by decide) ?_
      exact g_iret (pc := 17) C F dX6_isBlank_17 rfl rfl (by unfold mBl; first | rw [if_pos (by simp; omega)] | rw [if_neg (by simp; omega)]) (rfl)
set_option maxHeartbeats 2000000 in
set_option maxRecDepth 20000 in
theorem s6_isLetter {n : Nat} {h : q_H} (c : Nat) (hc : c < 1000000) : SP 0 yX6_isLetter cX6_isLetter 1 (some .boolean) [.int (nI c)] n h (some (.int (if mLe c = true then nI 1 else nI 0))) h := by
  refine q_SPi RX6 rfl (by decide +kernel) (la := _) rfl rfl (fun Γ ad C F => ?_)
  refine g_iload_n (pc := 0) C (hl := rfl) dX6_isLetter_0 ?_
  refine g_bipush (pc := 1) C qk_bipush_97 dX6_isLetter_1 ?_
  refine g_ic_ltN (pc := 3) C 16 dX6_isLetter_3 (by decide) (by omega) (fun c3 => ?_) (fun c3 => ?_)
  · refine g_iconst (pc := 16) C qk_iconst_0 dX6_isLetter_16 ?_
    exact g_iret (pc := 17) C F dX6_isLetter_17 rfl rfl (by unfold mLe; first | rw [if_pos (by simp; omega)] | rw [if_neg (by simp; omega)]) (rfl)
  · refine g_iload_n (pc := 6) C (hl := rfl) dX6_isLetter_6 ?_
    refine g_bipush (pc := 7) C qk_bipush_122 dX6_isLetter_7 ?_
    refine g_ic_gtN (pc := 9) C 16 dX6_isLetter_9 (by decide) (by omega) (fun c9 => ?_) (fun c9 => ?_)
    · refine g_iconst (pc := 16) C qk_iconst_0 dX6_isLetter_16 ?_
      exact g_iret (pc := 17) C F dX6_isLetter_17 rfl rfl (by unfold mLe; first | rw [if_pos (by simp; omega)] | rw [if_neg (by simp; omega)]) (rfl)
    · refine g_iconst (pc := 12) C qk_iconst_1 dX6_isLetter_12 ?_
      refine g_goto (pc := 13) C 17 dX6_isLetter_13 (by decide) ?_
      exact g_iret (pc := 17) C F dX6_isLetter_17 rfl rfl (by unfold mLe; first | rw [if_pos (by simp; omega)] | rw [if_neg (by simp; omega)]) (rfl)
set_option maxHeartbeats 2000000 in
set_option maxRecDepth 20000 in
theorem s6_isFigure {n : Nat} {h : q_H} (c : Nat) (hc : c < 1000000) : SP 0 yX6_isFigure cX6_isFigure 1 (some .boolean) [.int (nI c)] n h (some (.int (if mFi c = true then nI 1 else nI 0))) h := by
  refine q_SPi RX6 rfl (by decide +kernel) (la := _) rfl rfl (fun Γ ad C F => ?_)
  refine g_iload_n (pc := 0) C (hl := rfl) dX6_isFigure_0 ?_
  refine g_bipush (pc := 1) C qk_bipush_48 dX6_isFigure_1 ?_
  refine g_ic_ltN (pc := 3) C 16 dX6_isFigure_3 (by decide) (by omega) (fun c3 => ?_) (fun c3 => ?_)
  · refine g_iconst (pc := 16) C qk_iconst_0 dX6_isFigure_16 ?_
    exact g_iret (pc := 17) C F dX6_isFigure_17 rfl rfl (by unfold mFi; first | rw [if_pos (by simp; omega)] | rw [if_neg (by simp; omega)]) (rfl)
  · refine g_iload_n (pc := 6) C (hl := rfl) dX6_isFigure_6 ?_
    refine g_bipush (pc := 7) C qk_bipush_57 dX6_isFigure_7 ?_
    refine g_ic_gtN (pc := 9) C 16 dX6_isFigure_9 (by decide) (by omega) (fun c9 => ?_) (fun c9 => ?_)
    · refine g_iconst (pc := 16) C qk_iconst_0 dX6_isFigure_16 ?_
      exact g_iret (pc := 17) C F dX6_isFigure_17 rfl rfl (by unfold mFi; first | rw [if_pos (by simp; omega)] | rw [if_neg (by simp; omega)]) (rfl)
    · refine g_iconst (pc := 12) C qk_iconst_1 dX6_isFigure_12 ?_
      refine g_goto (pc := 13) C 17 dX6_isFigure_13 (by decide) ?_
      exact g_iret (pc := 17) C F dX6_isFigure_17 rfl rfl (by unfold mFi; first | rw [if_pos (by simp; omega)] | rw [if_neg (by simp; omega)]) (rfl)
set_option maxHeartbeats 2000000 in
set_option maxRecDepth 20000 in
theorem l6_endOfBlanks {Γ : q_X} {ad : Nat → Nat} {n : Nat} {h : q_H} {r b len from_ : Nat} {f : Nat → Nat} {rz : Int32} (hr : h r = PO b len) (hb : h b = PA f) (hlen : len ≤ 300) (hf : ∀ k, k < len → f k < 256) (C : q_C Γ ad 1 0 0 RX6 yX6_endOfBlanks cX6_endOfBlanks 3 (some .int)) (F : q_N Γ ad n (some (.int rz)) h) : ∀ (m i : Nat), len < i + m ∧ i ≤ len → rz = nI (mEnd (fun k => mBl (f k)) len m i) → q_G Γ ad 3 2 [some (.ref r), some (.int (nI from_)), some (.int (nI i))] [] n h 0 0 := by
  intro m
  induction m with
  | zero => intro i hm; omega
  | succ m ih =>
    intro i hm hz
    refine g_iload_n (pc := 2) C (hl := rfl) dX6_endOfBlanks_2 ?_
    refine g_aload_n (pc := 3) C (hl := rfl) dX6_endOfBlanks_3 ?_
    refine g_get (pc := 4) C fl6_15 dX6_endOfBlanks_4 hr rfl ?_
    refine g_ic_geN (pc := 7) C 27 dX6_endOfBlanks_7 (by decide) (by omega) (fun c7 => ?_) (fun c7 => ?_)
    · refine g_iload_n (pc := 27) C (hl := rfl) dX6_endOfBlanks_27 ?_
      exact g_iret (pc := 28) C F dX6_endOfBlanks_28 rfl rfl (by rw [hz]; show _ = some (Value.int (nI (if i < len ∧ mBl (f i) = true then _ else i))); rw [if_neg (by first | omega | exact fun q => (q_be.mp c18) q.2)]) (rfl)
    · refine g_aload_n (pc := 10) C (hl := rfl) dX6_endOfBlanks_10 ?_
      refine g_iload_n (pc := 11) C (hl := rfl) dX6_endOfBlanks_11 ?_
      have hq := s6_at (n := n) i hr hb hlen (by omega)
      unfold mAt at hq
      rw [if_pos (by omega)] at hq
      refine g_V1v (pc := 12) C lv6_19 dX6_endOfBlanks_12 (hq) hr (by decide) (Nat.le_of_ble_eq_true rfl) ?_
      refine g_S1v (pc := 15) C ls6_23 dX6_endOfBlanks_15 (s6_isBlank _ (by have := hf i (by omega); omega)) (by decide) (Nat.le_of_ble_eq_true rfl) ?_
      refine g_if_eq (pc := 18) C 27 dX6_endOfBlanks_18 (by decide) (fun c18 => ?_) (fun c18 => ?_)
      · refine g_iload_n (pc := 27) C (hl := rfl) dX6_endOfBlanks_27 ?_
        exact g_iret (pc := 28) C F dX6_endOfBlanks_28 rfl rfl (by rw [hz]; show _ = some (Value.int (nI (if i < len ∧ mBl (f i) = true then _ else i))); rw [if_neg (by first | omega | exact fun q => (q_be.mp c18) q.2)]) (rfl)
      · refine g_iincN (pc := 21) C (hl := rfl) (q_inc1 _) rfl dX6_endOfBlanks_21 ?_
        refine g_goto (pc := 24) C 2 dX6_endOfBlanks_24 (by decide) ?_
        refine ih (i + 1) (by omega) ?_
        exact hz.trans (by show nI (if i < len ∧ mBl (f i) = true then _ else i) = _; rw [if_pos ⟨by omega, Decidable.not_not.mp (fun q => c18 (q_be.mpr q))⟩])
set_option maxHeartbeats 2000000 in
set_option maxRecDepth 20000 in
theorem s6_endOfBlanks {n : Nat} {h : q_H} {r b len : Nat} {f : Nat → Nat} (i : Nat) (hr : h r = PO b len) (hb : h b = PA f) (hlen : len ≤ 300) (hf : ∀ k, k < len → f k < 256) (hi : i ≤ len) : SP 1 yX6_endOfBlanks cX6_endOfBlanks 3 (some .int) [.ref r, .int (nI i)] n h (some (.int (nI (mEnd (fun k => mBl (f k)) len 301 i)))) h := by
  refine q_SPi RX6 rfl (by decide +kernel) (la := _) rfl rfl (fun Γ ad C F => ?_)
  refine g_iload_n (pc := 0) C (hl := rfl) dX6_endOfBlanks_0 ?_
  refine g_istore_n (pc := 1) C rfl dX6_endOfBlanks_1 ?_
  exact l6_endOfBlanks hr hb hlen hf C F 301 _ (by omega) rfl
set_option maxHeartbeats 2000000 in
set_option maxRecDepth 20000 in
theorem l6_endOfLetters {Γ : q_X} {ad : Nat → Nat} {n : Nat} {h : q_H} {r b len from_ : Nat} {f : Nat → Nat} {rz : Int32} (hr : h r = PO b len) (hb : h b = PA f) (hlen : len ≤ 300) (hf : ∀ k, k < len → f k < 256) (C : q_C Γ ad 1 0 0 RX6 yX6_endOfLetters cX6_endOfLetters 3 (some .int)) (F : q_N Γ ad n (some (.int rz)) h) : ∀ (m i : Nat), len < i + m ∧ i ≤ len → rz = nI (mEnd (fun k => mLe (f k)) len m i) → q_G Γ ad 3 2 [some (.ref r), some (.int (nI from_)), some (.int (nI i))] [] n h 0 0 := by
  intro m
  induction m with
  | zero => intro i hm; omega
  | succ m ih =>
    intro i hm hz
    refine g_iload_n (pc := 2) C (hl := rfl) dX6_endOfLetters_2 ?_
    refine g_aload_n (pc := 3) C (hl := rfl) dX6_endOfLetters_3 ?_
    refine g_get (pc := 4) C fl6_15 dX6_endOfLetters_4 hr rfl ?_
    refine g_ic_geN (pc := 7) C 27 dX6_endOfLetters_7 (by decide) (by omega) (fun c7 => ?_) (fun c7 => ?_)
    · refine g_iload_n (pc := 27) C (hl := rfl) dX6_endOfLetters_27 ?_
      exact g_iret (pc := 28) C F dX6_endOfLetters_28 rfl rfl (by rw [hz]; show _ = some (Value.int (nI (if i < len ∧ mLe (f i) = true then _ else i))); rw [if_neg (by first | omega | exact fun q => (q_be.mp c18) q.2)]) (rfl)
    · refine g_aload_n (pc := 10) C (hl := rfl) dX6_endOfLetters_10 ?_
      refine g_iload_n (pc := 11) C (hl := rfl) dX6_endOfLetters_11 ?_
      have hq := s6_at (n := n) i hr hb hlen (by omega)
      unfold mAt at hq
      rw [if_pos (by omega)] at hq
      refine g_V1v (pc := 12) C lv6_19 dX6_endOfLetters_12 (hq) hr (by decide) (Nat.le_of_ble_eq_true rfl) ?_
      refine g_S1v (pc := 15) C ls6_27 dX6_endOfLetters_15 (s6_isLetter _ (by have := hf i (by omega); omega)) (by decide) (Nat.le_of_ble_eq_true rfl) ?_
      refine g_if_eq (pc := 18) C 27 dX6_endOfLetters_18 (by decide) (fun c18 => ?_) (fun c18 => ?_)
      · refine g_iload_n (pc := 27) C (hl := rfl) dX6_endOfLetters_27 ?_
        exact g_iret (pc := 28) C F dX6_endOfLetters_28 rfl rfl (by rw [hz]; show _ = some (Value.int (nI (if i < len ∧ mLe (f i) = true then _ else i))); rw [if_neg (by first | omega | exact fun q => (q_be.mp c18) q.2)]) (rfl)
      · refine g_iincN (pc := 21) C (hl := rfl) (q_inc1 _) rfl dX6_endOfLetters_21 ?_
        refine g_goto (pc := 24) C 2 dX6_endOfLetters_24 (by decide) ?_
        refine ih (i + 1) (by omega) ?_
        exact hz.trans (by show nI (if i < len ∧ mLe (f i) = true then _ else i) = _; rw [if_pos ⟨by omega, Decidable.not_not.mp (fun q => c18 (q_be.mpr q))⟩])
set_option maxHeartbeats 2000000 in
set_option maxRecDepth 20000 in
theorem s6_endOfLetters {n : Nat} {h : q_H} {r b len : Nat} {f : Nat → Nat} (i : Nat) (hr : h r = PO b len) (hb : h b = PA f) (hlen : len ≤ 300) (hf : ∀ k, k < len → f k < 256) (hi : i ≤ len) : SP 1 yX6_endOfLetters cX6_endOfLetters 3 (some .int) [.ref r, .int (nI i)] n h (some (.int (nI (mEnd (fun k => mLe (f k)) len 301 i)))) h := by
  refine q_SPi RX6 rfl (by decide +kernel) (la := _) rfl rfl (fun Γ ad C F => ?_)
  refine g_iload_n (pc := 0) C (hl := rfl) dX6_endOfLetters_0 ?_
  refine g_istore_n (pc := 1) C rfl dX6_endOfLetters_1 ?_
  exact l6_endOfLetters hr hb hlen hf C F 301 _ (by omega) rfl
set_option maxHeartbeats 2000000 in
set_option maxRecDepth 20000 in
theorem l6_endOfFigures {Γ : q_X} {ad : Nat → Nat} {n : Nat} {h : q_H} {r b len from_ : Nat} {f : Nat → Nat} {rz : Int32} (hr : h r = PO b len) (hb : h b = PA f) (hlen : len ≤ 300) (hf : ∀ k, k < len → f k < 256) (C : q_C Γ ad 1 0 0 RX6 yX6_endOfFigures cX6_endOfFigures 3 (some .int)) (F : q_N Γ ad n (some (.int rz)) h) : ∀ (m i : Nat), len < i + m ∧ i ≤ len → rz = nI (mEnd (fun k => mFi (f k)) len m i) → q_G Γ ad 3 2 [some (.ref r), some (.int (nI from_)), some (.int (nI i))] [] n h 0 0 := by
  intro m
  induction m with
  | zero => intro i hm; omega
  | succ m ih =>
    intro i hm hz
    refine g_iload_n (pc := 2) C (hl := rfl) dX6_endOfFigures_2 ?_
    refine g_aload_n (pc := 3) C (hl := rfl) dX6_endOfFigures_3 ?_
    refine g_get (pc := 4) C fl6_15 dX6_endOfFigures_4 hr rfl ?_
    refine g_ic_geN (pc := 7) C 27 dX6_endOfFigures_7 (by decide) (by omega) (fun c7 => ?_) (fun c7 => ?_)
    · refine g_iload_n (pc := 27) C (hl := rfl) dX6_endOfFigures_27 ?_
      exact g_iret (pc := 28) C F dX6_endOfFigures_28 rfl rfl (by rw [hz]; show _ = some (Value.int (nI (if i < len ∧ mFi (f i) = true then _ else i))); rw [if_neg (by first | omega | exact fun q => (q_be.mp c18) q.2)]) (rfl)
    · refine g_aload_n (pc := 10) C (hl := rfl) dX6_endOfFigures_10 ?_
      refine g_iload_n (pc := 11) C (hl := rfl) dX6_endOfFigures_11 ?_
      have hq := s6_at (n := n) i hr hb hlen (by omega)
      unfold mAt at hq
      rw [if_pos (by omega)] at hq
      refine g_V1v (pc := 12) C lv6_19 dX6_endOfFigures_12 (hq) hr (by decide) (Nat.le_of_ble_eq_true rfl) ?_
      refine g_S1v (pc := 15) C ls6_30 dX6_endOfFigures_15 (s6_isFigure _ (by have := hf i (by omega); omega)) (by decide) (Nat.le_of_ble_eq_true rfl) ?_
      refine g_if_eq (pc := 18) C 27 dX6_endOfFigures_18 (by decide) (fun c18 => ?_) (fun c18 => ?_)
      · refine g_iload_n (pc := 27) C (hl := rfl) dX6_endOfFigures_27 ?_
        exact g_iret (pc := 28) C F dX6_endOfFigures_28 rfl rfl (by rw [hz]; show _ = some (Value.int (nI (if i < len ∧ mFi (f i) = true then _ else i))); rw [if_neg (by first | omega | exact fun q => (q_be.mp c18) q.2)]) (rfl)
      · refine g_iincN (pc := 21) C (hl := rfl) (q_inc1 _) rfl dX6_endOfFigures_21 ?_
        refine g_goto (pc := 24) C 2 dX6_endOfFigures_24 (by decide) ?_
        refine ih (i + 1) (by omega) ?_
        exact hz.trans (by show nI (if i < len ∧ mFi (f i) = true then _ else i) = _; rw [if_pos ⟨by omega, Decidable.not_not.mp (fun q => c18 (q_be.mpr q))⟩])
set_option maxHeartbeats 2000000 in
set_option maxRecDepth 20000 in
theorem s6_endOfFigures {n : Nat} {h : q_H} {r b len : Nat} {f : Nat → Nat} (i : Nat) (hr : h r = PO b len) (hb : h b = PA f) (hlen : len ≤ 300) (hf : ∀ k, k < len → f k < 256) (hi : i ≤ len) : SP 1 yX6_endOfFigures cX6_endOfFigures 3 (some .int) [.ref r, .int (nI i)] n h (some (.int (nI (mEnd (fun k => mFi (f k)) len 301 i)))) h := by
  refine q_SPi RX6 rfl (by decide +kernel) (la := _) rfl rfl (fun Γ ad C F => ?_)
  refine g_iload_n (pc := 0) C (hl := rfl) dX6_endOfFigures_0 ?_
  refine g_istore_n (pc := 1) C rfl dX6_endOfFigures_1 ?_
  exact l6_endOfFigures hr hb hlen hf C F 301 _ (by omega) rfl
set_option maxHeartbeats 2000000 in
set_option maxRecDepth 20000 in
theorem s6_add {n : Nat} {h : q_H} {r b len : Nat} {f : Nat → Nat} (v : Nat) (hr : h r = PO b len) (hb : h b = PA f) (hlen : len < 300) : SP 0 yX6_add cX6_add 2 none [.ref r, .int (nI v)] n h none (q_up (q_up h b (PA (va_up f len v))) r (PO b (len + 1))) := by
  have hne : r ≠ b := fun q => by rw [q, hb] at hr; cases hr
  refine q_SPi RX6 rfl (by decide +kernel) (la := _) rfl rfl (fun Γ ad C F => ?_)
  refine g_aload_n (pc := 0) C (hl := rfl) dX6_add_0 ?_
  refine g_get (pc := 1) C fl6_15 dX6_add_1 hr rfl ?_
  refine g_if_ltN (pc := 4) C 39 dX6_add_4 (by decide) (by omega) ?_
  refine g_aload_n (pc := 7) C (hl := rfl) dX6_add_7 ?_
  refine g_get (pc := 8) C fl6_15 dX6_add_8 hr rfl ?_
  refine g_aload_n (pc := 11) C (hl := rfl) dX6_add_11 ?_
  refine g_get (pc := 12) C fl6_9 dX6_add_12 hr rfl ?_
  refine g_alenN (pc := 15) C dX6_add_15 hb ?_
  refine g_ic_geN (pc := 16) C 39 dX6_add_16 (by decide) (by omega) (fun q => absurd q (by omega)) (fun _ => ?_)
  refine g_aload_n (pc := 19) C (hl := rfl) dX6_add_19 ?_
  refine g_get (pc := 20) C fl6_9 dX6_add_20 hr rfl ?_
  refine g_aload_n (pc := 23) C (hl := rfl) dX6_add_23 ?_
  refine g_get (pc := 24) C fl6_15 dX6_add_24 hr rfl ?_
  refine g_iload_n (pc := 27) C (hl := rfl) dX6_add_27 ?_
  refine g_iastN (pc := 28) C dX6_add_28 hb (by omega) ?_
  refine g_aload_n (pc := 29) C (hl := rfl) dX6_add_29 ?_
  refine g_dup (pc := 30) C rfl dX6_add_30 ?_
  refine g_get (pc := 31) C fl6_15 dX6_add_31 ((q_up_n _ _ hne).trans hr) rfl ?_
  refine g_iconst (pc := 34) C qk_iconst_1 dX6_add_34 ?_
  refine g_iaddN (pc := 35) C dX6_add_35 ?_
  refine g_put (pc := 36) C fp6_15 dX6_add_36 ((q_up_n _ _ hne).trans hr) (Nat.le_of_ble_eq_true rfl) ?_
  exact g_vret (pc := 39) C F dX6_add_39 rfl rfl (by first | rfl | (simp only [q_up_u]; first | done | rfl))
set_option maxHeartbeats 2000000 in
set_option maxRecDepth 20000 in
theorem s6_clear {n : Nat} {h : q_H} {r b len : Nat} (hr : h r = PO b len) : SP 0 yX6_clear cX6_clear 1 none [.ref r] n h none (q_up h r (PO b 0)) := by
  refine q_SPi RX6 rfl (by decide +kernel) (la := _) rfl rfl (fun Γ ad C F => ?_)
  refine g_aload_n (pc := 0) C (hl := rfl) dX6_clear_0 ?_
  refine g_iconst (pc := 1) C qk_iconst_0 dX6_clear_1 ?_
  refine g_put (pc := 2) C fp6_15 dX6_clear_2 hr (Nat.le_of_ble_eq_true rfl) ?_
  exact g_vret (pc := 5) C F dX6_clear_5 rfl rfl (rfl)
abbrev KO (nb left gu so wa ea : Nat) : q_E := .inr (.inr (1, [.ref nb, .int (nI left), .int (nI gu), .int (nI so), .int (nI wa), .int (nI ea)]))
abbrev KA (f : Nat → Nat) : q_E := .inl (0, 16, qN f)
def mTr (f : Nat → Nat) (i : Nat) : List Nat → (Nat → Nat)
  | [] => f
  | v :: l => mTr (va_up f i v) (i + 1) l
set_option maxHeartbeats 2000000 in
set_option maxRecDepth 20000 in
theorem s1_leave {n : Nat} {h : q_H} {r nb left gu so wa ea : Nat} {f : Nat → Nat} (v : Nat) (hr : h r = KO nb left gu so wa ea) (hb : h nb = KA f) (hl : left < 16) : SP 0 yX1_leave cX1_leave 2 none [.ref r, .int (nI v)] n h none (q_up (q_up h nb (KA (mTr f left [v]))) r (KO nb (left + 1) gu so wa ea)) := by
  have hne : r ≠ nb := fun q => by rw [q, hb] at hr; cases hr
  refine q_SPi RX1 rfl (by decide +kernel) (la := _) rfl rfl (fun Γ ad C F => ?_)
  refine g_aload_n (pc := 0) C (hl := rfl) dX1_leave_0 ?_
  refine g_get (pc := 1) C fl1_15 dX1_leave_1 hr rfl ?_
  refine g_if_ltN (pc := 4) C 39 dX1_leave_4 (by decide) (by omega) ?_
  refine g_aload_n (pc := 7) C (hl := rfl) dX1_leave_7 ?_
  refine g_get (pc := 8) C fl1_15 dX1_leave_8 hr rfl ?_
  refine g_aload_n (pc := 11) C (hl := rfl) dX1_leave_11 ?_
  refine g_get (pc := 12) C fl1_9 dX1_leave_12 hr rfl ?_
  refine g_alenN (pc := 15) C dX1_leave_15 hb ?_
  refine g_ic_geN (pc := 16) C 39 dX1_leave_16 (by decide) (by omega) (fun q => absurd q (by omega)) (fun _ => ?_)
  refine g_aload_n (pc := 19) C (hl := rfl) dX1_leave_19 ?_
  refine g_get (pc := 20) C fl1_9 dX1_leave_20 hr rfl ?_
  refine g_aload_n (pc := 23) C (hl := rfl) dX1_leave_23 ?_
  refine g_get (pc := 24) C fl1_15 dX1_leave_24 hr rfl ?_
  refine g_iload_n (pc := 27) C (hl := rfl) dX1_leave_27 ?_
  refine g_iastN (pc := 28) C dX1_leave_28 hb (by omega) ?_
  refine g_aload_n (pc := 29) C (hl := rfl) dX1_leave_29 ?_
  refine g_dup (pc := 30) C rfl dX1_leave_30 ?_
  refine g_get (pc := 31) C fl1_15 dX1_leave_31 ((q_up_n _ _ hne).trans hr) rfl ?_
  refine g_iconst (pc := 34) C qk_iconst_1 dX1_leave_34 ?_
  refine g_iaddN (pc := 35) C dX1_leave_35 ?_
  refine g_put (pc := 36) C fp1_15 dX1_leave_36 ((q_up_n _ _ hne).trans hr) (Nat.le_of_ble_eq_true rfl) ?_
  exact g_vret (pc := 39) C F dX1_leave_39 rfl rfl (by first | rfl | (simp only [q_up_u, q_up_c _ hne]; first | done | rfl))
set_option maxHeartbeats 2000000 in
set_option maxRecDepth 20000 in
theorem s1_size10 {n : Nat} {h : q_H} {r nb left gu so wa ea : Nat} {f : Nat → Nat} (hr : h r = KO nb left gu so wa ea) (hb : h nb = KA f) (hl : left + 1 ≤ 16) : SP 1 yX1_size10 cX1_size10 1 (some .int) [.ref r] n h (some (.int (nI ea))) (q_up (q_up h nb (KA (mTr f left [10]))) r (KO nb (left + 1) gu so wa ea)) := by
  have hne : r ≠ nb := fun q => by rw [q, hb] at hr; cases hr
  refine q_SPi RX1 rfl (by decide +kernel) (la := _) rfl rfl (fun Γ ad C F => ?_)
  refine g_aload_n (pc := 0) C (hl := rfl) dX1_size10_0 ?_
  refine g_bipush (pc := 1) C qk_bipush_10 dX1_size10_1 ?_
  refine g_V1u (pc := 3) C lv1_63 dX1_size10_3 (s1_leave _ hr hb (by omega)) hr (by decide) (Nat.le_of_ble_eq_true rfl) ?_
  refine g_aload_n (pc := 6) C (hl := rfl) dX1_size10_6 ?_
  refine g_get (pc := 7) C fl1_34 dX1_size10_7 (q_up_s _ _ _) rfl ?_
  exact g_iret (pc := 10) C F dX1_size10_10 rfl rfl (rfl) (by first | rfl | (simp only [q_up_u, q_up_c _ hne]; first | done | rfl))
set_option maxHeartbeats 2000000 in
set_option maxRecDepth 20000 in
theorem s1_mark20 {n : Nat} {h : q_H} {r nb left gu so wa ea : Nat} {f : Nat → Nat} (hr : h r = KO nb left gu so wa ea) (hb : h nb = KA f) (hl : left + 1 ≤ 16) : SP 1 yX1_mark20 cX1_mark20 1 (some .int) [.ref r] n h (some (.int (nI gu))) (q_up (q_up h nb (KA (mTr f left [20]))) r (KO nb (left + 1) gu so wa ea)) := by
  have hne : r ≠ nb := fun q => by rw [q, hb] at hr; cases hr
  refine q_SPi RX1 rfl (by decide +kernel) (la := _) rfl rfl (fun Γ ad C F => ?_)
  refine g_aload_n (pc := 0) C (hl := rfl) dX1_mark20_0 ?_
  refine g_bipush (pc := 1) C qk_bipush_20 dX1_mark20_1 ?_
  refine g_V1u (pc := 3) C lv1_63 dX1_mark20_3 (s1_leave _ hr hb (by omega)) hr (by decide) (Nat.le_of_ble_eq_true rfl) ?_
  refine g_aload_n (pc := 6) C (hl := rfl) dX1_mark20_6 ?_
  refine g_get (pc := 7) C fl1_19 dX1_mark20_7 (q_up_s _ _ _) rfl ?_
  exact g_iret (pc := 10) C F dX1_mark20_10 rfl rfl (rfl) (by first | rfl | (simp only [q_up_u, q_up_c _ hne]; first | done | rfl))
set_option maxHeartbeats 2000000 in
set_option maxRecDepth 20000 in
theorem s1_mark21 {n : Nat} {h : q_H} {r nb left gu so wa ea : Nat} {f : Nat → Nat} (hr : h r = KO nb left gu so wa ea) (hb : h nb = KA f) (hl : left + 2 ≤ 16) : SP 2 yX1_mark21 cX1_mark21 1 (some .int) [.ref r] n h (some (.int (nI (gu + wa)))) (q_up (q_up h nb (KA (mTr f left [21, 20]))) r (KO nb (left + 2) gu so wa ea)) := by
  have hne : r ≠ nb := fun q => by rw [q, hb] at hr; cases hr
  refine q_SPi RX1 rfl (by decide +kernel) (la := _) rfl rfl (fun Γ ad C F => ?_)
  refine g_aload_n (pc := 0) C (hl := rfl) dX1_mark21_0 ?_
  refine g_bipush (pc := 1) C qk_bipush_21 dX1_mark21_1 ?_
  refine g_V1u (pc := 3) C lv1_63 dX1_mark21_3 (s1_leave _ hr hb (by omega)) hr (by decide) (Nat.le_of_ble_eq_true rfl) ?_
  refine g_aload_n (pc := 6) C (hl := rfl) dX1_mark21_6 ?_
  refine g_V0v (pc := 7) C lv1_70 dX1_mark21_7 (s1_mark20 (q_up_s _ _ _) ((q_up_n _ _ (Ne.symm hne)).trans (q_up_s _ _ _)) (by omega)) (q_up_s _ _ _) (by decide) (Nat.le_of_ble_eq_true rfl) ?_
  refine g_aload_n (pc := 10) C (hl := rfl) dX1_mark21_10 ?_
  refine g_get (pc := 11) C fl1_31 dX1_mark21_11 (q_up_s _ _ _) rfl ?_
  refine g_iaddN (pc := 14) C dX1_mark21_14 ?_
  exact g_iret (pc := 15) C F dX1_mark21_15 rfl rfl (rfl) (by first | rfl | (simp only [q_up_u, q_up_c _ hne]; first | done | rfl))
set_option maxHeartbeats 2000000 in
set_option maxRecDepth 20000 in
theorem s1_mark22 {n : Nat} {h : q_H} {r nb left gu so wa ea : Nat} {f : Nat → Nat} (hr : h r = KO nb left gu so wa ea) (hb : h nb = KA f) (hl : left + 3 ≤ 16) : SP 3 yX1_mark22 cX1_mark22 1 (some .int) [.ref r] n h (some (.int (qI ((gu : Int) + wa - 1000)))) (q_up (q_up h nb (KA (mTr f left [22, 21, 20]))) r (KO nb (left + 3) gu so wa ea)) := by
  have hne : r ≠ nb := fun q => by rw [q, hb] at hr; cases hr
  refine q_SPi RX1 rfl (by decide +kernel) (la := _) rfl rfl (fun Γ ad C F => ?_)
  refine g_aload_n (pc := 0) C (hl := rfl) dX1_mark22_0 ?_
  refine g_bipush (pc := 1) C qk_bipush_22 dX1_mark22_1 ?_
  refine g_V1u (pc := 3) C lv1_63 dX1_mark22_3 (s1_leave _ hr hb (by omega)) hr (by decide) (Nat.le_of_ble_eq_true rfl) ?_
  refine g_aload_n (pc := 6) C (hl := rfl) dX1_mark22_6 ?_
  refine g_V0v (pc := 7) C lv1_60 dX1_mark22_7 (s1_mark21 (q_up_s _ _ _) ((q_up_n _ _ (Ne.symm hne)).trans (q_up_s _ _ _)) (by omega)) (q_up_s _ _ _) (by decide) (Nat.le_of_ble_eq_true rfl) ?_
  refine g_sipush (pc := 10) C qk_sipush_1000 dX1_mark22_10 ?_
  refine g_isubE (pc := 13) C (w := qI ((gu : Int) + wa - 1000)) (by simp only [qI_N, qI_sub]; congr 1) dX1_mark22_13 ?_
  exact g_iret (pc := 14) C F dX1_mark22_14 rfl rfl (by simp only [qI_N, qI_add, qI_sub, qI_mul, qI_neg]; first | done | (congr 3; first | done | omega)) (by first | rfl | (simp only [q_up_u, q_up_c _ hne]; first | done | rfl))
set_option maxHeartbeats 2000000 in
set_option maxRecDepth 20000 in
theorem s1_mark24 {n : Nat} {h : q_H} {r nb left gu so wa ea : Nat} {f : Nat → Nat} (hr : h r = KO nb left gu so wa ea) (hb : h nb = KA f) (hl : left + 3 ≤ 16) : SP 3 yX1_mark24 cX1_mark24 1 (some .int) [.ref r] n h (some (.int (nI (2 * (gu + wa))))) (q_up (q_up h nb (KA (mTr f left [24, 21, 20]))) r (KO nb (left + 3) gu so wa ea)) := by
  have hne : r ≠ nb := fun q => by rw [q, hb] at hr; cases hr
  refine q_SPi RX1 rfl (by decide +kernel) (la := _) rfl rfl (fun Γ ad C F => ?_)
  refine g_aload_n (pc := 0) C (hl := rfl) dX1_mark24_0 ?_
  refine g_bipush (pc := 1) C qk_bipush_24 dX1_mark24_1 ?_
  refine g_V1u (pc := 3) C lv1_63 dX1_mark24_3 (s1_leave _ hr hb (by omega)) hr (by decide) (Nat.le_of_ble_eq_true rfl) ?_
  refine g_iconst (pc := 6) C qk_iconst_2 dX1_mark24_6 ?_
  refine g_aload_n (pc := 7) C (hl := rfl) dX1_mark24_7 ?_
  refine g_V0v (pc := 8) C lv1_60 dX1_mark24_8 (s1_mark21 (q_up_s _ _ _) ((q_up_n _ _ (Ne.symm hne)).trans (q_up_s _ _ _)) (by omega)) (q_up_s _ _ _) (by decide) (Nat.le_of_ble_eq_true rfl) ?_
  refine g_imulN (pc := 11) C dX1_mark24_11 ?_
  exact g_iret (pc := 12) C F dX1_mark24_12 rfl rfl (rfl) (by first | rfl | (simp only [q_up_u, q_up_c _ hne]; first | done | rfl))
set_option maxHeartbeats 2000000 in
set_option maxRecDepth 20000 in
theorem s1_size13 {n : Nat} {h : q_H} {r nb left gu so wa ea : Nat} {f : Nat → Nat} (hr : h r = KO nb left gu so wa ea) (hb : h nb = KA f) (hl : left + 2 ≤ 16) : SP 2 yX1_size13 cX1_size13 1 (some .int) [.ref r] n h (some (.int (qI ((ea : Int) - 100)))) (q_up (q_up h nb (KA (mTr f left [13, 10]))) r (KO nb (left + 2) gu so wa ea)) := by
  have hne : r ≠ nb := fun q => by rw [q, hb] at hr; cases hr
  refine q_SPi RX1 rfl (by decide +kernel) (la := _) rfl rfl (fun Γ ad C F => ?_)
  refine g_aload_n (pc := 0) C (hl := rfl) dX1_size13_0 ?_
  refine g_bipush (pc := 1) C qk_bipush_13 dX1_size13_1 ?_
  refine g_V1u (pc := 3) C lv1_63 dX1_size13_3 (s1_leave _ hr hb (by omega)) hr (by decide) (Nat.le_of_ble_eq_true rfl) ?_
  refine g_aload_n (pc := 6) C (hl := rfl) dX1_size13_6 ?_
  refine g_V0v (pc := 7) C lv1_67 dX1_size13_7 (s1_size10 (q_up_s _ _ _) ((q_up_n _ _ (Ne.symm hne)).trans (q_up_s _ _ _)) (by omega)) (q_up_s _ _ _) (by decide) (Nat.le_of_ble_eq_true rfl) ?_
  refine g_bipush (pc := 10) C qk_bipush_100 dX1_size13_10 ?_
  refine g_isubE (pc := 12) C (w := qI ((ea : Int) - 100)) (by simp only [qI_N, qI_sub]; congr 1) dX1_size13_12 ?_
  exact g_iret (pc := 13) C F dX1_size13_13 rfl rfl (rfl) (by first | rfl | (simp only [q_up_u, q_up_c _ hne]; first | done | rfl))
set_option maxHeartbeats 2000000 in
set_option maxRecDepth 20000 in
theorem s1_size14 {n : Nat} {h : q_H} {r nb left gu so wa ea : Nat} {f : Nat → Nat} (hr : h r = KO nb left gu so wa ea) (hb : h nb = KA f) (hl : left + 3 ≤ 16) : SP 3 yX1_size14 cX1_size14 1 (some .int) [.ref r] n h (some (.int (qI (2 * ((ea : Int) - 100))))) (q_up (q_up h nb (KA (mTr f left [14, 13, 10]))) r (KO nb (left + 3) gu so wa ea)) := by
  have hne : r ≠ nb := fun q => by rw [q, hb] at hr; cases hr
  refine q_SPi RX1 rfl (by decide +kernel) (la := _) rfl rfl (fun Γ ad C F => ?_)
  refine g_aload_n (pc := 0) C (hl := rfl) dX1_size14_0 ?_
  refine g_bipush (pc := 1) C qk_bipush_14 dX1_size14_1 ?_
  refine g_V1u (pc := 3) C lv1_63 dX1_size14_3 (s1_leave _ hr hb (by omega)) hr (by decide) (Nat.le_of_ble_eq_true rfl) ?_
  refine g_iconst (pc := 6) C qk_iconst_2 dX1_size14_6 ?_
  refine g_aload_n (pc := 7) C (hl := rfl) dX1_size14_7 ?_
  refine g_V0v (pc := 8) C lv1_42 dX1_size14_8 (s1_size13 (q_up_s _ _ _) ((q_up_n _ _ (Ne.symm hne)).trans (q_up_s _ _ _)) (by omega)) (q_up_s _ _ _) (by decide) (Nat.le_of_ble_eq_true rfl) ?_
  refine g_imul (pc := 11) C dX1_size14_11 ?_
  exact g_iret (pc := 12) C F dX1_size14_12 rfl rfl (by simp only [qI_N, qI_add, qI_sub, qI_mul, qI_neg]; first | done | (congr 3; first | done | omega)) (by first | rfl | (simp only [q_up_u, q_up_c _ hne]; first | done | rfl))
set_option maxHeartbeats 2000000 in
set_option maxRecDepth 20000 in
theorem s1_size11F {n : Nat} {h : q_H} {r nb left gu wa ea : Nat} {f : Nat → Nat} (hr : h r = KO nb left gu 2 wa ea) (hb : h nb = KA f) (hl : left + 5 ≤ 16) : SP 4 yX1_size11 cX1_size11 2 (some .int) [.ref r] n h (some (.int (nI (ea + 2 * (gu + wa))))) (q_up (q_up h nb (KA (mTr f left [11, 10, 24, 21, 20]))) r (KO nb (left + 5) gu 2 wa ea)) := by
  have hne : r ≠ nb := fun q => by rw [q, hb] at hr; cases hr
  refine q_SPi RX1 rfl (by decide +kernel) (la := _) rfl rfl (fun Γ ad C F => ?_)
  refine g_aload_n (pc := 0) C (hl := rfl) dX1_size11_0 ?_
  refine g_bipush (pc := 1) C qk_bipush_11 dX1_size11_1 ?_
  refine g_V1u (pc := 3) C lv1_63 dX1_size11_3 (s1_leave _ hr hb (by omega)) hr (by decide) (Nat.le_of_ble_eq_true rfl) ?_
  refine g_aload_n (pc := 6) C (hl := rfl) dX1_size11_6 ?_
  refine g_V0v (pc := 7) C lv1_67 dX1_size11_7 (s1_size10 (q_up_s _ _ _) ((q_up_n _ _ (Ne.symm hne)).trans (q_up_s _ _ _)) (by omega)) (q_up_s _ _ _) (by decide) (Nat.le_of_ble_eq_true rfl) ?_
  refine g_istore_n (pc := 10) C rfl dX1_size11_10 ?_
  refine g_aload_n (pc := 11) C (hl := rfl) dX1_size11_11 ?_
  refine g_get (pc := 12) C fl1_28 dX1_size11_12 (q_up_s _ _ _) rfl ?_
  refine g_lsw (pc := 15) C (off := 25) 40 dX1_size11_15 (by decide) (by decide +kernel) (by decide) ?_
  refine g_iload_n (pc := 40) C (hl := rfl) dX1_size11_40 ?_
  refine g_aload_n (pc := 41) C (hl := rfl) dX1_size11_41 ?_
  refine g_V0v (pc := 42) C lv1_51 dX1_size11_42 (s1_mark24 (q_up_s _ _ _) ((q_up_n _ _ (Ne.symm hne)).trans (q_up_s _ _ _)) (by omega)) (q_up_s _ _ _) (by decide) (Nat.le_of_ble_eq_true rfl) ?_
  refine g_iaddN (pc := 45) C dX1_size11_45 ?_
  exact g_iret (pc := 46) C F dX1_size11_46 rfl rfl (rfl) (by first | rfl | (simp only [q_up_u, q_up_c _ hne]; first | done | rfl))
set_option maxHeartbeats 2000000 in
set_option maxRecDepth 20000 in
theorem s1_size11G {n : Nat} {h : q_H} {r nb left gu wa ea : Nat} {f : Nat → Nat} (hr : h r = KO nb left gu 3 wa ea) (hb : h nb = KA f) (hl : left + 5 ≤ 16) : SP 4 yX1_size11 cX1_size11 2 (some .int) [.ref r] n h (some (.int (qI ((ea : Int) + (gu + wa - 1000))))) (q_up (q_up h nb (KA (mTr f left [11, 10, 22, 21, 20]))) r (KO nb (left + 5) gu 3 wa ea)) := by
  have hne : r ≠ nb := fun q => by rw [q, hb] at hr; cases hr
  refine q_SPi RX1 rfl (by decide +kernel) (la := _) rfl rfl (fun Γ ad C F => ?_)
  refine g_aload_n (pc := 0) C (hl := rfl) dX1_size11_0 ?_
  refine g_bipush (pc := 1) C qk_bipush_11 dX1_size11_1 ?_
  refine g_V1u (pc := 3) C lv1_63 dX1_size11_3 (s1_leave _ hr hb (by omega)) hr (by decide) (Nat.le_of_ble_eq_true rfl) ?_
  refine g_aload_n (pc := 6) C (hl := rfl) dX1_size11_6 ?_
  refine g_V0v (pc := 7) C lv1_67 dX1_size11_7 (s1_size10 (q_up_s _ _ _) ((q_up_n _ _ (Ne.symm hne)).trans (q_up_s _ _ _)) (by omega)) (q_up_s _ _ _) (by decide) (Nat.le_of_ble_eq_true rfl) ?_
  refine g_istore_n (pc := 10) C rfl dX1_size11_10 ?_
  refine g_aload_n (pc := 11) C (hl := rfl) dX1_size11_11 ?_
  refine g_get (pc := 12) C fl1_28 dX1_size11_12 (q_up_s _ _ _) rfl ?_
  refine g_lsw (pc := 15) C (off := 32) 47 dX1_size11_15 (by decide) (by decide +kernel) (by decide) ?_
  refine g_iload_n (pc := 47) C (hl := rfl) dX1_size11_47 ?_
  refine g_aload_n (pc := 48) C (hl := rfl) dX1_size11_48 ?_
  refine g_V0v (pc := 49) C lv1_54 dX1_size11_49 (s1_mark22 (q_up_s _ _ _) ((q_up_n _ _ (Ne.symm hne)).trans (q_up_s _ _ _)) (by omega)) (q_up_s _ _ _) (by decide) (Nat.le_of_ble_eq_true rfl) ?_
  refine g_iadd (pc := 52) C dX1_size11_52 ?_
  exact g_iret (pc := 53) C F dX1_size11_53 rfl rfl (by simp only [qI_N, qI_add, qI_sub, qI_mul, qI_neg]; first | done | (congr 3; first | done | omega)) (by first | rfl | (simp only [q_up_u, q_up_c _ hne]; first | done | rfl))
set_option maxHeartbeats 2000000 in
set_option maxRecDepth 20000 in
theorem s1_size11E {n : Nat} {h : q_H} {r nb left gu wa ea : Nat} {f : Nat → Nat} (hr : h r = KO nb left gu 1 wa ea) (hb : h nb = KA f) (hl : left + 4 ≤ 16) : SP 4 yX1_size11 cX1_size11 2 (some .int) [.ref r] n h (some (.int (nI (ea + (gu + wa))))) (q_up (q_up h nb (KA (mTr f left [11, 10, 21, 20]))) r (KO nb (left + 4) gu 1 wa ea)) := by
  have hne : r ≠ nb := fun q => by rw [q, hb] at hr; cases hr
  refine q_SPi RX1 rfl (by decide +kernel) (la := _) rfl rfl (fun Γ ad C F => ?_)
  refine g_aload_n (pc := 0) C (hl := rfl) dX1_size11_0 ?_
  refine g_bipush (pc := 1) C qk_bipush_11 dX1_size11_1 ?_
  refine g_V1u (pc := 3) C lv1_63 dX1_size11_3 (s1_leave _ hr hb (by omega)) hr (by decide) (Nat.le_of_ble_eq_true rfl) ?_
  refine g_aload_n (pc := 6) C (hl := rfl) dX1_size11_6 ?_
  refine g_V0v (pc := 7) C lv1_67 dX1_size11_7 (s1_size10 (q_up_s _ _ _) ((q_up_n _ _ (Ne.symm hne)).trans (q_up_s _ _ _)) (by omega)) (q_up_s _ _ _) (by decide) (Nat.le_of_ble_eq_true rfl) ?_
  refine g_istore_n (pc := 10) C rfl dX1_size11_10 ?_
  refine g_aload_n (pc := 11) C (hl := rfl) dX1_size11_11 ?_
  refine g_get (pc := 12) C fl1_28 dX1_size11_12 (q_up_s _ _ _) rfl ?_
  refine g_lsw (pc := 15) C (off := 39) 54 dX1_size11_15 (by decide) (by decide +kernel) (by decide) ?_
  refine g_iload_n (pc := 54) C (hl := rfl) dX1_size11_54 ?_
  refine g_aload_n (pc := 55) C (hl := rfl) dX1_size11_55 ?_
  refine g_V0v (pc := 56) C lv1_60 dX1_size11_56 (s1_mark21 (q_up_s _ _ _) ((q_up_n _ _ (Ne.symm hne)).trans (q_up_s _ _ _)) (by omega)) (q_up_s _ _ _) (by decide) (Nat.le_of_ble_eq_true rfl) ?_
  refine g_iaddN (pc := 59) C dX1_size11_59 ?_
  exact g_iret (pc := 60) C F dX1_size11_60 rfl rfl (rfl) (by first | rfl | (simp only [q_up_u, q_up_c _ hne]; first | done | rfl))
set_option maxHeartbeats 2000000 in
set_option maxRecDepth 20000 in
theorem s1_size12 {n : Nat} {h : q_H} {r nb left gu wa ea : Nat} {f : Nat → Nat} (hr : h r = KO nb left gu 2 wa ea) (hb : h nb = KA f) (hl : left + 6 ≤ 16) : SP 5 yX1_size12 cX1_size12 1 (some .int) [.ref r] n h (some (.int (qI (-((ea : Int) + 2 * (gu + wa)))))) (q_up (q_up h nb (KA (mTr f left [12, 11, 10, 24, 21, 20]))) r (KO nb (left + 6) gu 2 wa ea)) := by
  have hne : r ≠ nb := fun q => by rw [q, hb] at hr; cases hr
  refine q_SPi RX1 rfl (by decide +kernel) (la := _) rfl rfl (fun Γ ad C F => ?_)
  refine g_aload_n (pc := 0) C (hl := rfl) dX1_size12_0 ?_
  refine g_bipush (pc := 1) C qk_bipush_12 dX1_size12_1 ?_
  refine g_V1u (pc := 3) C lv1_63 dX1_size12_3 (s1_leave _ hr hb (by omega)) hr (by decide) (Nat.le_of_ble_eq_true rfl) ?_
  refine g_aload_n (pc := 6) C (hl := rfl) dX1_size12_6 ?_
  refine g_V0v (pc := 7) C lv1_48 dX1_size12_7 (s1_size11F (q_up_s _ _ _) ((q_up_n _ _ (Ne.symm hne)).trans (q_up_s _ _ _)) (by omega)) (q_up_s _ _ _) (by decide) (Nat.le_of_ble_eq_true rfl) ?_
  refine g_ineg (pc := 10) C dX1_size12_10 ?_
  exact g_iret (pc := 11) C F dX1_size12_11 rfl rfl (by simp only [qI_N, qI_add, qI_sub, qI_mul, qI_neg]; first | done | (congr 3; first | done | omega)) (by first | rfl | (simp only [q_up_u, q_up_c _ hne]; first | done | rfl))
set_option maxHeartbeats 2000000 in
set_option maxRecDepth 20000 in
theorem s1_mark23D {n : Nat} {h : q_H} {r nb left gu wa ea : Nat} {f : Nat → Nat} (hr : h r = KO nb left gu 4 wa ea) (hb : h nb = KA f) (hl : left + 4 ≤ 16) : SP 4 yX1_mark23 cX1_mark23 2 (some .int) [.ref r] n h (some (.int (qI ((gu : Int) - (ea - 100))))) (q_up (q_up h nb (KA (mTr f left [23, 20, 13, 10]))) r (KO nb (left + 4) gu 4 wa ea)) := by
  have hne : r ≠ nb := fun q => by rw [q, hb] at hr; cases hr
  refine q_SPi RX1 rfl (by decide +kernel) (la := _) rfl rfl (fun Γ ad C F => ?_)
  refine g_aload_n (pc := 0) C (hl := rfl) dX1_mark23_0 ?_
  refine g_bipush (pc := 1) C qk_bipush_23 dX1_mark23_1 ?_
  refine g_V1u (pc := 3) C lv1_63 dX1_mark23_3 (s1_leave _ hr hb (by omega)) hr (by decide) (Nat.le_of_ble_eq_true rfl) ?_
  refine g_aload_n (pc := 6) C (hl := rfl) dX1_mark23_6 ?_
  refine g_V0v (pc := 7) C lv1_70 dX1_mark23_7 (s1_mark20 (q_up_s _ _ _) ((q_up_n _ _ (Ne.symm hne)).trans (q_up_s _ _ _)) (by omega)) (q_up_s _ _ _) (by decide) (Nat.le_of_ble_eq_true rfl) ?_
  refine g_istore_n (pc := 10) C rfl dX1_mark23_10 ?_
  refine g_iload_n (pc := 11) C (hl := rfl) dX1_mark23_11 ?_
  refine g_aload_n (pc := 12) C (hl := rfl) dX1_mark23_12 ?_
  refine g_get (pc := 13) C fl1_28 dX1_mark23_13 (q_up_s _ _ _) rfl ?_
  refine g_iconst (pc := 16) C qk_iconst_5 dX1_mark23_16 ?_
  refine g_ic_neN (pc := 17) C 27 dX1_mark23_17 (by decide) (by decide) (fun _ => ?_) (fun q => absurd q (by decide))
  refine g_aload_n (pc := 27) C (hl := rfl) dX1_mark23_27 ?_
  refine g_V0v (pc := 28) C lv1_42 dX1_mark23_28 (s1_size13 (q_up_s _ _ _) ((q_up_n _ _ (Ne.symm hne)).trans (q_up_s _ _ _)) (by omega)) (q_up_s _ _ _) (by decide) (Nat.le_of_ble_eq_true rfl) ?_
  refine g_isub (pc := 31) C dX1_mark23_31 ?_
  exact g_iret (pc := 32) C F dX1_mark23_32 rfl rfl (by simp only [qI_N, qI_add, qI_sub, qI_mul, qI_neg]; first | done | (congr 3; first | done | omega)) (by first | rfl | (simp only [q_up_u, q_up_c _ hne]; first | done | rfl))
set_option maxHeartbeats 2000000 in
set_option maxRecDepth 20000 in
theorem s1_mark23K {n : Nat} {h : q_H} {r nb left gu wa ea : Nat} {f : Nat → Nat} (hr : h r = KO nb left gu 5 wa ea) (hb : h nb = KA f) (hl : left + 5 ≤ 16) : SP 4 yX1_mark23 cX1_mark23 2 (some .int) [.ref r] n h (some (.int (qI ((gu : Int) - 2 * (ea - 100))))) (q_up (q_up h nb (KA (mTr f left [23, 20, 14, 13, 10]))) r (KO nb (left + 5) gu 5 wa ea)) := by
  have hne : r ≠ nb := fun q => by rw [q, hb] at hr; cases hr
  refine q_SPi RX1 rfl (by decide +kernel) (la := _) rfl rfl (fun Γ ad C F => ?_)
  refine g_aload_n (pc := 0) C (hl := rfl) dX1_mark23_0 ?_
  refine g_bipush (pc := 1) C qk_bipush_23 dX1_mark23_1 ?_
  refine g_V1u (pc := 3) C lv1_63 dX1_mark23_3 (s1_leave _ hr hb (by omega)) hr (by decide) (Nat.le_of_ble_eq_true rfl) ?_
  refine g_aload_n (pc := 6) C (hl := rfl) dX1_mark23_6 ?_
  refine g_V0v (pc := 7) C lv1_70 dX1_mark23_7 (s1_mark20 (q_up_s _ _ _) ((q_up_n _ _ (Ne.symm hne)).trans (q_up_s _ _ _)) (by omega)) (q_up_s _ _ _) (by decide) (Nat.le_of_ble_eq_true rfl) ?_
  refine g_istore_n (pc := 10) C rfl dX1_mark23_10 ?_
  refine g_iload_n (pc := 11) C (hl := rfl) dX1_mark23_11 ?_
  refine g_aload_n (pc := 12) C (hl := rfl) dX1_mark23_12 ?_
  refine g_get (pc := 13) C fl1_28 dX1_mark23_13 (q_up_s _ _ _) rfl ?_
  refine g_iconst (pc := 16) C qk_iconst_5 dX1_mark23_16 ?_
  refine g_ic_neN (pc := 17) C 27 dX1_mark23_17 (by decide) (by decide) (fun q => absurd q (by decide)) (fun _ => ?_)
  refine g_aload_n (pc := 20) C (hl := rfl) dX1_mark23_20 ?_
  refine g_V0v (pc := 21) C lv1_45 dX1_mark23_21 (s1_size14 (q_up_s _ _ _) ((q_up_n _ _ (Ne.symm hne)).trans (q_up_s _ _ _)) (by omega)) (q_up_s _ _ _) (by decide) (Nat.le_of_ble_eq_true rfl) ?_
  refine g_goto (pc := 24) C 31 dX1_mark23_24 (by decide) ?_
  refine g_isub (pc := 31) C dX1_mark23_31 ?_
  exact g_iret (pc := 32) C F dX1_mark23_32 rfl rfl (by simp only [qI_N, qI_add, qI_sub, qI_mul, qI_neg]; first | done | (congr 3; first | done | omega)) (by first | rfl | (simp only [q_up_u, q_up_c _ hne]; first | done | rfl))
set_option maxHeartbeats 2000000 in
set_option maxRecDepth 20000 in
theorem s1_size_1 {n : Nat} {h : q_H} {r nb left gu wa ea : Nat} {f : Nat → Nat} (hr : h r = KO nb left gu 1 wa ea) (hb : h nb = KA f) (hl : left + 4 ≤ 16) : SP 6 yX1_size cX1_size 1 (some .int) [.ref r] n h (some (.int (nI (ea + (gu + wa))))) (q_up (q_up h nb (KA (mTr f left [11, 10, 21, 20]))) r (KO nb (left + 4) gu 1 wa ea)) := by
  have hne : r ≠ nb := fun q => by rw [q, hb] at hr; cases hr
  refine q_SPi RX1 rfl (by decide +kernel) (la := _) rfl rfl (fun Γ ad C F => ?_)
  refine g_aload_n (pc := 0) C (hl := rfl) dX1_size_0 ?_
  refine g_get (pc := 1) C fl1_28 dX1_size_1 hr rfl ?_
  refine g_tsO (pc := 4) C 51 dX1_size_4 (by decide +kernel) (by decide) ?_
  refine g_aload_n (pc := 51) C (hl := rfl) dX1_size_51 ?_
  refine g_V0v (pc := 52) C lv1_48 dX1_size_52 (s1_size11E hr hb (by omega)) hr (by decide) (Nat.le_of_ble_eq_true rfl) ?_
  exact g_iret (pc := 55) C F dX1_size_55 rfl rfl (rfl) (rfl)
set_option maxHeartbeats 2000000 in
set_option maxRecDepth 20000 in
theorem s1_size_2 {n : Nat} {h : q_H} {r nb left gu wa ea : Nat} {f : Nat → Nat} (hr : h r = KO nb left gu 2 wa ea) (hb : h nb = KA f) (hl : left + 6 ≤ 16) : SP 6 yX1_size cX1_size 1 (some .int) [.ref r] n h (some (.int (qI (-((ea : Int) + 2 * (gu + wa)))))) (q_up (q_up h nb (KA (mTr f left [12, 11, 10, 24, 21, 20]))) r (KO nb (left + 6) gu 2 wa ea)) := by
  have hne : r ≠ nb := fun q => by rw [q, hb] at hr; cases hr
  refine q_SPi RX1 rfl (by decide +kernel) (la := _) rfl rfl (fun Γ ad C F => ?_)
  refine g_aload_n (pc := 0) C (hl := rfl) dX1_size_0 ?_
  refine g_get (pc := 1) C fl1_28 dX1_size_1 hr rfl ?_
  refine g_tsI (pc := 4) C (off := 32) 36 dX1_size_4 (by decide +kernel) (by decide +kernel) (by decide +kernel) (by decide) ?_
  refine g_aload_n (pc := 36) C (hl := rfl) dX1_size_36 ?_
  refine g_V0v (pc := 37) C lv1_38 dX1_size_37 (s1_size12 hr hb (by omega)) hr (by decide) (Nat.le_of_ble_eq_true rfl) ?_
  exact g_iret (pc := 40) C F dX1_size_40 rfl rfl (rfl) (rfl)
set_option maxHeartbeats 2000000 in
set_option maxRecDepth 20000 in
theorem s1_size_3 {n : Nat} {h : q_H} {r nb left gu wa ea : Nat} {f : Nat → Nat} (hr : h r = KO nb left gu 3 wa ea) (hb : h nb = KA f) (hl : left + 5 ≤ 16) : SP 6 yX1_size cX1_size 1 (some .int) [.ref r] n h (some (.int (qI ((ea : Int) + (gu + wa - 1000))))) (q_up (q_up h nb (KA (mTr f left [11, 10, 22, 21, 20]))) r (KO nb (left + 5) gu 3 wa ea)) := by
  have hne : r ≠ nb := fun q => by rw [q, hb] at hr; cases hr
  refine q_SPi RX1 rfl (by decide +kernel) (la := _) rfl rfl (fun Γ ad C F => ?_)
  refine g_aload_n (pc := 0) C (hl := rfl) dX1_size_0 ?_
  refine g_get (pc := 1) C fl1_28 dX1_size_1 hr rfl ?_
  refine g_tsI (pc := 4) C (off := 47) 51 dX1_size_4 (by decide +kernel) (by decide +kernel) (by decide +kernel) (by decide) ?_
  refine g_aload_n (pc := 51) C (hl := rfl) dX1_size_51 ?_
  refine g_V0v (pc := 52) C lv1_48 dX1_size_52 (s1_size11G hr hb (by omega)) hr (by decide) (Nat.le_of_ble_eq_true rfl) ?_
  exact g_iret (pc := 55) C F dX1_size_55 rfl rfl (rfl) (rfl)
set_option maxHeartbeats 2000000 in
set_option maxRecDepth 20000 in
theorem s1_size_4 {n : Nat} {h : q_H} {r nb left gu wa ea : Nat} {f : Nat → Nat} (hr : h r = KO nb left gu 4 wa ea) (hb : h nb = KA f) (hl : left + 2 ≤ 16) : SP 6 yX1_size cX1_size 1 (some .int) [.ref r] n h (some (.int (qI ((ea : Int) - 100)))) (q_up (q_up h nb (KA (mTr f left [13, 10]))) r (KO nb (left + 2) gu 4 wa ea)) := by
  have hne : r ≠ nb := fun q => by rw [q, hb] at hr; cases hr
  refine q_SPi RX1 rfl (by decide +kernel) (la := _) rfl rfl (fun Γ ad C F => ?_)
  refine g_aload_n (pc := 0) C (hl := rfl) dX1_size_0 ?_
  refine g_get (pc := 1) C fl1_28 dX1_size_1 hr rfl ?_
  refine g_tsI (pc := 4) C (off := 37) 41 dX1_size_4 (by decide +kernel) (by decide +kernel) (by decide +kernel) (by decide) ?_
  refine g_aload_n (pc := 41) C (hl := rfl) dX1_size_41 ?_
  refine g_V0v (pc := 42) C lv1_42 dX1_size_42 (s1_size13 hr hb (by omega)) hr (by decide) (Nat.le_of_ble_eq_true rfl) ?_
  exact g_iret (pc := 45) C F dX1_size_45 rfl rfl (rfl) (rfl)
set_option maxHeartbeats 2000000 in
set_option maxRecDepth 20000 in
theorem s1_size_5 {n : Nat} {h : q_H} {r nb left gu wa ea : Nat} {f : Nat → Nat} (hr : h r = KO nb left gu 5 wa ea) (hb : h nb = KA f) (hl : left + 3 ≤ 16) : SP 6 yX1_size cX1_size 1 (some .int) [.ref r] n h (some (.int (qI (2 * ((ea : Int) - 100))))) (q_up (q_up h nb (KA (mTr f left [14, 13, 10]))) r (KO nb (left + 3) gu 5 wa ea)) := by
  have hne : r ≠ nb := fun q => by rw [q, hb] at hr; cases hr
  refine q_SPi RX1 rfl (by decide +kernel) (la := _) rfl rfl (fun Γ ad C F => ?_)
  refine g_aload_n (pc := 0) C (hl := rfl) dX1_size_0 ?_
  refine g_get (pc := 1) C fl1_28 dX1_size_1 hr rfl ?_
  refine g_tsI (pc := 4) C (off := 42) 46 dX1_size_4 (by decide +kernel) (by decide +kernel) (by decide +kernel) (by decide) ?_
  refine g_aload_n (pc := 46) C (hl := rfl) dX1_size_46 ?_
  refine g_V0v (pc := 47) C lv1_45 dX1_size_47 (s1_size14 hr hb (by omega)) hr (by decide) (Nat.le_of_ble_eq_true rfl) ?_
  exact g_iret (pc := 50) C F dX1_size_50 rfl rfl (rfl) (rfl)
set_option maxHeartbeats 2000000 in
set_option maxRecDepth 20000 in
theorem s1_mark_1 {n : Nat} {h : q_H} {r nb left gu wa ea : Nat} {f : Nat → Nat} (hr : h r = KO nb left gu 1 wa ea) (hb : h nb = KA f) (hl : left + 2 ≤ 16) : SP 6 yX1_mark cX1_mark 1 (some .int) [.ref r] n h (some (.int (nI (gu + wa)))) (q_up (q_up h nb (KA (mTr f left [21, 20]))) r (KO nb (left + 2) gu 1 wa ea)) := by
  have hne : r ≠ nb := fun q => by rw [q, hb] at hr; cases hr
  refine q_SPi RX1 rfl (by decide +kernel) (la := _) rfl rfl (fun Γ ad C F => ?_)
  refine g_aload_n (pc := 0) C (hl := rfl) dX1_mark_0 ?_
  refine g_get (pc := 1) C fl1_28 dX1_mark_1 hr rfl ?_
  refine g_tsO (pc := 4) C 56 dX1_mark_4 (by decide +kernel) (by decide) ?_
  refine g_aload_n (pc := 56) C (hl := rfl) dX1_mark_56 ?_
  refine g_V0v (pc := 57) C lv1_60 dX1_mark_57 (s1_mark21 hr hb (by omega)) hr (by decide) (Nat.le_of_ble_eq_true rfl) ?_
  exact g_iret (pc := 60) C F dX1_mark_60 rfl rfl (rfl) (rfl)
set_option maxHeartbeats 2000000 in
set_option maxRecDepth 20000 in
theorem s1_mark_2 {n : Nat} {h : q_H} {r nb left gu wa ea : Nat} {f : Nat → Nat} (hr : h r = KO nb left gu 2 wa ea) (hb : h nb = KA f) (hl : left + 3 ≤ 16) : SP 6 yX1_mark cX1_mark 1 (some .int) [.ref r] n h (some (.int (nI (2 * (gu + wa))))) (q_up (q_up h nb (KA (mTr f left [24, 21, 20]))) r (KO nb (left + 3) gu 2 wa ea)) := by
  have hne : r ≠ nb := fun q => by rw [q, hb] at hr; cases hr
  refine q_SPi RX1 rfl (by decide +kernel) (la := _) rfl rfl (fun Γ ad C F => ?_)
  refine g_aload_n (pc := 0) C (hl := rfl) dX1_mark_0 ?_
  refine g_get (pc := 1) C fl1_28 dX1_mark_1 hr rfl ?_
  refine g_tsI (pc := 4) C (off := 32) 36 dX1_mark_4 (by decide +kernel) (by decide +kernel) (by decide +kernel) (by decide) ?_
  refine g_aload_n (pc := 36) C (hl := rfl) dX1_mark_36 ?_
  refine g_V0v (pc := 37) C lv1_51 dX1_mark_37 (s1_mark24 hr hb (by omega)) hr (by decide) (Nat.le_of_ble_eq_true rfl) ?_
  exact g_iret (pc := 40) C F dX1_mark_40 rfl rfl (rfl) (rfl)
set_option maxHeartbeats 2000000 in
set_option maxRecDepth 20000 in
theorem s1_mark_3 {n : Nat} {h : q_H} {r nb left gu wa ea : Nat} {f : Nat → Nat} (hr : h r = KO nb left gu 3 wa ea) (hb : h nb = KA f) (hl : left + 3 ≤ 16) : SP 6 yX1_mark cX1_mark 1 (some .int) [.ref r] n h (some (.int (qI ((gu : Int) + wa - 1000)))) (q_up (q_up h nb (KA (mTr f left [22, 21, 20]))) r (KO nb (left + 3) gu 3 wa ea)) := by
  have hne : r ≠ nb := fun q => by rw [q, hb] at hr; cases hr
  refine q_SPi RX1 rfl (by decide +kernel) (la := _) rfl rfl (fun Γ ad C F => ?_)
  refine g_aload_n (pc := 0) C (hl := rfl) dX1_mark_0 ?_
  refine g_get (pc := 1) C fl1_28 dX1_mark_1 hr rfl ?_
  refine g_tsI (pc := 4) C (off := 37) 41 dX1_mark_4 (by decide +kernel) (by decide +kernel) (by decide +kernel) (by decide) ?_
  refine g_aload_n (pc := 41) C (hl := rfl) dX1_mark_41 ?_
  refine g_V0v (pc := 42) C lv1_54 dX1_mark_42 (s1_mark22 hr hb (by omega)) hr (by decide) (Nat.le_of_ble_eq_true rfl) ?_
  exact g_iret (pc := 45) C F dX1_mark_45 rfl rfl (rfl) (rfl)
set_option maxHeartbeats 2000000 in
set_option maxRecDepth 20000 in
theorem s1_mark_4 {n : Nat} {h : q_H} {r nb left gu wa ea : Nat} {f : Nat → Nat} (hr : h r = KO nb left gu 4 wa ea) (hb : h nb = KA f) (hl : left + 4 ≤ 16) : SP 6 yX1_mark cX1_mark 1 (some .int) [.ref r] n h (some (.int (qI ((gu : Int) - (ea - 100))))) (q_up (q_up h nb (KA (mTr f left [23, 20, 13, 10]))) r (KO nb (left + 4) gu 4 wa ea)) := by
  have hne : r ≠ nb := fun q => by rw [q, hb] at hr; cases hr
  refine q_SPi RX1 rfl (by decide +kernel) (la := _) rfl rfl (fun Γ ad C F => ?_)
  refine g_aload_n (pc := 0) C (hl := rfl) dX1_mark_0 ?_
  refine g_get (pc := 1) C fl1_28 dX1_mark_1 hr rfl ?_
  refine g_tsI (pc := 4) C (off := 42) 46 dX1_mark_4 (by decide +kernel) (by decide +kernel) (by decide +kernel) (by decide) ?_
  refine g_aload_n (pc := 46) C (hl := rfl) dX1_mark_46 ?_
  refine g_V0v (pc := 47) C lv1_57 dX1_mark_47 (s1_mark23D hr hb (by omega)) hr (by decide) (Nat.le_of_ble_eq_true rfl) ?_
  exact g_iret (pc := 50) C F dX1_mark_50 rfl rfl (rfl) (rfl)
set_option maxHeartbeats 2000000 in
set_option maxRecDepth 20000 in
theorem s1_mark_5 {n : Nat} {h : q_H} {r nb left gu wa ea : Nat} {f : Nat → Nat} (hr : h r = KO nb left gu 5 wa ea) (hb : h nb = KA f) (hl : left + 5 ≤ 16) : SP 6 yX1_mark cX1_mark 1 (some .int) [.ref r] n h (some (.int (qI ((gu : Int) - 2 * (ea - 100))))) (q_up (q_up h nb (KA (mTr f left [23, 20, 14, 13, 10]))) r (KO nb (left + 5) gu 5 wa ea)) := by
  have hne : r ≠ nb := fun q => by rw [q, hb] at hr; cases hr
  refine q_SPi RX1 rfl (by decide +kernel) (la := _) rfl rfl (fun Γ ad C F => ?_)
  refine g_aload_n (pc := 0) C (hl := rfl) dX1_mark_0 ?_
  refine g_get (pc := 1) C fl1_28 dX1_mark_1 hr rfl ?_
  refine g_tsI (pc := 4) C (off := 47) 51 dX1_mark_4 (by decide +kernel) (by decide +kernel) (by decide +kernel) (by decide) ?_
  refine g_aload_n (pc := 51) C (hl := rfl) dX1_mark_51 ?_
  refine g_V0v (pc := 52) C lv1_57 dX1_mark_52 (s1_mark23K hr hb (by omega)) hr (by decide) (Nat.le_of_ble_eq_true rfl) ?_
  exact g_iret (pc := 55) C F dX1_mark_55 rfl rfl (rfl) (rfl)
set_option maxHeartbeats 2000000 in
set_option maxRecDepth 20000 in
theorem s1_begin {n : Nat} {h : q_H} {r nb left gu so wa ea t c g tu mi o p e b : Nat} {f : Nat → Nat} (j : Nat) (hr : h r = KO nb left gu so wa ea) (ht : h t = TO c g tu mi o p e b) (hc : h c = TA f) (hj : j < 6) : SP 1 yX1_begin cX1_begin 3 none [.ref r, .ref t, .int (nI j)] n h none (q_up h r (KO nb 0 j (f (0 + j)) (f (6 + j)) (f (18 + j)))) := by
  have n1 : t ≠ r := fun q => by rw [q, hr] at ht; cases ht
  have n2 : c ≠ r := fun q => by rw [q, hr] at hc; cases hc
  refine q_SPi RX1 rfl (by decide +kernel) (la := _) rfl rfl (fun Γ ad C F => ?_)
  refine g_aload_n (pc := 0) C (hl := rfl) dX1_begin_0 ?_
  refine g_iconst (pc := 1) C qk_iconst_0 dX1_begin_1 ?_
  refine g_put (pc := 2) C fp1_15 dX1_begin_2 hr (Nat.le_of_ble_eq_true rfl) ?_
  refine g_aload_n (pc := 5) C (hl := rfl) dX1_begin_5 ?_
  refine g_iload_n (pc := 6) C (hl := rfl) dX1_begin_6 ?_
  refine g_put (pc := 7) C fp1_19 dX1_begin_7 (q_up_s _ _ _) (Nat.le_of_ble_eq_true rfl) ?_
  refine g_aload_n (pc := 10) C (hl := rfl) dX1_begin_10 ?_
  refine g_aload_n (pc := 11) C (hl := rfl) dX1_begin_11 ?_
  refine g_iconst (pc := 12) C qk_iconst_0 dX1_begin_12 ?_
  refine g_iload_n (pc := 13) C (hl := rfl) dX1_begin_13 ?_
  refine g_V2v (pc := 14) C lv1_24 dX1_begin_14 (s4_of0 _ ((q_up_n _ _ n1).trans ((q_up_n _ _ n1).trans ht)) ((q_up_n _ _ n2).trans ((q_up_n _ _ n2).trans hc)) (by omega)) ((q_up_n _ _ n1).trans ((q_up_n _ _ n1).trans ht)) (by decide) (Nat.le_of_ble_eq_true rfl) ?_
  refine g_put (pc := 17) C fp1_28 dX1_begin_17 (q_up_s _ _ _) (Nat.le_of_ble_eq_true rfl) ?_
  refine g_aload_n (pc := 20) C (hl := rfl) dX1_begin_20 ?_
  refine g_aload_n (pc := 21) C (hl := rfl) dX1_begin_21 ?_
  refine g_iconst (pc := 22) C qk_iconst_1 dX1_begin_22 ?_
  refine g_iload_n (pc := 23) C (hl := rfl) dX1_begin_23 ?_
  refine g_V2v (pc := 24) C lv1_24 dX1_begin_24 (s4_of1 _ ((q_up_n _ _ n1).trans ((q_up_n _ _ n1).trans ((q_up_n _ _ n1).trans ht))) ((q_up_n _ _ n2).trans ((q_up_n _ _ n2).trans ((q_up_n _ _ n2).trans hc))) (by omega)) ((q_up_n _ _ n1).trans ((q_up_n _ _ n1).trans ((q_up_n _ _ n1).trans ht))) (by decide) (Nat.le_of_ble_eq_true rfl) ?_
  refine g_put (pc := 27) C fp1_31 dX1_begin_27 (q_up_s _ _ _) (Nat.le_of_ble_eq_true rfl) ?_
  refine g_aload_n (pc := 30) C (hl := rfl) dX1_begin_30 ?_
  refine g_aload_n (pc := 31) C (hl := rfl) dX1_begin_31 ?_
  refine g_iconst (pc := 32) C qk_iconst_3 dX1_begin_32 ?_
  refine g_iload_n (pc := 33) C (hl := rfl) dX1_begin_33 ?_
  refine g_V2v (pc := 34) C lv1_24 dX1_begin_34 (s4_of3 _ ((q_up_n _ _ n1).trans ((q_up_n _ _ n1).trans ((q_up_n _ _ n1).trans ((q_up_n _ _ n1).trans ht)))) ((q_up_n _ _ n2).trans ((q_up_n _ _ n2).trans ((q_up_n _ _ n2).trans ((q_up_n _ _ n2).trans hc)))) (by omega)) ((q_up_n _ _ n1).trans ((q_up_n _ _ n1).trans ((q_up_n _ _ n1).trans ((q_up_n _ _ n1).trans ht)))) (by decide) (Nat.le_of_ble_eq_true rfl) ?_
  refine g_put (pc := 37) C fp1_34 dX1_begin_37 (q_up_s _ _ _) (Nat.le_of_ble_eq_true rfl) ?_
  exact g_vret (pc := 40) C F dX1_begin_40 rfl rfl (by first | rfl | (simp only [q_up_u]; first | done | rfl))
set_option maxHeartbeats 2000000 in
set_option maxRecDepth 20000 in
theorem s1_traced {n : Nat} {h : q_H} {r nb left gu so wa ea : Nat} {f : Nat → Nat} (k : Nat) (hr : h r = KO nb left gu so wa ea) (hb : h nb = KA f) (hl : left ≤ 16) (hk : k < 2147483648) : SP 0 yX1_traced cX1_traced 2 (some .int) [.ref r, .int (nI k)] n h (some (.int (if k < left then nI (f k) else -1000000))) h := by
  refine q_SPi RX1 rfl (by decide +kernel) (la := _) rfl rfl (fun Γ ad C F => ?_)
  refine g_iload_n (pc := 0) C (hl := rfl) dX1_traced_0 ?_
  refine g_if_ltN (pc := 1) C 30 dX1_traced_1 (by decide) (by omega) ?_
  refine g_iload_n (pc := 4) C (hl := rfl) dX1_traced_4 ?_
  refine g_aload_n (pc := 5) C (hl := rfl) dX1_traced_5 ?_
  refine g_get (pc := 6) C fl1_15 dX1_traced_6 hr rfl ?_
  refine g_ic_geN (pc := 9) C 30 dX1_traced_9 (by decide) (by omega) (fun c9 => ?_) (fun c9 => ?_)
  · refine g_ldc (pc := 30) C (v := -1000000) zk1_37 dX1_traced_30 ?_
    exact g_iret (pc := 32) C F dX1_traced_32 rfl rfl (by first | rw [if_pos (by omega)] | (rw [if_neg (by omega)]; try rfl)) (rfl)
  · refine g_iload_n (pc := 12) C (hl := rfl) dX1_traced_12 ?_
    refine g_aload_n (pc := 13) C (hl := rfl) dX1_traced_13 ?_
    refine g_get (pc := 14) C fl1_9 dX1_traced_14 hr rfl ?_
    refine g_alenN (pc := 17) C dX1_traced_17 hb ?_
    refine g_ic_geN (pc := 18) C 30 dX1_traced_18 (by decide) (by omega) (fun q => absurd q (by omega)) (fun _ => ?_)
    refine g_aload_n (pc := 21) C (hl := rfl) dX1_traced_21 ?_
    refine g_get (pc := 22) C fl1_9 dX1_traced_22 hr rfl ?_
    refine g_iload_n (pc := 25) C (hl := rfl) dX1_traced_25 ?_
    refine g_ialdN (pc := 26) C dX1_traced_26 hb (by omega) ?_
    refine g_goto (pc := 27) C 32 dX1_traced_27 (by decide) ?_
    exact g_iret (pc := 32) C F dX1_traced_32 rfl rfl (by first | rw [if_pos (by omega)] | (rw [if_neg (by omega)]; try rfl)) (rfl)
set_option maxHeartbeats 2000000 in
set_option maxRecDepth 20000 in
theorem s1_tracedM {n : Nat} {h : q_H} {r : Nat} (k : Int32) (hk : k < 0) : SP 0 yX1_traced cX1_traced 2 (some .int) [.ref r, .int k] n h (some (.int (-1000000))) h := by
  refine q_SPi RX1 rfl (by decide +kernel) (la := _) rfl rfl (fun Γ ad C F => ?_)
  refine g_iload_n (pc := 0) C (hl := rfl) dX1_traced_0 ?_
  refine g_if_lt (pc := 1) C 30 dX1_traced_1 (by decide) (fun _ => ?_) (fun q => absurd (hk) q)
  refine g_ldc (pc := 30) C (v := -1000000) zk1_37 dX1_traced_30 ?_
  exact g_iret (pc := 32) C F dX1_traced_32 rfl rfl (rfl) (rfl)
