abbrev RO (i : Nat) (lane : Int32) (len : Nat) : q_E := .inr (.inr (3, [.ref i, .int lane, .int (nI len)]))
abbrev RA (f : Nat → Int32) : q_E := .inl (0, 40, f)
theorem q_cm1 : ((Int32.ofInt (-1)) : Int32) = -1 := by decide
set_option maxHeartbeats 2000000 in
set_option maxRecDepth 20000 in
theorem s3_isMissing_t {n : Nat} {h : q_H} {r i len : Nat} {lane : Int32} (hr : h r = RO i lane len) (hl : lane = -1) : SP 0 yX3_isMissing cX3_isMissing 1 (some .boolean) [.ref r] n h (some (.int (nI 1))) h := by
  refine q_SPi RX3 rfl (by decide +kernel) (la := _) rfl rfl (fun Γ ad C F => ?_)
  refine g_aload_n (pc := 0) C (hl := rfl) dX3_isMissing_0 ?_
  refine g_get (pc := 1) C fl3_15 dX3_isMissing_1 hr rfl ?_
  refine g_iconst (pc := 4) C qk_iconst_m1 dX3_isMissing_4 ?_
  refine g_ic_ne (pc := 5) C 12 dX3_isMissing_5 (by decide) (fun q => absurd q (fun z => z hl)) (fun _ => ?_)
  refine g_iconst (pc := 8) C qk_iconst_1 dX3_isMissing_8 ?_
  refine g_goto (pc := 9) C 13 dX3_isMissing_9 (by decide) ?_
  exact g_iret (pc := 13) C F dX3_isMissing_13 rfl rfl (rfl) (rfl)
set_option maxHeartbeats 2000000 in
set_option maxRecDepth 20000 in
theorem s3_isMissing_f {n : Nat} {h : q_H} {r i len : Nat} {lane : Int32} (hr : h r = RO i lane len) (hl : ¬ lane = -1) : SP 0 yX3_isMissing cX3_isMissing 1 (some .boolean) [.ref r] n h (some (.int (nI 0))) h := by
  refine q_SPi RX3 rfl (by decide +kernel) (la := _) rfl rfl (fun Γ ad C F => ?_)
  refine g_aload_n (pc := 0) C (hl := rfl) dX3_isMissing_0 ?_
  refine g_get (pc := 1) C fl3_15 dX3_isMissing_1 hr rfl ?_
  refine g_iconst (pc := 4) C qk_iconst_m1 dX3_isMissing_4 ?_
  refine g_ic_ne (pc := 5) C 12 dX3_isMissing_5 (by decide) (fun _ => ?_) (fun q => absurd q (hl))
  refine g_iconst (pc := 12) C qk_iconst_0 dX3_isMissing_12 ?_
  exact g_iret (pc := 13) C F dX3_isMissing_13 rfl rfl (rfl) (rfl)
set_option maxHeartbeats 2000000 in
set_option maxRecDepth 20000 in
theorem l3_begin {Γ : q_X} {ad : Nat → Nat} {n r i len len0 : Nat} {lane lane0 : Int32} {hF : q_H} (C : q_C Γ ad 1 0 0 RX3 yX3_begin cX3_begin 4 none) (F : q_N Γ ad n none hF) : ∀ (m i0 : Nat) (K : Nat → Int32) (H : q_H), 40 < i0 + m → i0 ≤ 40 → H r = RO i lane len → H i = RA K → (∀ j, j < i0 → K j = 0) → hF = q_up H i (RA fun _ => 0) → q_G Γ ad 4 24 [some (.ref r), some (.int lane0), some (.int (nI len0)), some (.int (nI i0))] [] n H 0 0 := by
  intro m
  induction m with
  | zero => intro i; intros; omega
  | succ m ih =>
    intro i0 K H hm hle hr hi h0 hH
    refine g_iload_n (pc := 24) C (hl := rfl) dX3_begin_24 ?_
    refine g_aload_n (pc := 25) C (hl := rfl) dX3_begin_25 ?_
    refine g_get (pc := 26) C fl3_9 dX3_begin_26 hr rfl ?_
    refine g_alenN (pc := 29) C dX3_begin_29 hi ?_
    refine g_ic_geN (pc := 30) C 46 dX3_begin_30 (by decide) (by omega) (fun c30 => ?_) (fun c30 => ?_)
    · refine g_arr (F := fun _ => 0) hi (fun j hj => h0 j (by omega)) ?_
      exact g_vret (pc := 46) C F dX3_begin_46 rfl rfl hH.symm
    · refine g_aload_n (pc := 33) C (hl := rfl) dX3_begin_33 ?_
      refine g_get (pc := 34) C fl3_9 dX3_begin_34 hr rfl ?_
      refine g_iload_n (pc := 37) C (hl := rfl) dX3_begin_37 ?_
      refine g_iconst (pc := 38) C qk_iconst_0 dX3_begin_38 ?_
      refine g_iastM (pc := 39) C dX3_begin_39 hi (by omega) ?_
      refine g_iincN (pc := 40) C (hl := rfl) (q_inc1 _) rfl dX3_begin_40 ?_
      refine g_goto (pc := 43) C 24 dX3_begin_43 (by decide) ?_
      exact ih (i0 + 1) _ _ (by omega) (by omega) (by rw [q_up_n _ _ (fun q => by rw [q, hi] at hr; cases hr)]; exact hr) (q_up_s _ _ _) (fun j hj => by unfold va_up; split; rfl; exact h0 j (by omega)) (by rw [q_up_u]; exact hH)
set_option maxHeartbeats 2000000 in
set_option maxRecDepth 20000 in
theorem s3_begin {n : Nat} {h : q_H} {r i len : Nat} {lane : Int32} {f : Nat → Int32} (la : Int32) (k : Nat) (hr : h r = RO i lane len) (hi : h i = RA f) (hk : k ≤ 40) : SP 1 yX3_begin cX3_begin 4 none [.ref r, .int la, .int (nI k)] n h none (q_up (q_up h r (RO i la k)) i (RA fun _ => 0)) := by
  have hne : r ≠ i := fun q => by rw [q, hi] at hr; cases hr
  refine q_SPi RX3 rfl (by decide +kernel) (la := _) rfl rfl (fun Γ ad C F => ?_)
  refine g_aload_n (pc := 0) C (hl := rfl) dX3_begin_0 ?_
  refine g_iload_n (pc := 1) C (hl := rfl) dX3_begin_1 ?_
  refine g_put (pc := 2) C fp3_15 dX3_begin_2 hr (Nat.le_of_ble_eq_true rfl) ?_
  refine g_aload_n (pc := 5) C (hl := rfl) dX3_begin_5 ?_
  refine g_iconst (pc := 6) C qk_iconst_0 dX3_begin_6 ?_
  refine g_iload_n (pc := 7) C (hl := rfl) dX3_begin_7 ?_
  refine g_aload_n (pc := 8) C (hl := rfl) dX3_begin_8 ?_
  refine g_get (pc := 9) C fl3_9 dX3_begin_9 (q_up_s _ _ _) rfl ?_
  refine g_alenN (pc := 12) C dX3_begin_12 ((q_up_n _ _ (Ne.symm hne)).trans hi) ?_
  refine g_minN (pc := 13) C lm3_19 dX3_begin_13 (by omega) (by decide) (Nat.le_of_ble_eq_true rfl) ⟨Nat.zero_le _, Nat.zero_le _⟩ ?_
  refine g_maxN (pc := 16) C lm3_25 dX3_begin_16 (by omega) (by decide) (Nat.le_of_ble_eq_true rfl) ⟨Nat.zero_le _, Nat.zero_le _⟩ ?_
  refine g_put (pc := 19) C fp3_28 dX3_begin_19 (q_up_s _ _ _) (Nat.le_of_ble_eq_true rfl) ?_
  refine g_iconst (pc := 22) C qk_iconst_0 dX3_begin_22 ?_
  refine g_istore_n (pc := 23) C rfl dX3_begin_23 ?_
  rw [show max 0 (min k 40) = k by omega]
  exact l3_begin C F 41 0 f _ (by omega) (by omega) (i := i) (len := k) (lane := la) (q_up_s _ _ _) ((q_up_n _ _ (Ne.symm hne)).trans ((q_up_n _ _ (Ne.symm hne)).trans hi)) (fun j hj => absurd hj (Nat.not_lt_zero _)) (by rw [q_up_u]; rfl)
set_option maxHeartbeats 2000000 in
set_option maxRecDepth 20000 in
theorem s3_end {n : Nat} {h : q_H} {r i len : Nat} {lane : Int32} (hr : h r = RO i lane len) : SP 0 yX3_end cX3_end 1 none [.ref r] n h none (q_up h r (RO i (-1) 0)) := by
  refine q_SPi RX3 rfl (by decide +kernel) (la := _) rfl rfl (fun Γ ad C F => ?_)
  refine g_aload_n (pc := 0) C (hl := rfl) dX3_end_0 ?_
  refine g_iconst (pc := 1) C qk_iconst_m1 dX3_end_1 ?_
  refine g_put (pc := 2) C fp3_15 dX3_end_2 hr (Nat.le_of_ble_eq_true rfl) ?_
  refine g_aload_n (pc := 5) C (hl := rfl) dX3_end_5 ?_
  refine g_iconst (pc := 6) C qk_iconst_0 dX3_end_6 ?_
  refine g_put (pc := 7) C fp3_28 dX3_end_7 (q_up_s _ _ _) (Nat.le_of_ble_eq_true rfl) ?_
  exact g_vret (pc := 10) C F dX3_end_10 rfl rfl (by simp only [q_up_u]; rfl)
set_option maxHeartbeats 2000000 in
set_option maxRecDepth 20000 in
theorem s3_hasPlaces {n : Nat} {h : q_H} {r i len : Nat} {lane : Int32} (a b : Int32) (hr : h r = RO i lane len) : SP 0 yX3_hasPlaces cX3_hasPlaces 3 (some .boolean) [.ref r, .int a, .int b] n h (some (.int (if b < 0 ∨ a < 0 ∨ nI len < b ∨ nI len - b < a then nI 0 else nI 1))) h := by
  refine q_SPi RX3 rfl (by decide +kernel) (la := _) rfl rfl (fun Γ ad C F => ?_)
  refine g_iload_n (pc := 0) C (hl := rfl) dX3_hasPlaces_0 ?_
  refine g_if_lt (pc := 1) C 30 dX3_hasPlaces_1 (by decide) (fun c1 => ?_) (fun c1 => ?_)
  · refine g_iconst (pc := 30) C qk_iconst_0 dX3_hasPlaces_30 ?_
    exact g_iret (pc := 31) C F dX3_hasPlaces_31 rfl rfl (by first | (simp [*]; done) | grind) (rfl)
  · refine g_iload_n (pc := 4) C (hl := rfl) dX3_hasPlaces_4 ?_
    refine g_if_lt (pc := 5) C 30 dX3_hasPlaces_5 (by decide) (fun c5 => ?_) (fun c5 => ?_)
    · refine g_iconst (pc := 30) C qk_iconst_0 dX3_hasPlaces_30 ?_
      exact g_iret (pc := 31) C F dX3_hasPlaces_31 rfl rfl (by first | (simp [*]; done) | grind) (rfl)
    · refine g_iload_n (pc := 8) C (hl := rfl) dX3_hasPlaces_8 ?_
      refine g_aload_n (pc := 9) C (hl := rfl) dX3_hasPlaces_9 ?_
      refine g_get (pc := 10) C fl3_28 dX3_hasPlaces_10 hr rfl ?_
      refine g_ic_gt (pc := 13) C 30 dX3_hasPlaces_13 (by decide) (fun c13 => ?_) (fun c13 => ?_)
      · refine g_iconst (pc := 30) C qk_iconst_0 dX3_hasPlaces_30 ?_
        exact g_iret (pc := 31) C F dX3_hasPlaces_31 rfl rfl (by first | (simp [*]; done) | grind) (rfl)
      · refine g_iload_n (pc := 16) C (hl := rfl) dX3_hasPlaces_16 ?_
        refine g_aload_n (pc := 17) C (hl := rfl) dX3_hasPlaces_17 ?_
        refine g_get (pc := 18) C fl3_28 dX3_hasPlaces_18 hr rfl ?_
        refine g_iload_n (pc := 21) C (hl := rfl) dX3_hasPlaces_21 ?_
        refine g_isub (pc := 22) C dX3_hasPlaces_22 ?_
        refine g_ic_gt (pc := 23) C 30 dX3_hasPlaces_23 (by decide) (fun c23 => ?_) (fun c23 => ?_)
        · refine g_iconst (pc := 30) C qk_iconst_0 dX3_hasPlaces_30 ?_
          exact g_iret (pc := 31) C F dX3_hasPlaces_31 rfl rfl (by first | (simp [*]; done) | grind) (rfl)
        · refine g_iconst (pc := 26) C qk_iconst_1 dX3_hasPlaces_26 ?_
          refine g_goto (pc := 27) C 31 dX3_hasPlaces_27 (by decide) ?_
          exact g_iret (pc := 31) C F dX3_hasPlaces_31 rfl rfl (by first | (simp [*]; done) | grind) (rfl)
theorem s3_hasN {n : Nat} {h : q_H} {r i len : Nat} {lane : Int32} (a b : Nat) (hr : h r = RO i lane len) (hl : len ≤ 40) (hb : a + b ≤ len) : SP 0 yX3_hasPlaces cX3_hasPlaces 3 (some .boolean) [.ref r, .int (nI a), .int (nI b)] n h (some (.int (nI 1))) h := by
  have := s3_hasPlaces (n := n) (nI a) (nI b) hr
  rw [if_neg (by
    rw [pk_sub (by omega)]
    rintro (q | q | q | q)
    · exact nI_pos (by omega) q
    · exact nI_pos (by omega) q
    · have := (nI_ltI (by omega) (by omega)).mp q; omega
    · have := (nI_ltI (by omega) (by omega)).mp q; omega)] at this
  exact this
/-- no such place -/
def mNo (a b : Int32) (len : Nat) : Prop := ∀ x z : Nat, a = nI x → b = nI z → x + z ≤ len → 2147483648 ≤ x + z
theorem s3_hasNo {n : Nat} {h : q_H} {r i len : Nat} {lane : Int32} (a b : Int32) (hr : h r = RO i lane len) (hl : len ≤ 40) (hb : ∀ x z : Nat, a = nI x → b = nI z → x < 2147483648 → z < 2147483648 → ¬ x + z ≤ len) : SP 0 yX3_hasPlaces cX3_hasPlaces 3 (some .boolean) [.ref r, .int a, .int b] n h (some (.int (nI 0))) h := by
  have := s3_hasPlaces (n := n) a b hr
  rw [if_pos (by
    by_cases q1 : b < 0
    · exact Or.inl q1
    by_cases q2 : a < 0
    · exact Or.inr (Or.inl q2)
    obtain ⟨z, hz, rfl⟩ := nI_of q1
    obtain ⟨x, hx, rfl⟩ := nI_of q2
    have := hb x z rfl rfl hx hz
    by_cases q3 : nI len < nI z
    · exact Or.inr (Or.inr (Or.inl q3))
    have q3 : ¬ len < z := fun q => q3 (nI_lt q hz)
    rw [pk_sub (by omega)]
    exact Or.inr (Or.inr (Or.inr (nI_lt (by omega) hx))))] at this
  exact this
set_option maxHeartbeats 2000000 in
set_option maxRecDepth 20000 in
theorem s3_item {n : Nat} {h : q_H} {r i len : Nat} {lane : Int32} {f : Nat → Int32} (k : Nat) (hr : h r = RO i lane len) (hi : h i = RA f) (hk : k < 40) : SP 0 yX3_item cX3_item 2 (some .int) [.ref r, .int (nI k)] n h (some (.int (f k))) h := by
  have hne : r ≠ i := fun q => by rw [q, hi] at hr; cases hr
  refine q_SPi RX3 rfl (by decide +kernel) (la := _) rfl rfl (fun Γ ad C F => ?_)
  refine g_iload_n (pc := 0) C (hl := rfl) dX3_item_0 ?_
  refine g_if_ltN (pc := 1) C 22 dX3_item_1 (by decide) (by omega) ?_
  refine g_iload_n (pc := 4) C (hl := rfl) dX3_item_4 ?_
  refine g_aload_n (pc := 5) C (hl := rfl) dX3_item_5 ?_
  refine g_get (pc := 6) C fl3_9 dX3_item_6 hr rfl ?_
  refine g_alenN (pc := 9) C dX3_item_9 hi ?_
  refine g_ic_geN (pc := 10) C 22 dX3_item_10 (by decide) (by omega) (fun q => absurd q (by omega)) (fun _ => ?_)
  refine g_aload_n (pc := 13) C (hl := rfl) dX3_item_13 ?_
  refine g_get (pc := 14) C fl3_9 dX3_item_14 hr rfl ?_
  refine g_iload_n (pc := 17) C (hl := rfl) dX3_item_17 ?_
  refine g_ialdM (pc := 18) C dX3_item_18 hi (by omega) ?_
  refine g_goto (pc := 19) C 23 dX3_item_19 (by decide) ?_
  exact g_iret (pc := 23) C F dX3_item_23 rfl rfl (rfl) (rfl)
set_option maxHeartbeats 2000000 in
set_option maxRecDepth 20000 in
theorem s3_store0 {n : Nat} {h : q_H} {r i len : Nat} {f : Nat → Int32} (k : Nat) (v : Int32) (hr : h r = RO i (nI 0) len) (hi : h i = RA f) (hk : k < 40) : SP 0 yX3_store cX3_store 3 none [.ref r, .int (nI k), .int v] n h none (q_up h i (RA (va_up f k (v.toInt8.toInt32)))) := by
  have hne : r ≠ i := fun q => by rw [q, hi] at hr; cases hr
  refine q_SPi RX3 rfl (by decide +kernel) (la := _) rfl rfl (fun Γ ad C F => ?_)
  refine g_iload_n (pc := 0) C (hl := rfl) dX3_store_0 ?_
  refine g_if_ltN (pc := 1) C 13 dX3_store_1 (by decide) (by omega) ?_
  refine g_iload_n (pc := 4) C (hl := rfl) dX3_store_4 ?_
  refine g_aload_n (pc := 5) C (hl := rfl) dX3_store_5 ?_
  refine g_get (pc := 6) C fl3_9 dX3_store_6 hr rfl ?_
  refine g_alenN (pc := 9) C dX3_store_9 hi ?_
  refine g_ic_ltN (pc := 10) C 14 dX3_store_10 (by decide) (by omega) (fun _ => ?_) (fun q => absurd (by omega) q)
  refine g_aload_n (pc := 14) C (hl := rfl) dX3_store_14 ?_
  refine g_get (pc := 15) C fl3_15 dX3_store_15 hr rfl ?_
  refine g_lsw (pc := 18) C (off := 26) 44 dX3_store_18 (by decide) (by decide +kernel) (by decide) ?_
  refine g_aload_n (pc := 44) C (hl := rfl) dX3_store_44 ?_
  refine g_get (pc := 45) C fl3_9 dX3_store_45 hr rfl ?_
  refine g_iload_n (pc := 48) C (hl := rfl) dX3_store_48 ?_
  refine g_iload_n (pc := 49) C (hl := rfl) dX3_store_49 ?_
  refine g_i2b (pc := 50) C rfl dX3_store_50 ?_
  refine g_iastM (pc := 51) C dX3_store_51 hi (by omega) ?_
  refine g_goto (pc := 52) C 73 dX3_store_52 (by decide) ?_
  exact g_vret (pc := 73) C F dX3_store_73 rfl rfl (rfl)
set_option maxHeartbeats 2000000 in
set_option maxRecDepth 20000 in
theorem s3_store1 {n : Nat} {h : q_H} {r i len : Nat} {f : Nat → Int32} (k : Nat) (v : Int32) (hr : h r = RO i (nI 1) len) (hi : h i = RA f) (hk : k < 40) : SP 0 yX3_store cX3_store 3 none [.ref r, .int (nI k), .int v] n h none (q_up h i (RA (va_up f k (v.toInt16.toInt32)))) := by
  have hne : r ≠ i := fun q => by rw [q, hi] at hr; cases hr
  refine q_SPi RX3 rfl (by decide +kernel) (la := _) rfl rfl (fun Γ ad C F => ?_)
  refine g_iload_n (pc := 0) C (hl := rfl) dX3_store_0 ?_
  refine g_if_ltN (pc := 1) C 13 dX3_store_1 (by decide) (by omega) ?_
  refine g_iload_n (pc := 4) C (hl := rfl) dX3_store_4 ?_
  refine g_aload_n (pc := 5) C (hl := rfl) dX3_store_5 ?_
  refine g_get (pc := 6) C fl3_9 dX3_store_6 hr rfl ?_
  refine g_alenN (pc := 9) C dX3_store_9 hi ?_
  refine g_ic_ltN (pc := 10) C 14 dX3_store_10 (by decide) (by omega) (fun _ => ?_) (fun q => absurd (by omega) q)
  refine g_aload_n (pc := 14) C (hl := rfl) dX3_store_14 ?_
  refine g_get (pc := 15) C fl3_15 dX3_store_15 hr rfl ?_
  refine g_lsw (pc := 18) C (off := 37) 55 dX3_store_18 (by decide) (by decide +kernel) (by decide) ?_
  refine g_aload_n (pc := 55) C (hl := rfl) dX3_store_55 ?_
  refine g_get (pc := 56) C fl3_9 dX3_store_56 hr rfl ?_
  refine g_iload_n (pc := 59) C (hl := rfl) dX3_store_59 ?_
  refine g_iload_n (pc := 60) C (hl := rfl) dX3_store_60 ?_
  refine g_i2s (pc := 61) C rfl dX3_store_61 ?_
  refine g_iastM (pc := 62) C dX3_store_62 hi (by omega) ?_
  refine g_goto (pc := 63) C 73 dX3_store_63 (by decide) ?_
  exact g_vret (pc := 73) C F dX3_store_73 rfl rfl (rfl)
set_option maxHeartbeats 2000000 in
set_option maxRecDepth 20000 in
theorem s3_store2 {n : Nat} {h : q_H} {r i len : Nat} {f : Nat → Int32} (k : Nat) (v : Int32) (hr : h r = RO i (nI 2) len) (hi : h i = RA f) (hk : k < 40) : SP 0 yX3_store cX3_store 3 none [.ref r, .int (nI k), .int v] n h none (q_up h i (RA (va_up f k (v)))) := by
  have hne : r ≠ i := fun q => by rw [q, hi] at hr; cases hr
  refine q_SPi RX3 rfl (by decide +kernel) (la := _) rfl rfl (fun Γ ad C F => ?_)
  refine g_iload_n (pc := 0) C (hl := rfl) dX3_store_0 ?_
  refine g_if_ltN (pc := 1) C 13 dX3_store_1 (by decide) (by omega) ?_
  refine g_iload_n (pc := 4) C (hl := rfl) dX3_store_4 ?_
  refine g_aload_n (pc := 5) C (hl := rfl) dX3_store_5 ?_
  refine g_get (pc := 6) C fl3_9 dX3_store_6 hr rfl ?_
  refine g_alenN (pc := 9) C dX3_store_9 hi ?_
  refine g_ic_ltN (pc := 10) C 14 dX3_store_10 (by decide) (by omega) (fun _ => ?_) (fun q => absurd (by omega) q)
  refine g_aload_n (pc := 14) C (hl := rfl) dX3_store_14 ?_
  refine g_get (pc := 15) C fl3_15 dX3_store_15 hr rfl ?_
  refine g_lsw (pc := 18) C (off := 48) 66 dX3_store_18 (by decide) (by decide +kernel) (by decide) ?_
  refine g_aload_n (pc := 66) C (hl := rfl) dX3_store_66 ?_
  refine g_get (pc := 67) C fl3_9 dX3_store_67 hr rfl ?_
  refine g_iload_n (pc := 70) C (hl := rfl) dX3_store_70 ?_
  refine g_iload_n (pc := 71) C (hl := rfl) dX3_store_71 ?_
  refine g_iastM (pc := 72) C dX3_store_72 hi (by omega) ?_
  exact g_vret (pc := 73) C F dX3_store_73 rfl rfl (rfl)
set_option maxHeartbeats 2000000 in
set_option maxRecDepth 20000 in
theorem s3_take {n : Nat} {h : q_H} {r i len : Nat} {lane : Int32} {f : Nat → Int32} {s j len2 : Nat} {lane2 : Int32} {f2 : Nat → Int32} (x0 y0 z : Nat) (hr : h r = RO i lane len) (hi : h i = RA f) (hs : h s = RO j lane2 len2) (hj : h j = RA f2) (hl : len ≤ 40 ∧ len2 ≤ 40 ∧ x0 + z ≤ len2 ∧ y0 + z ≤ len) : SP 1 yX3_take cX3_take 5 none [.ref r, .ref s, .int (nI x0), .int (nI y0), .int (nI z)] n h none (q_up h i (RA fun x => if y0 ≤ x ∧ x < y0 + z then f2 (x0 + (x - y0)) else f x)) := by
  refine q_SPi RX3 rfl (by decide +kernel) (la := _) rfl rfl (fun Γ ad C F => ?_)
  refine g_aload_n (pc := 0) C (hl := rfl) dX3_take_0 ?_
  refine g_ifnull (pc := 1) C dX3_take_1 ?_
  refine g_aload_n (pc := 4) C (hl := rfl) dX3_take_4 ?_
  refine g_iload_n (pc := 5) C (hl := rfl) dX3_take_5 ?_
  refine g_iload (pc := 6) C (hl := rfl) dX3_take_6 ?_
  refine g_V2v (pc := 8) C lv3_31 dX3_take_8 (s3_hasN _ _ hs (by omega) (by omega)) hs (by decide) (Nat.le_of_ble_eq_true rfl) ?_
  refine g_if_eqN (pc := 11) C 39 dX3_take_11 (by decide) (by decide) (fun q => absurd q (by decide)) (fun _ => ?_)
  refine g_aload_n (pc := 14) C (hl := rfl) dX3_take_14 ?_
  refine g_iload_n (pc := 15) C (hl := rfl) dX3_take_15 ?_
  refine g_iload (pc := 16) C (hl := rfl) dX3_take_16 ?_
  refine g_V2v (pc := 18) C lv3_31 dX3_take_18 (s3_hasN _ _ hr (by omega) (by omega)) hr (by decide) (Nat.le_of_ble_eq_true rfl) ?_
  refine g_if_eqN (pc := 21) C 39 dX3_take_21 (by decide) (by decide) (fun q => absurd q (by decide)) (fun _ => ?_)
  refine g_aload_n (pc := 24) C (hl := rfl) dX3_take_24 ?_
  refine g_get (pc := 25) C fl3_9 dX3_take_25 hs rfl ?_
  refine g_iload_n (pc := 28) C (hl := rfl) dX3_take_28 ?_
  refine g_aload_n (pc := 29) C (hl := rfl) dX3_take_29 ?_
  refine g_get (pc := 30) C fl3_9 dX3_take_30 hr rfl ?_
  refine g_iload_n (pc := 33) C (hl := rfl) dX3_take_33 ?_
  refine g_iload (pc := 34) C (hl := rfl) dX3_take_34 ?_
  refine g_acopyN (pc := 36) C ly3_35 dX3_take_36 hj hi (F := fun x => if y0 ≤ x ∧ x < y0 + z then f2 (x0 + (x - y0)) else f x) (by omega) (fun _ _ => rfl) (by decide) (Nat.le_of_ble_eq_true rfl) ?_
  exact g_vret (pc := 39) C F dX3_take_39 rfl rfl (rfl)
abbrev AO (b nx k : Nat) : q_E := .inr (.inr (0, [.ref b, .int (nI nx), .int (nI k)]))
def mAct (j : Nat) : Option Nat := some (32 + 2 * j)
set_option maxHeartbeats 2000000 in
set_option maxRecDepth 20000 in
theorem s0_at {n : Nat} {h : q_H} {a b nx k : Nat} {fr : Nat → Option Nat} (j v : Nat) (ha : h a = AO b nx k) (hb : h b = .inr (.inl (1, 24, fr))) (hj : j < 24) (hv : fr j = some v) : SP 0 yX0_at cX0_at 2 (some (.object "TurningDishes$Table")) [.ref a, .int (nI j)] n h (some (.ref v)) h := by
  refine q_SPi RX0 rfl (by decide +kernel) (la := _) rfl rfl (fun Γ ad C F => ?_)
  refine g_iload_n (pc := 0) C (hl := rfl) dX0_at_0 ?_
  refine g_if_ltN (pc := 1) C 22 dX0_at_1 (by decide) (by omega) ?_
  refine g_iload_n (pc := 4) C (hl := rfl) dX0_at_4 ?_
  refine g_aload_n (pc := 5) C (hl := rfl) dX0_at_5 ?_
  refine g_get (pc := 6) C fl0_11 dX0_at_6 ha rfl ?_
  refine g_alenrN (pc := 9) C dX0_at_9 hb ?_
  refine g_ic_geN (pc := 10) C 22 dX0_at_10 (by decide) (by omega) (fun q => absurd q (by omega)) (fun _ => ?_)
  refine g_aload_n (pc := 13) C (hl := rfl) dX0_at_13 ?_
  refine g_get (pc := 14) C fl0_11 dX0_at_14 ha rfl ?_
  refine g_iload_n (pc := 17) C (hl := rfl) dX0_at_17 ?_
  refine g_aaldN (pc := 18) C dX0_at_18 hb (by omega) hv ?_
  refine g_goto (pc := 19) C 23 dX0_at_19 (by decide) ?_
  exact g_aret (pc := 23) C F dX0_at_23 rfl (Or.inr ⟨_, rfl⟩) (rfl) (rfl)
set_option maxHeartbeats 2000000 in
set_option maxRecDepth 20000 in
theorem s0_forget {n : Nat} {h : q_H} {a b nx k : Nat} (ha : h a = AO b nx k) : SP 0 yX0_forget cX0_forget 1 none [.ref a] n h none (q_up h a (AO b nx 0)) := by
  refine q_SPi RX0 rfl (by decide +kernel) (la := _) rfl rfl (fun Γ ad C F => ?_)
  refine g_aload_n (pc := 0) C (hl := rfl) dX0_forget_0 ?_
  refine g_iconst (pc := 1) C qk_iconst_0 dX0_forget_1 ?_
  refine g_put (pc := 2) C fp0_34 dX0_forget_2 ha (Nat.le_of_ble_eq_true rfl) ?_
  exact g_vret (pc := 5) C F dX0_forget_5 rfl rfl (rfl)
set_option maxHeartbeats 2000000 in
set_option maxRecDepth 20000 in
theorem s0_keep {n : Nat} {h : q_H} {a b nx k : Nat} {fr : Nat → Option Nat} {t c g tu mi o p e bb : Nat} {f : Nat → Nat} {v vc g2 tu2 mi2 o2 p2 e2 b2 : Nat} {f2 : Nat → Nat} (ha : h a = AO b nx k) (hb : h b = .inr (.inl (1, 24, fr))) (hnx : nx < 24 ∧ k ≤ 24) (hfv : fr nx = some v) (ht : h t = TO c g tu mi o p e bb) (hc : h c = TA f) (hv : h v = TO vc g2 tu2 mi2 o2 p2 e2 b2) (hvc : h vc = TA f2) (n3 : t ≠ v) : SP 2 yX0_keep cX0_keep 3 none [.ref a, .ref t] n h none (q_up (q_up (q_up h vc (TA f)) v (TO vc g tu mi o2 p2 e2 b2)) a (AO b ((nx + 1) % 24) (min (k + 1) 24))) := by
  have n1 : a ≠ vc := fun q => by rw [q, hvc] at ha; cases ha
  have n2 : a ≠ v := fun q => by rw [q, hv] at ha; cases ha
  refine q_SPi RX0 rfl (by decide +kernel) (la := _) rfl rfl (fun Γ ad C F => ?_)
  refine g_aload_n (pc := 0) C (hl := rfl) dX0_keep_0 ?_
  refine g_aload_n (pc := 1) C (hl := rfl) dX0_keep_1 ?_
  refine g_get (pc := 2) C fl0_18 dX0_keep_2 ha rfl ?_
  refine g_V1v (pc := 5) C lv0_22 dX0_keep_5 (s0_at _ v ha hb (by omega) hfv) ha (by decide) (Nat.le_of_ble_eq_true rfl) ?_
  refine g_astore_n (pc := 8) C rfl dX0_keep_8 ?_
  refine g_aload_n (pc := 9) C (hl := rfl) dX0_keep_9 ?_
  refine g_ifnull (pc := 10) C dX0_keep_10 ?_
  refine g_aload_n (pc := 13) C (hl := rfl) dX0_keep_13 ?_
  refine g_aload_n (pc := 14) C (hl := rfl) dX0_keep_14 ?_
  refine g_V1u (pc := 15) C lv0_26 dX0_keep_15 (s4_become hv hvc ht hc n3) hv (by decide) (Nat.le_of_ble_eq_true rfl) ?_
  refine g_aload_n (pc := 18) C (hl := rfl) dX0_keep_18 ?_
  refine g_aload_n (pc := 19) C (hl := rfl) dX0_keep_19 ?_
  refine g_get (pc := 20) C fl0_18 dX0_keep_20 ((q_up_n _ _ n2).trans ((q_up_n _ _ n1).trans ha)) rfl ?_
  refine g_iconst (pc := 23) C qk_iconst_1 dX0_keep_23 ?_
  refine g_iaddN (pc := 24) C dX0_keep_24 ?_
  refine g_bipush (pc := 25) C qk_bipush_24 dX0_keep_25 ?_
  refine g_S2v (pc := 27) C ls0_30 dX0_keep_27 (s7_leftOverN _ _ (by omega) (by omega)) (by decide) (Nat.le_of_ble_eq_true rfl) ?_
  refine g_put (pc := 30) C fp0_18 dX0_keep_30 ((q_up_n _ _ n2).trans ((q_up_n _ _ n1).trans ha)) (Nat.le_of_ble_eq_true rfl) ?_
  refine g_aload_n (pc := 33) C (hl := rfl) dX0_keep_33 ?_
  refine g_aload_n (pc := 34) C (hl := rfl) dX0_keep_34 ?_
  refine g_get (pc := 35) C fl0_34 dX0_keep_35 (q_up_s _ _ _) rfl ?_
  refine g_iconst (pc := 38) C qk_iconst_1 dX0_keep_38 ?_
  refine g_iaddN (pc := 39) C dX0_keep_39 ?_
  refine g_bipush (pc := 40) C qk_bipush_24 dX0_keep_40 ?_
  refine g_minN (pc := 42) C lm0_37 dX0_keep_42 (by omega) (by decide) (Nat.le_of_ble_eq_true rfl) ⟨Nat.zero_le _, Nat.zero_le _⟩ ?_
  refine g_put (pc := 45) C fp0_34 dX0_keep_45 (q_up_s _ _ _) (Nat.le_of_ble_eq_true rfl) ?_
  exact g_vret (pc := 48) C F dX0_keep_48 rfl rfl (by simp only [q_up_u]; rfl)
set_option maxHeartbeats 2000000 in
set_option maxRecDepth 20000 in
theorem s0_giveBack {n : Nat} {h : q_H} {a b nx k : Nat} {fr : Nat → Option Nat} {t c g tu mi o p e bb : Nat} {f : Nat → Nat} {v vc g2 tu2 mi2 o2 p2 e2 b2 : Nat} {f2 : Nat → Nat} (ha : h a = AO b nx k) (hb : h b = .inr (.inl (1, 24, fr))) (hnx : nx < 24 ∧ k ≤ 24 ∧ 0 < k) (hfv : fr (((nx : Int) - 1) % ((24 : Nat) : Int)).toNat = some v) (ht : h t = TO c g tu mi o p e bb) (hc : h c = TA f) (hv : h v = TO vc g2 tu2 mi2 o2 p2 e2 b2) (hvc : h vc = TA f2) (n3 : t ≠ v) : SP 2 yX0_giveBack cX0_giveBack 2 none [.ref a, .ref t] n h none (q_up (q_up (q_up h c (TA f2)) t (TO c g2 tu2 mi2 o p e bb)) a (AO b (((nx : Int) - 1) % ((24 : Nat) : Int)).toNat (k - 1))) := by
  have n6 : a ≠ b := fun q => by rw [q, hb] at ha; cases ha
  have n4 : a ≠ t := fun q => by rw [q, ht] at ha; cases ha
  have n5 : a ≠ c := fun q => by rw [q, hc] at ha; cases ha
  have n7 : v ≠ a := fun q => by rw [q, ha] at hv; cases hv
  have n8 : vc ≠ a := fun q => by rw [q, ha] at hvc; cases hvc
  refine q_SPi RX0 rfl (by decide +kernel) (la := _) rfl rfl (fun Γ ad C F => ?_)
  refine g_aload_n (pc := 0) C (hl := rfl) dX0_giveBack_0 ?_
  refine g_aload_n (pc := 1) C (hl := rfl) dX0_giveBack_1 ?_
  refine g_get (pc := 2) C fl0_18 dX0_giveBack_2 ha rfl ?_
  refine g_iconst (pc := 5) C qk_iconst_1 dX0_giveBack_5 ?_
  refine g_isubE (pc := 6) C (w := qI ((nx : Int) - 1)) (by rw [qI_N, qI_N, qI_sub]; rfl) dX0_giveBack_6 ?_
  refine g_bipush (pc := 7) C qk_bipush_24 dX0_giveBack_7 ?_
  refine g_S2v (pc := 9) C ls0_30 dX0_giveBack_9 (s7_leftOverZ _ _ (by omega) (by omega)) (by decide) (Nat.le_of_ble_eq_true rfl) ?_
  refine g_put (pc := 12) C fp0_18 dX0_giveBack_12 ha (Nat.le_of_ble_eq_true rfl) ?_
  refine g_aload_n (pc := 15) C (hl := rfl) dX0_giveBack_15 ?_
  refine g_aload_n (pc := 16) C (hl := rfl) dX0_giveBack_16 ?_
  refine g_aload_n (pc := 17) C (hl := rfl) dX0_giveBack_17 ?_
  refine g_get (pc := 18) C fl0_18 dX0_giveBack_18 (q_up_s _ _ _) rfl ?_
  refine g_V1v (pc := 21) C lv0_22 dX0_giveBack_21 (s0_at (((nx : Int) - 1) % ((24 : Nat) : Int)).toNat v (q_up_s _ _ _) (((q_up_n _ _ (Ne.symm n6)).trans hb)) (by omega) hfv) (q_up_s _ _ _) (by decide) (Nat.le_of_ble_eq_true rfl) ?_
  refine g_V1u (pc := 24) C lv0_26 dX0_giveBack_24 (s4_become ((q_up_n _ _ (Ne.symm n4)).trans ht) ((q_up_n _ _ (Ne.symm n5)).trans hc) ((q_up_n _ _ n7).trans hv) ((q_up_n _ _ n8).trans hvc) (Ne.symm n3)) ((q_up_n _ _ (Ne.symm n4)).trans ht) (by decide) (Nat.le_of_ble_eq_true rfl) ?_
  refine g_aload_n (pc := 27) C (hl := rfl) dX0_giveBack_27 ?_
  refine g_dup (pc := 28) C rfl dX0_giveBack_28 ?_
  refine g_get (pc := 29) C fl0_34 dX0_giveBack_29 ((q_up_n _ _ n4).trans ((q_up_n _ _ n5).trans (q_up_s _ _ _))) rfl ?_
  refine g_iconst (pc := 32) C qk_iconst_1 dX0_giveBack_32 ?_
  refine g_isubN (pc := 33) C dX0_giveBack_33 (by omega) ?_
  refine g_put (pc := 34) C fp0_34 dX0_giveBack_34 ((q_up_n _ _ n4).trans ((q_up_n _ _ n5).trans (q_up_s _ _ _))) (Nat.le_of_ble_eq_true rfl) ?_
  exact g_vret (pc := 37) C F dX0_giveBack_37 rfl rfl (by simp only [q_up_u, q_up_c _ n4, q_up_c _ n5]; rfl)
