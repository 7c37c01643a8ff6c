set_option maxHeartbeats 2000000 in
set_option maxRecDepth 20000 in
theorem s8_byteAtN {n : Nat} {h : q_H} {un ta fl st sa ne so di pu at_ er en pa tr : Nat} {f : Nat → Nat} (k : Nat) (h0 : h 87 = MO un ta fl st sa ne so di pu at_ er en pa tr) (hby : h 89 = PA f) (hta : ta ≤ 300) (hk : k < ta) : SP 0 yX8_byteAt cX8_byteAt 2 (some .int) [.ref 87, .int (nI k)] n h (some (.int (nI (f k)))) h := by
  refine q_SPi RX8 rfl (by decide +kernel) (la := _) rfl rfl (fun Γ ad C F => ?_)
  refine g_iload_n (pc := 0) C (hl := rfl) dX8_byteAt_0 ?_
  refine g_aload_n (pc := 1) C (hl := rfl) dX8_byteAt_1 ?_
  refine g_get (pc := 2) C fl8_66 dX8_byteAt_2 h0 rfl ?_
  refine g_ic_geN (pc := 5) C 17 dX8_byteAt_5 (by decide) (by omega) (fun q => absurd q (by omega)) (fun _ => ?_)
  refine g_aload_n (pc := 8) C (hl := rfl) dX8_byteAt_8 ?_
  refine g_get (pc := 9) C fl8_13 dX8_byteAt_9 h0 rfl ?_
  refine g_iload_n (pc := 12) C (hl := rfl) dX8_byteAt_12 ?_
  refine g_ialdN (pc := 13) C dX8_byteAt_13 hby (by omega) ?_
  refine g_goto (pc := 14) C 18 dX8_byteAt_14 (by decide) ?_
  exact g_iret (pc := 18) C F dX8_byteAt_18 rfl rfl (rfl) (rfl)
set_option maxHeartbeats 2000000 in
set_option maxRecDepth 20000 in
theorem s8_byteAtO {n : Nat} {h : q_H} {un ta fl st sa ne so di pu at_ er en pa tr : Nat} {f : Nat → Nat} (k : Nat) (h0 : h 87 = MO un ta fl st sa ne so di pu at_ er en pa tr) (hby : h 89 = PA f) (hta : ta ≤ 300) (hk : ta ≤ k) (hk2 : k < 1000000) : SP 0 yX8_byteAt cX8_byteAt 2 (some .int) [.ref 87, .int (nI k)] n h (some (.int (-1))) h := by
  refine q_SPi RX8 rfl (by decide +kernel) (la := _) rfl rfl (fun Γ ad C F => ?_)
  refine g_iload_n (pc := 0) C (hl := rfl) dX8_byteAt_0 ?_
  refine g_aload_n (pc := 1) C (hl := rfl) dX8_byteAt_1 ?_
  refine g_get (pc := 2) C fl8_66 dX8_byteAt_2 h0 rfl ?_
  refine g_ic_geN (pc := 5) C 17 dX8_byteAt_5 (by decide) (by omega) (fun _ => ?_) (fun q => absurd (by omega) q)
  refine g_iconst (pc := 17) C qk_iconst_m1 dX8_byteAt_17 ?_
  exact g_iret (pc := 18) C F dX8_byteAt_18 rfl rfl (rfl) (rfl)
def wSc (c : Nat) : Nat := if mLe c = true then 1 else if mFi c = true then 2 else if c = 59 then 3 else 4
def wSo (f : Nat → Nat) (len k : Nat) : Nat := if len ≤ k then 0 else wSc (f k)
theorem mLe_i {c : Nat} : mLe c = true ↔ (97 ≤ c ∧ c ≤ 122) := by unfold mLe; exact decide_eq_true_iff
theorem mFi_i {c : Nat} : mFi c = true ↔ (48 ≤ c ∧ c ≤ 57) := by unfold mFi; exact decide_eq_true_iff
theorem mBl_i {c : Nat} : mBl c = true ↔ (c = 32 ∨ c = 10) := by unfold mBl; exact decide_eq_true_iff
theorem wSc_b (c : Nat) : wSc c ≤ 4 ∧ 1 ≤ wSc c := by
  unfold wSc
  constructor <;> (repeat' split) <;> omega
theorem wSo_b (f : Nat → Nat) (len k : Nat) : wSo f len k ≤ 4 := by unfold wSo; have := wSc_b (f k); split <;> omega
theorem wSc_1 {c : Nat} : wSc c = 1 ↔ mLe c = true := by
  unfold wSc
  by_cases h : mLe c = true
  · rw [if_pos h]; exact ⟨fun _ => h, fun _ => rfl⟩
  · rw [if_neg h]
    refine ⟨fun q => ?_, fun q => absurd q h⟩
    exfalso
    revert q
    repeat' split
    all_goals omega
theorem wSc_2 {c : Nat} : wSc c = 2 ↔ mFi c = true := by
  unfold wSc
  by_cases h : mFi c = true
  · rw [if_neg (fun q => by have h1 := mLe_i.mp q; have h2 := mFi_i.mp h; omega), if_pos h]; exact ⟨fun _ => h, fun _ => rfl⟩
  · refine ⟨fun q => ?_, fun q => absurd q h⟩
    exfalso
    revert q
    rw [if_neg h]
    repeat' split
    all_goals omega
theorem q_out {c lo hi : Nat} (h : ¬ (lo ≤ c ∧ c ≤ hi)) (hc : c < 1000000) (hh : lo < 1000000 ∧ hi < 1000000) : nI c < nI lo ∨ nI hi < nI c := by
  rcases (by omega : c < lo ∨ hi < c) with q | q
  · exact Or.inl (nI_lt q (by omega))
  · exact Or.inr (nI_lt q (by omega))
set_option maxHeartbeats 2000000 in
set_option maxRecDepth 20000 in
theorem s8_sortOfN {n : Nat} {h : q_H} (c : Nat) (hc : c < 1000) : SP 1 yX8_sortOf cX8_sortOf 1 (some .int) [.int (nI c)] n h (some (.int (nI (wSc c)))) h := by
  refine q_SPi RX8 rfl (by decide +kernel) (la := _) rfl rfl (fun Γ ad C F => ?_)
  refine g_iload_n (pc := 0) C (hl := rfl) dX8_sortOf_0 ?_
  refine g_if_geN (pc := 1) C 8 dX8_sortOf_1 (by decide) (by omega) ?_
  refine g_iload_n (pc := 8) C (hl := rfl) dX8_sortOf_8 ?_
  refine g_i2l (pc := 9) C rfl dX8_sortOf_9 ?_
  refine g_ldc2 (pc := 10) C zk8_72 dX8_sortOf_10 ?_
  refine g_ldc2 (pc := 13) C zk8_74 dX8_sortOf_13 ?_
  by_cases q16 : 97 ≤ c ∧ c ≤ 122
  · refine g_S3v (pc := 16) C ls8_37 dX8_sortOf_16 (s8_inN c 97 122 (by decide) (by decide) q16 (by decide)) (by decide) (Nat.le_of_ble_eq_true rfl) ?_
    refine g_if_eqN (pc := 19) C 26 dX8_sortOf_19 (by decide) (by decide) (fun q => absurd q (by decide)) (fun _ => ?_)
    refine g_iconst (pc := 22) C qk_iconst_1 dX8_sortOf_22 ?_
    refine g_goto (pc := 23) C 55 dX8_sortOf_23 (by decide) ?_
    exact g_iret (pc := 55) C F dX8_sortOf_55 rfl rfl (by unfold wSc; rw [if_pos (mLe_i.mpr q16)]) (rfl)
  · refine g_S3v (pc := 16) C ls8_37 dX8_sortOf_16 (s8_inF (nI c) (nI 97) (nI 122) (by decide) (by decide) (q_out q16 (by omega) (by decide))) (by decide) (Nat.le_of_ble_eq_true rfl) ?_
    refine g_if_eqN (pc := 19) C 26 dX8_sortOf_19 (by decide) (by decide) (fun _ => ?_) (fun q => absurd q (by decide))
    refine g_iload_n (pc := 26) C (hl := rfl) dX8_sortOf_26 ?_
    refine g_i2l (pc := 27) C rfl dX8_sortOf_27 ?_
    refine g_ldc2 (pc := 28) C zk8_76 dX8_sortOf_28 ?_
    refine g_ldc2 (pc := 31) C zk8_78 dX8_sortOf_31 ?_
    by_cases q34 : 48 ≤ c ∧ c ≤ 57
    · refine g_S3v (pc := 34) C ls8_37 dX8_sortOf_34 (s8_inN c 48 57 (by decide) (by decide) q34 (by decide)) (by decide) (Nat.le_of_ble_eq_true rfl) ?_
      refine g_if_eqN (pc := 37) C 44 dX8_sortOf_37 (by decide) (by decide) (fun q => absurd q (by decide)) (fun _ => ?_)
      refine g_iconst (pc := 40) C qk_iconst_2 dX8_sortOf_40 ?_
      refine g_goto (pc := 41) C 55 dX8_sortOf_41 (by decide) ?_
      exact g_iret (pc := 55) C F dX8_sortOf_55 rfl rfl (by unfold wSc; rw [if_neg (fun q => q16 (mLe_i.mp q)), if_pos (mFi_i.mpr q34)]) (rfl)
    · refine g_S3v (pc := 34) C ls8_37 dX8_sortOf_34 (s8_inF (nI c) (nI 48) (nI 57) (by decide) (by decide) (q_out q34 (by omega) (by decide))) (by decide) (Nat.le_of_ble_eq_true rfl) ?_
      refine g_if_eqN (pc := 37) C 44 dX8_sortOf_37 (by decide) (by decide) (fun _ => ?_) (fun q => absurd q (by decide))
      refine g_iload_n (pc := 44) C (hl := rfl) dX8_sortOf_44 ?_
      refine g_bipush (pc := 45) C qk_bipush_59 dX8_sortOf_45 ?_
      refine g_ic_neN (pc := 47) C 54 dX8_sortOf_47 (by decide) (by omega) (fun c47 => ?_) (fun c47 => ?_)
      · refine g_iconst (pc := 54) C qk_iconst_4 dX8_sortOf_54 ?_
        exact g_iret (pc := 55) C F dX8_sortOf_55 rfl rfl (by unfold wSc; rw [if_neg (fun q => q16 (mLe_i.mp q)), if_neg (fun q => q34 (mFi_i.mp q)), if_neg (by omega)]) (rfl)
      · refine g_iconst (pc := 50) C qk_iconst_3 dX8_sortOf_50 ?_
        refine g_goto (pc := 51) C 55 dX8_sortOf_51 (by decide) ?_
        exact g_iret (pc := 55) C F dX8_sortOf_55 rfl rfl (by unfold wSc; rw [if_neg (fun q => q16 (mLe_i.mp q)), if_neg (fun q => q34 (mFi_i.mp q)), if_pos (by omega)]) (rfl)
set_option maxHeartbeats 2000000 in
set_option maxRecDepth 20000 in
theorem s8_sortOfM {n : Nat} {h : q_H} : SP 1 yX8_sortOf cX8_sortOf 1 (some .int) [.int (-1)] n h (some (.int (nI 0))) h := by
  refine q_SPi RX8 rfl (by decide +kernel) (la := _) rfl rfl (fun Γ ad C F => ?_)
  refine g_iload_n (pc := 0) C (hl := rfl) dX8_sortOf_0 ?_
  refine g_if_ge (pc := 1) C 8 dX8_sortOf_1 (by decide) (fun q => absurd q (by decide)) (fun _ => ?_)
  refine g_iconst (pc := 4) C qk_iconst_0 dX8_sortOf_4 ?_
  refine g_goto (pc := 5) C 55 dX8_sortOf_5 (by decide) ?_
  exact g_iret (pc := 55) C F dX8_sortOf_55 rfl rfl (rfl) (rfl)
theorem s8_byteAt {n : Nat} {h : q_H} {un ta fl st sa ne so di pu at_ er en pa tr : Nat} {f : Nat → Nat} (k : Nat) (h0 : h 87 = MO un ta fl st sa ne so di pu at_ er en pa tr) (hby : h 89 = PA f) (hta : ta ≤ 300) (hk : k < 1000000) : SP 0 yX8_byteAt cX8_byteAt 2 (some .int) [.ref 87, .int (nI k)] n h (some (.int (mAt f ta k))) h := by
  unfold mAt
  by_cases q : k < ta
  · rw [if_pos q]; exact s8_byteAtN k h0 hby hta q
  · rw [if_neg q]; exact s8_byteAtO k h0 hby hta (by omega) hk
theorem s8_sortOf {n : Nat} {h : q_H} {f : Nat → Nat} {ta : Nat} (k : Nat) (hf : ∀ k, k < ta → f k < 256) : SP 1 yX8_sortOf cX8_sortOf 1 (some .int) [.int (mAt f ta k)] n h (some (.int (nI (wSo f ta k)))) h := by
  unfold mAt wSo
  by_cases q : k < ta
  · rw [if_pos q, if_neg (by omega)]; exact s8_sortOfN (f k) (by have := hf k q; omega)
  · rw [if_neg q, if_pos (by omega)]; exact s8_sortOfM
set_option maxHeartbeats 2000000 in
set_option maxRecDepth 20000 in
theorem l8_t1 {Γ : q_X} {ad : Nat → Nat} {n : Nat} {h : q_H} {un ta fl st ne so di pu at_ er en pa tr E : Nat} {f : Nat → Nat} (hta : ta ≤ 300) (hf : ∀ k, k < ta → f k < 256) (C : q_C Γ ad 2 0 0 RX8 yX8_token cX8_token 1 none) (kk : ∀ H : q_H, q_up H 87 (MO un ta fl st E ne so di pu at_ er en pa tr) = q_up h 87 (MO un ta fl st E ne so di pu at_ er en pa tr) → H 87 = (MO un ta fl st E ne so di pu at_ er en pa tr) → H 89 = PA f → q_G Γ ad 1 47 [some (.ref 87)] [] n H 0 0) : ∀ (m i : Nat) (H : q_H), ta < i + m → i ≤ ta → H 87 = (MO un ta fl st i ne so di pu at_ er en pa tr) → H 89 = PA f → mEnd (fun k => mBl (f k)) ta m i = E → q_up H 87 (MO un ta fl st E ne so di pu at_ er en pa tr) = q_up h 87 (MO un ta fl st E ne so di pu at_ er en pa tr) → q_G Γ ad 1 8 [some (.ref 87)] [] n H 0 0 := by
  intro m
  induction m with
  | zero => intro i H hm hi; omega
  | succ m ih =>
    intro i H hm hi h0 hby hE hU
    by_cases hi2 : i < ta
    · refine g_aload_n (pc := 8) C (hl := rfl) dX8_token_8 ?_
      refine g_aload_n (pc := 9) C (hl := rfl) dX8_token_9 ?_
      refine g_get (pc := 10) C fl8_83 dX8_token_10 h0 rfl ?_
      refine g_V1v (pc := 13) C lv8_86 dX8_token_13 (s8_byteAtN i h0 hby hta hi2) h0 (by decide) (Nat.le_of_ble_eq_true rfl) ?_
      refine g_bipush (pc := 16) C qk_bipush_32 dX8_token_16 ?_
      refine g_ic_eqN (pc := 18) C 34 dX8_token_18 (by decide) (by have := hf i hi2; omega) (fun c18 => ?_) (fun c18 => ?_)
      · refine g_aload_n (pc := 34) C (hl := rfl) dX8_token_34 ?_
        refine g_dup (pc := 35) C rfl dX8_token_35 ?_
        refine g_get (pc := 36) C fl8_83 dX8_token_36 h0 rfl ?_
        refine g_iconst (pc := 39) C qk_iconst_1 dX8_token_39 ?_
        refine g_iaddN (pc := 40) C dX8_token_40 ?_
        refine g_put (pc := 41) C fp8_83 dX8_token_41 h0 (Nat.le_of_ble_eq_true rfl) ?_
        refine g_goto (pc := 44) C 8 dX8_token_44 (by decide) ?_
        exact ih (i + 1) _ (by omega) (by omega) ((q_up_s _ _ _)) (((q_up_n _ _ (by decide)).trans hby)) (by rw [← hE]; exact (if_pos (c := i < ta ∧ mBl (f i) = true) ⟨hi2, mBl_i.mpr (Or.inl c18)⟩).symm) (by rw [q_up_u]; exact hU)
      · refine g_aload_n (pc := 21) C (hl := rfl) dX8_token_21 ?_
        refine g_aload_n (pc := 22) C (hl := rfl) dX8_token_22 ?_
        refine g_get (pc := 23) C fl8_83 dX8_token_23 h0 rfl ?_
        refine g_V1v (pc := 26) C lv8_86 dX8_token_26 (s8_byteAtN i h0 hby hta hi2) h0 (by decide) (Nat.le_of_ble_eq_true rfl) ?_
        refine g_bipush (pc := 29) C qk_bipush_10 dX8_token_29 ?_
        refine g_ic_neN (pc := 31) C 47 dX8_token_31 (by decide) (by have := hf i hi2; omega) (fun c31 => ?_) (fun c31 => ?_)
        · obtain rfl : i = E := by rw [← hE]; exact (if_neg (c := i < ta ∧ mBl (f i) = true) (fun q => (mBl_i.mp q.2).elim c18 c31)).symm
          exact kk H hU h0 hby
        · refine g_aload_n (pc := 34) C (hl := rfl) dX8_token_34 ?_
          refine g_dup (pc := 35) C rfl dX8_token_35 ?_
          refine g_get (pc := 36) C fl8_83 dX8_token_36 h0 rfl ?_
          refine g_iconst (pc := 39) C qk_iconst_1 dX8_token_39 ?_
          refine g_iaddN (pc := 40) C dX8_token_40 ?_
          refine g_put (pc := 41) C fp8_83 dX8_token_41 h0 (Nat.le_of_ble_eq_true rfl) ?_
          refine g_goto (pc := 44) C 8 dX8_token_44 (by decide) ?_
          exact ih (i + 1) _ (by omega) (by omega) ((q_up_s _ _ _)) (((q_up_n _ _ (by decide)).trans hby)) (by rw [← hE]; exact (if_pos (c := i < ta ∧ mBl (f i) = true) ⟨hi2, mBl_i.mpr (Or.inr c31)⟩).symm) (by rw [q_up_u]; exact hU)
    · refine g_aload_n (pc := 8) C (hl := rfl) dX8_token_8 ?_
      refine g_aload_n (pc := 9) C (hl := rfl) dX8_token_9 ?_
      refine g_get (pc := 10) C fl8_83 dX8_token_10 h0 rfl ?_
      refine g_V1v (pc := 13) C lv8_86 dX8_token_13 (s8_byteAtO i h0 hby hta (by omega) (by omega)) h0 (by decide) (Nat.le_of_ble_eq_true rfl) ?_
      refine g_bipush (pc := 16) C qk_bipush_32 dX8_token_16 ?_
      refine g_ic_eq (pc := 18) C 34 dX8_token_18 (by decide) (fun q => absurd q (by decide)) (fun _ => ?_)
      refine g_aload_n (pc := 21) C (hl := rfl) dX8_token_21 ?_
      refine g_aload_n (pc := 22) C (hl := rfl) dX8_token_22 ?_
      refine g_get (pc := 23) C fl8_83 dX8_token_23 h0 rfl ?_
      refine g_V1v (pc := 26) C lv8_86 dX8_token_26 (s8_byteAtO i h0 hby hta (by omega) (by omega)) h0 (by decide) (Nat.le_of_ble_eq_true rfl) ?_
      refine g_bipush (pc := 29) C qk_bipush_10 dX8_token_29 ?_
      refine g_ic_ne (pc := 31) C 47 dX8_token_31 (by decide) (fun _ => ?_) (fun q => absurd q (by decide))
      obtain rfl : i = E := by rw [← hE]; exact (if_neg (c := i < ta ∧ mBl (f i) = true) (fun q => hi2 q.1)).symm
      exact kk H hU h0 hby
set_option maxHeartbeats 2000000 in
set_option maxRecDepth 20000 in
theorem l8_t2_1 {Γ : q_X} {ad : Nat → Nat} {n : Nat} {un ta fl st sa di pu at_ er en pa tr E : Nat} {f : Nat → Nat} {hF : q_H} (hta : ta ≤ 300) (hf : ∀ k, k < ta → f k < 256) (C : q_C Γ ad 2 0 0 RX8 yX8_token cX8_token 1 none) (F : q_N Γ ad n none hF) : ∀ (m i : Nat) (H : q_H), ta < i + m → i ≤ ta → H 87 = (MO un ta fl st sa i 1 di pu at_ er en pa tr) → H 89 = PA f → mEnd (fun k => decide (wSc (f k) = 1)) ta m i = E → hF = q_up H 87 (MO un ta fl st sa E 1 di pu at_ er en pa tr) → q_G Γ ad 1 86 [some (.ref 87)] [] n H 0 0 := by
  intro m
  induction m with
  | zero => intro i H hm hi; omega
  | succ m ih =>
    intro i H hm hi h0 hby hE hU
    by_cases hi2 : i < ta
    · refine g_aload_n (pc := 86) C (hl := rfl) dX8_token_86 ?_
      refine g_get (pc := 87) C fl8_92 dX8_token_87 h0 rfl ?_
      refine g_iconst (pc := 90) C qk_iconst_1 dX8_token_90 ?_
      refine g_ic_eqN (pc := 91) C 102 dX8_token_91 (by decide) (by decide) (fun _ => ?_) (fun q => absurd q (by decide))
      refine g_aload_n (pc := 102) C (hl := rfl) dX8_token_102 ?_
      refine g_aload_n (pc := 103) C (hl := rfl) dX8_token_103 ?_
      refine g_get (pc := 104) C fl8_80 dX8_token_104 h0 rfl ?_
      refine g_V1v (pc := 107) C lv8_86 dX8_token_107 (s8_byteAtN i h0 hby hta hi2) h0 (by decide) (Nat.le_of_ble_eq_true rfl) ?_
      refine g_S1v (pc := 110) C ls8_89 dX8_token_110 (s8_sortOfN (f i) (by have := hf i hi2; omega)) (by decide) (Nat.le_of_ble_eq_true rfl) ?_
      refine g_aload_n (pc := 113) C (hl := rfl) dX8_token_113 ?_
      refine g_get (pc := 114) C fl8_92 dX8_token_114 h0 rfl ?_
      refine g_ic_neN (pc := 117) C 133 dX8_token_117 (by decide) (by have := wSc_b (f i); omega) (fun c117 => ?_) (fun c117 => ?_)
      · obtain rfl : i = E := by rw [← hE]; exact (if_neg (c := i < ta ∧ decide (wSc (f i) = 1) = true) (fun q => c117 (of_decide_eq_true q.2))).symm
        exact g_vret (pc := 133) C F dX8_token_133 rfl rfl (by rw [hU]; exact (q_upI h0).symm)
      · refine g_aload_n (pc := 120) C (hl := rfl) dX8_token_120 ?_
        refine g_dup (pc := 121) C rfl dX8_token_121 ?_
        refine g_get (pc := 122) C fl8_80 dX8_token_122 h0 rfl ?_
        refine g_iconst (pc := 125) C qk_iconst_1 dX8_token_125 ?_
        refine g_iaddN (pc := 126) C dX8_token_126 ?_
        refine g_put (pc := 127) C fp8_80 dX8_token_127 h0 (Nat.le_of_ble_eq_true rfl) ?_
        refine g_goto (pc := 130) C 86 dX8_token_130 (by decide) ?_
        exact ih (i + 1) _ (by omega) (by omega) ((q_up_s _ _ _)) (((q_up_n _ _ (by decide)).trans hby)) (by rw [← hE]; exact (if_pos (c := i < ta ∧ decide (wSc (f i) = 1) = true) ⟨hi2, decide_eq_true c117⟩).symm) (by rw [hU, q_up_u])
    · refine g_aload_n (pc := 86) C (hl := rfl) dX8_token_86 ?_
      refine g_get (pc := 87) C fl8_92 dX8_token_87 h0 rfl ?_
      refine g_iconst (pc := 90) C qk_iconst_1 dX8_token_90 ?_
      refine g_ic_eqN (pc := 91) C 102 dX8_token_91 (by decide) (by decide) (fun _ => ?_) (fun q => absurd q (by decide))
      refine g_aload_n (pc := 102) C (hl := rfl) dX8_token_102 ?_
      refine g_aload_n (pc := 103) C (hl := rfl) dX8_token_103 ?_
      refine g_get (pc := 104) C fl8_80 dX8_token_104 h0 rfl ?_
      refine g_V1v (pc := 107) C lv8_86 dX8_token_107 (s8_byteAtO i h0 hby hta (by omega) (by omega)) h0 (by decide) (Nat.le_of_ble_eq_true rfl) ?_
      refine g_S1v (pc := 110) C ls8_89 dX8_token_110 (s8_sortOfM) (by decide) (Nat.le_of_ble_eq_true rfl) ?_
      refine g_aload_n (pc := 113) C (hl := rfl) dX8_token_113 ?_
      refine g_get (pc := 114) C fl8_92 dX8_token_114 h0 rfl ?_
      refine g_ic_neN (pc := 117) C 133 dX8_token_117 (by decide) (by decide) (fun _ => ?_) (fun q => absurd q (by decide))
      obtain rfl : i = E := by rw [← hE]; exact (if_neg (c := i < ta ∧ decide (wSc (f i) = 1) = true) (fun q => hi2 q.1)).symm
      exact g_vret (pc := 133) C F dX8_token_133 rfl rfl (by rw [hU]; exact (q_upI h0).symm)
set_option maxHeartbeats 2000000 in
set_option maxRecDepth 20000 in
theorem l8_t2_2 {Γ : q_X} {ad : Nat → Nat} {n : Nat} {un ta fl st sa di pu at_ er en pa tr E : Nat} {f : Nat → Nat} {hF : q_H} (hta : ta ≤ 300) (hf : ∀ k, k < ta → f k < 256) (C : q_C Γ ad 2 0 0 RX8 yX8_token cX8_token 1 none) (F : q_N Γ ad n none hF) : ∀ (m i : Nat) (H : q_H), ta < i + m → i ≤ ta → H 87 = (MO un ta fl st sa i 2 di pu at_ er en pa tr) → H 89 = PA f → mEnd (fun k => decide (wSc (f k) = 2)) ta m i = E → hF = q_up H 87 (MO un ta fl st sa E 2 di pu at_ er en pa tr) → q_G Γ ad 1 86 [some (.ref 87)] [] n H 0 0 := by
  intro m
  induction m with
  | zero => intro i H hm hi; omega
  | succ m ih =>
    intro i H hm hi h0 hby hE hU
    by_cases hi2 : i < ta
    · refine g_aload_n (pc := 86) C (hl := rfl) dX8_token_86 ?_
      refine g_get (pc := 87) C fl8_92 dX8_token_87 h0 rfl ?_
      refine g_iconst (pc := 90) C qk_iconst_1 dX8_token_90 ?_
      refine g_ic_eqN (pc := 91) C 102 dX8_token_91 (by decide) (by decide) (fun q => absurd q (by decide)) (fun _ => ?_)
      refine g_aload_n (pc := 94) C (hl := rfl) dX8_token_94 ?_
      refine g_get (pc := 95) C fl8_92 dX8_token_95 h0 rfl ?_
      refine g_iconst (pc := 98) C qk_iconst_2 dX8_token_98 ?_
      refine g_ic_neN (pc := 99) C 133 dX8_token_99 (by decide) (by decide) (fun q => absurd q (by decide)) (fun _ => ?_)
      refine g_aload_n (pc := 102) C (hl := rfl) dX8_token_102 ?_
      refine g_aload_n (pc := 103) C (hl := rfl) dX8_token_103 ?_
      refine g_get (pc := 104) C fl8_80 dX8_token_104 h0 rfl ?_
      refine g_V1v (pc := 107) C lv8_86 dX8_token_107 (s8_byteAtN i h0 hby hta hi2) h0 (by decide) (Nat.le_of_ble_eq_true rfl) ?_
      refine g_S1v (pc := 110) C ls8_89 dX8_token_110 (s8_sortOfN (f i) (by have := hf i hi2; omega)) (by decide) (Nat.le_of_ble_eq_true rfl) ?_
      refine g_aload_n (pc := 113) C (hl := rfl) dX8_token_113 ?_
      refine g_get (pc := 114) C fl8_92 dX8_token_114 h0 rfl ?_
      refine g_ic_neN (pc := 117) C 133 dX8_token_117 (by decide) (by have := wSc_b (f i); omega) (fun c117 => ?_) (fun c117 => ?_)
      · obtain rfl : i = E := by rw [← hE]; exact (if_neg (c := i < ta ∧ decide (wSc (f i) = 2) = true) (fun q => c117 (of_decide_eq_true q.2))).symm
        exact g_vret (pc := 133) C F dX8_token_133 rfl rfl (by rw [hU]; exact (q_upI h0).symm)
      · refine g_aload_n (pc := 120) C (hl := rfl) dX8_token_120 ?_
        refine g_dup (pc := 121) C rfl dX8_token_121 ?_
        refine g_get (pc := 122) C fl8_80 dX8_token_122 h0 rfl ?_
        refine g_iconst (pc := 125) C qk_iconst_1 dX8_token_125 ?_
        refine g_iaddN (pc := 126) C dX8_token_126 ?_
        refine g_put (pc := 127) C fp8_80 dX8_token_127 h0 (Nat.le_of_ble_eq_true rfl) ?_
        refine g_goto (pc := 130) C 86 dX8_token_130 (by decide) ?_
        exact ih (i + 1) _ (by omega) (by omega) ((q_up_s _ _ _)) (((q_up_n _ _ (by decide)).trans hby)) (by rw [← hE]; exact (if_pos (c := i < ta ∧ decide (wSc (f i) = 2) = true) ⟨hi2, decide_eq_true c117⟩).symm) (by rw [hU, q_up_u])
    · refine g_aload_n (pc := 86) C (hl := rfl) dX8_token_86 ?_
      refine g_get (pc := 87) C fl8_92 dX8_token_87 h0 rfl ?_
      refine g_iconst (pc := 90) C qk_iconst_1 dX8_token_90 ?_
      refine g_ic_eqN (pc := 91) C 102 dX8_token_91 (by decide) (by decide) (fun q => absurd q (by decide)) (fun _ => ?_)
      refine g_aload_n (pc := 94) C (hl := rfl) dX8_token_94 ?_
      refine g_get (pc := 95) C fl8_92 dX8_token_95 h0 rfl ?_
      refine g_iconst (pc := 98) C qk_iconst_2 dX8_token_98 ?_
      refine g_ic_neN (pc := 99) C 133 dX8_token_99 (by decide) (by decide) (fun q => absurd q (by decide)) (fun _ => ?_)
      refine g_aload_n (pc := 102) C (hl := rfl) dX8_token_102 ?_
      refine g_aload_n (pc := 103) C (hl := rfl) dX8_token_103 ?_
      refine g_get (pc := 104) C fl8_80 dX8_token_104 h0 rfl ?_
      refine g_V1v (pc := 107) C lv8_86 dX8_token_107 (s8_byteAtO i h0 hby hta (by omega) (by omega)) h0 (by decide) (Nat.le_of_ble_eq_true rfl) ?_
      refine g_S1v (pc := 110) C ls8_89 dX8_token_110 (s8_sortOfM) (by decide) (Nat.le_of_ble_eq_true rfl) ?_
      refine g_aload_n (pc := 113) C (hl := rfl) dX8_token_113 ?_
      refine g_get (pc := 114) C fl8_92 dX8_token_114 h0 rfl ?_
      refine g_ic_neN (pc := 117) C 133 dX8_token_117 (by decide) (by decide) (fun _ => ?_) (fun q => absurd q (by decide))
      obtain rfl : i = E := by rw [← hE]; exact (if_neg (c := i < ta ∧ decide (wSc (f i) = 2) = true) (fun q => hi2 q.1)).symm
      exact g_vret (pc := 133) C F dX8_token_133 rfl rfl (by rw [hU]; exact (q_upI h0).symm)
theorem mEnd_Q {P Q : Nat → Bool} {len : Nat} (h : ∀ k, k < len → P k = Q k) : ∀ m i, mEnd P len m i = mEnd Q len m i
  | 0, _ => rfl
  | m + 1, i => by
    show (if i < len ∧ P i = true then mEnd P len m (i + 1) else i) = (if i < len ∧ Q i = true then mEnd Q len m (i + 1) else i)
    by_cases hi : i < len
    · rw [h i hi, mEnd_Q h m (i + 1)]
    · rw [if_neg (fun q => hi q.1), if_neg (fun q => hi q.1)]
set_option maxHeartbeats 2000000 in
set_option maxRecDepth 20000 in
theorem l8_t3E {Γ : q_X} {ad : Nat → Nat} {n : Nat} {h : q_H} {un ta fl st ne so di pu at_ er en pa tr E : Nat} {f : Nat → Nat} {hF : q_H} (hta : ta ≤ 300) (hf : ∀ k, k < ta → f k < 256) (hE2 : ta ≤ E) (hEt : E ≤ 300) (C : q_C Γ ad 2 0 0 RX8 yX8_token cX8_token 1 none) (F : q_N Γ ad n none hF) (h0 : h 87 = (MO un ta fl st E ne so di pu at_ er en pa tr)) (hby : h 89 = PA f) (hR : hF = q_up h 87 (MO un ta fl st E E 0 di pu at_ er en pa tr)) : q_G Γ ad 1 47 [some (.ref 87)] [] n h 0 0 := by
  refine g_aload_n (pc := 47) C (hl := rfl) dX8_token_47 ?_
  refine g_aload_n (pc := 48) C (hl := rfl) dX8_token_48 ?_
  refine g_aload_n (pc := 49) C (hl := rfl) dX8_token_49 ?_
  refine g_get (pc := 50) C fl8_83 dX8_token_50 h0 rfl ?_
  refine g_V1v (pc := 53) C lv8_86 dX8_token_53 (s8_byteAtO E h0 hby hta hE2 (by omega)) h0 (by decide) (Nat.le_of_ble_eq_true rfl) ?_
  refine g_S1v (pc := 56) C ls8_89 dX8_token_56 (s8_sortOfM) (by decide) (Nat.le_of_ble_eq_true rfl) ?_
  refine g_put (pc := 59) C fp8_92 dX8_token_59 h0 (Nat.le_of_ble_eq_true rfl) ?_
  refine g_aload_n (pc := 62) C (hl := rfl) dX8_token_62 ?_
  refine g_aload_n (pc := 63) C (hl := rfl) dX8_token_63 ?_
  refine g_get (pc := 64) C fl8_92 dX8_token_64 (q_up_s _ _ _) rfl ?_
  refine g_if_neN (pc := 67) C 77 dX8_token_67 (by decide) (by decide) (fun q => absurd q (by decide)) (fun _ => ?_)
  refine g_aload_n (pc := 70) C (hl := rfl) dX8_token_70 ?_
  refine g_get (pc := 71) C fl8_83 dX8_token_71 (q_up_s _ _ _) rfl ?_
  refine g_goto (pc := 74) C 83 dX8_token_74 (by decide) ?_
  refine g_put (pc := 83) C fp8_80 dX8_token_83 (q_up_s _ _ _) (Nat.le_of_ble_eq_true rfl) ?_
  refine g_aload_n (pc := 86) C (hl := rfl) dX8_token_86 ?_
  refine g_get (pc := 87) C fl8_92 dX8_token_87 (q_up_s _ _ _) rfl ?_
  refine g_iconst (pc := 90) C qk_iconst_1 dX8_token_90 ?_
  refine g_ic_eqN (pc := 91) C 102 dX8_token_91 (by decide) (by decide) (fun q => absurd q (by decide)) (fun _ => ?_)
  refine g_aload_n (pc := 94) C (hl := rfl) dX8_token_94 ?_
  refine g_get (pc := 95) C fl8_92 dX8_token_95 (q_up_s _ _ _) rfl ?_
  refine g_iconst (pc := 98) C qk_iconst_2 dX8_token_98 ?_
  refine g_ic_neN (pc := 99) C 133 dX8_token_99 (by decide) (by decide) (fun _ => ?_) (fun q => absurd q (by decide))
  exact g_vret (pc := 133) C F dX8_token_133 rfl rfl (by rw [hR]; simp only [q_up_u]; rfl)
set_option maxHeartbeats 2000000 in
set_option maxRecDepth 20000 in
theorem l8_t3L {Γ : q_X} {ad : Nat → Nat} {n : Nat} {h : q_H} {un ta fl st ne so di pu at_ er en pa tr E : Nat} {f : Nat → Nat} {hF : q_H} (hta : ta ≤ 300) (hf : ∀ k, k < ta → f k < 256) (hE2 : E < ta) (hEt : E ≤ 300) (hsc : ∀ {n : Nat} {h : q_H}, SP 1 yX8_sortOf cX8_sortOf 1 (some .int) [.int (nI (f E))] n h (some (.int (nI 1))) h) (C : q_C Γ ad 2 0 0 RX8 yX8_token cX8_token 1 none) (F : q_N Γ ad n none hF) (h0 : h 87 = (MO un ta fl st E ne so di pu at_ er en pa tr)) (hby : h 89 = PA f) (hR : hF = q_up h 87 (MO un ta fl st E (mEnd (fun k => decide (wSc (f k) = 1)) ta 300 (E + 1)) 1 di pu at_ er en pa tr)) : q_G Γ ad 1 47 [some (.ref 87)] [] n h 0 0 := by
  refine g_aload_n (pc := 47) C (hl := rfl) dX8_token_47 ?_
  refine g_aload_n (pc := 48) C (hl := rfl) dX8_token_48 ?_
  refine g_aload_n (pc := 49) C (hl := rfl) dX8_token_49 ?_
  refine g_get (pc := 50) C fl8_83 dX8_token_50 h0 rfl ?_
  refine g_V1v (pc := 53) C lv8_86 dX8_token_53 (s8_byteAtN E h0 hby hta hE2) h0 (by decide) (Nat.le_of_ble_eq_true rfl) ?_
  refine g_S1v (pc := 56) C ls8_89 dX8_token_56 (hsc) (by decide) (Nat.le_of_ble_eq_true rfl) ?_
  refine g_put (pc := 59) C fp8_92 dX8_token_59 h0 (Nat.le_of_ble_eq_true rfl) ?_
  refine g_aload_n (pc := 62) C (hl := rfl) dX8_token_62 ?_
  refine g_aload_n (pc := 63) C (hl := rfl) dX8_token_63 ?_
  refine g_get (pc := 64) C fl8_92 dX8_token_64 (q_up_s _ _ _) rfl ?_
  refine g_if_neN (pc := 67) C 77 dX8_token_67 (by decide) (by decide) (fun _ => ?_) (fun q => absurd q (by decide))
  refine g_aload_n (pc := 77) C (hl := rfl) dX8_token_77 ?_
  refine g_get (pc := 78) C fl8_83 dX8_token_78 (q_up_s _ _ _) rfl ?_
  refine g_iconst (pc := 81) C qk_iconst_1 dX8_token_81 ?_
  refine g_iaddN (pc := 82) C dX8_token_82 ?_
  refine g_put (pc := 83) C fp8_80 dX8_token_83 (q_up_s _ _ _) (Nat.le_of_ble_eq_true rfl) ?_
  exact l8_t2_1 hta hf C F 300 (E + 1) _ (by omega) (by omega) ((q_up_s _ _ _)) (((q_up_n _ _ (by decide)).trans ((q_up_n _ _ (by decide)).trans hby))) rfl (by rw [hR]; first | (simp only [q_up_u]; done) | (simp only [q_up_u]; rfl))
set_option maxHeartbeats 2000000 in
set_option maxRecDepth 20000 in
theorem l8_t3F {Γ : q_X} {ad : Nat → Nat} {n : Nat} {h : q_H} {un ta fl st ne so di pu at_ er en pa tr E : Nat} {f : Nat → Nat} {hF : q_H} (hta : ta ≤ 300) (hf : ∀ k, k < ta → f k < 256) (hE2 : E < ta) (hEt : E ≤ 300) (hsc : ∀ {n : Nat} {h : q_H}, SP 1 yX8_sortOf cX8_sortOf 1 (some .int) [.int (nI (f E))] n h (some (.int (nI 2))) h) (C : q_C Γ ad 2 0 0 RX8 yX8_token cX8_token 1 none) (F : q_N Γ ad n none hF) (h0 : h 87 = (MO un ta fl st E ne so di pu at_ er en pa tr)) (hby : h 89 = PA f) (hR : hF = q_up h 87 (MO un ta fl st E (mEnd (fun k => decide (wSc (f k) = 2)) ta 300 (E + 1)) 2 di pu at_ er en pa tr)) : q_G Γ ad 1 47 [some (.ref 87)] [] n h 0 0 := by
  refine g_aload_n (pc := 47) C (hl := rfl) dX8_token_47 ?_
  refine g_aload_n (pc := 48) C (hl := rfl) dX8_token_48 ?_
  refine g_aload_n (pc := 49) C (hl := rfl) dX8_token_49 ?_
  refine g_get (pc := 50) C fl8_83 dX8_token_50 h0 rfl ?_
  refine g_V1v (pc := 53) C lv8_86 dX8_token_53 (s8_byteAtN E h0 hby hta hE2) h0 (by decide) (Nat.le_of_ble_eq_true rfl) ?_
  refine g_S1v (pc := 56) C ls8_89 dX8_token_56 (hsc) (by decide) (Nat.le_of_ble_eq_true rfl) ?_
  refine g_put (pc := 59) C fp8_92 dX8_token_59 h0 (Nat.le_of_ble_eq_true rfl) ?_
  refine g_aload_n (pc := 62) C (hl := rfl) dX8_token_62 ?_
  refine g_aload_n (pc := 63) C (hl := rfl) dX8_token_63 ?_
  refine g_get (pc := 64) C fl8_92 dX8_token_64 (q_up_s _ _ _) rfl ?_
  refine g_if_neN (pc := 67) C 77 dX8_token_67 (by decide) (by decide) (fun _ => ?_) (fun q => absurd q (by decide))
  refine g_aload_n (pc := 77) C (hl := rfl) dX8_token_77 ?_
  refine g_get (pc := 78) C fl8_83 dX8_token_78 (q_up_s _ _ _) rfl ?_
  refine g_iconst (pc := 81) C qk_iconst_1 dX8_token_81 ?_
  refine g_iaddN (pc := 82) C dX8_token_82 ?_
  refine g_put (pc := 83) C fp8_80 dX8_token_83 (q_up_s _ _ _) (Nat.le_of_ble_eq_true rfl) ?_
  exact l8_t2_2 hta hf C F 300 (E + 1) _ (by omega) (by omega) ((q_up_s _ _ _)) (((q_up_n _ _ (by decide)).trans ((q_up_n _ _ (by decide)).trans hby))) rfl (by rw [hR]; first | (simp only [q_up_u]; done) | (simp only [q_up_u]; rfl))
set_option maxHeartbeats 2000000 in
set_option maxRecDepth 20000 in
theorem l8_t3S {Γ : q_X} {ad : Nat → Nat} {n : Nat} {h : q_H} {un ta fl st ne so di pu at_ er en pa tr E : Nat} {f : Nat → Nat} {hF : q_H} (hta : ta ≤ 300) (hf : ∀ k, k < ta → f k < 256) (hE2 : E < ta) (hEt : E ≤ 300) (hsc : ∀ {n : Nat} {h : q_H}, SP 1 yX8_sortOf cX8_sortOf 1 (some .int) [.int (nI (f E))] n h (some (.int (nI 3))) h) (C : q_C Γ ad 2 0 0 RX8 yX8_token cX8_token 1 none) (F : q_N Γ ad n none hF) (h0 : h 87 = (MO un ta fl st E ne so di pu at_ er en pa tr)) (hby : h 89 = PA f) (hR : hF = q_up h 87 (MO un ta fl st E (E + 1) 3 di pu at_ er en pa tr)) : q_G Γ ad 1 47 [some (.ref 87)] [] n h 0 0 := by
  refine g_aload_n (pc := 47) C (hl := rfl) dX8_token_47 ?_
  refine g_aload_n (pc := 48) C (hl := rfl) dX8_token_48 ?_
  refine g_aload_n (pc := 49) C (hl := rfl) dX8_token_49 ?_
  refine g_get (pc := 50) C fl8_83 dX8_token_50 h0 rfl ?_
  refine g_V1v (pc := 53) C lv8_86 dX8_token_53 (s8_byteAtN E h0 hby hta hE2) h0 (by decide) (Nat.le_of_ble_eq_true rfl) ?_
  refine g_S1v (pc := 56) C ls8_89 dX8_token_56 (hsc) (by decide) (Nat.le_of_ble_eq_true rfl) ?_
  refine g_put (pc := 59) C fp8_92 dX8_token_59 h0 (Nat.le_of_ble_eq_true rfl) ?_
  refine g_aload_n (pc := 62) C (hl := rfl) dX8_token_62 ?_
  refine g_aload_n (pc := 63) C (hl := rfl) dX8_token_63 ?_
  refine g_get (pc := 64) C fl8_92 dX8_token_64 (q_up_s _ _ _) rfl ?_
  refine g_if_neN (pc := 67) C 77 dX8_token_67 (by decide) (by decide) (fun _ => ?_) (fun q => absurd q (by decide))
  refine g_aload_n (pc := 77) C (hl := rfl) dX8_token_77 ?_
  refine g_get (pc := 78) C fl8_83 dX8_token_78 (q_up_s _ _ _) rfl ?_
  refine g_iconst (pc := 81) C qk_iconst_1 dX8_token_81 ?_
  refine g_iaddN (pc := 82) C dX8_token_82 ?_
  refine g_put (pc := 83) C fp8_80 dX8_token_83 (q_up_s _ _ _) (Nat.le_of_ble_eq_true rfl) ?_
  refine g_aload_n (pc := 86) C (hl := rfl) dX8_token_86 ?_
  refine g_get (pc := 87) C fl8_92 dX8_token_87 (q_up_s _ _ _) rfl ?_
  refine g_iconst (pc := 90) C qk_iconst_1 dX8_token_90 ?_
  refine g_ic_eqN (pc := 91) C 102 dX8_token_91 (by decide) (by decide) (fun q => absurd q (by decide)) (fun _ => ?_)
  refine g_aload_n (pc := 94) C (hl := rfl) dX8_token_94 ?_
  refine g_get (pc := 95) C fl8_92 dX8_token_95 (q_up_s _ _ _) rfl ?_
  refine g_iconst (pc := 98) C qk_iconst_2 dX8_token_98 ?_
  refine g_ic_neN (pc := 99) C 133 dX8_token_99 (by decide) (by decide) (fun _ => ?_) (fun q => absurd q (by decide))
  exact g_vret (pc := 133) C F dX8_token_133 rfl rfl (by rw [hR]; simp only [q_up_u]; rfl)
set_option maxHeartbeats 2000000 in
set_option maxRecDepth 20000 in
theorem l8_t3T {Γ : q_X} {ad : Nat → Nat} {n : Nat} {h : q_H} {un ta fl st ne so di pu at_ er en pa tr E : Nat} {f : Nat → Nat} {hF : q_H} (hta : ta ≤ 300) (hf : ∀ k, k < ta → f k < 256) (hE2 : E < ta) (hEt : E ≤ 300) (hsc : ∀ {n : Nat} {h : q_H}, SP 1 yX8_sortOf cX8_sortOf 1 (some .int) [.int (nI (f E))] n h (some (.int (nI 4))) h) (C : q_C Γ ad 2 0 0 RX8 yX8_token cX8_token 1 none) (F : q_N Γ ad n none hF) (h0 : h 87 = (MO un ta fl st E ne so di pu at_ er en pa tr)) (hby : h 89 = PA f) (hR : hF = q_up h 87 (MO un ta fl st E (E + 1) 4 di pu at_ er en pa tr)) : q_G Γ ad 1 47 [some (.ref 87)] [] n h 0 0 := by
  refine g_aload_n (pc := 47) C (hl := rfl) dX8_token_47 ?_
  refine g_aload_n (pc := 48) C (hl := rfl) dX8_token_48 ?_
  refine g_aload_n (pc := 49) C (hl := rfl) dX8_token_49 ?_
  refine g_get (pc := 50) C fl8_83 dX8_token_50 h0 rfl ?_
  refine g_V1v (pc := 53) C lv8_86 dX8_token_53 (s8_byteAtN E h0 hby hta hE2) h0 (by decide) (Nat.le_of_ble_eq_true rfl) ?_
  refine g_S1v (pc := 56) C ls8_89 dX8_token_56 (hsc) (by decide) (Nat.le_of_ble_eq_true rfl) ?_
  refine g_put (pc := 59) C fp8_92 dX8_token_59 h0 (Nat.le_of_ble_eq_true rfl) ?_
  refine g_aload_n (pc := 62) C (hl := rfl) dX8_token_62 ?_
  refine g_aload_n (pc := 63) C (hl := rfl) dX8_token_63 ?_
  refine g_get (pc := 64) C fl8_92 dX8_token_64 (q_up_s _ _ _) rfl ?_
  refine g_if_neN (pc := 67) C 77 dX8_token_67 (by decide) (by decide) (fun _ => ?_) (fun q => absurd q (by decide))
  refine g_aload_n (pc := 77) C (hl := rfl) dX8_token_77 ?_
  refine g_get (pc := 78) C fl8_83 dX8_token_78 (q_up_s _ _ _) rfl ?_
  refine g_iconst (pc := 81) C qk_iconst_1 dX8_token_81 ?_
  refine g_iaddN (pc := 82) C dX8_token_82 ?_
  refine g_put (pc := 83) C fp8_80 dX8_token_83 (q_up_s _ _ _) (Nat.le_of_ble_eq_true rfl) ?_
  refine g_aload_n (pc := 86) C (hl := rfl) dX8_token_86 ?_
  refine g_get (pc := 87) C fl8_92 dX8_token_87 (q_up_s _ _ _) rfl ?_
  refine g_iconst (pc := 90) C qk_iconst_1 dX8_token_90 ?_
  refine g_ic_eqN (pc := 91) C 102 dX8_token_91 (by decide) (by decide) (fun q => absurd q (by decide)) (fun _ => ?_)
  refine g_aload_n (pc := 94) C (hl := rfl) dX8_token_94 ?_
  refine g_get (pc := 95) C fl8_92 dX8_token_95 (q_up_s _ _ _) rfl ?_
  refine g_iconst (pc := 98) C qk_iconst_2 dX8_token_98 ?_
  refine g_ic_neN (pc := 99) C 133 dX8_token_99 (by decide) (by decide) (fun _ => ?_) (fun q => absurd q (by decide))
  exact g_vret (pc := 133) C F dX8_token_133 rfl rfl (by rw [hR]; simp only [q_up_u]; rfl)
/-- where the model's token stands is where the class's does -/
theorem mNxt_s {f : Nat → Nat} {len : Nat} {K : mK} : (mNxt f len K).2.1 = mEnd (fun k => mBl (f k)) len 301 K.2.2.1 := by
  unfold mNxt
  repeat' split
  all_goals rfl
theorem mNxt_E {f : Nat → Nat} {ta : Nat} {K : mK} (hta : ta ≤ 300) (hK : K.2.2.1 ≤ ta) : (ta ≤ (mNxt f ta K).2.1 → (mNxt f ta K).2.2.1 = (mNxt f ta K).2.1) ∧ ((mNxt f ta K).2.1 < ta → (wSc (f (mNxt f ta K).2.1) = 1 → (mNxt f ta K).2.2.1 = mEnd (fun k => decide (wSc (f k) = 1)) ta 300 ((mNxt f ta K).2.1 + 1)) ∧ (wSc (f (mNxt f ta K).2.1) = 2 → (mNxt f ta K).2.2.1 = mEnd (fun k => decide (wSc (f k) = 2)) ta 300 ((mNxt f ta K).2.1 + 1)) ∧ (¬ wSc (f (mNxt f ta K).2.1) = 1 → ¬ wSc (f (mNxt f ta K).2.1) = 2 → (mNxt f ta K).2.2.1 = (mNxt f ta K).2.1 + 1)) := by
  rw [mNxt_s]
  have e1 : ∀ s, s < ta → mLe (f s) = true → mEnd (fun k => mLe (f k)) ta 301 s = mEnd (fun k => decide (wSc (f k) = 1)) ta 300 (s + 1) := fun s h1 h2 => by
    rw [mEnd_Q (P := fun k => mLe (f k)) (Q := fun k => decide (wSc (f k) = 1)) (fun k _ => by
      by_cases q : mLe (f k) = true
      · rw [q]; exact (decide_eq_true (wSc_1.mpr q)).symm
      · rw [Bool.eq_false_iff.mpr q]; exact (decide_eq_false (fun z => q (wSc_1.mp z))).symm)]
    exact if_pos ⟨h1, decide_eq_true (wSc_1.mpr h2)⟩
  have e2 : ∀ s, s < ta → mFi (f s) = true → mEnd (fun k => mFi (f k)) ta 301 s = mEnd (fun k => decide (wSc (f k) = 2)) ta 300 (s + 1) := fun s h1 h2 => by
    rw [mEnd_Q (P := fun k => mFi (f k)) (Q := fun k => decide (wSc (f k) = 2)) (fun k _ => by
      by_cases q : mFi (f k) = true
      · rw [q]; exact (decide_eq_true (wSc_2.mpr q)).symm
      · rw [Bool.eq_false_iff.mpr q]; exact (decide_eq_false (fun z => q (wSc_2.mp z))).symm)]
    exact if_pos ⟨h1, decide_eq_true (wSc_2.mpr h2)⟩
  unfold mNxt
  generalize mEnd (fun k => mBl (f k)) ta 301 K.2.2.1 = s
  by_cases h1 : ta ≤ s
  · rw [if_pos h1]
    exact ⟨fun _ => rfl, fun q => absurd q (by omega)⟩
  · rw [if_neg h1]
    refine ⟨fun q => absurd q h1, fun q => ?_⟩
    by_cases h2 : mLe (f s) = true
    · rw [if_pos h2]
      refine ⟨fun _ => e1 s q h2, fun z => ?_, fun z => absurd (wSc_1.mpr h2) z⟩
      rw [wSc_1.mpr h2] at z
      exact absurd z (by decide)
    · rw [if_neg h2]
      by_cases h3 : mFi (f s) = true
      · rw [if_pos h3]
        refine ⟨fun z => absurd (wSc_1.mp z) h2, fun _ => ?_, fun _ z => absurd (wSc_2.mpr h3) z⟩
        split <;> exact e2 s q h3
      · rw [if_neg h3]
        exact ⟨fun z => absurd (wSc_1.mp z) h2, fun z => absurd (wSc_2.mp z) h3, fun _ _ => rfl⟩
set_option maxHeartbeats 2000000 in
set_option maxRecDepth 20000 in
theorem s8_token {n : Nat} {h : q_H} {un ta fl st sa so di pu at_ er en pa tr : Nat} {f : Nat → Nat} {K : mK} (h0 : h 87 = (MO un ta fl st sa K.2.2.1 so di pu at_ er en pa tr)) (hby : h 89 = PA f) (hta : ta ≤ 300) (hf : ∀ k, k < ta → f k < 256) (hK : K.2.2.1 ≤ ta) : SP 2 yX8_token cX8_token 1 none [.ref 87] n h none (q_up h 87 (MO un ta fl st (mNxt f ta K).2.1 (mNxt f ta K).2.2.1 (wSo f ta (mNxt f ta K).2.1) di pu at_ er en pa tr)) := by
  have hE := mNxt_E (f := f) hta hK
  have hs := mNxt_s (f := f) (len := ta) (K := K)
  have hb := mEnd_b (fun k => mBl (f k)) ta 301 K.2.2.1 hK
  rw [← hs] at hb
  generalize (mNxt f ta K).2.1 = E at hE hs hb ⊢
  generalize (mNxt f ta K).2.2.1 = N2 at hE ⊢
  have hsc : ∀ k, wSc (f E) = k → E < ta → ∀ {n : Nat} {h : q_H}, SP 1 yX8_sortOf cX8_sortOf 1 (some .int) [.int (nI (f E))] n h (some (.int (nI k))) h := fun k e hl n h => by
    have q := s8_sortOfN (n := n) (h := h) (f E) (by have := hf E hl; omega)
    rw [e] at q
    exact q
  refine q_SPi RX8 rfl (by decide +kernel) (la := _) rfl rfl (fun Γ ad C F => ?_)
  refine g_aload_n (pc := 0) C (hl := rfl) dX8_token_0 ?_
  refine g_aload_n (pc := 1) C (hl := rfl) dX8_token_1 ?_
  refine g_get (pc := 2) C fl8_80 dX8_token_2 h0 rfl ?_
  refine g_put (pc := 5) C fp8_83 dX8_token_5 h0 (Nat.le_of_ble_eq_true rfl) ?_
  refine l8_t1 (E := E) hta hf C (fun H hU g0 gby => ?_) 301 K.2.2.1 _ (by omega) hK (q_up_s _ _ _) ((q_up_n _ _ (by decide)).trans hby) hs.symm rfl
  have hU2 : ∀ a b, q_up h 87 (MO un ta fl st E a b di pu at_ er en pa tr) = q_up H 87 (MO un ta fl st E a b di pu at_ er en pa tr) := fun a b => by
    have q := congrArg (fun t => q_up t 87 (MO un ta fl st E a b di pu at_ er en pa tr)) hU
    simp only [q_up_u] at q
    exact q.symm
  by_cases h1 : ta ≤ E
  · refine l8_t3E hta hf h1 (by omega) C F g0 gby ?_
    rw [hE.1 h1, show wSo f ta E = 0 from if_pos h1]
    exact hU2 _ _
  · have h2 : E < ta := by omega
    have hE3 := hE.2 h2
    have e : wSo f ta E = wSc (f E) := if_neg h1
    rw [e] at F
    by_cases q1 : wSc (f E) = 1
    · refine l8_t3L hta hf h2 (by omega) (hsc 1 q1 h2) C F g0 gby ?_
      rw [hE3.1 q1, q1]
      exact hU2 _ _
    · by_cases q2 : wSc (f E) = 2
      · refine l8_t3F hta hf h2 (by omega) (hsc 2 q2 h2) C F g0 gby ?_
        rw [hE3.2.1 q2, q2]
        exact hU2 _ _
      · have hb4 := wSc_b (f E)
        by_cases q3 : wSc (f E) = 3
        · refine l8_t3S hta hf h2 (by omega) (hsc 3 q3 h2) C F g0 gby ?_
          rw [hE3.2.2 q1 q2, q3]
          exact hU2 _ _
        · have q4 : wSc (f E) = 4 := by omega
          refine l8_t3T hta hf h2 (by omega) (hsc 4 q4 h2) C F g0 gby ?_
          rw [hE3.2.2 q1 q2, q4]
          exact hU2 _ _
