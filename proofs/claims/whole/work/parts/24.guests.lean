def mWd (f : Nat → Nat) (K : mK) (i : Nat) : Bool := decide (K.1 = 0 ∧ K.2.2.1 - K.2.1 = q_len.getD i 0 ∧ ∀ j, j < q_len.getD i 0 → nI (f (K.2.1 + j)) = q_chr i j)
theorem mWd_i {f : Nat → Nat} {K : mK} {i : Nat} : mWd f K i = true ↔ (K.1 = 0 ∧ K.2.2.1 - K.2.1 = q_len.getD i 0 ∧ ∀ j, j < q_len.getD i 0 → nI (f (K.2.1 + j)) = q_chr i j) := by unfold mWd; exact decide_eq_true_iff
def mSn (f : Nat → Nat) (K : mK) : Nat := if mWd f K 1 = true then 1 else if mWd f K 2 = true then 2 else if mWd f K 3 = true then 3 else if mWd f K 4 = true then 4 else if mWd f K 5 = true then 5 else 0
theorem mSn_b (f : Nat → Nat) (K : mK) : mSn f K < 6 := by
  unfold mSn
  repeat' split
  all_goals omega
def mRn (f : Nat → Nat) (len mx : Nat) (K : mK) (fa : Nat) : Nat × mK × Nat :=
  if K.1 = 1 then (if K.2.2.2 ≤ mx then (if (mNxt f len K).1 = 2 then (K.2.2.2, mNxt f len (mNxt f len K), fa) else (0, mNxt f len K, 1)) else (0, K, 2)) else (0, K, 1)
/-- token, fault, guests, dishes, cells -/
abbrev mP : Type := mK × Nat × Nat × Nat × (Nat → Nat)
def mSeatT (T : Nat → Nat) (g so wa : Nat) : Nat → Nat := va_up (va_up (va_up (va_up (va_up (va_up T (0 + g) so) (6 + g) wa) (12 + g) g) (36 + g) g) (30 + g) g) (42 + g) g
def mRg (f : Nat → Nat) (len : Nat) (S : mP) : mP :=
  if S.2.2.1 < 6 then
    (if mSn f (mNxt f len S.1) = 0 then (mNxt f len S.1, 1, S.2.2)
     else if (mRn f len 5 (mNxt f len (mNxt f len S.1)) S.2.1).2.2 = 0 then ((mRn f len 5 (mNxt f len (mNxt f len S.1)) S.2.1).2.1, 0, S.2.2.1 + 1, S.2.2.2.1, mSeatT S.2.2.2.2 S.2.2.1 (mSn f (mNxt f len S.1)) (mRn f len 5 (mNxt f len (mNxt f len S.1)) S.2.1).1)
     else ((mRn f len 5 (mNxt f len (mNxt f len S.1)) S.2.1).2.1, (mRn f len 5 (mNxt f len (mNxt f len S.1)) S.2.1).2.2, S.2.2))
  else (S.1, 3, S.2.2)
def mRd (f : Nat → Nat) (len : Nat) (S : mP) : mP :=
  if S.2.2.2.1 < S.2.2.1 then
    (if (mRn f len 30 (mNxt f len S.1) S.2.1).2.2 = 0 then ((mRn f len 30 (mNxt f len S.1) S.2.1).2.1, 0, S.2.2.1, S.2.2.2.1 + 1, va_up S.2.2.2.2 (24 + S.2.2.2.1) (mRn f len 30 (mNxt f len S.1) S.2.1).1)
     else ((mRn f len 30 (mNxt f len S.1) S.2.1).2.1, (mRn f len 30 (mNxt f len S.1) S.2.1).2.2, S.2.2))
  else (S.1, 3, S.2.2)
def mLg (f : Nat → Nat) (len : Nat) : Nat → mP → mP
  | 0, S => S
  | m + 1, S => if S.2.1 = 0 ∧ mWd f S.1 0 = true then mLg f len m (mRg f len S) else S
def mLd (f : Nat → Nat) (len : Nat) : Nat → mP → mP
  | 0, S => S
  | m + 1, S => if S.2.1 = 0 ∧ mWd f S.1 6 = true then mLd f len m (mRd f len S) else S
def mFin (S : mP) : mP := if S.2.1 = 0 ∧ ¬ S.1.1 = 3 then (S.1, 1, S.2.2) else S
def mRead (f : Nat → Nat) (len : Nat) (K : mK) : mP :=
  mFin (mLd f len 7 (mLg f len 7 (mNxt f len (K.1, K.2.1, 0, K.2.2.2), if mWd f (mNxt f len (K.1, K.2.1, 0, K.2.2.2)) 0 = true then 0 else 1, 0, 0, fun _ => 0)))
def q_rd (h : q_H) (r t c pt tu mi o p e b : Nat) (S : mP) : q_H := q_up (q_up (q_up h r (XK pt t S.1 S.2.2.2.1 S.2.1)) c (TA S.2.2.2.2)) t (TO c S.2.2.1 tu mi o p e b)
theorem q_rd_rd {h : q_H} {r t c pt tu mi o p e b : Nat} {S S2 : mP} (hrt : r ≠ t) (hrc : r ≠ c) (htc : t ≠ c) : q_rd (q_rd h r t c pt tu mi o p e b S) r t c pt tu mi o p e b S2 = q_rd h r t c pt tu mi o p e b S2 := by
  unfold q_rd
  rw [q_up_c _ hrt.symm, q_up_c _ hrc.symm, q_up_u, q_up_c _ htc, q_up_u, q_up_u]
theorem q_rd_r {h : q_H} {r t c pt tu mi o p e b : Nat} {S : mP} (hrt : r ≠ t) (hrc : r ≠ c) : q_rd h r t c pt tu mi o p e b S r = XK pt t S.1 S.2.2.2.1 S.2.1 := by
  unfold q_rd; rw [q_up_n _ _ hrt, q_up_n _ _ hrc, q_up_s]
theorem q_rd_c {h : q_H} {r t c pt tu mi o p e b : Nat} {S : mP} (htc : t ≠ c) : q_rd h r t c pt tu mi o p e b S c = TA S.2.2.2.2 := by
  unfold q_rd; rw [q_up_n _ _ htc.symm, q_up_s]
theorem q_rd_t {h : q_H} {r t c pt tu mi o p e b : Nat} {S : mP} : q_rd h r t c pt tu mi o p e b S t = TO c S.2.2.1 tu mi o p e b := by
  unfold q_rd; rw [q_up_s]
theorem q_rd_n {h : q_H} {r t c pt tu mi o p e b a : Nat} {S : mP} (h1 : a ≠ r) (h2 : a ≠ t) (h3 : a ≠ c) : q_rd h r t c pt tu mi o p e b S a = h a := by
  unfold q_rd; rw [q_up_n _ _ h2, q_up_n _ _ h3, q_up_n _ _ h1]
theorem q_rd_0 {h : q_H} {r t c pt tu mi o p e b : Nat} {S : mP} (hr : h r = XK pt t S.1 S.2.2.2.1 S.2.1) (hc : h c = TA S.2.2.2.2) (ht : h t = TO c S.2.2.1 tu mi o p e b) : q_rd h r t c pt tu mi o p e b S = h := by
  unfold q_rd; rw [q_upI hr, q_upI hc, q_upI ht]
theorem mRn_ok {f : Nat → Nat} {len mx : Nat} {K : mK} {fa : Nat} (hf : ∀ k, k < len → f k < 256) (h : mKo len K) (hm : mx ≤ 30) (hfa : fa < 10) : mKo len (mRn f len mx K fa).2.1 ∧ (mRn f len mx K fa).1 ≤ mx ∧ (mRn f len mx K fa).2.2 < 10 := by
  have h1 := mNxt_ok (f := f) hf ⟨h.2.1, h.2.2.2⟩
  have h2 := mNxt_ok (f := f) hf ⟨h1.2.1, h1.2.2.2⟩
  unfold mRn
  split
  · split
    · split
      · exact ⟨h2, by assumption, hfa⟩
      · exact ⟨h1, Nat.zero_le _, Nat.le_of_ble_eq_true rfl⟩
    · exact ⟨h, Nat.zero_le _, Nat.le_of_ble_eq_true rfl⟩
  · exact ⟨h, Nat.zero_le _, Nat.le_of_ble_eq_true rfl⟩
def mPo (len : Nat) (S : mP) : Prop := mKo len S.1 ∧ S.2.1 < 10 ∧ S.2.2.1 ≤ 6 ∧ S.2.2.2.1 ≤ 6
theorem mRg_ok {f : Nat → Nat} {len : Nat} {S : mP} (hf : ∀ k, k < len → f k < 256) (h : mPo len S) : mPo len (mRg f len S) := by
  obtain ⟨hK, hfa, hg, hd⟩ := h
  have h1 := mNxt_ok (f := f) hf ⟨hK.2.1, hK.2.2.2⟩
  have h2 := mNxt_ok (f := f) hf ⟨h1.2.1, h1.2.2.2⟩
  have h3 := mRn_ok (mx := 5) (fa := S.2.1) hf h2 (by omega) hfa
  unfold mRg
  split
  · split
    · exact ⟨h1, Nat.le_of_ble_eq_true rfl, hg, hd⟩
    · split
      · exact ⟨h3.1, Nat.le_of_ble_eq_true rfl, by show S.2.2.1 + 1 ≤ 6; omega, hd⟩
      · exact ⟨h3.1, h3.2.2, hg, hd⟩
  · exact ⟨hK, Nat.le_of_ble_eq_true rfl, hg, hd⟩
theorem mRd_ok {f : Nat → Nat} {len : Nat} {S : mP} (hf : ∀ k, k < len → f k < 256) (h : mPo len S) : mPo len (mRd f len S) := by
  obtain ⟨hK, hfa, hg, hd⟩ := h
  have h1 := mNxt_ok (f := f) hf ⟨hK.2.1, hK.2.2.2⟩
  have h3 := mRn_ok (mx := 30) (fa := S.2.1) hf h1 (by omega) hfa
  unfold mRd
  split
  · split
    · exact ⟨h3.1, Nat.le_of_ble_eq_true rfl, hg, by show S.2.2.2.1 + 1 ≤ 6; omega⟩
    · exact ⟨h3.1, h3.2.2, hg, hd⟩
  · exact ⟨hK, Nat.le_of_ble_eq_true rfl, hg, hd⟩
set_option maxHeartbeats 2000000 in
set_option maxRecDepth 20000 in
theorem l5_wd {Γ : q_X} {ad : Nat → Nat} {n : Nat} {h : q_H} {r pt pb t di fa len i : Nat} {K : mK} {f : Nat → Nat} {rz : Int32} (hr : h r = XK pt t K di fa) (hpt : h pt = PO pb len) (hpb : h pb = PA f) (hlen : len ≤ 300) (hk : K.2.2.1 = K.2.1 + q_len.getD i 0 ∧ K.2.2.1 ≤ len) (hi : i < 7) (hl : q_len.getD i 0 < 10) (hz1 : (∀ j, j < q_len.getD i 0 → nI (f (K.2.1 + j)) = q_chr i j) → rz = nI 1) (hz0 : (¬ ∀ j, j < q_len.getD i 0 → nI (f (K.2.1 + j)) = q_chr i j) → rz = nI 0) (C : q_C Γ ad 4 0 0 RX5 yX5_isWord cX5_isWord 3 (some .boolean)) (F : q_N Γ ad n (some (.int rz)) h) : ∀ (m j : Nat), q_len.getD i 0 < j + m → j ≤ q_len.getD i 0 → (∀ a, a < j → nI (f (K.2.1 + a)) = q_chr i a) → q_G Γ ad 3 27 [some (.ref r), some (.ref (200 + i)), some (.int (nI j))] [] n h 0 0 := by
  intro m
  induction m with
  | zero => intro j; intros; omega
  | succ m ih =>
    intro j hm hj h0
    refine g_iload_n (pc := 27) C (hl := rfl) dX5_isWord_27 ?_
    refine g_aload_n (pc := 28) C (hl := rfl) dX5_isWord_28 ?_
    refine g_Vs0 (pc := 29) C hi lj_len5 dX5_isWord_29 (sj_len i hi) (by decide) (Nat.le_of_ble_eq_true rfl) ?_
    refine g_ic_geN (pc := 32) C 64 dX5_isWord_32 (by decide) (by omega) (fun c32 => ?_) (fun c32 => ?_)
    · refine g_iconst (pc := 64) C qk_iconst_1 dX5_isWord_64 ?_
      exact g_iret (pc := 65) C F dX5_isWord_65 rfl rfl (by rw [hz1 (fun a ha => h0 a (by omega))]) (rfl)
    · refine g_aload_n (pc := 35) C (hl := rfl) dX5_isWord_35 ?_
      refine g_get (pc := 36) C fl5_12 dX5_isWord_36 hr rfl ?_
      refine g_aload_n (pc := 39) C (hl := rfl) dX5_isWord_39 ?_
      refine g_get (pc := 40) C fl5_90 dX5_isWord_40 hr rfl ?_
      refine g_iload_n (pc := 43) C (hl := rfl) dX5_isWord_43 ?_
      refine g_iaddN (pc := 44) C dX5_isWord_44 ?_
      refine g_V1v (pc := 45) C lv5_98 dX5_isWord_45 (s6_atY (K.2.1 + j) (hpt) (hpb) hlen (by omega)) hpt (by decide) (Nat.le_of_ble_eq_true rfl) ?_
      refine g_aload_n (pc := 48) C (hl := rfl) dX5_isWord_48 ?_
      refine g_iload_n (pc := 49) C (hl := rfl) dX5_isWord_49 ?_
      refine g_Vs1 (pc := 50) C hi lj_chr5 dX5_isWord_50 (sj_chr i j hi (by omega)) (by decide) (Nat.le_of_ble_eq_true rfl) ?_
      refine g_ic_eq (pc := 53) C 58 dX5_isWord_53 (by decide) (fun c53 => ?_) (fun c53 => ?_)
      · refine g_iincN (pc := 58) C (hl := rfl) (q_inc1 _) rfl dX5_isWord_58 ?_
        refine g_goto (pc := 61) C 27 dX5_isWord_61 (by decide) ?_
        exact ih (j + 1) (by omega) (by omega) (fun a ha => by by_cases q : a = j; exact q ▸ c53; exact h0 a (by omega))
      · refine g_iconst (pc := 56) C qk_iconst_0 dX5_isWord_56 ?_
        exact g_iret (pc := 57) C F dX5_isWord_57 rfl rfl (by rw [hz0 (fun q => c53 (q j (by omega)))]) (rfl)
set_option maxHeartbeats 2000000 in
set_option maxRecDepth 20000 in
theorem s5_isWord {n : Nat} {h : q_H} {r pt pb t di fa len : Nat} {K : mK} {f : Nat → Nat} (i : Nat) (hr : h r = XK pt t K di fa) (hpt : h pt = PO pb len) (hpb : h pb = PA f) (hlen : len ≤ 300) (hf : ∀ k, k < len → f k < 256) (hK : mKo len K) (hi : i < 7) : SP 4 yX5_isWord cX5_isWord 3 (some .boolean) [.ref r, .ref (200 + i)] n h (some (.int (if mWd f K i = true then nI 1 else nI 0))) h := by
  obtain ⟨k1, k2, k3, k4⟩ := hK
  have hl := (q_lenS i hi).1
  refine q_SPi RX5 rfl (by decide +kernel) (la := _) rfl rfl (fun Γ ad C F => ?_)
  refine g_aload_n (pc := 0) C (hl := rfl) dX5_isWord_0 ?_
  refine g_get (pc := 1) C fl5_55 dX5_isWord_1 hr rfl ?_
  refine g_if_neN (pc := 4) C 23 dX5_isWord_4 (by decide) (by omega) (fun c4 => ?_) (fun c4 => ?_)
  · refine g_iconst (pc := 23) C qk_iconst_0 dX5_isWord_23 ?_
    exact g_iret (pc := 24) C F dX5_isWord_24 rfl rfl (by rw [if_neg (fun z => by have q := mWd_i.mp z; first | exact c4 q.1 | exact c20 q.2.1)]) (rfl)
  · refine g_aload_n (pc := 7) C (hl := rfl) dX5_isWord_7 ?_
    refine g_get (pc := 8) C fl5_28 dX5_isWord_8 hr rfl ?_
    refine g_aload_n (pc := 11) C (hl := rfl) dX5_isWord_11 ?_
    refine g_get (pc := 12) C fl5_90 dX5_isWord_12 hr rfl ?_
    refine g_isubN (pc := 15) C dX5_isWord_15 (by omega) ?_
    refine g_aload_n (pc := 16) C (hl := rfl) dX5_isWord_16 ?_
    refine g_Vs0 (pc := 17) C hi lj_len5 dX5_isWord_17 (sj_len i hi) (by decide) (Nat.le_of_ble_eq_true rfl) ?_
    refine g_ic_eqN (pc := 20) C 25 dX5_isWord_20 (by decide) (by omega) (fun c20 => ?_) (fun c20 => ?_)
    · refine g_iconst (pc := 25) C qk_iconst_0 dX5_isWord_25 ?_
      refine g_istore_n (pc := 26) C rfl dX5_isWord_26 ?_
      exact l5_wd hr hpt hpb hlen ⟨by omega, k2⟩ hi hl (fun q => by rw [if_pos (mWd_i.mpr ⟨c4, c20, q⟩)]) (fun q => by rw [if_neg (fun z => q (mWd_i.mp z).2.2)]) C F 10 0 (by omega) (by omega) (fun a ha => absurd ha (by omega))
    · refine g_iconst (pc := 23) C qk_iconst_0 dX5_isWord_23 ?_
      exact g_iret (pc := 24) C F dX5_isWord_24 rfl rfl (by rw [if_neg (fun z => by have q := mWd_i.mp z; first | exact c4 q.1 | exact c20 q.2.1)]) (rfl)
theorem s5_isWordT {n : Nat} {h : q_H} {r pt pb t di fa len : Nat} {K : mK} {f : Nat → Nat} (i : Nat) (hr : h r = XK pt t K di fa) (hpt : h pt = PO pb len) (hpb : h pb = PA f) (hlen : len ≤ 300) (hf : ∀ k, k < len → f k < 256) (hK : mKo len K) (hi : i < 7) (hw : mWd f K i = true) : SP 4 yX5_isWord cX5_isWord 3 (some .boolean) [.ref r, .ref (200 + i)] n h (some (.int (nI 1))) h := by
  have hq := s5_isWord (n := n) i hr hpt hpb hlen hf hK hi
  rw [if_pos hw] at hq
  exact hq
theorem s5_isWordF {n : Nat} {h : q_H} {r pt pb t di fa len : Nat} {K : mK} {f : Nat → Nat} (i : Nat) (hr : h r = XK pt t K di fa) (hpt : h pt = PO pb len) (hpb : h pb = PA f) (hlen : len ≤ 300) (hf : ∀ k, k < len → f k < 256) (hK : mKo len K) (hi : i < 7) (hw : ¬ mWd f K i = true) : SP 4 yX5_isWord cX5_isWord 3 (some .boolean) [.ref r, .ref (200 + i)] n h (some (.int (nI 0))) h := by
  have hq := s5_isWord (n := n) i hr hpt hpb hlen hf hK hi
  rw [if_neg hw] at hq
  exact hq
set_option maxHeartbeats 2000000 in
set_option maxRecDepth 20000 in
theorem s5_sortNamed {n : Nat} {h : q_H} {r pt pb t di fa len : Nat} {K : mK} {f : Nat → Nat} (hr : h r = XK pt t K di fa) (hpt : h pt = PO pb len) (hpb : h pb = PA f) (hlen : len ≤ 300) (hf : ∀ k, k < len → f k < 256) (hK : mKo len K) : SP 5 yX5_sortNamed cX5_sortNamed 1 (some .int) [.ref r] n h (some (.int (nI (mSn f K)))) h := by
  refine q_SPi RX5 rfl (by decide +kernel) (la := _) rfl rfl (fun Γ ad C F => ?_)
  refine g_aload_n (pc := 0) C (hl := rfl) dX5_sortNamed_0 ?_
  refine g_ldcS (pc := 1) C (i := 1) zstr_80 dX5_sortNamed_1 ?_
  by_cases e1 : mWd f K 1 = true
  · refine g_V1v (pc := 3) C lv5_40 dX5_sortNamed_3 (s5_isWordT 1 (hr) (hpt) (hpb) hlen hf hK (by decide) e1) hr (by decide) (Nat.le_of_ble_eq_true rfl) ?_
    refine g_if_eqN (pc := 6) C 11 dX5_sortNamed_6 (by decide) (by decide) (fun q => absurd q (by decide)) (fun _ => ?_)
    refine g_iconst (pc := 9) C qk_iconst_1 dX5_sortNamed_9 ?_
    exact g_iret (pc := 10) C F dX5_sortNamed_10 rfl rfl (by unfold mSn; simp only [*, if_true, if_false, Bool.false_eq_true]) (rfl)
  · refine g_V1v (pc := 3) C lv5_40 dX5_sortNamed_3 (s5_isWordF 1 (hr) (hpt) (hpb) hlen hf hK (by decide) e1) hr (by decide) (Nat.le_of_ble_eq_true rfl) ?_
    refine g_if_eqN (pc := 6) C 11 dX5_sortNamed_6 (by decide) (by decide) (fun _ => ?_) (fun q => absurd q (by decide))
    refine g_aload_n (pc := 11) C (hl := rfl) dX5_sortNamed_11 ?_
    refine g_ldcS (pc := 12) C (i := 2) zstr_82 dX5_sortNamed_12 ?_
    by_cases e2 : mWd f K 2 = true
    · refine g_V1v (pc := 14) C lv5_40 dX5_sortNamed_14 (s5_isWordT 2 (hr) (hpt) (hpb) hlen hf hK (by decide) e2) hr (by decide) (Nat.le_of_ble_eq_true rfl) ?_
      refine g_if_eqN (pc := 17) C 22 dX5_sortNamed_17 (by decide) (by decide) (fun q => absurd q (by decide)) (fun _ => ?_)
      refine g_iconst (pc := 20) C qk_iconst_2 dX5_sortNamed_20 ?_
      exact g_iret (pc := 21) C F dX5_sortNamed_21 rfl rfl (by unfold mSn; simp only [*, if_true, if_false, Bool.false_eq_true]) (rfl)
    · refine g_V1v (pc := 14) C lv5_40 dX5_sortNamed_14 (s5_isWordF 2 (hr) (hpt) (hpb) hlen hf hK (by decide) e2) hr (by decide) (Nat.le_of_ble_eq_true rfl) ?_
      refine g_if_eqN (pc := 17) C 22 dX5_sortNamed_17 (by decide) (by decide) (fun _ => ?_) (fun q => absurd q (by decide))
      refine g_aload_n (pc := 22) C (hl := rfl) dX5_sortNamed_22 ?_
      refine g_ldcS (pc := 23) C (i := 3) zstr_84 dX5_sortNamed_23 ?_
      by_cases e3 : mWd f K 3 = true
      · refine g_V1v (pc := 25) C lv5_40 dX5_sortNamed_25 (s5_isWordT 3 (hr) (hpt) (hpb) hlen hf hK (by decide) e3) hr (by decide) (Nat.le_of_ble_eq_true rfl) ?_
        refine g_if_eqN (pc := 28) C 33 dX5_sortNamed_28 (by decide) (by decide) (fun q => absurd q (by decide)) (fun _ => ?_)
        refine g_iconst (pc := 31) C qk_iconst_3 dX5_sortNamed_31 ?_
        exact g_iret (pc := 32) C F dX5_sortNamed_32 rfl rfl (by unfold mSn; simp only [*, if_true, if_false, Bool.false_eq_true]) (rfl)
      · refine g_V1v (pc := 25) C lv5_40 dX5_sortNamed_25 (s5_isWordF 3 (hr) (hpt) (hpb) hlen hf hK (by decide) e3) hr (by decide) (Nat.le_of_ble_eq_true rfl) ?_
        refine g_if_eqN (pc := 28) C 33 dX5_sortNamed_28 (by decide) (by decide) (fun _ => ?_) (fun q => absurd q (by decide))
        refine g_aload_n (pc := 33) C (hl := rfl) dX5_sortNamed_33 ?_
        refine g_ldcS (pc := 34) C (i := 4) zstr_86 dX5_sortNamed_34 ?_
        by_cases e4 : mWd f K 4 = true
        · refine g_V1v (pc := 36) C lv5_40 dX5_sortNamed_36 (s5_isWordT 4 (hr) (hpt) (hpb) hlen hf hK (by decide) e4) hr (by decide) (Nat.le_of_ble_eq_true rfl) ?_
          refine g_if_eqN (pc := 39) C 44 dX5_sortNamed_39 (by decide) (by decide) (fun q => absurd q (by decide)) (fun _ => ?_)
          refine g_iconst (pc := 42) C qk_iconst_4 dX5_sortNamed_42 ?_
          exact g_iret (pc := 43) C F dX5_sortNamed_43 rfl rfl (by unfold mSn; simp only [*, if_true, if_false, Bool.false_eq_true]) (rfl)
        · refine g_V1v (pc := 36) C lv5_40 dX5_sortNamed_36 (s5_isWordF 4 (hr) (hpt) (hpb) hlen hf hK (by decide) e4) hr (by decide) (Nat.le_of_ble_eq_true rfl) ?_
          refine g_if_eqN (pc := 39) C 44 dX5_sortNamed_39 (by decide) (by decide) (fun _ => ?_) (fun q => absurd q (by decide))
          refine g_aload_n (pc := 44) C (hl := rfl) dX5_sortNamed_44 ?_
          refine g_ldcS (pc := 45) C (i := 5) zstr_88 dX5_sortNamed_45 ?_
          by_cases e5 : mWd f K 5 = true
          · refine g_V1v (pc := 47) C lv5_40 dX5_sortNamed_47 (s5_isWordT 5 (hr) (hpt) (hpb) hlen hf hK (by decide) e5) hr (by decide) (Nat.le_of_ble_eq_true rfl) ?_
            refine g_if_eqN (pc := 50) C 57 dX5_sortNamed_50 (by decide) (by decide) (fun q => absurd q (by decide)) (fun _ => ?_)
            refine g_iconst (pc := 53) C qk_iconst_5 dX5_sortNamed_53 ?_
            refine g_goto (pc := 54) C 58 dX5_sortNamed_54 (by decide) ?_
            exact g_iret (pc := 58) C F dX5_sortNamed_58 rfl rfl (by unfold mSn; simp only [*, if_true, if_false, Bool.false_eq_true]) (rfl)
          · refine g_V1v (pc := 47) C lv5_40 dX5_sortNamed_47 (s5_isWordF 5 (hr) (hpt) (hpb) hlen hf hK (by decide) e5) hr (by decide) (Nat.le_of_ble_eq_true rfl) ?_
            refine g_if_eqN (pc := 50) C 57 dX5_sortNamed_50 (by decide) (by decide) (fun _ => ?_) (fun q => absurd q (by decide))
            refine g_iconst (pc := 57) C qk_iconst_0 dX5_sortNamed_57 ?_
            exact g_iret (pc := 58) C F dX5_sortNamed_58 rfl rfl (by unfold mSn; simp only [*, if_true, if_false, Bool.false_eq_true]) (rfl)
set_option maxHeartbeats 2000000 in
set_option maxRecDepth 20000 in
theorem s5_rn {n : Nat} {h : q_H} {r pt pb t di fa len : Nat} {K : mK} {f : Nat → Nat} (mx : Nat) (hr : h r = XK pt t K di fa) (hpt : h pt = PO pb len) (hpb : h pb = PA f) (hlen : len ≤ 300) (hf : ∀ k, k < len → f k < 256) (hK : mKo len K) (hm : mx ≤ 30) : SP 3 yX5_readNumberAndEnd cX5_readNumberAndEnd 3 (some .int) [.ref r, .int (nI mx)] n h (some (.int (nI (mRn f len mx K fa).1))) (q_up h r (XK pt t (mRn f len mx K fa).2.1 di (mRn f len mx K fa).2.2)) := by
  have nrp : r ≠ pt := fun q => by rw [q, hpt] at hr; cases hr
  have nrb : r ≠ pb := fun q => by rw [q, hpb] at hr; cases hr
  obtain ⟨k1, k2, k3, k4⟩ := hK
  obtain ⟨n1, n2, n3, n4⟩ := mNxt_ok (f := f) (len := len) (K := K) hf ⟨k2, k4⟩
  refine q_SPi RX5 rfl (by decide +kernel) (la := _) rfl rfl (fun Γ ad C F => ?_)
  refine g_aload_n (pc := 0) C (hl := rfl) dX5_readNumberAndEnd_0 ?_
  refine g_get (pc := 1) C fl5_77 dX5_readNumberAndEnd_1 hr rfl ?_
  refine g_istore_n (pc := 4) C rfl dX5_readNumberAndEnd_4 ?_
  refine g_aload_n (pc := 5) C (hl := rfl) dX5_readNumberAndEnd_5 ?_
  refine g_get (pc := 6) C fl5_55 dX5_readNumberAndEnd_6 hr rfl ?_
  refine g_iconst (pc := 9) C qk_iconst_1 dX5_readNumberAndEnd_9 ?_
  refine g_ic_eqN (pc := 10) C 20 dX5_readNumberAndEnd_10 (by decide) (by omega) (fun c10 => ?_) (fun c10 => ?_)
  · refine g_iload_n (pc := 20) C (hl := rfl) dX5_readNumberAndEnd_20 ?_
    refine g_iload_n (pc := 21) C (hl := rfl) dX5_readNumberAndEnd_21 ?_
    refine g_ic_leN (pc := 22) C 32 dX5_readNumberAndEnd_22 (by decide) (by omega) (fun c22 => ?_) (fun c22 => ?_)
    · refine g_aload_n (pc := 32) C (hl := rfl) dX5_readNumberAndEnd_32 ?_
      refine g_V0u (pc := 33) C lv5_35 dX5_readNumberAndEnd_33 (s5_next (K := K) (hr) (hpt) (hpb) hlen hf k2) hr (by decide) (Nat.le_of_ble_eq_true rfl) ?_
      refine g_aload_n (pc := 36) C (hl := rfl) dX5_readNumberAndEnd_36 ?_
      refine g_get (pc := 37) C fl5_55 dX5_readNumberAndEnd_37 (q_up_s _ _ _) rfl ?_
      refine g_iconst (pc := 40) C qk_iconst_2 dX5_readNumberAndEnd_40 ?_
      refine g_ic_eqN (pc := 41) C 51 dX5_readNumberAndEnd_41 (by decide) (by omega) (fun c41 => ?_) (fun c41 => ?_)
      · refine g_aload_n (pc := 51) C (hl := rfl) dX5_readNumberAndEnd_51 ?_
        refine g_V0u (pc := 52) C lv5_35 dX5_readNumberAndEnd_52 (s5_next (K := (mNxt f len K)) ((q_up_s _ _ _)) (((q_up_n _ _ (Ne.symm nrp)).trans hpt)) (((q_up_n _ _ (Ne.symm nrb)).trans hpb)) hlen hf n2) (q_up_s _ _ _) (by decide) (Nat.le_of_ble_eq_true rfl) ?_
        refine g_iload_n (pc := 55) C (hl := rfl) dX5_readNumberAndEnd_55 ?_
        exact g_iret (pc := 56) C F dX5_readNumberAndEnd_56 rfl rfl (by unfold mRn; rw [if_pos c10, if_pos c22, if_pos c41]) (by unfold mRn; rw [if_pos c10, if_pos c22, if_pos c41]; (try simp only [q_up_u]); first | done | rfl)
      · refine g_aload_n (pc := 44) C (hl := rfl) dX5_readNumberAndEnd_44 ?_
        refine g_iconst (pc := 45) C qk_iconst_1 dX5_readNumberAndEnd_45 ?_
        refine g_put (pc := 46) C fp5_44 dX5_readNumberAndEnd_46 (q_up_s _ _ _) (Nat.le_of_ble_eq_true rfl) ?_
        refine g_iconst (pc := 49) C qk_iconst_0 dX5_readNumberAndEnd_49 ?_
        exact g_iret (pc := 50) C F dX5_readNumberAndEnd_50 rfl rfl (by unfold mRn; rw [if_pos c10, if_pos c22, if_neg c41]) (by unfold mRn; rw [if_pos c10, if_pos c22, if_neg c41]; (try simp only [q_up_u]); first | done | rfl)
    · refine g_aload_n (pc := 25) C (hl := rfl) dX5_readNumberAndEnd_25 ?_
      refine g_iconst (pc := 26) C qk_iconst_2 dX5_readNumberAndEnd_26 ?_
      refine g_put (pc := 27) C fp5_44 dX5_readNumberAndEnd_27 hr (Nat.le_of_ble_eq_true rfl) ?_
      refine g_iconst (pc := 30) C qk_iconst_0 dX5_readNumberAndEnd_30 ?_
      exact g_iret (pc := 31) C F dX5_readNumberAndEnd_31 rfl rfl (by unfold mRn; rw [if_pos c10, if_neg c22]) (by unfold mRn; rw [if_pos c10, if_neg c22]; (try simp only [q_up_u]); first | done | rfl)
  · refine g_aload_n (pc := 13) C (hl := rfl) dX5_readNumberAndEnd_13 ?_
    refine g_iconst (pc := 14) C qk_iconst_1 dX5_readNumberAndEnd_14 ?_
    refine g_put (pc := 15) C fp5_44 dX5_readNumberAndEnd_15 hr (Nat.le_of_ble_eq_true rfl) ?_
    refine g_iconst (pc := 18) C qk_iconst_0 dX5_readNumberAndEnd_18 ?_
    exact g_iret (pc := 19) C F dX5_readNumberAndEnd_19 rfl rfl (by unfold mRn; rw [if_neg c10]) (by unfold mRn; rw [if_neg c10]; (try simp only [q_up_u]); first | done | rfl)
set_option maxHeartbeats 2000000 in
set_option maxRecDepth 20000 in
theorem s5_rg {n : Nat} {h : q_H} {r t c pt pb tu mi o p e b len : Nat} {S : mP} {f : Nat → Nat} (hr : h r = XK pt t S.1 S.2.2.2.1 S.2.1) (hpt : h pt = PO pb len) (hpb : h pb = PA f) (ht : h t = TO c S.2.2.1 tu mi o p e b) (hc : h c = TA S.2.2.2.2) (hlen : len ≤ 300) (hf : ∀ k, k < len → f k < 256) (hbc : pb ≠ c) (hS : mPo len S) : SP 6 yX5_readGuest cX5_readGuest 3 none [.ref r] n h none (q_rd h r t c pt tu mi o p e b (mRg f len S)) := by
  have nrp : r ≠ pt := fun q => by rw [q, hpt] at hr; cases hr
  have nrb : r ≠ pb := fun q => by rw [q, hpb] at hr; cases hr
  have nrt : r ≠ t := fun q => by rw [q, ht] at hr; cases hr
  have nrc : r ≠ c := fun q => by rw [q, hc] at hr; cases hr
  have npt : pt ≠ t := fun q => by rw [q, ht] at hpt; cases hpt
  have npc : pt ≠ c := fun q => by rw [q, hc] at hpt; cases hpt
  have nbt : pb ≠ t := fun q => by rw [q, ht] at hpb; cases hpb
  have ntc : t ≠ c := fun q => by rw [q, hc] at ht; cases ht
  obtain ⟨⟨k1, k2, k3, k4⟩, hfa, hg, hd⟩ := hS
  have h1 := mNxt_ok (f := f) hf ⟨k2, k4⟩
  have h2 := mNxt_ok (f := f) hf ⟨h1.2.1, h1.2.2.2⟩
  refine q_SPi RX5 rfl (by decide +kernel) (la := _) rfl rfl (fun Γ ad C F => ?_)
  refine g_aload_n (pc := 0) C (hl := rfl) dX5_readGuest_0 ?_
  refine g_get (pc := 1) C fl5_21 dX5_readGuest_1 hr rfl ?_
  refine g_get (pc := 4) C fl5_58 dX5_readGuest_4 ht rfl ?_
  refine g_bipush (pc := 7) C qk_bipush_6 dX5_readGuest_7 ?_
  refine g_ic_ltN (pc := 9) C 18 dX5_readGuest_9 (by decide) (by omega) (fun c9 => ?_) (fun c9 => ?_)
  · refine g_aload_n (pc := 18) C (hl := rfl) dX5_readGuest_18 ?_
    refine g_V0u (pc := 19) C lv5_35 dX5_readGuest_19 (s5_next (K := S.1) (hr) (hpt) (hpb) hlen hf k2) hr (by decide) (Nat.le_of_ble_eq_true rfl) ?_
    refine g_aload_n (pc := 22) C (hl := rfl) dX5_readGuest_22 ?_
    refine g_V0v (pc := 23) C lv5_61 dX5_readGuest_23 (s5_sortNamed (K := (mNxt f len S.1)) ((q_up_s _ _ _)) (((q_up_n _ _ (Ne.symm nrp)).trans hpt)) (((q_up_n _ _ (Ne.symm nrb)).trans hpb)) hlen hf h1) (q_up_s _ _ _) (by decide) (Nat.le_of_ble_eq_true rfl) ?_
    refine g_istore_n (pc := 26) C rfl dX5_readGuest_26 ?_
    refine g_iload_n (pc := 27) C (hl := rfl) dX5_readGuest_27 ?_
    refine g_if_neN (pc := 28) C 37 dX5_readGuest_28 (by decide) (by have := mSn_b f (mNxt f len S.1); omega) (fun c28 => ?_) (fun c28 => ?_)
    · refine g_aload_n (pc := 37) C (hl := rfl) dX5_readGuest_37 ?_
      refine g_V0u (pc := 38) C lv5_35 dX5_readGuest_38 (s5_next (K := (mNxt f len S.1)) ((q_up_s _ _ _)) (((q_up_n _ _ (Ne.symm nrp)).trans hpt)) (((q_up_n _ _ (Ne.symm nrb)).trans hpb)) hlen hf h1.2.1) (q_up_s _ _ _) (by decide) (Nat.le_of_ble_eq_true rfl) ?_
      refine g_aload_n (pc := 41) C (hl := rfl) dX5_readGuest_41 ?_
      refine g_iconst (pc := 42) C qk_iconst_5 dX5_readGuest_42 ?_
      refine g_V1v (pc := 43) C lv5_65 dX5_readGuest_43 (s5_rn (K := (mNxt f len (mNxt f len S.1))) 5 ((q_up_s _ _ _)) (((q_up_n _ _ (Ne.symm nrp)).trans ((q_up_n _ _ (Ne.symm nrp)).trans hpt))) (((q_up_n _ _ (Ne.symm nrb)).trans ((q_up_n _ _ (Ne.symm nrb)).trans hpb))) hlen hf h2 (by omega)) (q_up_s _ _ _) (by decide) (Nat.le_of_ble_eq_true rfl) ?_
      refine g_istore_n (pc := 46) C rfl dX5_readGuest_46 ?_
      refine g_aload_n (pc := 47) C (hl := rfl) dX5_readGuest_47 ?_
      refine g_get (pc := 48) C fl5_44 dX5_readGuest_48 (q_up_s _ _ _) rfl ?_
      refine g_if_neN (pc := 51) C 63 dX5_readGuest_51 (by decide) (by have := (mRn_ok (mx := 5) (fa := S.2.1) hf h2 (by omega) hfa).2.2; omega) (fun c51 => ?_) (fun c51 => ?_)
      · exact g_vret (pc := 63) C F dX5_readGuest_63 rfl rfl (by unfold q_rd mRg; rw [if_pos c9, if_neg c28, if_neg c51]; simp only [q_up_u]; rw [q_upI (h := q_up h r _) ((q_up_n _ _ (Ne.symm nrc)).trans hc), q_upI (h := q_up h r _) ((q_up_n _ _ (Ne.symm nrt)).trans ht)]; first | done | rfl)
      · refine g_aload_n (pc := 54) C (hl := rfl) dX5_readGuest_54 ?_
        refine g_get (pc := 55) C fl5_21 dX5_readGuest_55 (q_up_s _ _ _) rfl ?_
        refine g_iload_n (pc := 58) C (hl := rfl) dX5_readGuest_58 ?_
        refine g_iload_n (pc := 59) C (hl := rfl) dX5_readGuest_59 ?_
        refine g_V2u (pc := 60) C lv5_69 dX5_readGuest_60 (s4_seat _ _ (((q_up_n _ _ (Ne.symm nrt)).trans ((q_up_n _ _ (Ne.symm nrt)).trans ((q_up_n _ _ (Ne.symm nrt)).trans ht)))) (((q_up_n _ _ (Ne.symm nrc)).trans ((q_up_n _ _ (Ne.symm nrc)).trans ((q_up_n _ _ (Ne.symm nrc)).trans hc)))) (by omega)) ((q_up_n _ _ (Ne.symm nrt)).trans ((q_up_n _ _ (Ne.symm nrt)).trans ((q_up_n _ _ (Ne.symm nrt)).trans ht))) (by decide) (Nat.le_of_ble_eq_true rfl) ?_
        exact g_vret (pc := 63) C F dX5_readGuest_63 rfl rfl (by unfold q_rd mRg; rw [if_pos c9, if_neg c28, if_pos c51]; rw [c51]; unfold mSeatT; simp only [q_up_u]; first | done | rfl)
    · refine g_aload_n (pc := 31) C (hl := rfl) dX5_readGuest_31 ?_
      refine g_iconst (pc := 32) C qk_iconst_1 dX5_readGuest_32 ?_
      refine g_put (pc := 33) C fp5_44 dX5_readGuest_33 (q_up_s _ _ _) (Nat.le_of_ble_eq_true rfl) ?_
      exact g_vret (pc := 36) C F dX5_readGuest_36 rfl rfl (by unfold q_rd mRg; rw [if_pos c9, if_pos c28]; simp only [q_up_u]; rw [q_upI (h := q_up h r _) ((q_up_n _ _ (Ne.symm nrc)).trans hc), q_upI (h := q_up h r _) ((q_up_n _ _ (Ne.symm nrt)).trans ht)]; first | done | rfl)
  · refine g_aload_n (pc := 12) C (hl := rfl) dX5_readGuest_12 ?_
    refine g_iconst (pc := 13) C qk_iconst_3 dX5_readGuest_13 ?_
    refine g_put (pc := 14) C fp5_44 dX5_readGuest_14 hr (Nat.le_of_ble_eq_true rfl) ?_
    exact g_vret (pc := 17) C F dX5_readGuest_17 rfl rfl (by unfold q_rd mRg; rw [if_neg c9]; simp only [q_up_u]; rw [q_upI (h := q_up h r _) ((q_up_n _ _ (Ne.symm nrc)).trans hc), q_upI (h := q_up h r _) ((q_up_n _ _ (Ne.symm nrt)).trans ht)]; first | done | rfl)
set_option maxHeartbeats 2000000 in
set_option maxRecDepth 20000 in
theorem s5_rd {n : Nat} {h : q_H} {r t c pt pb tu mi o p e b len : Nat} {S : mP} {f : Nat → Nat} (hr : h r = XK pt t S.1 S.2.2.2.1 S.2.1) (hpt : h pt = PO pb len) (hpb : h pb = PA f) (ht : h t = TO c S.2.2.1 tu mi o p e b) (hc : h c = TA S.2.2.2.2) (hlen : len ≤ 300) (hf : ∀ k, k < len → f k < 256) (hbc : pb ≠ c) (hS : mPo len S) : SP 6 yX5_readDish cX5_readDish 2 none [.ref r] n h none (q_rd h r t c pt tu mi o p e b (mRd f len S)) := by
  have nrp : r ≠ pt := fun q => by rw [q, hpt] at hr; cases hr
  have nrb : r ≠ pb := fun q => by rw [q, hpb] at hr; cases hr
  have nrt : r ≠ t := fun q => by rw [q, ht] at hr; cases hr
  have nrc : r ≠ c := fun q => by rw [q, hc] at hr; cases hr
  have npt : pt ≠ t := fun q => by rw [q, ht] at hpt; cases hpt
  have npc : pt ≠ c := fun q => by rw [q, hc] at hpt; cases hpt
  have nbt : pb ≠ t := fun q => by rw [q, ht] at hpb; cases hpb
  have ntc : t ≠ c := fun q => by rw [q, hc] at ht; cases ht
  obtain ⟨⟨k1, k2, k3, k4⟩, hfa, hg, hd⟩ := hS
  have h1 := mNxt_ok (f := f) hf ⟨k2, k4⟩
  refine q_SPi RX5 rfl (by decide +kernel) (la := _) rfl rfl (fun Γ ad C F => ?_)
  refine g_aload_n (pc := 0) C (hl := rfl) dX5_readDish_0 ?_
  refine g_get (pc := 1) C fl5_32 dX5_readDish_1 hr rfl ?_
  refine g_aload_n (pc := 4) C (hl := rfl) dX5_readDish_4 ?_
  refine g_get (pc := 5) C fl5_21 dX5_readDish_5 hr rfl ?_
  refine g_get (pc := 8) C fl5_58 dX5_readDish_8 ht rfl ?_
  refine g_ic_ltN (pc := 11) C 20 dX5_readDish_11 (by decide) (by omega) (fun c11 => ?_) (fun c11 => ?_)
  · refine g_aload_n (pc := 20) C (hl := rfl) dX5_readDish_20 ?_
    refine g_V0u (pc := 21) C lv5_35 dX5_readDish_21 (s5_next (K := S.1) (hr) (hpt) (hpb) hlen hf k2) hr (by decide) (Nat.le_of_ble_eq_true rfl) ?_
    refine g_aload_n (pc := 24) C (hl := rfl) dX5_readDish_24 ?_
    refine g_bipush (pc := 25) C qk_bipush_30 dX5_readDish_25 ?_
    refine g_V1v (pc := 27) C lv5_65 dX5_readDish_27 (s5_rn (K := (mNxt f len S.1)) 30 ((q_up_s _ _ _)) (((q_up_n _ _ (Ne.symm nrp)).trans hpt)) (((q_up_n _ _ (Ne.symm nrb)).trans hpb)) hlen hf h1 (by omega)) (q_up_s _ _ _) (by decide) (Nat.le_of_ble_eq_true rfl) ?_
    refine g_istore_n (pc := 30) C rfl dX5_readDish_30 ?_
    refine g_aload_n (pc := 31) C (hl := rfl) dX5_readDish_31 ?_
    refine g_get (pc := 32) C fl5_44 dX5_readDish_32 (q_up_s _ _ _) rfl ?_
    refine g_if_neN (pc := 35) C 61 dX5_readDish_35 (by decide) (by have := (mRn_ok (mx := 30) (fa := S.2.1) hf h1 (by omega) hfa).2.2; omega) (fun c35 => ?_) (fun c35 => ?_)
    · exact g_vret (pc := 61) C F dX5_readDish_61 rfl rfl (by unfold q_rd mRd; rw [if_pos c11, if_neg c35]; simp only [q_up_u]; rw [q_upI (h := q_up h r _) ((q_up_n _ _ (Ne.symm nrc)).trans hc), q_upI (h := q_up h r _) ((q_up_n _ _ (Ne.symm nrt)).trans ht)]; first | done | rfl)
    · refine g_aload_n (pc := 38) C (hl := rfl) dX5_readDish_38 ?_
      refine g_get (pc := 39) C fl5_21 dX5_readDish_39 (q_up_s _ _ _) rfl ?_
      refine g_iconst (pc := 42) C qk_iconst_4 dX5_readDish_42 ?_
      refine g_aload_n (pc := 43) C (hl := rfl) dX5_readDish_43 ?_
      refine g_get (pc := 44) C fl5_32 dX5_readDish_44 (q_up_s _ _ _) rfl ?_
      refine g_iload_n (pc := 47) C (hl := rfl) dX5_readDish_47 ?_
      refine g_V3u (pc := 48) C lv5_73 dX5_readDish_48 (s4_put4 _ _ (((q_up_n _ _ (Ne.symm nrt)).trans ((q_up_n _ _ (Ne.symm nrt)).trans ht))) (((q_up_n _ _ (Ne.symm nrc)).trans ((q_up_n _ _ (Ne.symm nrc)).trans hc))) (by omega)) ((q_up_n _ _ (Ne.symm nrt)).trans ((q_up_n _ _ (Ne.symm nrt)).trans ht)) (by decide) (Nat.le_of_ble_eq_true rfl) ?_
      refine g_aload_n (pc := 51) C (hl := rfl) dX5_readDish_51 ?_
      refine g_dup (pc := 52) C rfl dX5_readDish_52 ?_
      refine g_get (pc := 53) C fl5_32 dX5_readDish_53 ((q_up_n _ _ nrc).trans (q_up_s _ _ _)) rfl ?_
      refine g_iconst (pc := 56) C qk_iconst_1 dX5_readDish_56 ?_
      refine g_iaddN (pc := 57) C dX5_readDish_57 ?_
      refine g_put (pc := 58) C fp5_32 dX5_readDish_58 ((q_up_n _ _ nrc).trans (q_up_s _ _ _)) (Nat.le_of_ble_eq_true rfl) ?_
      exact g_vret (pc := 61) C F dX5_readDish_61 rfl rfl (by unfold q_rd mRd; rw [if_pos c11, if_pos c35]; rw [c35]; simp only [q_up_u, q_up_c _ (Ne.symm nrc)]; rw [q_upI (a := t) (by rw [q_up_n _ _ ntc, q_up_n _ _ (Ne.symm nrt)]; exact ht)]; first | done | rfl)
  · refine g_aload_n (pc := 14) C (hl := rfl) dX5_readDish_14 ?_
    refine g_iconst (pc := 15) C qk_iconst_3 dX5_readDish_15 ?_
    refine g_put (pc := 16) C fp5_44 dX5_readDish_16 hr (Nat.le_of_ble_eq_true rfl) ?_
    exact g_vret (pc := 19) C F dX5_readDish_19 rfl rfl (by unfold q_rd mRd; rw [if_neg c11]; simp only [q_up_u]; rw [q_upI (h := q_up h r _) ((q_up_n _ _ (Ne.symm nrc)).trans hc), q_upI (h := q_up h r _) ((q_up_n _ _ (Ne.symm nrt)).trans ht)]; first | done | rfl)
