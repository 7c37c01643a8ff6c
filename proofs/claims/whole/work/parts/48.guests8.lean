theorem s8_isGuestWordT {n : Nat} {h : q_H} {un ta fl st di pu at_ er en pa tr : Nat} {f : Nat → Nat} {K : mK} (h0 : h 87 = (MO un ta fl st K.2.1 K.2.2.1 (wSo f ta K.2.1) di pu at_ er en pa tr)) (hby : h 89 = PA f) (hta : ta ≤ 300) (hf : ∀ k, k < ta → f k < 256) (hK : wK f ta K) (e : mWd f K 0 = true) : SP 2 yX8_isGuestWord cX8_isGuestWord 1 (some .boolean) [.ref 87] n h (some (.int (nI 1))) h := by
  have q := s8_isGuestWord (n := n) h0 hby hta hf hK
  rw [if_pos e] at q
  exact q
theorem s8_isGuestWordF {n : Nat} {h : q_H} {un ta fl st di pu at_ er en pa tr : Nat} {f : Nat → Nat} {K : mK} (h0 : h 87 = (MO un ta fl st K.2.1 K.2.2.1 (wSo f ta K.2.1) di pu at_ er en pa tr)) (hby : h 89 = PA f) (hta : ta ≤ 300) (hf : ∀ k, k < ta → f k < 256) (hK : wK f ta K) (e : ¬ mWd f K 0 = true) : SP 2 yX8_isGuestWord cX8_isGuestWord 1 (some .boolean) [.ref 87] n h (some (.int (nI 0))) h := by
  have q := s8_isGuestWord (n := n) h0 hby hta hf hK
  rw [if_neg e] at q
  exact q
theorem s8_isDishWordT {n : Nat} {h : q_H} {un ta fl st di pu at_ er en pa tr : Nat} {f : Nat → Nat} {K : mK} (h0 : h 87 = (MO un ta fl st K.2.1 K.2.2.1 (wSo f ta K.2.1) di pu at_ er en pa tr)) (hby : h 89 = PA f) (hta : ta ≤ 300) (hf : ∀ k, k < ta → f k < 256) (hK : wK f ta K) (e : mWd f K 6 = true) : SP 2 yX8_isDishWord cX8_isDishWord 1 (some .boolean) [.ref 87] n h (some (.int (nI 1))) h := by
  have q := s8_isDishWord (n := n) h0 hby hta hf hK
  rw [if_pos e] at q
  exact q
theorem s8_isDishWordF {n : Nat} {h : q_H} {un ta fl st di pu at_ er en pa tr : Nat} {f : Nat → Nat} {K : mK} (h0 : h 87 = (MO un ta fl st K.2.1 K.2.2.1 (wSo f ta K.2.1) di pu at_ er en pa tr)) (hby : h 89 = PA f) (hta : ta ≤ 300) (hf : ∀ k, k < ta → f k < 256) (hK : wK f ta K) (e : ¬ mWd f K 6 = true) : SP 2 yX8_isDishWord cX8_isDishWord 1 (some .boolean) [.ref 87] n h (some (.int (nI 0))) h := by
  have q := s8_isDishWord (n := n) h0 hby hta hf hK
  rw [if_neg e] at q
  exact q
theorem s8_rgF {n : Nat} {h : q_H} {un ta fl st di pu at_ er en pa tr g : Nat} {f W T : Nat → Nat} {K : mK} (h0 : h 87 = (MO un ta fl st K.2.1 K.2.2.1 (wSo f ta K.2.1) di pu at_ er en pa tr)) (hW : h 88 = WA W) (hby : h 89 = PA f) (hta : ta ≤ 300) (hf : ∀ k, k < ta → f k < 256) (hK : wK f ta K) (TT : wT W 1092 g (wX T)) (hg6 : g ≤ 6) (hR : ¬ (mRg f ta (K, 0, g, di, T)).2.1 = 0) : ∃ W' : Nat → Nat, wOut W W' ∧ SP 4 yX8_readsGuest cX8_readsGuest 2 (some .boolean) [.ref 87] n h (some (.int (nI 0))) (q_up (q_up h 88 (WA W')) 87 (MO un ta (mRg f ta (K, 0, g, di, T)).2.1 st (mRg f ta (K, 0, g, di, T)).1.2.1 (mRg f ta (K, 0, g, di, T)).1.2.2.1 (wSo f ta (mRg f ta (K, 0, g, di, T)).1.2.1) di pu at_ er en pa tr)) := by
  have hz : ∀ e, q_up h 87 e = q_up (q_up h 88 (WA W)) 87 e := fun e => by rw [q_upI hW]
  unfold mRg mRn at hR ⊢
  dsimp only at hR ⊢
  by_cases hg : g < 6
  · rw [if_pos hg] at hR ⊢
    by_cases hs : (mSn f (mNxt f ta K)) = 0
    · rw [if_pos hs] at hR ⊢
      exact ⟨_, wOut_up (by omega) (wOut_up (by omega) (wOut_r W)), s8_rg1 h0 hW hby hta hf hK TT hg hs⟩
    · rw [if_neg hs] at hR ⊢
      have o3 : wOut W (va_up (va_up (va_up (va_up W 1092 (g + 1)) (1095 + g) (mSn f (mNxt f ta K))) (1113 + g) g) (1125 + g) g) := wOut_up (by omega) (wOut_up (by omega) (wOut_up (by omega) (wOut_up (by omega) (wOut_r W))))
      by_cases hn : (mNxt f ta (mNxt f ta K)).1 = 1
      · rw [if_pos hn] at hR ⊢
        by_cases hv : (mNxt f ta (mNxt f ta K)).2.2.2 ≤ 5
        · rw [if_pos hv] at hR ⊢
          by_cases hp : (mNxt f ta (mNxt f ta (mNxt f ta K))).1 = 2
          · rw [if_pos hp] at hR
            exact absurd (by rw [if_pos rfl]) hR
          · rw [if_neg hp] at hR ⊢
            rw [if_neg (show ¬ (1 : Nat) = 0 by decide)]
            exact ⟨_, wOut_up (by omega) o3, s8_rg4 h0 hW hby hta hf hK TT hg hs hn hv hp⟩
        · rw [if_neg hv] at hR ⊢
          rw [if_neg (show ¬ (2 : Nat) = 0 by decide)]
          exact ⟨_, wOut_up (by omega) o3, s8_rg3 h0 hW hby hta hf hK TT hg hs hn (by omega)⟩
      · rw [if_neg hn] at hR ⊢
        rw [if_neg (show ¬ (1 : Nat) = 0 by decide)]
        exact ⟨_, o3, s8_rg2 h0 hW hby hta hf hK TT hg hs hn⟩
  · rw [if_neg hg]
    have q := s8_rg6 (n := n) h0 hW hby hta hf hK TT (by omega)
    rw [hz] at q
    exact ⟨W, wOut_r W, q⟩
theorem wSeatT {W T : Nat → Nat} {g so v : Nat} (TT : wT W 1092 g (wX T)) (hg : g < 6) : wT (va_up (va_up (va_up (va_up (va_up W 1092 (g + 1)) (1095 + g) so) (1113 + g) g) (1125 + g) g) (1101 + g) v) 1092 (g + 1) (wX (mSeatT T g so v)) := by
  have T1 : wT (va_up W 1092 (g + 1)) 1092 (g + 1) (wX T) := by rw [wS2_n TT]; exact wT_put _ _ _ _
  rw [wS2_so T1 hg, (wS2_se (wT_put _ _ _ _) hg).trans (wPut_put _ _ _ _ _ _), (wS2_sl (wT_put _ _ _ _) hg).trans (wPut_put _ _ _ _ _ _), (wS2_wa (wT_put _ _ _ _) hg).trans (wPut_put _ _ _ _ _ _)]
  refine wT_E (x := (va_up (va_up (va_up (va_up T (0 + g) so) (12 + g) g) (30 + g) g) (6 + g) v, (wX T).2)) ⟨fun i hi => ?_, rfl, rfl⟩ (by exact wT_put _ _ _ _)
  show va_up (va_up (va_up (va_up T (0 + g) so) (12 + g) g) (30 + g) g) (6 + g) v i = mSeatT T g so v i
  unfold mSeatT va_up
  repeat' split
  all_goals first | rfl | omega
theorem s8_rgY {n : Nat} {h : q_H} {un ta fl st di pu at_ er en pa tr g : Nat} {f W T : Nat → Nat} {K : mK} (h0 : h 87 = (MO un ta fl st K.2.1 K.2.2.1 (wSo f ta K.2.1) di pu at_ er en pa tr)) (hW : h 88 = WA W) (hby : h 89 = PA f) (hta : ta ≤ 300) (hf : ∀ k, k < ta → f k < 256) (hK : wK f ta K) (TT : wT W 1092 g (wX T)) (hg6 : g ≤ 6) (hR : (mRg f ta (K, 0, g, di, T)).2.1 = 0) : ∃ (W' : Nat → Nat) (K3 : mK), wOut W W' ∧ wT W' 1092 (mRg f ta (K, 0, g, di, T)).2.2.1 (wX (mRg f ta (K, 0, g, di, T)).2.2.2.2) ∧ (K3.2.2.1 ≤ ta ∧ (mRg f ta (K, 0, g, di, T)).1 = mNxt f ta K3) ∧ ((mRg f ta (K, 0, g, di, T)).2.2.1 = g + 1 ∧ (mRg f ta (K, 0, g, di, T)).2.2.2.1 = di ∧ g < 6) ∧ SP 4 yX8_readsGuest cX8_readsGuest 2 (some .boolean) [.ref 87] n h (some (.int (nI 1))) (q_up (q_up h 88 (WA W')) 87 (MO un ta fl st K3.2.1 K3.2.2.1 (wSo f ta K3.2.1) di pu at_ er en pa tr)) := by
  have wk4 := wK_n (f := f) (wK_n (f := f) (wK_n (f := f) hK.2.2.2).2.2.2).2.2.2
  unfold mRg mRn at hR ⊢
  dsimp only at hR ⊢
  by_cases hg : g < 6
  · rw [if_pos hg] at hR ⊢
    by_cases hs : (mSn f (mNxt f ta K)) = 0
    · rw [if_pos hs] at hR
      exact absurd hR (Nat.succ_ne_zero _)
    · rw [if_neg hs] at hR ⊢
      by_cases hn : (mNxt f ta (mNxt f ta K)).1 = 1
      · rw [if_pos hn] at hR ⊢
        by_cases hv : (mNxt f ta (mNxt f ta K)).2.2.2 ≤ 5
        · rw [if_pos hv] at hR ⊢
          by_cases hp : (mNxt f ta (mNxt f ta (mNxt f ta K))).1 = 2
          · rw [if_pos hp]
            rw [if_pos rfl]
            refine ⟨_, (mNxt f ta (mNxt f ta (mNxt f ta K))), wOut_up (by omega) (wOut_up (by omega) (wOut_up (by omega) (wOut_up (by omega) (wOut_up (by omega) (wOut_r W))))), wSeatT TT hg, ⟨wk4.2.2.2, rfl⟩, ⟨rfl, rfl, hg⟩, s8_rgT h0 hW hby hta hf hK TT hg hs hn hv hp⟩
          · rw [if_neg hp, if_neg (show ¬ (1 : Nat) = 0 by decide)] at hR
            exact absurd hR (Nat.succ_ne_zero _)
        · rw [if_neg hv, if_neg (show ¬ (2 : Nat) = 0 by decide)] at hR
          exact absurd hR (Nat.succ_ne_zero _)
      · rw [if_neg hn, if_neg (show ¬ (1 : Nat) = 0 by decide)] at hR
        exact absurd hR (Nat.succ_ne_zero _)
  · rw [if_neg hg] at hR
    exact absurd hR (Nat.succ_ne_zero _)
theorem s8_rdF {n : Nat} {h : q_H} {un ta fl st di pu at_ er en pa tr g : Nat} {f W T : Nat → Nat} {K : mK} (h0 : h 87 = (MO un ta fl st K.2.1 K.2.2.1 (wSo f ta K.2.1) di pu at_ er en pa tr)) (hW : h 88 = WA W) (hby : h 89 = PA f) (hta : ta ≤ 300) (hf : ∀ k, k < ta → f k < 256) (hK : wK f ta K) (TT : wT W 1092 g (wX T)) (hg6 : g ≤ 6) (hdi : di ≤ g) (hR : ¬ (mRd f ta (K, 0, g, di, T)).2.1 = 0) : ∃ (W' : Nat → Nat) (di' : Nat), wOut W W' ∧ SP 4 yX8_readsDish cX8_readsDish 1 (some .boolean) [.ref 87] n h (some (.int (nI 0))) (q_up (q_up h 88 (WA W')) 87 (MO un ta (mRd f ta (K, 0, g, di, T)).2.1 st (mRd f ta (K, 0, g, di, T)).1.2.1 (mRd f ta (K, 0, g, di, T)).1.2.2.1 (wSo f ta (mRd f ta (K, 0, g, di, T)).1.2.1) di' pu at_ er en pa tr)) := by
  have hz : ∀ e, q_up h 87 e = q_up (q_up h 88 (WA W)) 87 e := fun e => by rw [q_upI hW]
  unfold mRd mRn at hR ⊢
  dsimp only at hR ⊢
  by_cases hg : di < g
  · rw [if_pos hg] at hR ⊢
    have o3 : wOut W (va_up W (1119 + di) (mNxt f ta K).2.2.2) := wOut_up (by omega) (wOut_r W)
    by_cases hn : (mNxt f ta K).1 = 1
    · rw [if_pos hn] at hR ⊢
      by_cases hv : (mNxt f ta K).2.2.2 ≤ 30
      · rw [if_pos hv] at hR ⊢
        by_cases hp : (mNxt f ta (mNxt f ta K)).1 = 2
        · rw [if_pos hp] at hR
          exact absurd (by rw [if_pos rfl]) hR
        · rw [if_neg hp] at hR ⊢
          rw [if_neg (show ¬ (1 : Nat) = 0 by decide)]
          exact ⟨_, _, o3, s8_rd4 h0 hW hby hta hf hK TT hg hg6 hn hv hp⟩
      · rw [if_neg hv] at hR ⊢
        rw [if_neg (show ¬ (2 : Nat) = 0 by decide)]
        exact ⟨_, _, o3, s8_rd3 h0 hW hby hta hf hK TT hg hg6 hn (by omega)⟩
    · rw [if_neg hn] at hR ⊢
      rw [if_neg (show ¬ (1 : Nat) = 0 by decide)]
      have q := s8_rd2 (n := n) h0 hW hby hta hf hK TT hg hg6 hn
      rw [hz] at q
      exact ⟨W, _, wOut_r W, q⟩
  · rw [if_neg hg]
    have q := s8_rd6 (n := n) h0 hW hby hta hf hK TT (by omega) hg6
    rw [hz] at q
    exact ⟨W, _, wOut_r W, q⟩
theorem s8_rdY {n : Nat} {h : q_H} {un ta fl st di pu at_ er en pa tr g : Nat} {f W T : Nat → Nat} {K : mK} (h0 : h 87 = (MO un ta fl st K.2.1 K.2.2.1 (wSo f ta K.2.1) di pu at_ er en pa tr)) (hW : h 88 = WA W) (hby : h 89 = PA f) (hta : ta ≤ 300) (hf : ∀ k, k < ta → f k < 256) (hK : wK f ta K) (TT : wT W 1092 g (wX T)) (hg6 : g ≤ 6) (hdi : di ≤ g) (hR : (mRd f ta (K, 0, g, di, T)).2.1 = 0) : ∃ (W' : Nat → Nat) (K3 : mK), wOut W W' ∧ wT W' 1092 (mRd f ta (K, 0, g, di, T)).2.2.1 (wX (mRd f ta (K, 0, g, di, T)).2.2.2.2) ∧ (K3.2.2.1 ≤ ta ∧ (mRd f ta (K, 0, g, di, T)).1 = mNxt f ta K3) ∧ ((mRd f ta (K, 0, g, di, T)).2.2.1 = g ∧ (mRd f ta (K, 0, g, di, T)).2.2.2.1 = di + 1 ∧ di < g) ∧ SP 4 yX8_readsDish cX8_readsDish 1 (some .boolean) [.ref 87] n h (some (.int (nI 1))) (q_up (q_up h 88 (WA W')) 87 (MO un ta fl st K3.2.1 K3.2.2.1 (wSo f ta K3.2.1) (di + 1) pu at_ er en pa tr)) := by
  have wk4 := wK_n (f := f) (wK_n (f := f) hK.2.2.2).2.2.2
  unfold mRd mRn at hR ⊢
  dsimp only at hR ⊢
  by_cases hg : di < g
  · rw [if_pos hg] at hR ⊢
    by_cases hn : (mNxt f ta K).1 = 1
    · rw [if_pos hn] at hR ⊢
      by_cases hv : (mNxt f ta K).2.2.2 ≤ 30
      · rw [if_pos hv] at hR ⊢
        by_cases hp : (mNxt f ta (mNxt f ta K)).1 = 2
        · rw [if_pos hp]
          rw [if_pos rfl]
          refine ⟨_, (mNxt f ta (mNxt f ta K)), wOut_up (by omega) (wOut_r W), ?_, ⟨wk4.2.2.2, rfl⟩, ⟨rfl, rfl, hg⟩, s8_rdT h0 hW hby hta hf hK TT hg hg6 hn hv hp⟩
          rw [wS2_po TT (by omega)]
          exact wT_put _ _ _ _
        · rw [if_neg hp, if_neg (show ¬ (1 : Nat) = 0 by decide)] at hR
          exact absurd hR (Nat.succ_ne_zero _)
      · rw [if_neg hv, if_neg (show ¬ (2 : Nat) = 0 by decide)] at hR
        exact absurd hR (Nat.succ_ne_zero _)
    · rw [if_neg hn, if_neg (show ¬ (1 : Nat) = 0 by decide)] at hR
      exact absurd hR (Nat.succ_ne_zero _)
  · rw [if_neg hg] at hR
    exact absurd hR (Nat.succ_ne_zero _)
noncomputable def wCt (f : Nat → Nat) (ta : Nat) (S : mP) : mP := mFin (mLd f ta (7 - S.2.2.2.1) (if S.2.2.2.1 = 0 then mLg f ta (7 - S.2.2.1) S else S))
theorem mLg_f {f : Nat → Nat} {ta : Nat} {S : mP} (h : ¬ S.2.1 = 0) : ∀ m, mLg f ta m S = S
  | 0 => rfl
  | m + 1 => if_neg (fun q => h q.1)
theorem mLd_f {f : Nat → Nat} {ta : Nat} {S : mP} (h : ¬ S.2.1 = 0) : ∀ m, mLd f ta m S = S
  | 0 => rfl
  | m + 1 => if_neg (fun q => h q.1)
theorem mLg_n {f : Nat → Nat} {ta : Nat} {S : mP} (h : ¬ mWd f S.1 0 = true) : ∀ m, mLg f ta m S = S
  | 0 => rfl
  | m + 1 => if_neg (fun q => h q.2)
theorem mLd_n {f : Nat → Nat} {ta : Nat} {S : mP} (h : ¬ mWd f S.1 6 = true) : ∀ m, mLd f ta m S = S
  | 0 => rfl
  | m + 1 => if_neg (fun q => h q.2)
theorem mFin_f {S : mP} (h : ¬ S.2.1 = 0) : mFin S = S := if_neg (fun q => h q.1)
theorem wCt_f {f : Nat → Nat} {ta : Nat} {S : mP} (h : ¬ S.2.1 = 0) : wCt f ta S = S := by
  unfold wCt
  rw [mLg_f h, ite_self, mLd_f h, mFin_f h]
theorem wCt_o {f : Nat → Nat} {ta : Nat} {K : mK} {g di : Nat} {T : Nat → Nat} (h0 : ¬ (mWd f K 0 = true ∧ di = 0)) (h6 : ¬ mWd f K 6 = true) : wCt f ta (K, 0, g, di, T) = mFin (K, 0, g, di, T) := by
  unfold wCt
  dsimp only
  by_cases hd : di = 0
  · rw [if_pos hd, mLg_n (fun q => h0 ⟨q, hd⟩), mLd_n h6]
  · rw [if_neg hd, mLd_n h6]
theorem wCt_g {f : Nat → Nat} {ta : Nat} {K : mK} {g di : Nat} {T : Nat → Nat} (hg : g ≤ 6) (hd : di = 0) (e0 : mWd f K 0 = true) (hR : (mRg f ta (K, 0, g, di, T)).2.1 = 0 → (mRg f ta (K, 0, g, di, T)).2.2.1 = g + 1 ∧ (mRg f ta (K, 0, g, di, T)).2.2.2.1 = di) : wCt f ta (K, 0, g, di, T) = wCt f ta (mRg f ta (K, 0, g, di, T)) := by
  have e1 : mLg f ta (7 - g) (K, 0, g, di, T) = mLg f ta (6 - g) (mRg f ta (K, 0, g, di, T)) := by
    rw [show 7 - g = (6 - g) + 1 by omega]
    exact if_pos ⟨rfl, e0⟩
  unfold wCt
  dsimp only
  rw [if_pos hd, e1]
  by_cases h : (mRg f ta (K, 0, g, di, T)).2.1 = 0
  · rw [(hR h).1, (hR h).2, if_pos hd, show 7 - (g + 1) = 6 - g by omega]
  · rw [mLg_f h, mLg_f h, ite_self, mLd_f h, mLd_f h]
theorem wCt_d {f : Nat → Nat} {ta : Nat} {K : mK} {g di : Nat} {T : Nat → Nat} (hd : di ≤ 6) (e0 : ¬ mWd f K 0 = true) (e6 : mWd f K 6 = true) (hR : (mRd f ta (K, 0, g, di, T)).2.1 = 0 → (mRd f ta (K, 0, g, di, T)).2.2.2.1 = di + 1) : wCt f ta (K, 0, g, di, T) = wCt f ta (mRd f ta (K, 0, g, di, T)) := by
  have e1 : mLd f ta (7 - di) (K, 0, g, di, T) = mLd f ta (6 - di) (mRd f ta (K, 0, g, di, T)) := by
    rw [show 7 - di = (6 - di) + 1 by omega]
    exact if_pos ⟨rfl, e6⟩
  unfold wCt
  dsimp only
  rw [mLg_n e0, ite_self, e1]
  by_cases h : (mRd f ta (K, 0, g, di, T)).2.1 = 0
  · rw [hR h, if_neg (Nat.succ_ne_zero _), show 7 - (di + 1) = 6 - di by omega]
  · rw [mLg_f h, ite_self, mLd_f h, mLd_f h]
theorem wWd_x {f : Nat → Nat} {ta : Nat} {K : mK} (e0 : mWd f K 0 = true) : ¬ mWd f K 6 = true := fun q => by
  have h1 := (mWd_i.mp e0).2.1
  have h2 := (mWd_i.mp q).2.1
  rw [h1] at h2
  exact absurd h2 (by decide)
/-- what reading ends with: good or not, the row or the fault -/
def wPo (f : Nat → Nat) (ta fl : Nat) (R : mP) (W W' : Nat → Nat) (r sa' fl' : Nat) : Prop := wOut W W' ∧ ((R.2.1 = 0 ∧ r = 1 ∧ fl' = fl ∧ wT W' 1092 R.2.2.1 (wX R.2.2.2.2)) ∨ (¬ R.2.1 = 0 ∧ r = 0 ∧ fl' = R.2.1 ∧ sa' = R.1.2.1))
theorem wP_e {S : mP} {K : mK} {g di : Nat} (a : S.1 = K) (b : S.2.1 = 0) (c : S.2.2.1 = g) (d : S.2.2.2.1 = di) : S = (K, 0, g, di, S.2.2.2.2) := by
  obtain ⟨s1, s2, s3, s4, s5⟩ := S
  dsimp only at a b c d
  rw [a, b, c, d]
set_option maxHeartbeats 2000000 in
set_option maxRecDepth 20000 in
theorem l8_rl {n un ta fl st pu at_ er en pa tr : Nat} {f : Nat → Nat} (hta : ta ≤ 300) (hf : ∀ k, k < ta → f k < 256) : ∀ (m g di : Nat) (K : mK) (T W : Nat → Nat) (h : q_H), 12 < g + di + m → h 87 = (MO un ta fl st K.2.1 K.2.2.1 (wSo f ta K.2.1) di pu at_ er en pa tr) → h 88 = WA W → h 89 = PA f → wK f ta K → wT W 1092 g (wX T) → g ≤ 6 → di ≤ g → (g = 0 → mWd f K 0 = true) → ∃ (r sa' ne' so' di' fl' : Nat) (W' : Nat → Nat), wPo f ta fl (wCt f ta (K, 0, g, di, T)) W W' r sa' fl' ∧ ∀ (Γ : q_X) (ad : Nat → Nat), q_C Γ ad 5 0 0 RX8 yX8_reads cX8_reads 4 (some .boolean) → q_N Γ ad n (some (.int (nI r))) (q_up (q_up h 88 (WA W')) 87 (MO un ta fl' st sa' ne' so' di' pu at_ er en pa tr)) → ∀ v2 v3 : Option Value, q_G Γ ad 4 54 [some (.ref 87), some (.int (nI 1)), v2, v3] [] n h 0 0 := by
  intro m
  induction m with
  | zero => intro g di K T W h hm; intros; omega
  | succ m ih =>
    intro g di K T W h hm h0 hW hby hK TT hg6 hdg hg0
    have hq0 : q_up (q_up h 88 (WA W)) 87 (MO un ta fl st K.2.1 K.2.2.1 (wSo f ta K.2.1) di pu at_ er en pa tr) = h := by rw [q_upI hW, q_upI h0]
    by_cases hso : wSo f ta K.2.1 = 0
    · have k3 : K.1 = 3 := hK.1.2.2.2.mpr hso
      have e0 : ¬ mWd f K 0 = true := fun q => absurd ((mWd_i.mp q).1.symm.trans k3) (by decide)
      have e6 : ¬ mWd f K 6 = true := fun q => absurd ((mWd_i.mp q).1.symm.trans k3) (by decide)
      have e : wCt f ta (K, 0, g, di, T) = (K, 0, g, di, T) := (wCt_o (fun q => e0 q.1) e6).trans (if_neg (fun q => q.2 k3))
      refine ⟨1, K.2.1, K.2.2.1, wSo f ta K.2.1, di, fl, W, ⟨wOut_r W, Or.inl (by rw [e]; exact ⟨rfl, rfl, rfl, TT⟩)⟩, fun Γ ad C F v2 v3 => ?_⟩
      rw [hq0] at F
      refine g_iload_n (pc := 54) C (hl := rfl) dX8_reads_54 ?_
      refine g_if_eqN (pc := 55) C 148 dX8_reads_55 (by decide) (by decide) (fun q => absurd q (by decide)) (fun _ => ?_)
      refine g_aload_n (pc := 58) C (hl := rfl) dX8_reads_58 ?_
      refine g_get (pc := 59) C fl8_92 dX8_reads_59 h0 rfl ?_
      refine g_if_eqN (pc := 62) C 148 dX8_reads_62 (by decide) (by have := wSo_b f ta K.2.1; omega) (fun _ => ?_) (fun q => absurd (hso) q)
      refine g_iload_n (pc := 148) C (hl := rfl) dX8_reads_148 ?_
      exact g_iret (pc := 149) C F dX8_reads_149 rfl rfl (rfl) (by first | (simp only [q_up_u, q_up_c _ (show (87 : Nat) ≠ 88 by decide)]; done) | (simp only [q_up_u, q_up_c _ (show (87 : Nat) ≠ 88 by decide)]; rfl) | rfl)
    · by_cases e0 : mWd f K 0 = true
      · have e6 := wWd_x (ta := ta) e0
        by_cases hd : di = 0
        · by_cases hR : (mRg f ta (K, 0, g, di, T)).2.1 = 0
          · obtain ⟨W1, K3, o1, T1, hk3, ⟨n1, n2, n3⟩, sp⟩ := s8_rgY (n := n) h0 hW hby hta hf hK TT hg6 hR
            obtain ⟨r, sa', ne', so', di', fl', W', po, G⟩ := ih (g + 1) di (mNxt f ta K3) (mRg f ta (K, 0, g, di, T)).2.2.2.2 W1 (q_up (q_up (q_up h 88 (WA W1)) 87 (MO un ta fl st K3.2.1 K3.2.2.1 (wSo f ta K3.2.1) di pu at_ er en pa tr)) 87 (MO un ta fl st (mNxt f ta K3).2.1 (mNxt f ta K3).2.2.1 (wSo f ta (mNxt f ta K3).2.1) di pu at_ er en pa tr)) (by omega) (q_up_s _ _ _) ((q_up_n _ _ (by decide)).trans ((q_up_n _ _ (by decide)).trans (q_up_s _ _ _))) ((q_up_n _ _ (by decide)).trans ((q_up_n _ _ (by decide)).trans ((q_up_n _ _ (by decide)).trans hby))) (wK_n hk3.1) (by rw [← n1]; exact T1) (by omega) (by omega) (fun q => absurd q (Nat.succ_ne_zero _))
            have e : wCt f ta (K, 0, g, di, T) = wCt f ta (mNxt f ta K3, 0, g + 1, di, (mRg f ta (K, 0, g, di, T)).2.2.2.2) := by
              rw [wCt_g hg6 hd e0 (fun _ => ⟨n1, n2⟩)]
              exact congrArg (wCt f ta) (wP_e hk3.2 hR n1 n2)
            refine ⟨r, sa', ne', so', di', fl', W', ⟨wOut_t o1 po.1, by rw [e]; exact po.2⟩, fun Γ ad C F v2 v3 => ?_⟩
            rw [show (q_up (q_up h 88 (WA W')) 87 (MO un ta fl' st sa' ne' so' di' pu at_ er en pa tr)) = q_up (q_up (q_up (q_up (q_up h 88 (WA W1)) 87 (MO un ta fl st K3.2.1 K3.2.2.1 (wSo f ta K3.2.1) di pu at_ er en pa tr)) 87 (MO un ta fl st (mNxt f ta K3).2.1 (mNxt f ta K3).2.2.1 (wSo f ta (mNxt f ta K3).2.1) di pu at_ er en pa tr)) 88 (WA W')) 87 (MO un ta fl' st sa' ne' so' di' pu at_ er en pa tr) by simp only [q_up_u, q_up_c _ (show (87 : Nat) ≠ 88 by decide)]] at F
            refine g_iload_n (pc := 54) C (hl := rfl) dX8_reads_54 ?_
            refine g_if_eqN (pc := 55) C 148 dX8_reads_55 (by decide) (by decide) (fun q => absurd q (by decide)) (fun _ => ?_)
            refine g_aload_n (pc := 58) C (hl := rfl) dX8_reads_58 ?_
            refine g_get (pc := 59) C fl8_92 dX8_reads_59 h0 rfl ?_
            refine g_if_eqN (pc := 62) C 148 dX8_reads_62 (by decide) (by have := wSo_b f ta K.2.1; omega) (fun q => absurd q (hso)) (fun _ => ?_)
            refine g_aload_n (pc := 65) C (hl := rfl) dX8_reads_65 ?_
            refine g_V0v (pc := 66) C lv8_126 dX8_reads_66 (s8_isGuestWordT h0 hby hta hf hK e0) h0 (by decide) (Nat.le_of_ble_eq_true rfl) ?_
            refine g_if_eqN (pc := 69) C 83 dX8_reads_69 (by decide) (by decide) (fun q => absurd q (by decide)) (fun _ => ?_)
            refine g_aload_n (pc := 72) C (hl := rfl) dX8_reads_72 ?_
            refine g_get (pc := 73) C fl8_123 dX8_reads_73 h0 rfl ?_
            refine g_if_neN (pc := 76) C 83 dX8_reads_76 (by decide) (by omega) (fun q => absurd q (fun z => z hd)) (fun _ => ?_)
            refine g_iconst (pc := 79) C qk_iconst_1 dX8_reads_79 ?_
            refine g_goto (pc := 80) C 84 dX8_reads_80 (by decide) ?_
            refine g_istore_n (pc := 84) C rfl dX8_reads_84 ?_
            refine g_aload_n (pc := 85) C (hl := rfl) dX8_reads_85 ?_
            refine g_V0v (pc := 86) C lv8_129 dX8_reads_86 (s8_isDishWordF h0 hby hta hf hK e6) h0 (by decide) (Nat.le_of_ble_eq_true rfl) ?_
            refine g_if_eqN (pc := 89) C 107 dX8_reads_89 (by decide) (by decide) (fun _ => ?_) (fun q => absurd q (by decide))
            refine g_iconst (pc := 107) C qk_iconst_0 dX8_reads_107 ?_
            refine g_istore_n (pc := 108) C rfl dX8_reads_108 ?_
            refine g_iload_n (pc := 109) C (hl := rfl) dX8_reads_109 ?_
            refine g_if_eqN (pc := 110) C 120 dX8_reads_110 (by decide) (by decide) (fun q => absurd q (by decide)) (fun _ => ?_)
            refine g_aload_n (pc := 113) C (hl := rfl) dX8_reads_113 ?_
            refine g_V0v (pc := 114) C lv8_132 dX8_reads_114 (sp) h0 (by decide) (Nat.le_of_ble_eq_true rfl) ?_
            refine g_goto (pc := 117) C 136 dX8_reads_117 (by decide) ?_
            refine g_istore_n (pc := 136) C rfl dX8_reads_136 ?_
            refine g_iload_n (pc := 137) C (hl := rfl) dX8_reads_137 ?_
            refine g_if_eqN (pc := 138) C 145 dX8_reads_138 (by decide) (by decide) (fun q => absurd q (by decide)) (fun _ => ?_)
            refine g_aload_n (pc := 141) C (hl := rfl) dX8_reads_141 ?_
            refine g_V0u (pc := 142) C lv8_105 dX8_reads_142 (s8_token (K := K3) (q_up_s _ _ _) ((q_up_n _ _ (by decide)).trans ((q_up_n _ _ (by decide)).trans hby)) hta hf hk3.1) (q_up_s _ _ _) (by decide) (Nat.le_of_ble_eq_true rfl) ?_
            refine g_goto (pc := 145) C 54 dX8_reads_145 (by decide) ?_
            exact G Γ ad C F _ _
          · obtain ⟨W1, o1, sp⟩ := s8_rgF (n := n) h0 hW hby hta hf hK TT hg6 hR
            have e : wCt f ta (K, 0, g, di, T) = mRg f ta (K, 0, g, di, T) := (wCt_g hg6 hd e0 (fun q => absurd q hR)).trans (wCt_f hR)
            refine ⟨0, (mRg f ta (K, 0, g, di, T)).1.2.1, (mRg f ta (K, 0, g, di, T)).1.2.2.1, wSo f ta (mRg f ta (K, 0, g, di, T)).1.2.1, di, (mRg f ta (K, 0, g, di, T)).2.1, W1, ⟨o1, Or.inr (by rw [e]; exact ⟨hR, rfl, rfl, rfl⟩)⟩, fun Γ ad C F v2 v3 => ?_⟩
            refine g_iload_n (pc := 54) C (hl := rfl) dX8_reads_54 ?_
            refine g_if_eqN (pc := 55) C 148 dX8_reads_55 (by decide) (by decide) (fun q => absurd q (by decide)) (fun _ => ?_)
            refine g_aload_n (pc := 58) C (hl := rfl) dX8_reads_58 ?_
            refine g_get (pc := 59) C fl8_92 dX8_reads_59 h0 rfl ?_
            refine g_if_eqN (pc := 62) C 148 dX8_reads_62 (by decide) (by have := wSo_b f ta K.2.1; omega) (fun q => absurd q (hso)) (fun _ => ?_)
            refine g_aload_n (pc := 65) C (hl := rfl) dX8_reads_65 ?_
            refine g_V0v (pc := 66) C lv8_126 dX8_reads_66 (s8_isGuestWordT h0 hby hta hf hK e0) h0 (by decide) (Nat.le_of_ble_eq_true rfl) ?_
            refine g_if_eqN (pc := 69) C 83 dX8_reads_69 (by decide) (by decide) (fun q => absurd q (by decide)) (fun _ => ?_)
            refine g_aload_n (pc := 72) C (hl := rfl) dX8_reads_72 ?_
            refine g_get (pc := 73) C fl8_123 dX8_reads_73 h0 rfl ?_
            refine g_if_neN (pc := 76) C 83 dX8_reads_76 (by decide) (by omega) (fun q => absurd q (fun z => z hd)) (fun _ => ?_)
            refine g_iconst (pc := 79) C qk_iconst_1 dX8_reads_79 ?_
            refine g_goto (pc := 80) C 84 dX8_reads_80 (by decide) ?_
            refine g_istore_n (pc := 84) C rfl dX8_reads_84 ?_
            refine g_aload_n (pc := 85) C (hl := rfl) dX8_reads_85 ?_
            refine g_V0v (pc := 86) C lv8_129 dX8_reads_86 (s8_isDishWordF h0 hby hta hf hK e6) h0 (by decide) (Nat.le_of_ble_eq_true rfl) ?_
            refine g_if_eqN (pc := 89) C 107 dX8_reads_89 (by decide) (by decide) (fun _ => ?_) (fun q => absurd q (by decide))
            refine g_iconst (pc := 107) C qk_iconst_0 dX8_reads_107 ?_
            refine g_istore_n (pc := 108) C rfl dX8_reads_108 ?_
            refine g_iload_n (pc := 109) C (hl := rfl) dX8_reads_109 ?_
            refine g_if_eqN (pc := 110) C 120 dX8_reads_110 (by decide) (by decide) (fun q => absurd q (by decide)) (fun _ => ?_)
            refine g_aload_n (pc := 113) C (hl := rfl) dX8_reads_113 ?_
            refine g_V0v (pc := 114) C lv8_132 dX8_reads_114 (sp) h0 (by decide) (Nat.le_of_ble_eq_true rfl) ?_
            refine g_goto (pc := 117) C 136 dX8_reads_117 (by decide) ?_
            refine g_istore_n (pc := 136) C rfl dX8_reads_136 ?_
            refine g_iload_n (pc := 137) C (hl := rfl) dX8_reads_137 ?_
            refine g_if_eqN (pc := 138) C 145 dX8_reads_138 (by decide) (by decide) (fun _ => ?_) (fun q => absurd q (by decide))
            refine g_goto (pc := 145) C 54 dX8_reads_145 (by decide) ?_
            refine g_iload_n (pc := 54) C (hl := rfl) dX8_reads_54 ?_
            refine g_if_eqN (pc := 55) C 148 dX8_reads_55 (by decide) (by decide) (fun _ => ?_) (fun q => absurd q (by decide))
            refine g_iload_n (pc := 148) C (hl := rfl) dX8_reads_148 ?_
            exact g_iret (pc := 149) C F dX8_reads_149 rfl rfl (rfl) (by first | (simp only [q_up_u, q_up_c _ (show (87 : Nat) ≠ 88 by decide)]; done) | (simp only [q_up_u, q_up_c _ (show (87 : Nat) ≠ 88 by decide)]; rfl) | rfl)
        · have e : wCt f ta (K, 0, g, di, T) = (K, 1, g, di, T) := (wCt_o (fun q => hd q.2) e6).trans (if_pos ⟨rfl, fun q => hso (hK.1.2.2.2.mp q)⟩)
          refine ⟨0, K.2.1, K.2.2.1, wSo f ta K.2.1, di, 1, W, ⟨wOut_r W, Or.inr (by rw [e]; exact ⟨Nat.succ_ne_zero _, rfl, rfl, rfl⟩)⟩, fun Γ ad C F v2 v3 => ?_⟩
          rw [q_upI hW] at F
          refine g_iload_n (pc := 54) C (hl := rfl) dX8_reads_54 ?_
          refine g_if_eqN (pc := 55) C 148 dX8_reads_55 (by decide) (by decide) (fun q => absurd q (by decide)) (fun _ => ?_)
          refine g_aload_n (pc := 58) C (hl := rfl) dX8_reads_58 ?_
          refine g_get (pc := 59) C fl8_92 dX8_reads_59 h0 rfl ?_
          refine g_if_eqN (pc := 62) C 148 dX8_reads_62 (by decide) (by have := wSo_b f ta K.2.1; omega) (fun q => absurd q (hso)) (fun _ => ?_)
          refine g_aload_n (pc := 65) C (hl := rfl) dX8_reads_65 ?_
          refine g_V0v (pc := 66) C lv8_126 dX8_reads_66 (s8_isGuestWordT h0 hby hta hf hK e0) h0 (by decide) (Nat.le_of_ble_eq_true rfl) ?_
          refine g_if_eqN (pc := 69) C 83 dX8_reads_69 (by decide) (by decide) (fun q => absurd q (by decide)) (fun _ => ?_)
          refine g_aload_n (pc := 72) C (hl := rfl) dX8_reads_72 ?_
          refine g_get (pc := 73) C fl8_123 dX8_reads_73 h0 rfl ?_
          refine g_if_neN (pc := 76) C 83 dX8_reads_76 (by decide) (by omega) (fun _ => ?_) (fun q => absurd q (hd))
          refine g_iconst (pc := 83) C qk_iconst_0 dX8_reads_83 ?_
          refine g_istore_n (pc := 84) C rfl dX8_reads_84 ?_
          refine g_aload_n (pc := 85) C (hl := rfl) dX8_reads_85 ?_
          refine g_V0v (pc := 86) C lv8_129 dX8_reads_86 (s8_isDishWordF h0 hby hta hf hK e6) h0 (by decide) (Nat.le_of_ble_eq_true rfl) ?_
          refine g_if_eqN (pc := 89) C 107 dX8_reads_89 (by decide) (by decide) (fun _ => ?_) (fun q => absurd q (by decide))
          refine g_iconst (pc := 107) C qk_iconst_0 dX8_reads_107 ?_
          refine g_istore_n (pc := 108) C rfl dX8_reads_108 ?_
          refine g_iload_n (pc := 109) C (hl := rfl) dX8_reads_109 ?_
          refine g_if_eqN (pc := 110) C 120 dX8_reads_110 (by decide) (by decide) (fun _ => ?_) (fun q => absurd q (by decide))
          refine g_iload_n (pc := 120) C (hl := rfl) dX8_reads_120 ?_
          refine g_if_eqN (pc := 121) C 131 dX8_reads_121 (by decide) (by decide) (fun _ => ?_) (fun q => absurd q (by decide))
          refine g_aload_n (pc := 131) C (hl := rfl) dX8_reads_131 ?_
          refine g_iconst (pc := 132) C qk_iconst_1 dX8_reads_132 ?_
          refine g_V1v (pc := 133) C lv8_108 dX8_reads_133 (s8_wrong 1 h0) h0 (by decide) (Nat.le_of_ble_eq_true rfl) ?_
          refine g_istore_n (pc := 136) C rfl dX8_reads_136 ?_
          refine g_iload_n (pc := 137) C (hl := rfl) dX8_reads_137 ?_
          refine g_if_eqN (pc := 138) C 145 dX8_reads_138 (by decide) (by decide) (fun _ => ?_) (fun q => absurd q (by decide))
          refine g_goto (pc := 145) C 54 dX8_reads_145 (by decide) ?_
          refine g_iload_n (pc := 54) C (hl := rfl) dX8_reads_54 ?_
          refine g_if_eqN (pc := 55) C 148 dX8_reads_55 (by decide) (by decide) (fun _ => ?_) (fun q => absurd q (by decide))
          refine g_iload_n (pc := 148) C (hl := rfl) dX8_reads_148 ?_
          exact g_iret (pc := 149) C F dX8_reads_149 rfl rfl (rfl) (by first | (simp only [q_up_u, q_up_c _ (show (87 : Nat) ≠ 88 by decide)]; done) | (simp only [q_up_u, q_up_c _ (show (87 : Nat) ≠ 88 by decide)]; rfl) | rfl)
      · have hgp : 0 < g := by
          rcases Nat.eq_zero_or_pos g with q | q
          · exact absurd (hg0 q) e0
          · exact q
        by_cases e6 : mWd f K 6 = true
        · by_cases hR : (mRd f ta (K, 0, g, di, T)).2.1 = 0
          · obtain ⟨W1, K3, o1, T1, hk3, ⟨n1, n2, n3⟩, sp⟩ := s8_rdY (n := n) h0 hW hby hta hf hK TT hg6 hdg hR
            obtain ⟨r, sa', ne', so', di', fl', W', po, G⟩ := ih g (di + 1) (mNxt f ta K3) (mRd f ta (K, 0, g, di, T)).2.2.2.2 W1 (q_up (q_up (q_up h 88 (WA W1)) 87 (MO un ta fl st K3.2.1 K3.2.2.1 (wSo f ta K3.2.1) (di + 1) pu at_ er en pa tr)) 87 (MO un ta fl st (mNxt f ta K3).2.1 (mNxt f ta K3).2.2.1 (wSo f ta (mNxt f ta K3).2.1) (di + 1) pu at_ er en pa tr)) (by omega) (q_up_s _ _ _) ((q_up_n _ _ (by decide)).trans ((q_up_n _ _ (by decide)).trans (q_up_s _ _ _))) ((q_up_n _ _ (by decide)).trans ((q_up_n _ _ (by decide)).trans ((q_up_n _ _ (by decide)).trans hby))) (wK_n hk3.1) (by rw [n1] at T1; exact T1) (by omega) (by omega) (fun q => absurd q (by omega))
            have e : wCt f ta (K, 0, g, di, T) = wCt f ta (mNxt f ta K3, 0, g, di + 1, (mRd f ta (K, 0, g, di, T)).2.2.2.2) := by
              rw [wCt_d (by omega) e0 e6 (fun _ => n2)]
              exact congrArg (wCt f ta) (wP_e hk3.2 hR n1 n2)
            refine ⟨r, sa', ne', so', di', fl', W', ⟨wOut_t o1 po.1, by rw [e]; exact po.2⟩, fun Γ ad C F v2 v3 => ?_⟩
            rw [show (q_up (q_up h 88 (WA W')) 87 (MO un ta fl' st sa' ne' so' di' pu at_ er en pa tr)) = q_up (q_up (q_up (q_up (q_up h 88 (WA W1)) 87 (MO un ta fl st K3.2.1 K3.2.2.1 (wSo f ta K3.2.1) (di + 1) pu at_ er en pa tr)) 87 (MO un ta fl st (mNxt f ta K3).2.1 (mNxt f ta K3).2.2.1 (wSo f ta (mNxt f ta K3).2.1) (di + 1) pu at_ er en pa tr)) 88 (WA W')) 87 (MO un ta fl' st sa' ne' so' di' pu at_ er en pa tr) by simp only [q_up_u, q_up_c _ (show (87 : Nat) ≠ 88 by decide)]] at F
            refine g_iload_n (pc := 54) C (hl := rfl) dX8_reads_54 ?_
            refine g_if_eqN (pc := 55) C 148 dX8_reads_55 (by decide) (by decide) (fun q => absurd q (by decide)) (fun _ => ?_)
            refine g_aload_n (pc := 58) C (hl := rfl) dX8_reads_58 ?_
            refine g_get (pc := 59) C fl8_92 dX8_reads_59 h0 rfl ?_
            refine g_if_eqN (pc := 62) C 148 dX8_reads_62 (by decide) (by have := wSo_b f ta K.2.1; omega) (fun q => absurd q (hso)) (fun _ => ?_)
            refine g_aload_n (pc := 65) C (hl := rfl) dX8_reads_65 ?_
            refine g_V0v (pc := 66) C lv8_126 dX8_reads_66 (s8_isGuestWordF h0 hby hta hf hK e0) h0 (by decide) (Nat.le_of_ble_eq_true rfl) ?_
            refine g_if_eqN (pc := 69) C 83 dX8_reads_69 (by decide) (by decide) (fun _ => ?_) (fun q => absurd q (by decide))
            refine g_iconst (pc := 83) C qk_iconst_0 dX8_reads_83 ?_
            refine g_istore_n (pc := 84) C rfl dX8_reads_84 ?_
            refine g_aload_n (pc := 85) C (hl := rfl) dX8_reads_85 ?_
            refine g_V0v (pc := 86) C lv8_129 dX8_reads_86 (s8_isDishWordT h0 hby hta hf hK e6) h0 (by decide) (Nat.le_of_ble_eq_true rfl) ?_
            refine g_if_eqN (pc := 89) C 107 dX8_reads_89 (by decide) (by decide) (fun q => absurd q (by decide)) (fun _ => ?_)
            refine g_aload_n (pc := 92) C (hl := rfl) dX8_reads_92 ?_
            refine g_get (pc := 93) C fl8_7 dX8_reads_93 h0 rfl ?_
            refine g_sipush (pc := 96) C qk_sipush_1092 dX8_reads_96 ?_
            refine g_ialdV (pc := 99) C dX8_reads_99 hW (by decide) (wT2_n TT) ?_
            refine g_if_leN (pc := 100) C 107 dX8_reads_100 (by decide) (by omega) (fun q => absurd q (by omega)) (fun _ => ?_)
            refine g_iconst (pc := 103) C qk_iconst_1 dX8_reads_103 ?_
            refine g_goto (pc := 104) C 108 dX8_reads_104 (by decide) ?_
            refine g_istore_n (pc := 108) C rfl dX8_reads_108 ?_
            refine g_iload_n (pc := 109) C (hl := rfl) dX8_reads_109 ?_
            refine g_if_eqN (pc := 110) C 120 dX8_reads_110 (by decide) (by decide) (fun _ => ?_) (fun q => absurd q (by decide))
            refine g_iload_n (pc := 120) C (hl := rfl) dX8_reads_120 ?_
            refine g_if_eqN (pc := 121) C 131 dX8_reads_121 (by decide) (by decide) (fun q => absurd q (by decide)) (fun _ => ?_)
            refine g_aload_n (pc := 124) C (hl := rfl) dX8_reads_124 ?_
            refine g_V0v (pc := 125) C lv8_135 dX8_reads_125 (sp) h0 (by decide) (Nat.le_of_ble_eq_true rfl) ?_
            refine g_goto (pc := 128) C 136 dX8_reads_128 (by decide) ?_
            refine g_istore_n (pc := 136) C rfl dX8_reads_136 ?_
            refine g_iload_n (pc := 137) C (hl := rfl) dX8_reads_137 ?_
            refine g_if_eqN (pc := 138) C 145 dX8_reads_138 (by decide) (by decide) (fun q => absurd q (by decide)) (fun _ => ?_)
            refine g_aload_n (pc := 141) C (hl := rfl) dX8_reads_141 ?_
            refine g_V0u (pc := 142) C lv8_105 dX8_reads_142 (s8_token (K := K3) (q_up_s _ _ _) ((q_up_n _ _ (by decide)).trans ((q_up_n _ _ (by decide)).trans hby)) hta hf hk3.1) (q_up_s _ _ _) (by decide) (Nat.le_of_ble_eq_true rfl) ?_
            refine g_goto (pc := 145) C 54 dX8_reads_145 (by decide) ?_
            exact G Γ ad C F _ _
          · obtain ⟨W1, di1, o1, sp⟩ := s8_rdF (n := n) h0 hW hby hta hf hK TT hg6 hdg hR
            have e : wCt f ta (K, 0, g, di, T) = mRd f ta (K, 0, g, di, T) := (wCt_d (by omega) e0 e6 (fun q => absurd q hR)).trans (wCt_f hR)
            refine ⟨0, (mRd f ta (K, 0, g, di, T)).1.2.1, (mRd f ta (K, 0, g, di, T)).1.2.2.1, wSo f ta (mRd f ta (K, 0, g, di, T)).1.2.1, di1, (mRd f ta (K, 0, g, di, T)).2.1, W1, ⟨o1, Or.inr (by rw [e]; exact ⟨hR, rfl, rfl, rfl⟩)⟩, fun Γ ad C F v2 v3 => ?_⟩
            refine g_iload_n (pc := 54) C (hl := rfl) dX8_reads_54 ?_
            refine g_if_eqN (pc := 55) C 148 dX8_reads_55 (by decide) (by decide) (fun q => absurd q (by decide)) (fun _ => ?_)
            refine g_aload_n (pc := 58) C (hl := rfl) dX8_reads_58 ?_
            refine g_get (pc := 59) C fl8_92 dX8_reads_59 h0 rfl ?_
            refine g_if_eqN (pc := 62) C 148 dX8_reads_62 (by decide) (by have := wSo_b f ta K.2.1; omega) (fun q => absurd q (hso)) (fun _ => ?_)
            refine g_aload_n (pc := 65) C (hl := rfl) dX8_reads_65 ?_
            refine g_V0v (pc := 66) C lv8_126 dX8_reads_66 (s8_isGuestWordF h0 hby hta hf hK e0) h0 (by decide) (Nat.le_of_ble_eq_true rfl) ?_
            refine g_if_eqN (pc := 69) C 83 dX8_reads_69 (by decide) (by decide) (fun _ => ?_) (fun q => absurd q (by decide))
            refine g_iconst (pc := 83) C qk_iconst_0 dX8_reads_83 ?_
            refine g_istore_n (pc := 84) C rfl dX8_reads_84 ?_
            refine g_aload_n (pc := 85) C (hl := rfl) dX8_reads_85 ?_
            refine g_V0v (pc := 86) C lv8_129 dX8_reads_86 (s8_isDishWordT h0 hby hta hf hK e6) h0 (by decide) (Nat.le_of_ble_eq_true rfl) ?_
            refine g_if_eqN (pc := 89) C 107 dX8_reads_89 (by decide) (by decide) (fun q => absurd q (by decide)) (fun _ => ?_)
            refine g_aload_n (pc := 92) C (hl := rfl) dX8_reads_92 ?_
            refine g_get (pc := 93) C fl8_7 dX8_reads_93 h0 rfl ?_
            refine g_sipush (pc := 96) C qk_sipush_1092 dX8_reads_96 ?_
            refine g_ialdV (pc := 99) C dX8_reads_99 hW (by decide) (wT2_n TT) ?_
            refine g_if_leN (pc := 100) C 107 dX8_reads_100 (by decide) (by omega) (fun q => absurd q (by omega)) (fun _ => ?_)
            refine g_iconst (pc := 103) C qk_iconst_1 dX8_reads_103 ?_
            refine g_goto (pc := 104) C 108 dX8_reads_104 (by decide) ?_
            refine g_istore_n (pc := 108) C rfl dX8_reads_108 ?_
            refine g_iload_n (pc := 109) C (hl := rfl) dX8_reads_109 ?_
            refine g_if_eqN (pc := 110) C 120 dX8_reads_110 (by decide) (by decide) (fun _ => ?_) (fun q => absurd q (by decide))
            refine g_iload_n (pc := 120) C (hl := rfl) dX8_reads_120 ?_
            refine g_if_eqN (pc := 121) C 131 dX8_reads_121 (by decide) (by decide) (fun q => absurd q (by decide)) (fun _ => ?_)
            refine g_aload_n (pc := 124) C (hl := rfl) dX8_reads_124 ?_
            refine g_V0v (pc := 125) C lv8_135 dX8_reads_125 (sp) h0 (by decide) (Nat.le_of_ble_eq_true rfl) ?_
            refine g_goto (pc := 128) C 136 dX8_reads_128 (by decide) ?_
            refine g_istore_n (pc := 136) C rfl dX8_reads_136 ?_
            refine g_iload_n (pc := 137) C (hl := rfl) dX8_reads_137 ?_
            refine g_if_eqN (pc := 138) C 145 dX8_reads_138 (by decide) (by decide) (fun _ => ?_) (fun q => absurd q (by decide))
            refine g_goto (pc := 145) C 54 dX8_reads_145 (by decide) ?_
            refine g_iload_n (pc := 54) C (hl := rfl) dX8_reads_54 ?_
            refine g_if_eqN (pc := 55) C 148 dX8_reads_55 (by decide) (by decide) (fun _ => ?_) (fun q => absurd q (by decide))
            refine g_iload_n (pc := 148) C (hl := rfl) dX8_reads_148 ?_
            exact g_iret (pc := 149) C F dX8_reads_149 rfl rfl (rfl) (by first | (simp only [q_up_u, q_up_c _ (show (87 : Nat) ≠ 88 by decide)]; done) | (simp only [q_up_u, q_up_c _ (show (87 : Nat) ≠ 88 by decide)]; rfl) | rfl)
        · have e : wCt f ta (K, 0, g, di, T) = (K, 1, g, di, T) := (wCt_o (fun q => e0 q.1) e6).trans (if_pos ⟨rfl, fun q => hso (hK.1.2.2.2.mp q)⟩)
          refine ⟨0, K.2.1, K.2.2.1, wSo f ta K.2.1, di, 1, W, ⟨wOut_r W, Or.inr (by rw [e]; exact ⟨Nat.succ_ne_zero _, rfl, rfl, rfl⟩)⟩, fun Γ ad C F v2 v3 => ?_⟩
          rw [q_upI hW] at F
          refine g_iload_n (pc := 54) C (hl := rfl) dX8_reads_54 ?_
          refine g_if_eqN (pc := 55) C 148 dX8_reads_55 (by decide) (by decide) (fun q => absurd q (by decide)) (fun _ => ?_)
          refine g_aload_n (pc := 58) C (hl := rfl) dX8_reads_58 ?_
          refine g_get (pc := 59) C fl8_92 dX8_reads_59 h0 rfl ?_
          refine g_if_eqN (pc := 62) C 148 dX8_reads_62 (by decide) (by have := wSo_b f ta K.2.1; omega) (fun q => absurd q (hso)) (fun _ => ?_)
          refine g_aload_n (pc := 65) C (hl := rfl) dX8_reads_65 ?_
          refine g_V0v (pc := 66) C lv8_126 dX8_reads_66 (s8_isGuestWordF h0 hby hta hf hK e0) h0 (by decide) (Nat.le_of_ble_eq_true rfl) ?_
          refine g_if_eqN (pc := 69) C 83 dX8_reads_69 (by decide) (by decide) (fun _ => ?_) (fun q => absurd q (by decide))
          refine g_iconst (pc := 83) C qk_iconst_0 dX8_reads_83 ?_
          refine g_istore_n (pc := 84) C rfl dX8_reads_84 ?_
          refine g_aload_n (pc := 85) C (hl := rfl) dX8_reads_85 ?_
          refine g_V0v (pc := 86) C lv8_129 dX8_reads_86 (s8_isDishWordF h0 hby hta hf hK e6) h0 (by decide) (Nat.le_of_ble_eq_true rfl) ?_
          refine g_if_eqN (pc := 89) C 107 dX8_reads_89 (by decide) (by decide) (fun _ => ?_) (fun q => absurd q (by decide))
          refine g_iconst (pc := 107) C qk_iconst_0 dX8_reads_107 ?_
          refine g_istore_n (pc := 108) C rfl dX8_reads_108 ?_
          refine g_iload_n (pc := 109) C (hl := rfl) dX8_reads_109 ?_
          refine g_if_eqN (pc := 110) C 120 dX8_reads_110 (by decide) (by decide) (fun _ => ?_) (fun q => absurd q (by decide))
          refine g_iload_n (pc := 120) C (hl := rfl) dX8_reads_120 ?_
          refine g_if_eqN (pc := 121) C 131 dX8_reads_121 (by decide) (by decide) (fun _ => ?_) (fun q => absurd q (by decide))
          refine g_aload_n (pc := 131) C (hl := rfl) dX8_reads_131 ?_
          refine g_iconst (pc := 132) C qk_iconst_1 dX8_reads_132 ?_
          refine g_V1v (pc := 133) C lv8_108 dX8_reads_133 (s8_wrong 1 h0) h0 (by decide) (Nat.le_of_ble_eq_true rfl) ?_
          refine g_istore_n (pc := 136) C rfl dX8_reads_136 ?_
          refine g_iload_n (pc := 137) C (hl := rfl) dX8_reads_137 ?_
          refine g_if_eqN (pc := 138) C 145 dX8_reads_138 (by decide) (by decide) (fun _ => ?_) (fun q => absurd q (by decide))
          refine g_goto (pc := 145) C 54 dX8_reads_145 (by decide) ?_
          refine g_iload_n (pc := 54) C (hl := rfl) dX8_reads_54 ?_
          refine g_if_eqN (pc := 55) C 148 dX8_reads_55 (by decide) (by decide) (fun _ => ?_) (fun q => absurd q (by decide))
          refine g_iload_n (pc := 148) C (hl := rfl) dX8_reads_148 ?_
          exact g_iret (pc := 149) C F dX8_reads_149 rfl rfl (rfl) (by first | (simp only [q_up_u, q_up_c _ (show (87 : Nat) ≠ 88 by decide)]; done) | (simp only [q_up_u, q_up_c _ (show (87 : Nat) ≠ 88 by decide)]; rfl) | rfl)
