/-- the model's token and the class's -/
def wK (f : Nat → Nat) (ta : Nat) (K : mK) : Prop := ((K.1 = 0 ↔ wSo f ta K.2.1 = 1) ∧ (K.1 = 1 ↔ (wSo f ta K.2.1 = 2 ∧ K.2.2.1 - K.2.1 ≤ 3)) ∧ (K.1 = 2 ↔ wSo f ta K.2.1 = 3) ∧ (K.1 = 3 ↔ wSo f ta K.2.1 = 0)) ∧ (K.1 = 1 → K.2.2.2 = mVal f K.2.1 (K.2.2.1 - K.2.1) ∧ ∀ j, j < K.2.2.1 - K.2.1 → 48 ≤ f (K.2.1 + j) ∧ f (K.2.1 + j) ≤ 57) ∧ K.2.1 ≤ K.2.2.1 ∧ K.2.2.1 ≤ ta
theorem wK_n {f : Nat → Nat} {ta : Nat} {K : mK} (hK : K.2.2.1 ≤ ta) : wK f ta (mNxt f ta K) := by
  have h1 := mEnd_b (fun k => mBl (f k)) ta 301 K.2.2.1 hK
  unfold wK
  unfold mNxt
  generalize mEnd (fun k => mBl (f k)) ta 301 K.2.2.1 = s at h1 ⊢
  by_cases c1 : ta ≤ s
  · rw [if_pos c1]
    have e : wSo f ta s = 0 := if_pos c1
    dsimp only
    rw [e]
    refine ⟨⟨by decide, ⟨fun q => absurd q (by decide), fun q => absurd q.1 (by decide)⟩, by decide, by decide⟩, fun q => absurd q (by decide), Nat.le_refl _, h1.2⟩
  · rw [if_neg c1]
    have e : wSo f ta s = wSc (f s) := if_neg c1
    have h2 := mEnd_b (fun k => mLe (f k)) ta 301 s h1.2
    have h3 := mEnd_b (fun k => mFi (f k)) ta 301 s h1.2
    by_cases c2 : mLe (f s) = true
    · rw [if_pos c2]
      dsimp only
      rw [e, wSc_1.mpr c2]
      refine ⟨⟨by decide, ⟨fun q => absurd q (by decide), fun q => absurd q.1 (by decide)⟩, by decide, by decide⟩, fun q => absurd q (by decide), h2.1, h2.2⟩
    · rw [if_neg c2]
      by_cases c3 : mFi (f s) = true
      · rw [if_pos c3]
        by_cases c4 : mEnd (fun k => mFi (f k)) ta 301 s - s ≤ 3
        · rw [if_pos c4]
          dsimp only
          rw [e, wSc_2.mpr c3]
          refine ⟨⟨by decide, ⟨fun _ => ⟨rfl, c4⟩, fun _ => rfl⟩, by decide, by decide⟩, fun _ => ⟨rfl, fun j hj => ?_⟩, h3.1, h3.2⟩
          exact mFi_i.mp (mEnd_all (fun k => mFi (f k)) ta 301 s (s + j) (by omega) (by omega))
        · rw [if_neg c4]
          dsimp only
          rw [e, wSc_2.mpr c3]
          refine ⟨⟨by decide, ⟨fun q => absurd q (by decide), fun q => absurd q.2 c4⟩, by decide, by decide⟩, fun q => absurd q (by decide), h3.1, h3.2⟩
      · rw [if_neg c3]
        dsimp only
        rw [e]
        have n1 : ¬ wSc (f s) = 1 := fun q => c2 (wSc_1.mp q)
        have n2 : ¬ wSc (f s) = 2 := fun q => c3 (wSc_2.mp q)
        have n0 := wSc_b (f s)
        have n3 : wSc (f s) = 3 ↔ f s = 59 := by
          unfold wSc
          rw [if_neg c2, if_neg c3]
          by_cases q : f s = 59
          · rw [if_pos q]; exact ⟨fun _ => q, fun _ => rfl⟩
          · rw [if_neg q]; exact ⟨fun z => absurd z (by decide), fun z => absurd z q⟩
        refine ⟨⟨?_, ?_, ?_, ?_⟩, ?_, Nat.le_succ _, by omega⟩
        · split <;> exact ⟨fun q => absurd q (by decide), fun q => absurd q n1⟩
        · split <;> exact ⟨fun q => absurd q (by decide), fun q => absurd q.1 n2⟩
        · rw [n3]
          by_cases q : f s = 59
          · rw [if_pos q]; exact ⟨fun _ => q, fun _ => rfl⟩
          · rw [if_neg q]; exact ⟨fun z => absurd z (by decide), fun z => absurd z q⟩
        · split <;> exact ⟨fun q => absurd q (by decide), fun q => absurd q (by omega)⟩
        · split <;> exact fun q => absurd q (by decide)
theorem wWd_0 {f : Nat → Nat} {ta : Nat} {K : mK} (hK : wK f ta K) (hf : ∀ k, k < ta → f k < 256) : mWd f K 0 = true ↔ ((wSo f ta K.2.1 = 1 ∧ K.2.2.1 - K.2.1 = 5 ∧ f K.2.1 = 103 ∧ f (K.2.1 + 1) = 117 ∧ f (K.2.1 + 2) = 101 ∧ f (K.2.2.1 - 1) = 116) ∧ f (K.2.1 + 3) = 115) := by
  rw [mWd_i, hK.1.1]
  have h2 := hK.2.2
  show (wSo f ta K.2.1 = 1 ∧ K.2.2.1 - K.2.1 = 5 ∧ ∀ j, j < 5 → nI (f (K.2.1 + j)) = q_chr 0 j) ↔ _
  constructor
  · rintro ⟨q1, q2, q3⟩
    have e : ∀ j v, j < 5 → v < 256 → q_chr 0 j = nI v → f (K.2.1 + j) = v := fun j v hj hv e => (nI_eq (by have := hf (K.2.1 + j) (by omega); omega) (by omega)).mp ((q3 j hj).trans e)
    refine ⟨⟨q1, q2, e 0 103 (by decide) (by decide) (by decide), e 1 117 (by decide) (by decide) (by decide), e 2 101 (by decide) (by decide) (by decide), ?_⟩, e 3 115 (by decide) (by decide) (by decide)⟩
    rw [show K.2.2.1 - 1 = K.2.1 + 4 by omega]
    exact e 4 116 (by decide) (by decide) (by decide)
  · rintro ⟨⟨q1, q2, a0, a1, a2, al⟩, a3⟩
    rw [show K.2.2.1 - 1 = K.2.1 + 4 by omega] at al
    refine ⟨q1, q2, fun j hj => ?_⟩
    rcases (by omega : j = 0 ∨ j = 1 ∨ j = 2 ∨ j = 3 ∨ j = 4) with rfl | rfl | rfl | rfl | rfl
    · rw [show K.2.1 + 0 = K.2.1 from rfl, a0]; decide
    · rw [a1]; decide
    · rw [a2]; decide
    · rw [a3]; decide
    · rw [al]; decide
theorem wWd_1 {f : Nat → Nat} {ta : Nat} {K : mK} (hK : wK f ta K) (hf : ∀ k, k < ta → f k < 256) : mWd f K 1 = true ↔ ((wSo f ta K.2.1 = 1 ∧ K.2.2.1 - K.2.1 = 5 ∧ f K.2.1 = 101 ∧ f (K.2.1 + 1) = 97 ∧ f (K.2.1 + 2) = 116 ∧ f (K.2.2.1 - 1) = 114) ∧ f (K.2.1 + 3) = 101) := by
  rw [mWd_i, hK.1.1]
  have h2 := hK.2.2
  show (wSo f ta K.2.1 = 1 ∧ K.2.2.1 - K.2.1 = 5 ∧ ∀ j, j < 5 → nI (f (K.2.1 + j)) = q_chr 1 j) ↔ _
  constructor
  · rintro ⟨q1, q2, q3⟩
    have e : ∀ j v, j < 5 → v < 256 → q_chr 1 j = nI v → f (K.2.1 + j) = v := fun j v hj hv e => (nI_eq (by have := hf (K.2.1 + j) (by omega); omega) (by omega)).mp ((q3 j hj).trans e)
    refine ⟨⟨q1, q2, e 0 101 (by decide) (by decide) (by decide), e 1 97 (by decide) (by decide) (by decide), e 2 116 (by decide) (by decide) (by decide), ?_⟩, e 3 101 (by decide) (by decide) (by decide)⟩
    rw [show K.2.2.1 - 1 = K.2.1 + 4 by omega]
    exact e 4 114 (by decide) (by decide) (by decide)
  · rintro ⟨⟨q1, q2, a0, a1, a2, al⟩, a3⟩
    rw [show K.2.2.1 - 1 = K.2.1 + 4 by omega] at al
    refine ⟨q1, q2, fun j hj => ?_⟩
    rcases (by omega : j = 0 ∨ j = 1 ∨ j = 2 ∨ j = 3 ∨ j = 4) with rfl | rfl | rfl | rfl | rfl
    · rw [show K.2.1 + 0 = K.2.1 from rfl, a0]; decide
    · rw [a1]; decide
    · rw [a2]; decide
    · rw [a3]; decide
    · rw [al]; decide
theorem wWd_2 {f : Nat → Nat} {ta : Nat} {K : mK} (hK : wK f ta K) (hf : ∀ k, k < ta → f k < 256) : mWd f K 2 = true ↔ ((wSo f ta K.2.1 = 1 ∧ K.2.2.1 - K.2.1 = 4 ∧ f K.2.1 = 102 ∧ f (K.2.1 + 1) = 97 ∧ f (K.2.1 + 2) = 115 ∧ f (K.2.2.1 - 1) = 116)) := by
  rw [mWd_i, hK.1.1]
  have h2 := hK.2.2
  show (wSo f ta K.2.1 = 1 ∧ K.2.2.1 - K.2.1 = 4 ∧ ∀ j, j < 4 → nI (f (K.2.1 + j)) = q_chr 2 j) ↔ _
  constructor
  · rintro ⟨q1, q2, q3⟩
    have e : ∀ j v, j < 4 → v < 256 → q_chr 2 j = nI v → f (K.2.1 + j) = v := fun j v hj hv e => (nI_eq (by have := hf (K.2.1 + j) (by omega); omega) (by omega)).mp ((q3 j hj).trans e)
    refine ⟨q1, q2, e 0 102 (by decide) (by decide) (by decide), e 1 97 (by decide) (by decide) (by decide), e 2 115 (by decide) (by decide) (by decide), ?_⟩
    rw [show K.2.2.1 - 1 = K.2.1 + 3 by omega]
    exact e 3 116 (by decide) (by decide) (by decide)
  · rintro ⟨q1, q2, a0, a1, a2, al⟩
    rw [show K.2.2.1 - 1 = K.2.1 + 3 by omega] at al
    refine ⟨q1, q2, fun j hj => ?_⟩
    rcases (by omega : j = 0 ∨ j = 1 ∨ j = 2 ∨ j = 3) with rfl | rfl | rfl | rfl
    · rw [show K.2.1 + 0 = K.2.1 from rfl, a0]; decide
    · rw [a1]; decide
    · rw [a2]; decide
    · rw [al]; decide
theorem wWd_3 {f : Nat → Nat} {ta : Nat} {K : mK} (hK : wK f ta K) (hf : ∀ k, k < ta → f k < 256) : mWd f K 3 = true ↔ ((wSo f ta K.2.1 = 1 ∧ K.2.2.1 - K.2.1 = 6 ∧ f K.2.1 = 103 ∧ f (K.2.1 + 1) = 114 ∧ f (K.2.1 + 2) = 101 ∧ f (K.2.2.1 - 1) = 121) ∧ f (K.2.1 + 3) = 101 ∧ f (K.2.1 + 4) = 100) := by
  rw [mWd_i, hK.1.1]
  have h2 := hK.2.2
  show (wSo f ta K.2.1 = 1 ∧ K.2.2.1 - K.2.1 = 6 ∧ ∀ j, j < 6 → nI (f (K.2.1 + j)) = q_chr 3 j) ↔ _
  constructor
  · rintro ⟨q1, q2, q3⟩
    have e : ∀ j v, j < 6 → v < 256 → q_chr 3 j = nI v → f (K.2.1 + j) = v := fun j v hj hv e => (nI_eq (by have := hf (K.2.1 + j) (by omega); omega) (by omega)).mp ((q3 j hj).trans e)
    refine ⟨⟨q1, q2, e 0 103 (by decide) (by decide) (by decide), e 1 114 (by decide) (by decide) (by decide), e 2 101 (by decide) (by decide) (by decide), ?_⟩, e 3 101 (by decide) (by decide) (by decide), e 4 100 (by decide) (by decide) (by decide)⟩
    rw [show K.2.2.1 - 1 = K.2.1 + 5 by omega]
    exact e 5 121 (by decide) (by decide) (by decide)
  · rintro ⟨⟨q1, q2, a0, a1, a2, al⟩, a3, a4⟩
    rw [show K.2.2.1 - 1 = K.2.1 + 5 by omega] at al
    refine ⟨q1, q2, fun j hj => ?_⟩
    rcases (by omega : j = 0 ∨ j = 1 ∨ j = 2 ∨ j = 3 ∨ j = 4 ∨ j = 5) with rfl | rfl | rfl | rfl | rfl | rfl
    · rw [show K.2.1 + 0 = K.2.1 from rfl, a0]; decide
    · rw [a1]; decide
    · rw [a2]; decide
    · rw [a3]; decide
    · rw [a4]; decide
    · rw [al]; decide
theorem wWd_4 {f : Nat → Nat} {ta : Nat} {K : mK} (hK : wK f ta K) (hf : ∀ k, k < ta → f k < 256) : mWd f K 4 = true ↔ ((wSo f ta K.2.1 = 1 ∧ K.2.2.1 - K.2.1 = 4 ∧ f K.2.1 = 100 ∧ f (K.2.1 + 1) = 101 ∧ f (K.2.1 + 2) = 97 ∧ f (K.2.2.1 - 1) = 102)) := by
  rw [mWd_i, hK.1.1]
  have h2 := hK.2.2
  show (wSo f ta K.2.1 = 1 ∧ K.2.2.1 - K.2.1 = 4 ∧ ∀ j, j < 4 → nI (f (K.2.1 + j)) = q_chr 4 j) ↔ _
  constructor
  · rintro ⟨q1, q2, q3⟩
    have e : ∀ j v, j < 4 → v < 256 → q_chr 4 j = nI v → f (K.2.1 + j) = v := fun j v hj hv e => (nI_eq (by have := hf (K.2.1 + j) (by omega); omega) (by omega)).mp ((q3 j hj).trans e)
    refine ⟨q1, q2, e 0 100 (by decide) (by decide) (by decide), e 1 101 (by decide) (by decide) (by decide), e 2 97 (by decide) (by decide) (by decide), ?_⟩
    rw [show K.2.2.1 - 1 = K.2.1 + 3 by omega]
    exact e 3 102 (by decide) (by decide) (by decide)
  · rintro ⟨q1, q2, a0, a1, a2, al⟩
    rw [show K.2.2.1 - 1 = K.2.1 + 3 by omega] at al
    refine ⟨q1, q2, fun j hj => ?_⟩
    rcases (by omega : j = 0 ∨ j = 1 ∨ j = 2 ∨ j = 3) with rfl | rfl | rfl | rfl
    · rw [show K.2.1 + 0 = K.2.1 from rfl, a0]; decide
    · rw [a1]; decide
    · rw [a2]; decide
    · rw [al]; decide
theorem wWd_5 {f : Nat → Nat} {ta : Nat} {K : mK} (hK : wK f ta K) (hf : ∀ k, k < ta → f k < 256) : mWd f K 5 = true ↔ ((wSo f ta K.2.1 = 1 ∧ K.2.2.1 - K.2.1 = 5 ∧ f K.2.1 = 100 ∧ f (K.2.1 + 1) = 114 ∧ f (K.2.1 + 2) = 117 ∧ f (K.2.2.1 - 1) = 107) ∧ f (K.2.1 + 3) = 110) := by
  rw [mWd_i, hK.1.1]
  have h2 := hK.2.2
  show (wSo f ta K.2.1 = 1 ∧ K.2.2.1 - K.2.1 = 5 ∧ ∀ j, j < 5 → nI (f (K.2.1 + j)) = q_chr 5 j) ↔ _
  constructor
  · rintro ⟨q1, q2, q3⟩
    have e : ∀ j v, j < 5 → v < 256 → q_chr 5 j = nI v → f (K.2.1 + j) = v := fun j v hj hv e => (nI_eq (by have := hf (K.2.1 + j) (by omega); omega) (by omega)).mp ((q3 j hj).trans e)
    refine ⟨⟨q1, q2, e 0 100 (by decide) (by decide) (by decide), e 1 114 (by decide) (by decide) (by decide), e 2 117 (by decide) (by decide) (by decide), ?_⟩, e 3 110 (by decide) (by decide) (by decide)⟩
    rw [show K.2.2.1 - 1 = K.2.1 + 4 by omega]
    exact e 4 107 (by decide) (by decide) (by decide)
  · rintro ⟨⟨q1, q2, a0, a1, a2, al⟩, a3⟩
    rw [show K.2.2.1 - 1 = K.2.1 + 4 by omega] at al
    refine ⟨q1, q2, fun j hj => ?_⟩
    rcases (by omega : j = 0 ∨ j = 1 ∨ j = 2 ∨ j = 3 ∨ j = 4) with rfl | rfl | rfl | rfl | rfl
    · rw [show K.2.1 + 0 = K.2.1 from rfl, a0]; decide
    · rw [a1]; decide
    · rw [a2]; decide
    · rw [a3]; decide
    · rw [al]; decide
theorem wWd_6 {f : Nat → Nat} {ta : Nat} {K : mK} (hK : wK f ta K) (hf : ∀ k, k < ta → f k < 256) : mWd f K 6 = true ↔ ((wSo f ta K.2.1 = 1 ∧ K.2.2.1 - K.2.1 = 4 ∧ f K.2.1 = 100 ∧ f (K.2.1 + 1) = 105 ∧ f (K.2.1 + 2) = 115 ∧ f (K.2.2.1 - 1) = 104)) := by
  rw [mWd_i, hK.1.1]
  have h2 := hK.2.2
  show (wSo f ta K.2.1 = 1 ∧ K.2.2.1 - K.2.1 = 4 ∧ ∀ j, j < 4 → nI (f (K.2.1 + j)) = q_chr 6 j) ↔ _
  constructor
  · rintro ⟨q1, q2, q3⟩
    have e : ∀ j v, j < 4 → v < 256 → q_chr 6 j = nI v → f (K.2.1 + j) = v := fun j v hj hv e => (nI_eq (by have := hf (K.2.1 + j) (by omega); omega) (by omega)).mp ((q3 j hj).trans e)
    refine ⟨q1, q2, e 0 100 (by decide) (by decide) (by decide), e 1 105 (by decide) (by decide) (by decide), e 2 115 (by decide) (by decide) (by decide), ?_⟩
    rw [show K.2.2.1 - 1 = K.2.1 + 3 by omega]
    exact e 3 104 (by decide) (by decide) (by decide)
  · rintro ⟨q1, q2, a0, a1, a2, al⟩
    rw [show K.2.2.1 - 1 = K.2.1 + 3 by omega] at al
    refine ⟨q1, q2, fun j hj => ?_⟩
    rcases (by omega : j = 0 ∨ j = 1 ∨ j = 2 ∨ j = 3) with rfl | rfl | rfl | rfl
    · rw [show K.2.1 + 0 = K.2.1 from rfl, a0]; decide
    · rw [a1]; decide
    · rw [a2]; decide
    · rw [al]; decide
set_option maxHeartbeats 2000000 in
set_option maxRecDepth 20000 in
theorem s8_isWord {n : Nat} {h : q_H} {un ta fl st sa ne so di pu at_ er en pa tr : Nat} {f : Nat → Nat} (m a b c l : Nat) (h0 : h 87 = MO un ta fl st sa ne so di pu at_ er en pa tr) (hby : h 89 = PA f) (hta : ta ≤ 300) (hf : ∀ k, k < ta → f k < 256) (hsn : sa ≤ ne ∧ ne ≤ ta) (hso : so ≤ 4) (hm : 4 ≤ m ∧ m < 10) (hc : a < 256 ∧ b < 256 ∧ c < 256 ∧ l < 256) : SP 1 yX8_isWord cX8_isWord 6 (some .boolean) [.ref 87, .int (nI m), .int (nI a), .int (nI b), .int (nI c), .int (nI l)] n h (some (.int (if (so = 1 ∧ ne - sa = m ∧ f sa = a ∧ f (sa + 1) = b ∧ f (sa + 2) = c ∧ f (ne - 1) = l) then nI 1 else nI 0))) h := by
  refine q_SPi RX8 rfl (by decide +kernel) (la := _) rfl rfl (fun Γ ad C F => ?_)
  refine g_aload_n (pc := 0) C (hl := rfl) dX8_isWord_0 ?_
  refine g_get (pc := 1) C fl8_92 dX8_isWord_1 h0 rfl ?_
  refine g_iconst (pc := 4) C qk_iconst_1 dX8_isWord_4 ?_
  refine g_ic_neN (pc := 5) C 81 dX8_isWord_5 (by decide) (by omega) (fun c5 => ?_) (fun c5 => ?_)
  · refine g_iconst (pc := 81) C qk_iconst_0 dX8_isWord_81 ?_
    exact g_iret (pc := 82) C F dX8_isWord_82 rfl rfl (by rw [if_neg (fun q => c5 (q.1))]) (rfl)
  · refine g_aload_n (pc := 8) C (hl := rfl) dX8_isWord_8 ?_
    refine g_get (pc := 9) C fl8_80 dX8_isWord_9 h0 rfl ?_
    refine g_aload_n (pc := 12) C (hl := rfl) dX8_isWord_12 ?_
    refine g_get (pc := 13) C fl8_83 dX8_isWord_13 h0 rfl ?_
    refine g_isubN (pc := 16) C dX8_isWord_16 (by omega) ?_
    refine g_iload_n (pc := 17) C (hl := rfl) dX8_isWord_17 ?_
    refine g_ic_neN (pc := 18) C 81 dX8_isWord_18 (by decide) (by omega) (fun c18 => ?_) (fun c18 => ?_)
    · refine g_iconst (pc := 81) C qk_iconst_0 dX8_isWord_81 ?_
      exact g_iret (pc := 82) C F dX8_isWord_82 rfl rfl (by rw [if_neg (fun q => c18 (q.2.1))]) (rfl)
    · refine g_aload_n (pc := 21) C (hl := rfl) dX8_isWord_21 ?_
      refine g_aload_n (pc := 22) C (hl := rfl) dX8_isWord_22 ?_
      refine g_get (pc := 23) C fl8_83 dX8_isWord_23 h0 rfl ?_
      refine g_V1v (pc := 26) C lv8_86 dX8_isWord_26 (s8_byteAtN sa h0 hby hta (by omega)) h0 (by decide) (Nat.le_of_ble_eq_true rfl) ?_
      refine g_iload_n (pc := 29) C (hl := rfl) dX8_isWord_29 ?_
      refine g_ic_neN (pc := 30) C 81 dX8_isWord_30 (by decide) (by have := hf sa (by omega); omega) (fun c30 => ?_) (fun c30 => ?_)
      · refine g_iconst (pc := 81) C qk_iconst_0 dX8_isWord_81 ?_
        exact g_iret (pc := 82) C F dX8_isWord_82 rfl rfl (by rw [if_neg (fun q => c30 (q.2.2.1))]) (rfl)
      · refine g_aload_n (pc := 33) C (hl := rfl) dX8_isWord_33 ?_
        refine g_aload_n (pc := 34) C (hl := rfl) dX8_isWord_34 ?_
        refine g_get (pc := 35) C fl8_83 dX8_isWord_35 h0 rfl ?_
        refine g_iconst (pc := 38) C qk_iconst_1 dX8_isWord_38 ?_
        refine g_iaddN (pc := 39) C dX8_isWord_39 ?_
        refine g_V1v (pc := 40) C lv8_86 dX8_isWord_40 (s8_byteAtN (sa + 1) h0 hby hta (by omega)) h0 (by decide) (Nat.le_of_ble_eq_true rfl) ?_
        refine g_iload_n (pc := 43) C (hl := rfl) dX8_isWord_43 ?_
        refine g_ic_neN (pc := 44) C 81 dX8_isWord_44 (by decide) (by have := hf (sa + 1) (by omega); omega) (fun c44 => ?_) (fun c44 => ?_)
        · refine g_iconst (pc := 81) C qk_iconst_0 dX8_isWord_81 ?_
          exact g_iret (pc := 82) C F dX8_isWord_82 rfl rfl (by rw [if_neg (fun q => c44 (q.2.2.2.1))]) (rfl)
        · refine g_aload_n (pc := 47) C (hl := rfl) dX8_isWord_47 ?_
          refine g_aload_n (pc := 48) C (hl := rfl) dX8_isWord_48 ?_
          refine g_get (pc := 49) C fl8_83 dX8_isWord_49 h0 rfl ?_
          refine g_iconst (pc := 52) C qk_iconst_2 dX8_isWord_52 ?_
          refine g_iaddN (pc := 53) C dX8_isWord_53 ?_
          refine g_V1v (pc := 54) C lv8_86 dX8_isWord_54 (s8_byteAtN (sa + 2) h0 hby hta (by omega)) h0 (by decide) (Nat.le_of_ble_eq_true rfl) ?_
          refine g_iload (pc := 57) C (hl := rfl) dX8_isWord_57 ?_
          refine g_ic_neN (pc := 59) C 81 dX8_isWord_59 (by decide) (by have := hf (sa + 2) (by omega); omega) (fun c59 => ?_) (fun c59 => ?_)
          · refine g_iconst (pc := 81) C qk_iconst_0 dX8_isWord_81 ?_
            exact g_iret (pc := 82) C F dX8_isWord_82 rfl rfl (by rw [if_neg (fun q => c59 (q.2.2.2.2.1))]) (rfl)
          · refine g_aload_n (pc := 62) C (hl := rfl) dX8_isWord_62 ?_
            refine g_aload_n (pc := 63) C (hl := rfl) dX8_isWord_63 ?_
            refine g_get (pc := 64) C fl8_80 dX8_isWord_64 h0 rfl ?_
            refine g_iconst (pc := 67) C qk_iconst_1 dX8_isWord_67 ?_
            refine g_isubN (pc := 68) C dX8_isWord_68 (by omega) ?_
            refine g_V1v (pc := 69) C lv8_86 dX8_isWord_69 (s8_byteAtN (ne - 1) h0 hby hta (by omega)) h0 (by decide) (Nat.le_of_ble_eq_true rfl) ?_
            refine g_iload (pc := 72) C (hl := rfl) dX8_isWord_72 ?_
            refine g_ic_neN (pc := 74) C 81 dX8_isWord_74 (by decide) (by have := hf (ne - 1) (by omega); omega) (fun c74 => ?_) (fun c74 => ?_)
            · refine g_iconst (pc := 81) C qk_iconst_0 dX8_isWord_81 ?_
              exact g_iret (pc := 82) C F dX8_isWord_82 rfl rfl (by rw [if_neg (fun q => c74 (q.2.2.2.2.2))]) (rfl)
            · refine g_iconst (pc := 77) C qk_iconst_1 dX8_isWord_77 ?_
              refine g_goto (pc := 78) C 82 dX8_isWord_78 (by decide) ?_
              exact g_iret (pc := 82) C F dX8_isWord_82 rfl rfl (by rw [if_pos ⟨c5, c18, c30, c44, c59, c74⟩]) (rfl)
set_option maxHeartbeats 2000000 in
set_option maxRecDepth 20000 in
theorem s8_isFourth {n : Nat} {h : q_H} {un ta fl st sa ne so di pu at_ er en pa tr : Nat} {f : Nat → Nat} (d : Nat) (h0 : h 87 = MO un ta fl st sa ne so di pu at_ er en pa tr) (hby : h 89 = PA f) (hta : ta ≤ 300) (hf : ∀ k, k < ta → f k < 256) (hk : sa + 3 < ta) (hd : d < 256) : SP 1 yX8_isFourth cX8_isFourth 2 (some .boolean) [.ref 87, .int (nI d)] n h (some (.int (if f (sa + 3) = d then nI 1 else nI 0))) h := by
  refine q_SPi RX8 rfl (by decide +kernel) (la := _) rfl rfl (fun Γ ad C F => ?_)
  refine g_aload_n (pc := 0) C (hl := rfl) dX8_isFourth_0 ?_
  refine g_aload_n (pc := 1) C (hl := rfl) dX8_isFourth_1 ?_
  refine g_get (pc := 2) C fl8_83 dX8_isFourth_2 h0 rfl ?_
  refine g_iconst (pc := 5) C qk_iconst_3 dX8_isFourth_5 ?_
  refine g_iaddN (pc := 6) C dX8_isFourth_6 ?_
  refine g_V1v (pc := 7) C lv8_86 dX8_isFourth_7 (s8_byteAtN (sa + 3) h0 hby hta hk) h0 (by decide) (Nat.le_of_ble_eq_true rfl) ?_
  refine g_iload_n (pc := 10) C (hl := rfl) dX8_isFourth_10 ?_
  refine g_ic_neN (pc := 11) C 18 dX8_isFourth_11 (by decide) (by have := hf (sa + 3) hk; omega) (fun c11 => ?_) (fun c11 => ?_)
  · refine g_iconst (pc := 18) C qk_iconst_0 dX8_isFourth_18 ?_
    exact g_iret (pc := 19) C F dX8_isFourth_19 rfl rfl (by first | rw [if_pos c11] | rw [if_neg c11]) (rfl)
  · refine g_iconst (pc := 14) C qk_iconst_1 dX8_isFourth_14 ?_
    refine g_goto (pc := 15) C 19 dX8_isFourth_15 (by decide) ?_
    exact g_iret (pc := 19) C F dX8_isFourth_19 rfl rfl (by first | rw [if_pos c11] | rw [if_neg c11]) (rfl)
theorem s8_w0T {n : Nat} {h : q_H} {un ta fl st di pu at_ er en pa tr : Nat} {f : Nat → Nat} {K : mK} (h0 : h 87 = (MO un ta fl st K.2.1 K.2.2.1 (wSo f ta K.2.1) di pu at_ er en pa tr)) (hby : h 89 = PA f) (hta : ta ≤ 300) (hf : ∀ k, k < ta → f k < 256) (hK : wK f ta K) (e : (wSo f ta K.2.1 = 1 ∧ K.2.2.1 - K.2.1 = 5 ∧ f K.2.1 = 103 ∧ f (K.2.1 + 1) = 117 ∧ f (K.2.1 + 2) = 101 ∧ f (K.2.2.1 - 1) = 116)) : SP 1 yX8_isWord cX8_isWord 6 (some .boolean) [.ref 87, .int (nI 5), .int (nI 103), .int (nI 117), .int (nI 101), .int (nI 116)] n h (some (.int (nI 1))) h := by
  have q := s8_isWord (n := n) 5 103 117 101 116 h0 hby hta hf hK.2.2 (wSo_b _ _ _) (by decide) (by decide)
  rw [if_pos e] at q
  exact q
theorem s8_w0F {n : Nat} {h : q_H} {un ta fl st di pu at_ er en pa tr : Nat} {f : Nat → Nat} {K : mK} (h0 : h 87 = (MO un ta fl st K.2.1 K.2.2.1 (wSo f ta K.2.1) di pu at_ er en pa tr)) (hby : h 89 = PA f) (hta : ta ≤ 300) (hf : ∀ k, k < ta → f k < 256) (hK : wK f ta K) (e : ¬ (wSo f ta K.2.1 = 1 ∧ K.2.2.1 - K.2.1 = 5 ∧ f K.2.1 = 103 ∧ f (K.2.1 + 1) = 117 ∧ f (K.2.1 + 2) = 101 ∧ f (K.2.2.1 - 1) = 116)) : SP 1 yX8_isWord cX8_isWord 6 (some .boolean) [.ref 87, .int (nI 5), .int (nI 103), .int (nI 117), .int (nI 101), .int (nI 116)] n h (some (.int (nI 0))) h := by
  have q := s8_isWord (n := n) 5 103 117 101 116 h0 hby hta hf hK.2.2 (wSo_b _ _ _) (by decide) (by decide)
  rw [if_neg e] at q
  exact q
theorem s8_w1T {n : Nat} {h : q_H} {un ta fl st di pu at_ er en pa tr : Nat} {f : Nat → Nat} {K : mK} (h0 : h 87 = (MO un ta fl st K.2.1 K.2.2.1 (wSo f ta K.2.1) di pu at_ er en pa tr)) (hby : h 89 = PA f) (hta : ta ≤ 300) (hf : ∀ k, k < ta → f k < 256) (hK : wK f ta K) (e : (wSo f ta K.2.1 = 1 ∧ K.2.2.1 - K.2.1 = 5 ∧ f K.2.1 = 101 ∧ f (K.2.1 + 1) = 97 ∧ f (K.2.1 + 2) = 116 ∧ f (K.2.2.1 - 1) = 114)) : SP 1 yX8_isWord cX8_isWord 6 (some .boolean) [.ref 87, .int (nI 5), .int (nI 101), .int (nI 97), .int (nI 116), .int (nI 114)] n h (some (.int (nI 1))) h := by
  have q := s8_isWord (n := n) 5 101 97 116 114 h0 hby hta hf hK.2.2 (wSo_b _ _ _) (by decide) (by decide)
  rw [if_pos e] at q
  exact q
theorem s8_w1F {n : Nat} {h : q_H} {un ta fl st di pu at_ er en pa tr : Nat} {f : Nat → Nat} {K : mK} (h0 : h 87 = (MO un ta fl st K.2.1 K.2.2.1 (wSo f ta K.2.1) di pu at_ er en pa tr)) (hby : h 89 = PA f) (hta : ta ≤ 300) (hf : ∀ k, k < ta → f k < 256) (hK : wK f ta K) (e : ¬ (wSo f ta K.2.1 = 1 ∧ K.2.2.1 - K.2.1 = 5 ∧ f K.2.1 = 101 ∧ f (K.2.1 + 1) = 97 ∧ f (K.2.1 + 2) = 116 ∧ f (K.2.2.1 - 1) = 114)) : SP 1 yX8_isWord cX8_isWord 6 (some .boolean) [.ref 87, .int (nI 5), .int (nI 101), .int (nI 97), .int (nI 116), .int (nI 114)] n h (some (.int (nI 0))) h := by
  have q := s8_isWord (n := n) 5 101 97 116 114 h0 hby hta hf hK.2.2 (wSo_b _ _ _) (by decide) (by decide)
  rw [if_neg e] at q
  exact q
theorem s8_w2T {n : Nat} {h : q_H} {un ta fl st di pu at_ er en pa tr : Nat} {f : Nat → Nat} {K : mK} (h0 : h 87 = (MO un ta fl st K.2.1 K.2.2.1 (wSo f ta K.2.1) di pu at_ er en pa tr)) (hby : h 89 = PA f) (hta : ta ≤ 300) (hf : ∀ k, k < ta → f k < 256) (hK : wK f ta K) (e : (wSo f ta K.2.1 = 1 ∧ K.2.2.1 - K.2.1 = 4 ∧ f K.2.1 = 102 ∧ f (K.2.1 + 1) = 97 ∧ f (K.2.1 + 2) = 115 ∧ f (K.2.2.1 - 1) = 116)) : SP 1 yX8_isWord cX8_isWord 6 (some .boolean) [.ref 87, .int (nI 4), .int (nI 102), .int (nI 97), .int (nI 115), .int (nI 116)] n h (some (.int (nI 1))) h := by
  have q := s8_isWord (n := n) 4 102 97 115 116 h0 hby hta hf hK.2.2 (wSo_b _ _ _) (by decide) (by decide)
  rw [if_pos e] at q
  exact q
theorem s8_w2F {n : Nat} {h : q_H} {un ta fl st di pu at_ er en pa tr : Nat} {f : Nat → Nat} {K : mK} (h0 : h 87 = (MO un ta fl st K.2.1 K.2.2.1 (wSo f ta K.2.1) di pu at_ er en pa tr)) (hby : h 89 = PA f) (hta : ta ≤ 300) (hf : ∀ k, k < ta → f k < 256) (hK : wK f ta K) (e : ¬ (wSo f ta K.2.1 = 1 ∧ K.2.2.1 - K.2.1 = 4 ∧ f K.2.1 = 102 ∧ f (K.2.1 + 1) = 97 ∧ f (K.2.1 + 2) = 115 ∧ f (K.2.2.1 - 1) = 116)) : SP 1 yX8_isWord cX8_isWord 6 (some .boolean) [.ref 87, .int (nI 4), .int (nI 102), .int (nI 97), .int (nI 115), .int (nI 116)] n h (some (.int (nI 0))) h := by
  have q := s8_isWord (n := n) 4 102 97 115 116 h0 hby hta hf hK.2.2 (wSo_b _ _ _) (by decide) (by decide)
  rw [if_neg e] at q
  exact q
theorem s8_w3T {n : Nat} {h : q_H} {un ta fl st di pu at_ er en pa tr : Nat} {f : Nat → Nat} {K : mK} (h0 : h 87 = (MO un ta fl st K.2.1 K.2.2.1 (wSo f ta K.2.1) di pu at_ er en pa tr)) (hby : h 89 = PA f) (hta : ta ≤ 300) (hf : ∀ k, k < ta → f k < 256) (hK : wK f ta K) (e : (wSo f ta K.2.1 = 1 ∧ K.2.2.1 - K.2.1 = 6 ∧ f K.2.1 = 103 ∧ f (K.2.1 + 1) = 114 ∧ f (K.2.1 + 2) = 101 ∧ f (K.2.2.1 - 1) = 121)) : SP 1 yX8_isWord cX8_isWord 6 (some .boolean) [.ref 87, .int (nI 6), .int (nI 103), .int (nI 114), .int (nI 101), .int (nI 121)] n h (some (.int (nI 1))) h := by
  have q := s8_isWord (n := n) 6 103 114 101 121 h0 hby hta hf hK.2.2 (wSo_b _ _ _) (by decide) (by decide)
  rw [if_pos e] at q
  exact q
theorem s8_w3F {n : Nat} {h : q_H} {un ta fl st di pu at_ er en pa tr : Nat} {f : Nat → Nat} {K : mK} (h0 : h 87 = (MO un ta fl st K.2.1 K.2.2.1 (wSo f ta K.2.1) di pu at_ er en pa tr)) (hby : h 89 = PA f) (hta : ta ≤ 300) (hf : ∀ k, k < ta → f k < 256) (hK : wK f ta K) (e : ¬ (wSo f ta K.2.1 = 1 ∧ K.2.2.1 - K.2.1 = 6 ∧ f K.2.1 = 103 ∧ f (K.2.1 + 1) = 114 ∧ f (K.2.1 + 2) = 101 ∧ f (K.2.2.1 - 1) = 121)) : SP 1 yX8_isWord cX8_isWord 6 (some .boolean) [.ref 87, .int (nI 6), .int (nI 103), .int (nI 114), .int (nI 101), .int (nI 121)] n h (some (.int (nI 0))) h := by
  have q := s8_isWord (n := n) 6 103 114 101 121 h0 hby hta hf hK.2.2 (wSo_b _ _ _) (by decide) (by decide)
  rw [if_neg e] at q
  exact q
theorem s8_w4T {n : Nat} {h : q_H} {un ta fl st di pu at_ er en pa tr : Nat} {f : Nat → Nat} {K : mK} (h0 : h 87 = (MO un ta fl st K.2.1 K.2.2.1 (wSo f ta K.2.1) di pu at_ er en pa tr)) (hby : h 89 = PA f) (hta : ta ≤ 300) (hf : ∀ k, k < ta → f k < 256) (hK : wK f ta K) (e : (wSo f ta K.2.1 = 1 ∧ K.2.2.1 - K.2.1 = 4 ∧ f K.2.1 = 100 ∧ f (K.2.1 + 1) = 101 ∧ f (K.2.1 + 2) = 97 ∧ f (K.2.2.1 - 1) = 102)) : SP 1 yX8_isWord cX8_isWord 6 (some .boolean) [.ref 87, .int (nI 4), .int (nI 100), .int (nI 101), .int (nI 97), .int (nI 102)] n h (some (.int (nI 1))) h := by
  have q := s8_isWord (n := n) 4 100 101 97 102 h0 hby hta hf hK.2.2 (wSo_b _ _ _) (by decide) (by decide)
  rw [if_pos e] at q
  exact q
theorem s8_w4F {n : Nat} {h : q_H} {un ta fl st di pu at_ er en pa tr : Nat} {f : Nat → Nat} {K : mK} (h0 : h 87 = (MO un ta fl st K.2.1 K.2.2.1 (wSo f ta K.2.1) di pu at_ er en pa tr)) (hby : h 89 = PA f) (hta : ta ≤ 300) (hf : ∀ k, k < ta → f k < 256) (hK : wK f ta K) (e : ¬ (wSo f ta K.2.1 = 1 ∧ K.2.2.1 - K.2.1 = 4 ∧ f K.2.1 = 100 ∧ f (K.2.1 + 1) = 101 ∧ f (K.2.1 + 2) = 97 ∧ f (K.2.2.1 - 1) = 102)) : SP 1 yX8_isWord cX8_isWord 6 (some .boolean) [.ref 87, .int (nI 4), .int (nI 100), .int (nI 101), .int (nI 97), .int (nI 102)] n h (some (.int (nI 0))) h := by
  have q := s8_isWord (n := n) 4 100 101 97 102 h0 hby hta hf hK.2.2 (wSo_b _ _ _) (by decide) (by decide)
  rw [if_neg e] at q
  exact q
theorem s8_w5T {n : Nat} {h : q_H} {un ta fl st di pu at_ er en pa tr : Nat} {f : Nat → Nat} {K : mK} (h0 : h 87 = (MO un ta fl st K.2.1 K.2.2.1 (wSo f ta K.2.1) di pu at_ er en pa tr)) (hby : h 89 = PA f) (hta : ta ≤ 300) (hf : ∀ k, k < ta → f k < 256) (hK : wK f ta K) (e : (wSo f ta K.2.1 = 1 ∧ K.2.2.1 - K.2.1 = 5 ∧ f K.2.1 = 100 ∧ f (K.2.1 + 1) = 114 ∧ f (K.2.1 + 2) = 117 ∧ f (K.2.2.1 - 1) = 107)) : SP 1 yX8_isWord cX8_isWord 6 (some .boolean) [.ref 87, .int (nI 5), .int (nI 100), .int (nI 114), .int (nI 117), .int (nI 107)] n h (some (.int (nI 1))) h := by
  have q := s8_isWord (n := n) 5 100 114 117 107 h0 hby hta hf hK.2.2 (wSo_b _ _ _) (by decide) (by decide)
  rw [if_pos e] at q
  exact q
theorem s8_w5F {n : Nat} {h : q_H} {un ta fl st di pu at_ er en pa tr : Nat} {f : Nat → Nat} {K : mK} (h0 : h 87 = (MO un ta fl st K.2.1 K.2.2.1 (wSo f ta K.2.1) di pu at_ er en pa tr)) (hby : h 89 = PA f) (hta : ta ≤ 300) (hf : ∀ k, k < ta → f k < 256) (hK : wK f ta K) (e : ¬ (wSo f ta K.2.1 = 1 ∧ K.2.2.1 - K.2.1 = 5 ∧ f K.2.1 = 100 ∧ f (K.2.1 + 1) = 114 ∧ f (K.2.1 + 2) = 117 ∧ f (K.2.2.1 - 1) = 107)) : SP 1 yX8_isWord cX8_isWord 6 (some .boolean) [.ref 87, .int (nI 5), .int (nI 100), .int (nI 114), .int (nI 117), .int (nI 107)] n h (some (.int (nI 0))) h := by
  have q := s8_isWord (n := n) 5 100 114 117 107 h0 hby hta hf hK.2.2 (wSo_b _ _ _) (by decide) (by decide)
  rw [if_neg e] at q
  exact q
theorem s8_w6T {n : Nat} {h : q_H} {un ta fl st di pu at_ er en pa tr : Nat} {f : Nat → Nat} {K : mK} (h0 : h 87 = (MO un ta fl st K.2.1 K.2.2.1 (wSo f ta K.2.1) di pu at_ er en pa tr)) (hby : h 89 = PA f) (hta : ta ≤ 300) (hf : ∀ k, k < ta → f k < 256) (hK : wK f ta K) (e : (wSo f ta K.2.1 = 1 ∧ K.2.2.1 - K.2.1 = 4 ∧ f K.2.1 = 100 ∧ f (K.2.1 + 1) = 105 ∧ f (K.2.1 + 2) = 115 ∧ f (K.2.2.1 - 1) = 104)) : SP 1 yX8_isWord cX8_isWord 6 (some .boolean) [.ref 87, .int (nI 4), .int (nI 100), .int (nI 105), .int (nI 115), .int (nI 104)] n h (some (.int (nI 1))) h := by
  have q := s8_isWord (n := n) 4 100 105 115 104 h0 hby hta hf hK.2.2 (wSo_b _ _ _) (by decide) (by decide)
  rw [if_pos e] at q
  exact q
theorem s8_w6F {n : Nat} {h : q_H} {un ta fl st di pu at_ er en pa tr : Nat} {f : Nat → Nat} {K : mK} (h0 : h 87 = (MO un ta fl st K.2.1 K.2.2.1 (wSo f ta K.2.1) di pu at_ er en pa tr)) (hby : h 89 = PA f) (hta : ta ≤ 300) (hf : ∀ k, k < ta → f k < 256) (hK : wK f ta K) (e : ¬ (wSo f ta K.2.1 = 1 ∧ K.2.2.1 - K.2.1 = 4 ∧ f K.2.1 = 100 ∧ f (K.2.1 + 1) = 105 ∧ f (K.2.1 + 2) = 115 ∧ f (K.2.2.1 - 1) = 104)) : SP 1 yX8_isWord cX8_isWord 6 (some .boolean) [.ref 87, .int (nI 4), .int (nI 100), .int (nI 105), .int (nI 115), .int (nI 104)] n h (some (.int (nI 0))) h := by
  have q := s8_isWord (n := n) 4 100 105 115 104 h0 hby hta hf hK.2.2 (wSo_b _ _ _) (by decide) (by decide)
  rw [if_neg e] at q
  exact q
theorem s8_f4T {n : Nat} {h : q_H} {un ta fl st di pu at_ er en pa tr : Nat} {f : Nat → Nat} {K : mK} (d : Nat) (h0 : h 87 = (MO un ta fl st K.2.1 K.2.2.1 (wSo f ta K.2.1) di pu at_ er en pa tr)) (hby : h 89 = PA f) (hta : ta ≤ 300) (hf : ∀ k, k < ta → f k < 256) (hK : wK f ta K) (hk : K.2.1 + 3 < ta) (hd : d < 256) (e : f (K.2.1 + 3) = d) : SP 1 yX8_isFourth cX8_isFourth 2 (some .boolean) [.ref 87, .int (nI d)] n h (some (.int (nI 1))) h := by
  have q := s8_isFourth (n := n) d h0 hby hta hf hk hd
  rw [if_pos e] at q
  exact q
theorem s8_f4F {n : Nat} {h : q_H} {un ta fl st di pu at_ er en pa tr : Nat} {f : Nat → Nat} {K : mK} (d : Nat) (h0 : h 87 = (MO un ta fl st K.2.1 K.2.2.1 (wSo f ta K.2.1) di pu at_ er en pa tr)) (hby : h 89 = PA f) (hta : ta ≤ 300) (hf : ∀ k, k < ta → f k < 256) (hK : wK f ta K) (hk : K.2.1 + 3 < ta) (hd : d < 256) (e : ¬ f (K.2.1 + 3) = d) : SP 1 yX8_isFourth cX8_isFourth 2 (some .boolean) [.ref 87, .int (nI d)] n h (some (.int (nI 0))) h := by
  have q := s8_isFourth (n := n) d h0 hby hta hf hk hd
  rw [if_neg e] at q
  exact q
set_option maxHeartbeats 2000000 in
set_option maxRecDepth 20000 in
theorem s8_isGuestWord {n : Nat} {h : q_H} {un ta fl st di pu at_ er en pa tr : Nat} {f : Nat → Nat} {K : mK} (h0 : h 87 = (MO un ta fl st K.2.1 K.2.2.1 (wSo f ta K.2.1) di pu at_ er en pa tr)) (hby : h 89 = PA f) (hta : ta ≤ 300) (hf : ∀ k, k < ta → f k < 256) (hK : wK f ta K) : SP 2 yX8_isGuestWord cX8_isGuestWord 1 (some .boolean) [.ref 87] n h (some (.int (if mWd f K 0 = true then nI 1 else nI 0))) h := by
  refine q_SPi RX8 rfl (by decide +kernel) (la := _) rfl rfl (fun Γ ad C F => ?_)
  refine g_aload_n (pc := 0) C (hl := rfl) dX8_isGuestWord_0 ?_
  refine g_iconst (pc := 1) C qk_iconst_5 dX8_isGuestWord_1 ?_
  refine g_bipush (pc := 2) C qk_bipush_103 dX8_isGuestWord_2 ?_
  refine g_bipush (pc := 4) C qk_bipush_117 dX8_isGuestWord_4 ?_
  refine g_bipush (pc := 6) C qk_bipush_101 dX8_isGuestWord_6 ?_
  refine g_bipush (pc := 8) C qk_bipush_116 dX8_isGuestWord_8 ?_
  by_cases e0 : (wSo f ta K.2.1 = 1 ∧ K.2.2.1 - K.2.1 = 5 ∧ f K.2.1 = 103 ∧ f (K.2.1 + 1) = 117 ∧ f (K.2.1 + 2) = 101 ∧ f (K.2.2.1 - 1) = 116)
  · refine g_V5v (pc := 10) C lv8_98 dX8_isGuestWord_10 (s8_w0T h0 hby hta hf hK e0) h0 (by decide) (Nat.le_of_ble_eq_true rfl) ?_
    refine g_if_eqN (pc := 13) C 29 dX8_isGuestWord_13 (by decide) (by decide) (fun q => absurd q (by decide)) (fun _ => ?_)
    refine g_aload_n (pc := 16) C (hl := rfl) dX8_isGuestWord_16 ?_
    refine g_bipush (pc := 17) C qk_bipush_115 dX8_isGuestWord_17 ?_
    by_cases g0 : f (K.2.1 + 3) = 115
    · refine g_V1v (pc := 19) C lv8_102 dX8_isGuestWord_19 (s8_f4T 115 h0 hby hta hf hK (by have := e0.2.1; have := hK.2.2; omega) (by decide) g0) h0 (by decide) (Nat.le_of_ble_eq_true rfl) ?_
      refine g_if_eqN (pc := 22) C 29 dX8_isGuestWord_22 (by decide) (by decide) (fun q => absurd q (by decide)) (fun _ => ?_)
      refine g_iconst (pc := 25) C qk_iconst_1 dX8_isGuestWord_25 ?_
      refine g_goto (pc := 26) C 30 dX8_isGuestWord_26 (by decide) ?_
      exact g_iret (pc := 30) C F dX8_isGuestWord_30 rfl rfl (by rw [if_pos ((wWd_0 hK hf).mpr ⟨e0, g0⟩)]) (rfl)
    · refine g_V1v (pc := 19) C lv8_102 dX8_isGuestWord_19 (s8_f4F 115 h0 hby hta hf hK (by have := e0.2.1; have := hK.2.2; omega) (by decide) g0) h0 (by decide) (Nat.le_of_ble_eq_true rfl) ?_
      refine g_if_eqN (pc := 22) C 29 dX8_isGuestWord_22 (by decide) (by decide) (fun _ => ?_) (fun q => absurd q (by decide))
      refine g_iconst (pc := 29) C qk_iconst_0 dX8_isGuestWord_29 ?_
      exact g_iret (pc := 30) C F dX8_isGuestWord_30 rfl rfl (by rw [if_neg (fun q => g0 ((wWd_0 hK hf).mp q).2)]) (rfl)
  · refine g_V5v (pc := 10) C lv8_98 dX8_isGuestWord_10 (s8_w0F h0 hby hta hf hK e0) h0 (by decide) (Nat.le_of_ble_eq_true rfl) ?_
    refine g_if_eqN (pc := 13) C 29 dX8_isGuestWord_13 (by decide) (by decide) (fun _ => ?_) (fun q => absurd q (by decide))
    refine g_iconst (pc := 29) C qk_iconst_0 dX8_isGuestWord_29 ?_
    exact g_iret (pc := 30) C F dX8_isGuestWord_30 rfl rfl (by rw [if_neg (fun q => e0 ((wWd_0 hK hf).mp q).1)]) (rfl)
set_option maxHeartbeats 2000000 in
set_option maxRecDepth 20000 in
theorem s8_isDishWord {n : Nat} {h : q_H} {un ta fl st di pu at_ er en pa tr : Nat} {f : Nat → Nat} {K : mK} (h0 : h 87 = (MO un ta fl st K.2.1 K.2.2.1 (wSo f ta K.2.1) di pu at_ er en pa tr)) (hby : h 89 = PA f) (hta : ta ≤ 300) (hf : ∀ k, k < ta → f k < 256) (hK : wK f ta K) : SP 2 yX8_isDishWord cX8_isDishWord 1 (some .boolean) [.ref 87] n h (some (.int (if mWd f K 6 = true then nI 1 else nI 0))) h := by
  refine q_SPi RX8 rfl (by decide +kernel) (la := _) rfl rfl (fun Γ ad C F => ?_)
  refine g_aload_n (pc := 0) C (hl := rfl) dX8_isDishWord_0 ?_
  refine g_iconst (pc := 1) C qk_iconst_4 dX8_isDishWord_1 ?_
  refine g_bipush (pc := 2) C qk_bipush_100 dX8_isDishWord_2 ?_
  refine g_bipush (pc := 4) C qk_bipush_105 dX8_isDishWord_4 ?_
  refine g_bipush (pc := 6) C qk_bipush_115 dX8_isDishWord_6 ?_
  refine g_bipush (pc := 8) C qk_bipush_104 dX8_isDishWord_8 ?_
  by_cases e6 : (wSo f ta K.2.1 = 1 ∧ K.2.2.1 - K.2.1 = 4 ∧ f K.2.1 = 100 ∧ f (K.2.1 + 1) = 105 ∧ f (K.2.1 + 2) = 115 ∧ f (K.2.2.1 - 1) = 104)
  · refine g_V5v (pc := 10) C lv8_98 dX8_isDishWord_10 (s8_w6T h0 hby hta hf hK e6) h0 (by decide) (Nat.le_of_ble_eq_true rfl) ?_
    exact g_iret (pc := 13) C F dX8_isDishWord_13 rfl rfl (by rw [if_pos ((wWd_6 hK hf).mpr e6)]) (rfl)
  · refine g_V5v (pc := 10) C lv8_98 dX8_isDishWord_10 (s8_w6F h0 hby hta hf hK e6) h0 (by decide) (Nat.le_of_ble_eq_true rfl) ?_
    exact g_iret (pc := 13) C F dX8_isDishWord_13 rfl rfl (by rw [if_neg (fun q => e6 ((wWd_6 hK hf).mp q))]) (rfl)
set_option maxHeartbeats 2000000 in
set_option maxRecDepth 20000 in
theorem s8_sn1 {n : Nat} {h : q_H} {un ta fl st di pu at_ er en pa tr : Nat} {f : Nat → Nat} {K : mK} (h0 : h 87 = (MO un ta fl st K.2.1 K.2.2.1 (wSo f ta K.2.1) di pu at_ er en pa tr)) (hby : h 89 = PA f) (hta : ta ≤ 300) (hf : ∀ k, k < ta → f k < 256) (hK : wK f ta K)  (e1 : mWd f K 1 = true) : SP 2 yX8_sortNow cX8_sortNow 1 (some .int) [.ref 87] n h (some (.int (nI 1))) h := by
  refine q_SPi RX8 rfl (by decide +kernel) (la := _) rfl rfl (fun Γ ad C F => ?_)
  refine g_aload_n (pc := 0) C (hl := rfl) dX8_sortNow_0 ?_
  refine g_iconst (pc := 1) C qk_iconst_5 dX8_sortNow_1 ?_
  refine g_bipush (pc := 2) C qk_bipush_101 dX8_sortNow_2 ?_
  refine g_bipush (pc := 4) C qk_bipush_97 dX8_sortNow_4 ?_
  refine g_bipush (pc := 6) C qk_bipush_116 dX8_sortNow_6 ?_
  refine g_bipush (pc := 8) C qk_bipush_114 dX8_sortNow_8 ?_
  refine g_V5v (pc := 10) C lv8_98 dX8_sortNow_10 (s8_w1T h0 hby hta hf hK ((wWd_1 hK hf).mp e1).1) h0 (by decide) (Nat.le_of_ble_eq_true rfl) ?_
  refine g_if_eqN (pc := 13) C 27 dX8_sortNow_13 (by decide) (by decide) (fun q => absurd q (by decide)) (fun _ => ?_)
  refine g_aload_n (pc := 16) C (hl := rfl) dX8_sortNow_16 ?_
  refine g_bipush (pc := 17) C qk_bipush_101 dX8_sortNow_17 ?_
  refine g_V1v (pc := 19) C lv8_102 dX8_sortNow_19 (s8_f4T 101 h0 hby hta hf hK (by have := ((wWd_1 hK hf).mp e1).1.2.1; have := hK.2.2; omega) (by decide) ((wWd_1 hK hf).mp e1).2) h0 (by decide) (Nat.le_of_ble_eq_true rfl) ?_
  refine g_if_eqN (pc := 22) C 27 dX8_sortNow_22 (by decide) (by decide) (fun q => absurd q (by decide)) (fun _ => ?_)
  refine g_iconst (pc := 25) C qk_iconst_1 dX8_sortNow_25 ?_
  exact g_iret (pc := 26) C F dX8_sortNow_26 rfl rfl (rfl) (rfl)
set_option maxHeartbeats 2000000 in
set_option maxRecDepth 20000 in
theorem s8_sn2 {n : Nat} {h : q_H} {un ta fl st di pu at_ er en pa tr : Nat} {f : Nat → Nat} {K : mK} (h0 : h 87 = (MO un ta fl st K.2.1 K.2.2.1 (wSo f ta K.2.1) di pu at_ er en pa tr)) (hby : h 89 = PA f) (hta : ta ≤ 300) (hf : ∀ k, k < ta → f k < 256) (hK : wK f ta K) (e1 : ¬ mWd f K 1 = true) (e2 : mWd f K 2 = true) : SP 2 yX8_sortNow cX8_sortNow 1 (some .int) [.ref 87] n h (some (.int (nI 2))) h := by
  refine q_SPi RX8 rfl (by decide +kernel) (la := _) rfl rfl (fun Γ ad C F => ?_)
  refine g_aload_n (pc := 0) C (hl := rfl) dX8_sortNow_0 ?_
  refine g_iconst (pc := 1) C qk_iconst_5 dX8_sortNow_1 ?_
  refine g_bipush (pc := 2) C qk_bipush_101 dX8_sortNow_2 ?_
  refine g_bipush (pc := 4) C qk_bipush_97 dX8_sortNow_4 ?_
  refine g_bipush (pc := 6) C qk_bipush_116 dX8_sortNow_6 ?_
  refine g_bipush (pc := 8) C qk_bipush_114 dX8_sortNow_8 ?_
  by_cases p1 : (wSo f ta K.2.1 = 1 ∧ K.2.2.1 - K.2.1 = 5 ∧ f K.2.1 = 101 ∧ f (K.2.1 + 1) = 97 ∧ f (K.2.1 + 2) = 116 ∧ f (K.2.2.1 - 1) = 114)
  · refine g_V5v (pc := 10) C lv8_98 dX8_sortNow_10 (s8_w1T h0 hby hta hf hK p1) h0 (by decide) (Nat.le_of_ble_eq_true rfl) ?_
    refine g_if_eqN (pc := 13) C 27 dX8_sortNow_13 (by decide) (by decide) (fun q => absurd q (by decide)) (fun _ => ?_)
    refine g_aload_n (pc := 16) C (hl := rfl) dX8_sortNow_16 ?_
    refine g_bipush (pc := 17) C qk_bipush_101 dX8_sortNow_17 ?_
    refine g_V1v (pc := 19) C lv8_102 dX8_sortNow_19 (s8_f4F 101 h0 hby hta hf hK (by have := p1.2.1; have := hK.2.2; omega) (by decide) (fun q => e1 ((wWd_1 hK hf).mpr ⟨p1, q⟩))) h0 (by decide) (Nat.le_of_ble_eq_true rfl) ?_
    refine g_if_eqN (pc := 22) C 27 dX8_sortNow_22 (by decide) (by decide) (fun _ => ?_) (fun q => absurd q (by decide))
    refine g_aload_n (pc := 27) C (hl := rfl) dX8_sortNow_27 ?_
    refine g_iconst (pc := 28) C qk_iconst_4 dX8_sortNow_28 ?_
    refine g_bipush (pc := 29) C qk_bipush_102 dX8_sortNow_29 ?_
    refine g_bipush (pc := 31) C qk_bipush_97 dX8_sortNow_31 ?_
    refine g_bipush (pc := 33) C qk_bipush_115 dX8_sortNow_33 ?_
    refine g_bipush (pc := 35) C qk_bipush_116 dX8_sortNow_35 ?_
    refine g_V5v (pc := 37) C lv8_98 dX8_sortNow_37 (s8_w2T h0 hby hta hf hK ((wWd_2 hK hf).mp e2)) h0 (by decide) (Nat.le_of_ble_eq_true rfl) ?_
    refine g_if_eqN (pc := 40) C 45 dX8_sortNow_40 (by decide) (by decide) (fun q => absurd q (by decide)) (fun _ => ?_)
    refine g_iconst (pc := 43) C qk_iconst_2 dX8_sortNow_43 ?_
    exact g_iret (pc := 44) C F dX8_sortNow_44 rfl rfl (rfl) (rfl)
  · refine g_V5v (pc := 10) C lv8_98 dX8_sortNow_10 (s8_w1F h0 hby hta hf hK p1) h0 (by decide) (Nat.le_of_ble_eq_true rfl) ?_
    refine g_if_eqN (pc := 13) C 27 dX8_sortNow_13 (by decide) (by decide) (fun _ => ?_) (fun q => absurd q (by decide))
    refine g_aload_n (pc := 27) C (hl := rfl) dX8_sortNow_27 ?_
    refine g_iconst (pc := 28) C qk_iconst_4 dX8_sortNow_28 ?_
    refine g_bipush (pc := 29) C qk_bipush_102 dX8_sortNow_29 ?_
    refine g_bipush (pc := 31) C qk_bipush_97 dX8_sortNow_31 ?_
    refine g_bipush (pc := 33) C qk_bipush_115 dX8_sortNow_33 ?_
    refine g_bipush (pc := 35) C qk_bipush_116 dX8_sortNow_35 ?_
    refine g_V5v (pc := 37) C lv8_98 dX8_sortNow_37 (s8_w2T h0 hby hta hf hK ((wWd_2 hK hf).mp e2)) h0 (by decide) (Nat.le_of_ble_eq_true rfl) ?_
    refine g_if_eqN (pc := 40) C 45 dX8_sortNow_40 (by decide) (by decide) (fun q => absurd q (by decide)) (fun _ => ?_)
    refine g_iconst (pc := 43) C qk_iconst_2 dX8_sortNow_43 ?_
    exact g_iret (pc := 44) C F dX8_sortNow_44 rfl rfl (rfl) (rfl)
set_option maxHeartbeats 2000000 in
set_option maxRecDepth 20000 in
theorem s8_sn3 {n : Nat} {h : q_H} {un ta fl st di pu at_ er en pa tr : Nat} {f : Nat → Nat} {K : mK} (h0 : h 87 = (MO un ta fl st K.2.1 K.2.2.1 (wSo f ta K.2.1) di pu at_ er en pa tr)) (hby : h 89 = PA f) (hta : ta ≤ 300) (hf : ∀ k, k < ta → f k < 256) (hK : wK f ta K) (e1 : ¬ mWd f K 1 = true) (e2 : ¬ mWd f K 2 = true) (e3 : mWd f K 3 = true) : SP 2 yX8_sortNow cX8_sortNow 1 (some .int) [.ref 87] n h (some (.int (nI 3))) h := by
  refine q_SPi RX8 rfl (by decide +kernel) (la := _) rfl rfl (fun Γ ad C F => ?_)
  refine g_aload_n (pc := 0) C (hl := rfl) dX8_sortNow_0 ?_
  refine g_iconst (pc := 1) C qk_iconst_5 dX8_sortNow_1 ?_
  refine g_bipush (pc := 2) C qk_bipush_101 dX8_sortNow_2 ?_
  refine g_bipush (pc := 4) C qk_bipush_97 dX8_sortNow_4 ?_
  refine g_bipush (pc := 6) C qk_bipush_116 dX8_sortNow_6 ?_
  refine g_bipush (pc := 8) C qk_bipush_114 dX8_sortNow_8 ?_
  by_cases p1 : (wSo f ta K.2.1 = 1 ∧ K.2.2.1 - K.2.1 = 5 ∧ f K.2.1 = 101 ∧ f (K.2.1 + 1) = 97 ∧ f (K.2.1 + 2) = 116 ∧ f (K.2.2.1 - 1) = 114)
  · refine g_V5v (pc := 10) C lv8_98 dX8_sortNow_10 (s8_w1T h0 hby hta hf hK p1) h0 (by decide) (Nat.le_of_ble_eq_true rfl) ?_
    refine g_if_eqN (pc := 13) C 27 dX8_sortNow_13 (by decide) (by decide) (fun q => absurd q (by decide)) (fun _ => ?_)
    refine g_aload_n (pc := 16) C (hl := rfl) dX8_sortNow_16 ?_
    refine g_bipush (pc := 17) C qk_bipush_101 dX8_sortNow_17 ?_
    refine g_V1v (pc := 19) C lv8_102 dX8_sortNow_19 (s8_f4F 101 h0 hby hta hf hK (by have := p1.2.1; have := hK.2.2; omega) (by decide) (fun q => e1 ((wWd_1 hK hf).mpr ⟨p1, q⟩))) h0 (by decide) (Nat.le_of_ble_eq_true rfl) ?_
    refine g_if_eqN (pc := 22) C 27 dX8_sortNow_22 (by decide) (by decide) (fun _ => ?_) (fun q => absurd q (by decide))
    refine g_aload_n (pc := 27) C (hl := rfl) dX8_sortNow_27 ?_
    refine g_iconst (pc := 28) C qk_iconst_4 dX8_sortNow_28 ?_
    refine g_bipush (pc := 29) C qk_bipush_102 dX8_sortNow_29 ?_
    refine g_bipush (pc := 31) C qk_bipush_97 dX8_sortNow_31 ?_
    refine g_bipush (pc := 33) C qk_bipush_115 dX8_sortNow_33 ?_
    refine g_bipush (pc := 35) C qk_bipush_116 dX8_sortNow_35 ?_
    refine g_V5v (pc := 37) C lv8_98 dX8_sortNow_37 (s8_w2F h0 hby hta hf hK (fun q => e2 ((wWd_2 hK hf).mpr q))) h0 (by decide) (Nat.le_of_ble_eq_true rfl) ?_
    refine g_if_eqN (pc := 40) C 45 dX8_sortNow_40 (by decide) (by decide) (fun _ => ?_) (fun q => absurd q (by decide))
    refine g_aload_n (pc := 45) C (hl := rfl) dX8_sortNow_45 ?_
    refine g_bipush (pc := 46) C qk_bipush_6 dX8_sortNow_46 ?_
    refine g_bipush (pc := 48) C qk_bipush_103 dX8_sortNow_48 ?_
    refine g_bipush (pc := 50) C qk_bipush_114 dX8_sortNow_50 ?_
    refine g_bipush (pc := 52) C qk_bipush_101 dX8_sortNow_52 ?_
    refine g_bipush (pc := 54) C qk_bipush_121 dX8_sortNow_54 ?_
    refine g_V5v (pc := 56) C lv8_98 dX8_sortNow_56 (s8_w3T h0 hby hta hf hK ((wWd_3 hK hf).mp e3).1) h0 (by decide) (Nat.le_of_ble_eq_true rfl) ?_
    refine g_if_eqN (pc := 59) C 88 dX8_sortNow_59 (by decide) (by decide) (fun q => absurd q (by decide)) (fun _ => ?_)
    refine g_aload_n (pc := 62) C (hl := rfl) dX8_sortNow_62 ?_
    refine g_bipush (pc := 63) C qk_bipush_101 dX8_sortNow_63 ?_
    refine g_V1v (pc := 65) C lv8_102 dX8_sortNow_65 (s8_f4T 101 h0 hby hta hf hK (by have := ((wWd_3 hK hf).mp e3).1.2.1; have := hK.2.2; omega) (by decide) ((wWd_3 hK hf).mp e3).2.1) h0 (by decide) (Nat.le_of_ble_eq_true rfl) ?_
    refine g_if_eqN (pc := 68) C 88 dX8_sortNow_68 (by decide) (by decide) (fun q => absurd q (by decide)) (fun _ => ?_)
    refine g_aload_n (pc := 71) C (hl := rfl) dX8_sortNow_71 ?_
    refine g_aload_n (pc := 72) C (hl := rfl) dX8_sortNow_72 ?_
    refine g_get (pc := 73) C fl8_83 dX8_sortNow_73 h0 rfl ?_
    refine g_iconst (pc := 76) C qk_iconst_4 dX8_sortNow_76 ?_
    refine g_iaddN (pc := 77) C dX8_sortNow_77 ?_
    refine g_V1v (pc := 78) C lv8_86 dX8_sortNow_78 (s8_byteAtN (K.2.1 + 4) h0 hby hta (by have := ((wWd_3 hK hf).mp e3).1.2.1; have := hK.2.2; omega)) h0 (by decide) (Nat.le_of_ble_eq_true rfl) ?_
    refine g_bipush (pc := 81) C qk_bipush_100 dX8_sortNow_81 ?_
    refine g_ic_neN (pc := 83) C 88 dX8_sortNow_83 (by decide) (by have := hf (K.2.1 + 4) (by have := ((wWd_3 hK hf).mp e3).1.2.1; have := hK.2.2; omega); omega) (fun q => absurd q (fun z => z ((wWd_3 hK hf).mp e3).2.2)) (fun _ => ?_)
    refine g_iconst (pc := 86) C qk_iconst_3 dX8_sortNow_86 ?_
    exact g_iret (pc := 87) C F dX8_sortNow_87 rfl rfl (rfl) (rfl)
  · refine g_V5v (pc := 10) C lv8_98 dX8_sortNow_10 (s8_w1F h0 hby hta hf hK p1) h0 (by decide) (Nat.le_of_ble_eq_true rfl) ?_
    refine g_if_eqN (pc := 13) C 27 dX8_sortNow_13 (by decide) (by decide) (fun _ => ?_) (fun q => absurd q (by decide))
    refine g_aload_n (pc := 27) C (hl := rfl) dX8_sortNow_27 ?_
    refine g_iconst (pc := 28) C qk_iconst_4 dX8_sortNow_28 ?_
    refine g_bipush (pc := 29) C qk_bipush_102 dX8_sortNow_29 ?_
    refine g_bipush (pc := 31) C qk_bipush_97 dX8_sortNow_31 ?_
    refine g_bipush (pc := 33) C qk_bipush_115 dX8_sortNow_33 ?_
    refine g_bipush (pc := 35) C qk_bipush_116 dX8_sortNow_35 ?_
    refine g_V5v (pc := 37) C lv8_98 dX8_sortNow_37 (s8_w2F h0 hby hta hf hK (fun q => e2 ((wWd_2 hK hf).mpr q))) h0 (by decide) (Nat.le_of_ble_eq_true rfl) ?_
    refine g_if_eqN (pc := 40) C 45 dX8_sortNow_40 (by decide) (by decide) (fun _ => ?_) (fun q => absurd q (by decide))
    refine g_aload_n (pc := 45) C (hl := rfl) dX8_sortNow_45 ?_
    refine g_bipush (pc := 46) C qk_bipush_6 dX8_sortNow_46 ?_
    refine g_bipush (pc := 48) C qk_bipush_103 dX8_sortNow_48 ?_
    refine g_bipush (pc := 50) C qk_bipush_114 dX8_sortNow_50 ?_
    refine g_bipush (pc := 52) C qk_bipush_101 dX8_sortNow_52 ?_
    refine g_bipush (pc := 54) C qk_bipush_121 dX8_sortNow_54 ?_
    refine g_V5v (pc := 56) C lv8_98 dX8_sortNow_56 (s8_w3T h0 hby hta hf hK ((wWd_3 hK hf).mp e3).1) h0 (by decide) (Nat.le_of_ble_eq_true rfl) ?_
    refine g_if_eqN (pc := 59) C 88 dX8_sortNow_59 (by decide) (by decide) (fun q => absurd q (by decide)) (fun _ => ?_)
    refine g_aload_n (pc := 62) C (hl := rfl) dX8_sortNow_62 ?_
    refine g_bipush (pc := 63) C qk_bipush_101 dX8_sortNow_63 ?_
    refine g_V1v (pc := 65) C lv8_102 dX8_sortNow_65 (s8_f4T 101 h0 hby hta hf hK (by have := ((wWd_3 hK hf).mp e3).1.2.1; have := hK.2.2; omega) (by decide) ((wWd_3 hK hf).mp e3).2.1) h0 (by decide) (Nat.le_of_ble_eq_true rfl) ?_
    refine g_if_eqN (pc := 68) C 88 dX8_sortNow_68 (by decide) (by decide) (fun q => absurd q (by decide)) (fun _ => ?_)
    refine g_aload_n (pc := 71) C (hl := rfl) dX8_sortNow_71 ?_
    refine g_aload_n (pc := 72) C (hl := rfl) dX8_sortNow_72 ?_
    refine g_get (pc := 73) C fl8_83 dX8_sortNow_73 h0 rfl ?_
    refine g_iconst (pc := 76) C qk_iconst_4 dX8_sortNow_76 ?_
    refine g_iaddN (pc := 77) C dX8_sortNow_77 ?_
    refine g_V1v (pc := 78) C lv8_86 dX8_sortNow_78 (s8_byteAtN (K.2.1 + 4) h0 hby hta (by have := ((wWd_3 hK hf).mp e3).1.2.1; have := hK.2.2; omega)) h0 (by decide) (Nat.le_of_ble_eq_true rfl) ?_
    refine g_bipush (pc := 81) C qk_bipush_100 dX8_sortNow_81 ?_
    refine g_ic_neN (pc := 83) C 88 dX8_sortNow_83 (by decide) (by have := hf (K.2.1 + 4) (by have := ((wWd_3 hK hf).mp e3).1.2.1; have := hK.2.2; omega); omega) (fun q => absurd q (fun z => z ((wWd_3 hK hf).mp e3).2.2)) (fun _ => ?_)
    refine g_iconst (pc := 86) C qk_iconst_3 dX8_sortNow_86 ?_
    exact g_iret (pc := 87) C F dX8_sortNow_87 rfl rfl (rfl) (rfl)
set_option maxHeartbeats 2000000 in
set_option maxRecDepth 20000 in
theorem s8_sn4 {n : Nat} {h : q_H} {un ta fl st di pu at_ er en pa tr : Nat} {f : Nat → Nat} {K : mK} (h0 : h 87 = (MO un ta fl st K.2.1 K.2.2.1 (wSo f ta K.2.1) di pu at_ er en pa tr)) (hby : h 89 = PA f) (hta : ta ≤ 300) (hf : ∀ k, k < ta → f k < 256) (hK : wK f ta K) (e1 : ¬ mWd f K 1 = true) (e2 : ¬ mWd f K 2 = true) (e3 : ¬ mWd f K 3 = true) (e4 : mWd f K 4 = true) : SP 2 yX8_sortNow cX8_sortNow 1 (some .int) [.ref 87] n h (some (.int (nI 4))) h := by
  refine q_SPi RX8 rfl (by decide +kernel) (la := _) rfl rfl (fun Γ ad C F => ?_)
  refine g_aload_n (pc := 0) C (hl := rfl) dX8_sortNow_0 ?_
  refine g_iconst (pc := 1) C qk_iconst_5 dX8_sortNow_1 ?_
  refine g_bipush (pc := 2) C qk_bipush_101 dX8_sortNow_2 ?_
  refine g_bipush (pc := 4) C qk_bipush_97 dX8_sortNow_4 ?_
  refine g_bipush (pc := 6) C qk_bipush_116 dX8_sortNow_6 ?_
  refine g_bipush (pc := 8) C qk_bipush_114 dX8_sortNow_8 ?_
  by_cases p1 : (wSo f ta K.2.1 = 1 ∧ K.2.2.1 - K.2.1 = 5 ∧ f K.2.1 = 101 ∧ f (K.2.1 + 1) = 97 ∧ f (K.2.1 + 2) = 116 ∧ f (K.2.2.1 - 1) = 114)
  · refine g_V5v (pc := 10) C lv8_98 dX8_sortNow_10 (s8_w1T h0 hby hta hf hK p1) h0 (by decide) (Nat.le_of_ble_eq_true rfl) ?_
    refine g_if_eqN (pc := 13) C 27 dX8_sortNow_13 (by decide) (by decide) (fun q => absurd q (by decide)) (fun _ => ?_)
    refine g_aload_n (pc := 16) C (hl := rfl) dX8_sortNow_16 ?_
    refine g_bipush (pc := 17) C qk_bipush_101 dX8_sortNow_17 ?_
    refine g_V1v (pc := 19) C lv8_102 dX8_sortNow_19 (s8_f4F 101 h0 hby hta hf hK (by have := p1.2.1; have := hK.2.2; omega) (by decide) (fun q => e1 ((wWd_1 hK hf).mpr ⟨p1, q⟩))) h0 (by decide) (Nat.le_of_ble_eq_true rfl) ?_
    refine g_if_eqN (pc := 22) C 27 dX8_sortNow_22 (by decide) (by decide) (fun _ => ?_) (fun q => absurd q (by decide))
    refine g_aload_n (pc := 27) C (hl := rfl) dX8_sortNow_27 ?_
    refine g_iconst (pc := 28) C qk_iconst_4 dX8_sortNow_28 ?_
    refine g_bipush (pc := 29) C qk_bipush_102 dX8_sortNow_29 ?_
    refine g_bipush (pc := 31) C qk_bipush_97 dX8_sortNow_31 ?_
    refine g_bipush (pc := 33) C qk_bipush_115 dX8_sortNow_33 ?_
    refine g_bipush (pc := 35) C qk_bipush_116 dX8_sortNow_35 ?_
    refine g_V5v (pc := 37) C lv8_98 dX8_sortNow_37 (s8_w2F h0 hby hta hf hK (fun q => e2 ((wWd_2 hK hf).mpr q))) h0 (by decide) (Nat.le_of_ble_eq_true rfl) ?_
    refine g_if_eqN (pc := 40) C 45 dX8_sortNow_40 (by decide) (by decide) (fun _ => ?_) (fun q => absurd q (by decide))
    refine g_aload_n (pc := 45) C (hl := rfl) dX8_sortNow_45 ?_
    refine g_bipush (pc := 46) C qk_bipush_6 dX8_sortNow_46 ?_
    refine g_bipush (pc := 48) C qk_bipush_103 dX8_sortNow_48 ?_
    refine g_bipush (pc := 50) C qk_bipush_114 dX8_sortNow_50 ?_
    refine g_bipush (pc := 52) C qk_bipush_101 dX8_sortNow_52 ?_
    refine g_bipush (pc := 54) C qk_bipush_121 dX8_sortNow_54 ?_
    by_cases p3 : (wSo f ta K.2.1 = 1 ∧ K.2.2.1 - K.2.1 = 6 ∧ f K.2.1 = 103 ∧ f (K.2.1 + 1) = 114 ∧ f (K.2.1 + 2) = 101 ∧ f (K.2.2.1 - 1) = 121)
    · refine g_V5v (pc := 56) C lv8_98 dX8_sortNow_56 (s8_w3T h0 hby hta hf hK p3) h0 (by decide) (Nat.le_of_ble_eq_true rfl) ?_
      refine g_if_eqN (pc := 59) C 88 dX8_sortNow_59 (by decide) (by decide) (fun q => absurd q (by decide)) (fun _ => ?_)
      refine g_aload_n (pc := 62) C (hl := rfl) dX8_sortNow_62 ?_
      refine g_bipush (pc := 63) C qk_bipush_101 dX8_sortNow_63 ?_
      by_cases g3 : f (K.2.1 + 3) = 101
      · refine g_V1v (pc := 65) C lv8_102 dX8_sortNow_65 (s8_f4T 101 h0 hby hta hf hK (by have := p3.2.1; have := hK.2.2; omega) (by decide) g3) h0 (by decide) (Nat.le_of_ble_eq_true rfl) ?_
        refine g_if_eqN (pc := 68) C 88 dX8_sortNow_68 (by decide) (by decide) (fun q => absurd q (by decide)) (fun _ => ?_)
        refine g_aload_n (pc := 71) C (hl := rfl) dX8_sortNow_71 ?_
        refine g_aload_n (pc := 72) C (hl := rfl) dX8_sortNow_72 ?_
        refine g_get (pc := 73) C fl8_83 dX8_sortNow_73 h0 rfl ?_
        refine g_iconst (pc := 76) C qk_iconst_4 dX8_sortNow_76 ?_
        refine g_iaddN (pc := 77) C dX8_sortNow_77 ?_
        refine g_V1v (pc := 78) C lv8_86 dX8_sortNow_78 (s8_byteAtN (K.2.1 + 4) h0 hby hta (by have := p3.2.1; have := hK.2.2; omega)) h0 (by decide) (Nat.le_of_ble_eq_true rfl) ?_
        refine g_bipush (pc := 81) C qk_bipush_100 dX8_sortNow_81 ?_
        refine g_ic_neN (pc := 83) C 88 dX8_sortNow_83 (by decide) (by have := hf (K.2.1 + 4) (by have := p3.2.1; have := hK.2.2; omega); omega) (fun _ => ?_) (fun q => absurd q (fun q => e3 ((wWd_3 hK hf).mpr ⟨p3, g3, q⟩)))
        refine g_aload_n (pc := 88) C (hl := rfl) dX8_sortNow_88 ?_
        refine g_iconst (pc := 89) C qk_iconst_4 dX8_sortNow_89 ?_
        refine g_bipush (pc := 90) C qk_bipush_100 dX8_sortNow_90 ?_
        refine g_bipush (pc := 92) C qk_bipush_101 dX8_sortNow_92 ?_
        refine g_bipush (pc := 94) C qk_bipush_97 dX8_sortNow_94 ?_
        refine g_bipush (pc := 96) C qk_bipush_102 dX8_sortNow_96 ?_
        refine g_V5v (pc := 98) C lv8_98 dX8_sortNow_98 (s8_w4T h0 hby hta hf hK ((wWd_4 hK hf).mp e4)) h0 (by decide) (Nat.le_of_ble_eq_true rfl) ?_
        refine g_if_eqN (pc := 101) C 106 dX8_sortNow_101 (by decide) (by decide) (fun q => absurd q (by decide)) (fun _ => ?_)
        refine g_iconst (pc := 104) C qk_iconst_4 dX8_sortNow_104 ?_
        exact g_iret (pc := 105) C F dX8_sortNow_105 rfl rfl (rfl) (rfl)
      · refine g_V1v (pc := 65) C lv8_102 dX8_sortNow_65 (s8_f4F 101 h0 hby hta hf hK (by have := p3.2.1; have := hK.2.2; omega) (by decide) g3) h0 (by decide) (Nat.le_of_ble_eq_true rfl) ?_
        refine g_if_eqN (pc := 68) C 88 dX8_sortNow_68 (by decide) (by decide) (fun _ => ?_) (fun q => absurd q (by decide))
        refine g_aload_n (pc := 88) C (hl := rfl) dX8_sortNow_88 ?_
        refine g_iconst (pc := 89) C qk_iconst_4 dX8_sortNow_89 ?_
        refine g_bipush (pc := 90) C qk_bipush_100 dX8_sortNow_90 ?_
        refine g_bipush (pc := 92) C qk_bipush_101 dX8_sortNow_92 ?_
        refine g_bipush (pc := 94) C qk_bipush_97 dX8_sortNow_94 ?_
        refine g_bipush (pc := 96) C qk_bipush_102 dX8_sortNow_96 ?_
        refine g_V5v (pc := 98) C lv8_98 dX8_sortNow_98 (s8_w4T h0 hby hta hf hK ((wWd_4 hK hf).mp e4)) h0 (by decide) (Nat.le_of_ble_eq_true rfl) ?_
        refine g_if_eqN (pc := 101) C 106 dX8_sortNow_101 (by decide) (by decide) (fun q => absurd q (by decide)) (fun _ => ?_)
        refine g_iconst (pc := 104) C qk_iconst_4 dX8_sortNow_104 ?_
        exact g_iret (pc := 105) C F dX8_sortNow_105 rfl rfl (rfl) (rfl)
    · refine g_V5v (pc := 56) C lv8_98 dX8_sortNow_56 (s8_w3F h0 hby hta hf hK p3) h0 (by decide) (Nat.le_of_ble_eq_true rfl) ?_
      refine g_if_eqN (pc := 59) C 88 dX8_sortNow_59 (by decide) (by decide) (fun _ => ?_) (fun q => absurd q (by decide))
      refine g_aload_n (pc := 88) C (hl := rfl) dX8_sortNow_88 ?_
      refine g_iconst (pc := 89) C qk_iconst_4 dX8_sortNow_89 ?_
      refine g_bipush (pc := 90) C qk_bipush_100 dX8_sortNow_90 ?_
      refine g_bipush (pc := 92) C qk_bipush_101 dX8_sortNow_92 ?_
      refine g_bipush (pc := 94) C qk_bipush_97 dX8_sortNow_94 ?_
      refine g_bipush (pc := 96) C qk_bipush_102 dX8_sortNow_96 ?_
      refine g_V5v (pc := 98) C lv8_98 dX8_sortNow_98 (s8_w4T h0 hby hta hf hK ((wWd_4 hK hf).mp e4)) h0 (by decide) (Nat.le_of_ble_eq_true rfl) ?_
      refine g_if_eqN (pc := 101) C 106 dX8_sortNow_101 (by decide) (by decide) (fun q => absurd q (by decide)) (fun _ => ?_)
      refine g_iconst (pc := 104) C qk_iconst_4 dX8_sortNow_104 ?_
      exact g_iret (pc := 105) C F dX8_sortNow_105 rfl rfl (rfl) (rfl)
  · refine g_V5v (pc := 10) C lv8_98 dX8_sortNow_10 (s8_w1F h0 hby hta hf hK p1) h0 (by decide) (Nat.le_of_ble_eq_true rfl) ?_
    refine g_if_eqN (pc := 13) C 27 dX8_sortNow_13 (by decide) (by decide) (fun _ => ?_) (fun q => absurd q (by decide))
    refine g_aload_n (pc := 27) C (hl := rfl) dX8_sortNow_27 ?_
    refine g_iconst (pc := 28) C qk_iconst_4 dX8_sortNow_28 ?_
    refine g_bipush (pc := 29) C qk_bipush_102 dX8_sortNow_29 ?_
    refine g_bipush (pc := 31) C qk_bipush_97 dX8_sortNow_31 ?_
    refine g_bipush (pc := 33) C qk_bipush_115 dX8_sortNow_33 ?_
    refine g_bipush (pc := 35) C qk_bipush_116 dX8_sortNow_35 ?_
    refine g_V5v (pc := 37) C lv8_98 dX8_sortNow_37 (s8_w2F h0 hby hta hf hK (fun q => e2 ((wWd_2 hK hf).mpr q))) h0 (by decide) (Nat.le_of_ble_eq_true rfl) ?_
    refine g_if_eqN (pc := 40) C 45 dX8_sortNow_40 (by decide) (by decide) (fun _ => ?_) (fun q => absurd q (by decide))
    refine g_aload_n (pc := 45) C (hl := rfl) dX8_sortNow_45 ?_
    refine g_bipush (pc := 46) C qk_bipush_6 dX8_sortNow_46 ?_
    refine g_bipush (pc := 48) C qk_bipush_103 dX8_sortNow_48 ?_
    refine g_bipush (pc := 50) C qk_bipush_114 dX8_sortNow_50 ?_
    refine g_bipush (pc := 52) C qk_bipush_101 dX8_sortNow_52 ?_
    refine g_bipush (pc := 54) C qk_bipush_121 dX8_sortNow_54 ?_
    by_cases p3 : (wSo f ta K.2.1 = 1 ∧ K.2.2.1 - K.2.1 = 6 ∧ f K.2.1 = 103 ∧ f (K.2.1 + 1) = 114 ∧ f (K.2.1 + 2) = 101 ∧ f (K.2.2.1 - 1) = 121)
    · refine g_V5v (pc := 56) C lv8_98 dX8_sortNow_56 (s8_w3T h0 hby hta hf hK p3) h0 (by decide) (Nat.le_of_ble_eq_true rfl) ?_
      refine g_if_eqN (pc := 59) C 88 dX8_sortNow_59 (by decide) (by decide) (fun q => absurd q (by decide)) (fun _ => ?_)
      refine g_aload_n (pc := 62) C (hl := rfl) dX8_sortNow_62 ?_
      refine g_bipush (pc := 63) C qk_bipush_101 dX8_sortNow_63 ?_
      by_cases g3 : f (K.2.1 + 3) = 101
      · refine g_V1v (pc := 65) C lv8_102 dX8_sortNow_65 (s8_f4T 101 h0 hby hta hf hK (by have := p3.2.1; have := hK.2.2; omega) (by decide) g3) h0 (by decide) (Nat.le_of_ble_eq_true rfl) ?_
        refine g_if_eqN (pc := 68) C 88 dX8_sortNow_68 (by decide) (by decide) (fun q => absurd q (by decide)) (fun _ => ?_)
        refine g_aload_n (pc := 71) C (hl := rfl) dX8_sortNow_71 ?_
        refine g_aload_n (pc := 72) C (hl := rfl) dX8_sortNow_72 ?_
        refine g_get (pc := 73) C fl8_83 dX8_sortNow_73 h0 rfl ?_
        refine g_iconst (pc := 76) C qk_iconst_4 dX8_sortNow_76 ?_
        refine g_iaddN (pc := 77) C dX8_sortNow_77 ?_
        refine g_V1v (pc := 78) C lv8_86 dX8_sortNow_78 (s8_byteAtN (K.2.1 + 4) h0 hby hta (by have := p3.2.1; have := hK.2.2; omega)) h0 (by decide) (Nat.le_of_ble_eq_true rfl) ?_
        refine g_bipush (pc := 81) C qk_bipush_100 dX8_sortNow_81 ?_
        refine g_ic_neN (pc := 83) C 88 dX8_sortNow_83 (by decide) (by have := hf (K.2.1 + 4) (by have := p3.2.1; have := hK.2.2; omega); omega) (fun _ => ?_) (fun q => absurd q (fun q => e3 ((wWd_3 hK hf).mpr ⟨p3, g3, q⟩)))
        refine g_aload_n (pc := 88) C (hl := rfl) dX8_sortNow_88 ?_
        refine g_iconst (pc := 89) C qk_iconst_4 dX8_sortNow_89 ?_
        refine g_bipush (pc := 90) C qk_bipush_100 dX8_sortNow_90 ?_
        refine g_bipush (pc := 92) C qk_bipush_101 dX8_sortNow_92 ?_
        refine g_bipush (pc := 94) C qk_bipush_97 dX8_sortNow_94 ?_
        refine g_bipush (pc := 96) C qk_bipush_102 dX8_sortNow_96 ?_
        refine g_V5v (pc := 98) C lv8_98 dX8_sortNow_98 (s8_w4T h0 hby hta hf hK ((wWd_4 hK hf).mp e4)) h0 (by decide) (Nat.le_of_ble_eq_true rfl) ?_
        refine g_if_eqN (pc := 101) C 106 dX8_sortNow_101 (by decide) (by decide) (fun q => absurd q (by decide)) (fun _ => ?_)
        refine g_iconst (pc := 104) C qk_iconst_4 dX8_sortNow_104 ?_
        exact g_iret (pc := 105) C F dX8_sortNow_105 rfl rfl (rfl) (rfl)
      · refine g_V1v (pc := 65) C lv8_102 dX8_sortNow_65 (s8_f4F 101 h0 hby hta hf hK (by have := p3.2.1; have := hK.2.2; omega) (by decide) g3) h0 (by decide) (Nat.le_of_ble_eq_true rfl) ?_
        refine g_if_eqN (pc := 68) C 88 dX8_sortNow_68 (by decide) (by decide) (fun _ => ?_) (fun q => absurd q (by decide))
        refine g_aload_n (pc := 88) C (hl := rfl) dX8_sortNow_88 ?_
        refine g_iconst (pc := 89) C qk_iconst_4 dX8_sortNow_89 ?_
        refine g_bipush (pc := 90) C qk_bipush_100 dX8_sortNow_90 ?_
        refine g_bipush (pc := 92) C qk_bipush_101 dX8_sortNow_92 ?_
        refine g_bipush (pc := 94) C qk_bipush_97 dX8_sortNow_94 ?_
        refine g_bipush (pc := 96) C qk_bipush_102 dX8_sortNow_96 ?_
        refine g_V5v (pc := 98) C lv8_98 dX8_sortNow_98 (s8_w4T h0 hby hta hf hK ((wWd_4 hK hf).mp e4)) h0 (by decide) (Nat.le_of_ble_eq_true rfl) ?_
        refine g_if_eqN (pc := 101) C 106 dX8_sortNow_101 (by decide) (by decide) (fun q => absurd q (by decide)) (fun _ => ?_)
        refine g_iconst (pc := 104) C qk_iconst_4 dX8_sortNow_104 ?_
        exact g_iret (pc := 105) C F dX8_sortNow_105 rfl rfl (rfl) (rfl)
    · refine g_V5v (pc := 56) C lv8_98 dX8_sortNow_56 (s8_w3F h0 hby hta hf hK p3) h0 (by decide) (Nat.le_of_ble_eq_true rfl) ?_
      refine g_if_eqN (pc := 59) C 88 dX8_sortNow_59 (by decide) (by decide) (fun _ => ?_) (fun q => absurd q (by decide))
      refine g_aload_n (pc := 88) C (hl := rfl) dX8_sortNow_88 ?_
      refine g_iconst (pc := 89) C qk_iconst_4 dX8_sortNow_89 ?_
      refine g_bipush (pc := 90) C qk_bipush_100 dX8_sortNow_90 ?_
      refine g_bipush (pc := 92) C qk_bipush_101 dX8_sortNow_92 ?_
      refine g_bipush (pc := 94) C qk_bipush_97 dX8_sortNow_94 ?_
      refine g_bipush (pc := 96) C qk_bipush_102 dX8_sortNow_96 ?_
      refine g_V5v (pc := 98) C lv8_98 dX8_sortNow_98 (s8_w4T h0 hby hta hf hK ((wWd_4 hK hf).mp e4)) h0 (by decide) (Nat.le_of_ble_eq_true rfl) ?_
      refine g_if_eqN (pc := 101) C 106 dX8_sortNow_101 (by decide) (by decide) (fun q => absurd q (by decide)) (fun _ => ?_)
      refine g_iconst (pc := 104) C qk_iconst_4 dX8_sortNow_104 ?_
      exact g_iret (pc := 105) C F dX8_sortNow_105 rfl rfl (rfl) (rfl)
set_option maxHeartbeats 2000000 in
set_option maxRecDepth 20000 in
theorem s8_sn5 {n : Nat} {h : q_H} {un ta fl st di pu at_ er en pa tr : Nat} {f : Nat → Nat} {K : mK} (h0 : h 87 = (MO un ta fl st K.2.1 K.2.2.1 (wSo f ta K.2.1) di pu at_ er en pa tr)) (hby : h 89 = PA f) (hta : ta ≤ 300) (hf : ∀ k, k < ta → f k < 256) (hK : wK f ta K) (e1 : ¬ mWd f K 1 = true) (e2 : ¬ mWd f K 2 = true) (e3 : ¬ mWd f K 3 = true) (e4 : ¬ mWd f K 4 = true) (e5 : mWd f K 5 = true) : SP 2 yX8_sortNow cX8_sortNow 1 (some .int) [.ref 87] n h (some (.int (nI 5))) h := by
  refine q_SPi RX8 rfl (by decide +kernel) (la := _) rfl rfl (fun Γ ad C F => ?_)
  refine g_aload_n (pc := 0) C (hl := rfl) dX8_sortNow_0 ?_
  refine g_iconst (pc := 1) C qk_iconst_5 dX8_sortNow_1 ?_
  refine g_bipush (pc := 2) C qk_bipush_101 dX8_sortNow_2 ?_
  refine g_bipush (pc := 4) C qk_bipush_97 dX8_sortNow_4 ?_
  refine g_bipush (pc := 6) C qk_bipush_116 dX8_sortNow_6 ?_
  refine g_bipush (pc := 8) C qk_bipush_114 dX8_sortNow_8 ?_
  by_cases p1 : (wSo f ta K.2.1 = 1 ∧ K.2.2.1 - K.2.1 = 5 ∧ f K.2.1 = 101 ∧ f (K.2.1 + 1) = 97 ∧ f (K.2.1 + 2) = 116 ∧ f (K.2.2.1 - 1) = 114)
  · refine g_V5v (pc := 10) C lv8_98 dX8_sortNow_10 (s8_w1T h0 hby hta hf hK p1) h0 (by decide) (Nat.le_of_ble_eq_true rfl) ?_
    refine g_if_eqN (pc := 13) C 27 dX8_sortNow_13 (by decide) (by decide) (fun q => absurd q (by decide)) (fun _ => ?_)
    refine g_aload_n (pc := 16) C (hl := rfl) dX8_sortNow_16 ?_
    refine g_bipush (pc := 17) C qk_bipush_101 dX8_sortNow_17 ?_
    refine g_V1v (pc := 19) C lv8_102 dX8_sortNow_19 (s8_f4F 101 h0 hby hta hf hK (by have := p1.2.1; have := hK.2.2; omega) (by decide) (fun q => e1 ((wWd_1 hK hf).mpr ⟨p1, q⟩))) h0 (by decide) (Nat.le_of_ble_eq_true rfl) ?_
    refine g_if_eqN (pc := 22) C 27 dX8_sortNow_22 (by decide) (by decide) (fun _ => ?_) (fun q => absurd q (by decide))
    refine g_aload_n (pc := 27) C (hl := rfl) dX8_sortNow_27 ?_
    refine g_iconst (pc := 28) C qk_iconst_4 dX8_sortNow_28 ?_
    refine g_bipush (pc := 29) C qk_bipush_102 dX8_sortNow_29 ?_
    refine g_bipush (pc := 31) C qk_bipush_97 dX8_sortNow_31 ?_
    refine g_bipush (pc := 33) C qk_bipush_115 dX8_sortNow_33 ?_
    refine g_bipush (pc := 35) C qk_bipush_116 dX8_sortNow_35 ?_
    refine g_V5v (pc := 37) C lv8_98 dX8_sortNow_37 (s8_w2F h0 hby hta hf hK (fun q => e2 ((wWd_2 hK hf).mpr q))) h0 (by decide) (Nat.le_of_ble_eq_true rfl) ?_
    refine g_if_eqN (pc := 40) C 45 dX8_sortNow_40 (by decide) (by decide) (fun _ => ?_) (fun q => absurd q (by decide))
    refine g_aload_n (pc := 45) C (hl := rfl) dX8_sortNow_45 ?_
    refine g_bipush (pc := 46) C qk_bipush_6 dX8_sortNow_46 ?_
    refine g_bipush (pc := 48) C qk_bipush_103 dX8_sortNow_48 ?_
    refine g_bipush (pc := 50) C qk_bipush_114 dX8_sortNow_50 ?_
    refine g_bipush (pc := 52) C qk_bipush_101 dX8_sortNow_52 ?_
    refine g_bipush (pc := 54) C qk_bipush_121 dX8_sortNow_54 ?_
    by_cases p3 : (wSo f ta K.2.1 = 1 ∧ K.2.2.1 - K.2.1 = 6 ∧ f K.2.1 = 103 ∧ f (K.2.1 + 1) = 114 ∧ f (K.2.1 + 2) = 101 ∧ f (K.2.2.1 - 1) = 121)
    · refine g_V5v (pc := 56) C lv8_98 dX8_sortNow_56 (s8_w3T h0 hby hta hf hK p3) h0 (by decide) (Nat.le_of_ble_eq_true rfl) ?_
      refine g_if_eqN (pc := 59) C 88 dX8_sortNow_59 (by decide) (by decide) (fun q => absurd q (by decide)) (fun _ => ?_)
      refine g_aload_n (pc := 62) C (hl := rfl) dX8_sortNow_62 ?_
      refine g_bipush (pc := 63) C qk_bipush_101 dX8_sortNow_63 ?_
      by_cases g3 : f (K.2.1 + 3) = 101
      · refine g_V1v (pc := 65) C lv8_102 dX8_sortNow_65 (s8_f4T 101 h0 hby hta hf hK (by have := p3.2.1; have := hK.2.2; omega) (by decide) g3) h0 (by decide) (Nat.le_of_ble_eq_true rfl) ?_
        refine g_if_eqN (pc := 68) C 88 dX8_sortNow_68 (by decide) (by decide) (fun q => absurd q (by decide)) (fun _ => ?_)
        refine g_aload_n (pc := 71) C (hl := rfl) dX8_sortNow_71 ?_
        refine g_aload_n (pc := 72) C (hl := rfl) dX8_sortNow_72 ?_
        refine g_get (pc := 73) C fl8_83 dX8_sortNow_73 h0 rfl ?_
        refine g_iconst (pc := 76) C qk_iconst_4 dX8_sortNow_76 ?_
        refine g_iaddN (pc := 77) C dX8_sortNow_77 ?_
        refine g_V1v (pc := 78) C lv8_86 dX8_sortNow_78 (s8_byteAtN (K.2.1 + 4) h0 hby hta (by have := p3.2.1; have := hK.2.2; omega)) h0 (by decide) (Nat.le_of_ble_eq_true rfl) ?_
        refine g_bipush (pc := 81) C qk_bipush_100 dX8_sortNow_81 ?_
        refine g_ic_neN (pc := 83) C 88 dX8_sortNow_83 (by decide) (by have := hf (K.2.1 + 4) (by have := p3.2.1; have := hK.2.2; omega); omega) (fun _ => ?_) (fun q => absurd q (fun q => e3 ((wWd_3 hK hf).mpr ⟨p3, g3, q⟩)))
        refine g_aload_n (pc := 88) C (hl := rfl) dX8_sortNow_88 ?_
        refine g_iconst (pc := 89) C qk_iconst_4 dX8_sortNow_89 ?_
        refine g_bipush (pc := 90) C qk_bipush_100 dX8_sortNow_90 ?_
        refine g_bipush (pc := 92) C qk_bipush_101 dX8_sortNow_92 ?_
        refine g_bipush (pc := 94) C qk_bipush_97 dX8_sortNow_94 ?_
        refine g_bipush (pc := 96) C qk_bipush_102 dX8_sortNow_96 ?_
        refine g_V5v (pc := 98) C lv8_98 dX8_sortNow_98 (s8_w4F h0 hby hta hf hK (fun q => e4 ((wWd_4 hK hf).mpr q))) h0 (by decide) (Nat.le_of_ble_eq_true rfl) ?_
        refine g_if_eqN (pc := 101) C 106 dX8_sortNow_101 (by decide) (by decide) (fun _ => ?_) (fun q => absurd q (by decide))
        refine g_aload_n (pc := 106) C (hl := rfl) dX8_sortNow_106 ?_
        refine g_iconst (pc := 107) C qk_iconst_5 dX8_sortNow_107 ?_
        refine g_bipush (pc := 108) C qk_bipush_100 dX8_sortNow_108 ?_
        refine g_bipush (pc := 110) C qk_bipush_114 dX8_sortNow_110 ?_
        refine g_bipush (pc := 112) C qk_bipush_117 dX8_sortNow_112 ?_
        refine g_bipush (pc := 114) C qk_bipush_107 dX8_sortNow_114 ?_
        refine g_V5v (pc := 116) C lv8_98 dX8_sortNow_116 (s8_w5T h0 hby hta hf hK ((wWd_5 hK hf).mp e5).1) h0 (by decide) (Nat.le_of_ble_eq_true rfl) ?_
        refine g_if_eqN (pc := 119) C 135 dX8_sortNow_119 (by decide) (by decide) (fun q => absurd q (by decide)) (fun _ => ?_)
        refine g_aload_n (pc := 122) C (hl := rfl) dX8_sortNow_122 ?_
        refine g_bipush (pc := 123) C qk_bipush_110 dX8_sortNow_123 ?_
        refine g_V1v (pc := 125) C lv8_102 dX8_sortNow_125 (s8_f4T 110 h0 hby hta hf hK (by have := ((wWd_5 hK hf).mp e5).1.2.1; have := hK.2.2; omega) (by decide) ((wWd_5 hK hf).mp e5).2) h0 (by decide) (Nat.le_of_ble_eq_true rfl) ?_
        refine g_if_eqN (pc := 128) C 135 dX8_sortNow_128 (by decide) (by decide) (fun q => absurd q (by decide)) (fun _ => ?_)
        refine g_iconst (pc := 131) C qk_iconst_5 dX8_sortNow_131 ?_
        refine g_goto (pc := 132) C 136 dX8_sortNow_132 (by decide) ?_
        exact g_iret (pc := 136) C F dX8_sortNow_136 rfl rfl (rfl) (rfl)
      · refine g_V1v (pc := 65) C lv8_102 dX8_sortNow_65 (s8_f4F 101 h0 hby hta hf hK (by have := p3.2.1; have := hK.2.2; omega) (by decide) g3) h0 (by decide) (Nat.le_of_ble_eq_true rfl) ?_
        refine g_if_eqN (pc := 68) C 88 dX8_sortNow_68 (by decide) (by decide) (fun _ => ?_) (fun q => absurd q (by decide))
        refine g_aload_n (pc := 88) C (hl := rfl) dX8_sortNow_88 ?_
        refine g_iconst (pc := 89) C qk_iconst_4 dX8_sortNow_89 ?_
        refine g_bipush (pc := 90) C qk_bipush_100 dX8_sortNow_90 ?_
        refine g_bipush (pc := 92) C qk_bipush_101 dX8_sortNow_92 ?_
        refine g_bipush (pc := 94) C qk_bipush_97 dX8_sortNow_94 ?_
        refine g_bipush (pc := 96) C qk_bipush_102 dX8_sortNow_96 ?_
        refine g_V5v (pc := 98) C lv8_98 dX8_sortNow_98 (s8_w4F h0 hby hta hf hK (fun q => e4 ((wWd_4 hK hf).mpr q))) h0 (by decide) (Nat.le_of_ble_eq_true rfl) ?_
        refine g_if_eqN (pc := 101) C 106 dX8_sortNow_101 (by decide) (by decide) (fun _ => ?_) (fun q => absurd q (by decide))
        refine g_aload_n (pc := 106) C (hl := rfl) dX8_sortNow_106 ?_
        refine g_iconst (pc := 107) C qk_iconst_5 dX8_sortNow_107 ?_
        refine g_bipush (pc := 108) C qk_bipush_100 dX8_sortNow_108 ?_
        refine g_bipush (pc := 110) C qk_bipush_114 dX8_sortNow_110 ?_
        refine g_bipush (pc := 112) C qk_bipush_117 dX8_sortNow_112 ?_
        refine g_bipush (pc := 114) C qk_bipush_107 dX8_sortNow_114 ?_
        refine g_V5v (pc := 116) C lv8_98 dX8_sortNow_116 (s8_w5T h0 hby hta hf hK ((wWd_5 hK hf).mp e5).1) h0 (by decide) (Nat.le_of_ble_eq_true rfl) ?_
        refine g_if_eqN (pc := 119) C 135 dX8_sortNow_119 (by decide) (by decide) (fun q => absurd q (by decide)) (fun _ => ?_)
        refine g_aload_n (pc := 122) C (hl := rfl) dX8_sortNow_122 ?_
        refine g_bipush (pc := 123) C qk_bipush_110 dX8_sortNow_123 ?_
        refine g_V1v (pc := 125) C lv8_102 dX8_sortNow_125 (s8_f4T 110 h0 hby hta hf hK (by have := ((wWd_5 hK hf).mp e5).1.2.1; have := hK.2.2; omega) (by decide) ((wWd_5 hK hf).mp e5).2) h0 (by decide) (Nat.le_of_ble_eq_true rfl) ?_
        refine g_if_eqN (pc := 128) C 135 dX8_sortNow_128 (by decide) (by decide) (fun q => absurd q (by decide)) (fun _ => ?_)
        refine g_iconst (pc := 131) C qk_iconst_5 dX8_sortNow_131 ?_
        refine g_goto (pc := 132) C 136 dX8_sortNow_132 (by decide) ?_
        exact g_iret (pc := 136) C F dX8_sortNow_136 rfl rfl (rfl) (rfl)
    · refine g_V5v (pc := 56) C lv8_98 dX8_sortNow_56 (s8_w3F h0 hby hta hf hK p3) h0 (by decide) (Nat.le_of_ble_eq_true rfl) ?_
      refine g_if_eqN (pc := 59) C 88 dX8_sortNow_59 (by decide) (by decide) (fun _ => ?_) (fun q => absurd q (by decide))
      refine g_aload_n (pc := 88) C (hl := rfl) dX8_sortNow_88 ?_
      refine g_iconst (pc := 89) C qk_iconst_4 dX8_sortNow_89 ?_
      refine g_bipush (pc := 90) C qk_bipush_100 dX8_sortNow_90 ?_
      refine g_bipush (pc := 92) C qk_bipush_101 dX8_sortNow_92 ?_
      refine g_bipush (pc := 94) C qk_bipush_97 dX8_sortNow_94 ?_
      refine g_bipush (pc := 96) C qk_bipush_102 dX8_sortNow_96 ?_
      refine g_V5v (pc := 98) C lv8_98 dX8_sortNow_98 (s8_w4F h0 hby hta hf hK (fun q => e4 ((wWd_4 hK hf).mpr q))) h0 (by decide) (Nat.le_of_ble_eq_true rfl) ?_
      refine g_if_eqN (pc := 101) C 106 dX8_sortNow_101 (by decide) (by decide) (fun _ => ?_) (fun q => absurd q (by decide))
      refine g_aload_n (pc := 106) C (hl := rfl) dX8_sortNow_106 ?_
      refine g_iconst (pc := 107) C qk_iconst_5 dX8_sortNow_107 ?_
      refine g_bipush (pc := 108) C qk_bipush_100 dX8_sortNow_108 ?_
      refine g_bipush (pc := 110) C qk_bipush_114 dX8_sortNow_110 ?_
      refine g_bipush (pc := 112) C qk_bipush_117 dX8_sortNow_112 ?_
      refine g_bipush (pc := 114) C qk_bipush_107 dX8_sortNow_114 ?_
      refine g_V5v (pc := 116) C lv8_98 dX8_sortNow_116 (s8_w5T h0 hby hta hf hK ((wWd_5 hK hf).mp e5).1) h0 (by decide) (Nat.le_of_ble_eq_true rfl) ?_
      refine g_if_eqN (pc := 119) C 135 dX8_sortNow_119 (by decide) (by decide) (fun q => absurd q (by decide)) (fun _ => ?_)
      refine g_aload_n (pc := 122) C (hl := rfl) dX8_sortNow_122 ?_
      refine g_bipush (pc := 123) C qk_bipush_110 dX8_sortNow_123 ?_
      refine g_V1v (pc := 125) C lv8_102 dX8_sortNow_125 (s8_f4T 110 h0 hby hta hf hK (by have := ((wWd_5 hK hf).mp e5).1.2.1; have := hK.2.2; omega) (by decide) ((wWd_5 hK hf).mp e5).2) h0 (by decide) (Nat.le_of_ble_eq_true rfl) ?_
      refine g_if_eqN (pc := 128) C 135 dX8_sortNow_128 (by decide) (by decide) (fun q => absurd q (by decide)) (fun _ => ?_)
      refine g_iconst (pc := 131) C qk_iconst_5 dX8_sortNow_131 ?_
      refine g_goto (pc := 132) C 136 dX8_sortNow_132 (by decide) ?_
      exact g_iret (pc := 136) C F dX8_sortNow_136 rfl rfl (rfl) (rfl)
  · refine g_V5v (pc := 10) C lv8_98 dX8_sortNow_10 (s8_w1F h0 hby hta hf hK p1) h0 (by decide) (Nat.le_of_ble_eq_true rfl) ?_
    refine g_if_eqN (pc := 13) C 27 dX8_sortNow_13 (by decide) (by decide) (fun _ => ?_) (fun q => absurd q (by decide))
    refine g_aload_n (pc := 27) C (hl := rfl) dX8_sortNow_27 ?_
    refine g_iconst (pc := 28) C qk_iconst_4 dX8_sortNow_28 ?_
    refine g_bipush (pc := 29) C qk_bipush_102 dX8_sortNow_29 ?_
    refine g_bipush (pc := 31) C qk_bipush_97 dX8_sortNow_31 ?_
    refine g_bipush (pc := 33) C qk_bipush_115 dX8_sortNow_33 ?_
    refine g_bipush (pc := 35) C qk_bipush_116 dX8_sortNow_35 ?_
    refine g_V5v (pc := 37) C lv8_98 dX8_sortNow_37 (s8_w2F h0 hby hta hf hK (fun q => e2 ((wWd_2 hK hf).mpr q))) h0 (by decide) (Nat.le_of_ble_eq_true rfl) ?_
    refine g_if_eqN (pc := 40) C 45 dX8_sortNow_40 (by decide) (by decide) (fun _ => ?_) (fun q => absurd q (by decide))
    refine g_aload_n (pc := 45) C (hl := rfl) dX8_sortNow_45 ?_
    refine g_bipush (pc := 46) C qk_bipush_6 dX8_sortNow_46 ?_
    refine g_bipush (pc := 48) C qk_bipush_103 dX8_sortNow_48 ?_
    refine g_bipush (pc := 50) C qk_bipush_114 dX8_sortNow_50 ?_
    refine g_bipush (pc := 52) C qk_bipush_101 dX8_sortNow_52 ?_
    refine g_bipush (pc := 54) C qk_bipush_121 dX8_sortNow_54 ?_
    by_cases p3 : (wSo f ta K.2.1 = 1 ∧ K.2.2.1 - K.2.1 = 6 ∧ f K.2.1 = 103 ∧ f (K.2.1 + 1) = 114 ∧ f (K.2.1 + 2) = 101 ∧ f (K.2.2.1 - 1) = 121)
    · refine g_V5v (pc := 56) C lv8_98 dX8_sortNow_56 (s8_w3T h0 hby hta hf hK p3) h0 (by decide) (Nat.le_of_ble_eq_true rfl) ?_
      refine g_if_eqN (pc := 59) C 88 dX8_sortNow_59 (by decide) (by decide) (fun q => absurd q (by decide)) (fun _ => ?_)
      refine g_aload_n (pc := 62) C (hl := rfl) dX8_sortNow_62 ?_
      refine g_bipush (pc := 63) C qk_bipush_101 dX8_sortNow_63 ?_
      by_cases g3 : f (K.2.1 + 3) = 101
      · refine g_V1v (pc := 65) C lv8_102 dX8_sortNow_65 (s8_f4T 101 h0 hby hta hf hK (by have := p3.2.1; have := hK.2.2; omega) (by decide) g3) h0 (by decide) (Nat.le_of_ble_eq_true rfl) ?_
        refine g_if_eqN (pc := 68) C 88 dX8_sortNow_68 (by decide) (by decide) (fun q => absurd q (by decide)) (fun _ => ?_)
        refine g_aload_n (pc := 71) C (hl := rfl) dX8_sortNow_71 ?_
        refine g_aload_n (pc := 72) C (hl := rfl) dX8_sortNow_72 ?_
        refine g_get (pc := 73) C fl8_83 dX8_sortNow_73 h0 rfl ?_
        refine g_iconst (pc := 76) C qk_iconst_4 dX8_sortNow_76 ?_
        refine g_iaddN (pc := 77) C dX8_sortNow_77 ?_
        refine g_V1v (pc := 78) C lv8_86 dX8_sortNow_78 (s8_byteAtN (K.2.1 + 4) h0 hby hta (by have := p3.2.1; have := hK.2.2; omega)) h0 (by decide) (Nat.le_of_ble_eq_true rfl) ?_
        refine g_bipush (pc := 81) C qk_bipush_100 dX8_sortNow_81 ?_
        refine g_ic_neN (pc := 83) C 88 dX8_sortNow_83 (by decide) (by have := hf (K.2.1 + 4) (by have := p3.2.1; have := hK.2.2; omega); omega) (fun _ => ?_) (fun q => absurd q (fun q => e3 ((wWd_3 hK hf).mpr ⟨p3, g3, q⟩)))
        refine g_aload_n (pc := 88) C (hl := rfl) dX8_sortNow_88 ?_
        refine g_iconst (pc := 89) C qk_iconst_4 dX8_sortNow_89 ?_
        refine g_bipush (pc := 90) C qk_bipush_100 dX8_sortNow_90 ?_
        refine g_bipush (pc := 92) C qk_bipush_101 dX8_sortNow_92 ?_
        refine g_bipush (pc := 94) C qk_bipush_97 dX8_sortNow_94 ?_
        refine g_bipush (pc := 96) C qk_bipush_102 dX8_sortNow_96 ?_
        refine g_V5v (pc := 98) C lv8_98 dX8_sortNow_98 (s8_w4F h0 hby hta hf hK (fun q => e4 ((wWd_4 hK hf).mpr q))) h0 (by decide) (Nat.le_of_ble_eq_true rfl) ?_
        refine g_if_eqN (pc := 101) C 106 dX8_sortNow_101 (by decide) (by decide) (fun _ => ?_) (fun q => absurd q (by decide))
        refine g_aload_n (pc := 106) C (hl := rfl) dX8_sortNow_106 ?_
        refine g_iconst (pc := 107) C qk_iconst_5 dX8_sortNow_107 ?_
        refine g_bipush (pc := 108) C qk_bipush_100 dX8_sortNow_108 ?_
        refine g_bipush (pc := 110) C qk_bipush_114 dX8_sortNow_110 ?_
        refine g_bipush (pc := 112) C qk_bipush_117 dX8_sortNow_112 ?_
        refine g_bipush (pc := 114) C qk_bipush_107 dX8_sortNow_114 ?_
        refine g_V5v (pc := 116) C lv8_98 dX8_sortNow_116 (s8_w5T h0 hby hta hf hK ((wWd_5 hK hf).mp e5).1) h0 (by decide) (Nat.le_of_ble_eq_true rfl) ?_
        refine g_if_eqN (pc := 119) C 135 dX8_sortNow_119 (by decide) (by decide) (fun q => absurd q (by decide)) (fun _ => ?_)
        refine g_aload_n (pc := 122) C (hl := rfl) dX8_sortNow_122 ?_
        refine g_bipush (pc := 123) C qk_bipush_110 dX8_sortNow_123 ?_
        refine g_V1v (pc := 125) C lv8_102 dX8_sortNow_125 (s8_f4T 110 h0 hby hta hf hK (by have := ((wWd_5 hK hf).mp e5).1.2.1; have := hK.2.2; omega) (by decide) ((wWd_5 hK hf).mp e5).2) h0 (by decide) (Nat.le_of_ble_eq_true rfl) ?_
        refine g_if_eqN (pc := 128) C 135 dX8_sortNow_128 (by decide) (by decide) (fun q => absurd q (by decide)) (fun _ => ?_)
        refine g_iconst (pc := 131) C qk_iconst_5 dX8_sortNow_131 ?_
        refine g_goto (pc := 132) C 136 dX8_sortNow_132 (by decide) ?_
        exact g_iret (pc := 136) C F dX8_sortNow_136 rfl rfl (rfl) (rfl)
      · refine g_V1v (pc := 65) C lv8_102 dX8_sortNow_65 (s8_f4F 101 h0 hby hta hf hK (by have := p3.2.1; have := hK.2.2; omega) (by decide) g3) h0 (by decide) (Nat.le_of_ble_eq_true rfl) ?_
        refine g_if_eqN (pc := 68) C 88 dX8_sortNow_68 (by decide) (by decide) (fun _ => ?_) (fun q => absurd q (by decide))
        refine g_aload_n (pc := 88) C (hl := rfl) dX8_sortNow_88 ?_
        refine g_iconst (pc := 89) C qk_iconst_4 dX8_sortNow_89 ?_
        refine g_bipush (pc := 90) C qk_bipush_100 dX8_sortNow_90 ?_
        refine g_bipush (pc := 92) C qk_bipush_101 dX8_sortNow_92 ?_
        refine g_bipush (pc := 94) C qk_bipush_97 dX8_sortNow_94 ?_
        refine g_bipush (pc := 96) C qk_bipush_102 dX8_sortNow_96 ?_
        refine g_V5v (pc := 98) C lv8_98 dX8_sortNow_98 (s8_w4F h0 hby hta hf hK (fun q => e4 ((wWd_4 hK hf).mpr q))) h0 (by decide) (Nat.le_of_ble_eq_true rfl) ?_
        refine g_if_eqN (pc := 101) C 106 dX8_sortNow_101 (by decide) (by decide) (fun _ => ?_) (fun q => absurd q (by decide))
        refine g_aload_n (pc := 106) C (hl := rfl) dX8_sortNow_106 ?_
        refine g_iconst (pc := 107) C qk_iconst_5 dX8_sortNow_107 ?_
        refine g_bipush (pc := 108) C qk_bipush_100 dX8_sortNow_108 ?_
        refine g_bipush (pc := 110) C qk_bipush_114 dX8_sortNow_110 ?_
        refine g_bipush (pc := 112) C qk_bipush_117 dX8_sortNow_112 ?_
        refine g_bipush (pc := 114) C qk_bipush_107 dX8_sortNow_114 ?_
        refine g_V5v (pc := 116) C lv8_98 dX8_sortNow_116 (s8_w5T h0 hby hta hf hK ((wWd_5 hK hf).mp e5).1) h0 (by decide) (Nat.le_of_ble_eq_true rfl) ?_
        refine g_if_eqN (pc := 119) C 135 dX8_sortNow_119 (by decide) (by decide) (fun q => absurd q (by decide)) (fun _ => ?_)
        refine g_aload_n (pc := 122) C (hl := rfl) dX8_sortNow_122 ?_
        refine g_bipush (pc := 123) C qk_bipush_110 dX8_sortNow_123 ?_
        refine g_V1v (pc := 125) C lv8_102 dX8_sortNow_125 (s8_f4T 110 h0 hby hta hf hK (by have := ((wWd_5 hK hf).mp e5).1.2.1; have := hK.2.2; omega) (by decide) ((wWd_5 hK hf).mp e5).2) h0 (by decide) (Nat.le_of_ble_eq_true rfl) ?_
        refine g_if_eqN (pc := 128) C 135 dX8_sortNow_128 (by decide) (by decide) (fun q => absurd q (by decide)) (fun _ => ?_)
        refine g_iconst (pc := 131) C qk_iconst_5 dX8_sortNow_131 ?_
        refine g_goto (pc := 132) C 136 dX8_sortNow_132 (by decide) ?_
        exact g_iret (pc := 136) C F dX8_sortNow_136 rfl rfl (rfl) (rfl)
    · refine g_V5v (pc := 56) C lv8_98 dX8_sortNow_56 (s8_w3F h0 hby hta hf hK p3) h0 (by decide) (Nat.le_of_ble_eq_true rfl) ?_
      refine g_if_eqN (pc := 59) C 88 dX8_sortNow_59 (by decide) (by decide) (fun _ => ?_) (fun q => absurd q (by decide))
      refine g_aload_n (pc := 88) C (hl := rfl) dX8_sortNow_88 ?_
      refine g_iconst (pc := 89) C qk_iconst_4 dX8_sortNow_89 ?_
      refine g_bipush (pc := 90) C qk_bipush_100 dX8_sortNow_90 ?_
      refine g_bipush (pc := 92) C qk_bipush_101 dX8_sortNow_92 ?_
      refine g_bipush (pc := 94) C qk_bipush_97 dX8_sortNow_94 ?_
      refine g_bipush (pc := 96) C qk_bipush_102 dX8_sortNow_96 ?_
      refine g_V5v (pc := 98) C lv8_98 dX8_sortNow_98 (s8_w4F h0 hby hta hf hK (fun q => e4 ((wWd_4 hK hf).mpr q))) h0 (by decide) (Nat.le_of_ble_eq_true rfl) ?_
      refine g_if_eqN (pc := 101) C 106 dX8_sortNow_101 (by decide) (by decide) (fun _ => ?_) (fun q => absurd q (by decide))
      refine g_aload_n (pc := 106) C (hl := rfl) dX8_sortNow_106 ?_
      refine g_iconst (pc := 107) C qk_iconst_5 dX8_sortNow_107 ?_
      refine g_bipush (pc := 108) C qk_bipush_100 dX8_sortNow_108 ?_
      refine g_bipush (pc := 110) C qk_bipush_114 dX8_sortNow_110 ?_
      refine g_bipush (pc := 112) C qk_bipush_117 dX8_sortNow_112 ?_
      refine g_bipush (pc := 114) C qk_bipush_107 dX8_sortNow_114 ?_
      refine g_V5v (pc := 116) C lv8_98 dX8_sortNow_116 (s8_w5T h0 hby hta hf hK ((wWd_5 hK hf).mp e5).1) h0 (by decide) (Nat.le_of_ble_eq_true rfl) ?_
      refine g_if_eqN (pc := 119) C 135 dX8_sortNow_119 (by decide) (by decide) (fun q => absurd q (by decide)) (fun _ => ?_)
      refine g_aload_n (pc := 122) C (hl := rfl) dX8_sortNow_122 ?_
      refine g_bipush (pc := 123) C qk_bipush_110 dX8_sortNow_123 ?_
      refine g_V1v (pc := 125) C lv8_102 dX8_sortNow_125 (s8_f4T 110 h0 hby hta hf hK (by have := ((wWd_5 hK hf).mp e5).1.2.1; have := hK.2.2; omega) (by decide) ((wWd_5 hK hf).mp e5).2) h0 (by decide) (Nat.le_of_ble_eq_true rfl) ?_
      refine g_if_eqN (pc := 128) C 135 dX8_sortNow_128 (by decide) (by decide) (fun q => absurd q (by decide)) (fun _ => ?_)
      refine g_iconst (pc := 131) C qk_iconst_5 dX8_sortNow_131 ?_
      refine g_goto (pc := 132) C 136 dX8_sortNow_132 (by decide) ?_
      exact g_iret (pc := 136) C F dX8_sortNow_136 rfl rfl (rfl) (rfl)
set_option maxHeartbeats 2000000 in
set_option maxRecDepth 20000 in
theorem s8_sn0 {n : Nat} {h : q_H} {un ta fl st di pu at_ er en pa tr : Nat} {f : Nat → Nat} {K : mK} (h0 : h 87 = (MO un ta fl st K.2.1 K.2.2.1 (wSo f ta K.2.1) di pu at_ er en pa tr)) (hby : h 89 = PA f) (hta : ta ≤ 300) (hf : ∀ k, k < ta → f k < 256) (hK : wK f ta K) (e1 : ¬ mWd f K 1 = true) (e2 : ¬ mWd f K 2 = true) (e3 : ¬ mWd f K 3 = true) (e4 : ¬ mWd f K 4 = true) (e5 : ¬ mWd f K 5 = true) : SP 2 yX8_sortNow cX8_sortNow 1 (some .int) [.ref 87] n h (some (.int (nI 0))) h := by
  refine q_SPi RX8 rfl (by decide +kernel) (la := _) rfl rfl (fun Γ ad C F => ?_)
  refine g_aload_n (pc := 0) C (hl := rfl) dX8_sortNow_0 ?_
  refine g_iconst (pc := 1) C qk_iconst_5 dX8_sortNow_1 ?_
  refine g_bipush (pc := 2) C qk_bipush_101 dX8_sortNow_2 ?_
  refine g_bipush (pc := 4) C qk_bipush_97 dX8_sortNow_4 ?_
  refine g_bipush (pc := 6) C qk_bipush_116 dX8_sortNow_6 ?_
  refine g_bipush (pc := 8) C qk_bipush_114 dX8_sortNow_8 ?_
  by_cases p1 : (wSo f ta K.2.1 = 1 ∧ K.2.2.1 - K.2.1 = 5 ∧ f K.2.1 = 101 ∧ f (K.2.1 + 1) = 97 ∧ f (K.2.1 + 2) = 116 ∧ f (K.2.2.1 - 1) = 114)
  · refine g_V5v (pc := 10) C lv8_98 dX8_sortNow_10 (s8_w1T h0 hby hta hf hK p1) h0 (by decide) (Nat.le_of_ble_eq_true rfl) ?_
    refine g_if_eqN (pc := 13) C 27 dX8_sortNow_13 (by decide) (by decide) (fun q => absurd q (by decide)) (fun _ => ?_)
    refine g_aload_n (pc := 16) C (hl := rfl) dX8_sortNow_16 ?_
    refine g_bipush (pc := 17) C qk_bipush_101 dX8_sortNow_17 ?_
    refine g_V1v (pc := 19) C lv8_102 dX8_sortNow_19 (s8_f4F 101 h0 hby hta hf hK (by have := p1.2.1; have := hK.2.2; omega) (by decide) (fun q => e1 ((wWd_1 hK hf).mpr ⟨p1, q⟩))) h0 (by decide) (Nat.le_of_ble_eq_true rfl) ?_
    refine g_if_eqN (pc := 22) C 27 dX8_sortNow_22 (by decide) (by decide) (fun _ => ?_) (fun q => absurd q (by decide))
    refine g_aload_n (pc := 27) C (hl := rfl) dX8_sortNow_27 ?_
    refine g_iconst (pc := 28) C qk_iconst_4 dX8_sortNow_28 ?_
    refine g_bipush (pc := 29) C qk_bipush_102 dX8_sortNow_29 ?_
    refine g_bipush (pc := 31) C qk_bipush_97 dX8_sortNow_31 ?_
    refine g_bipush (pc := 33) C qk_bipush_115 dX8_sortNow_33 ?_
    refine g_bipush (pc := 35) C qk_bipush_116 dX8_sortNow_35 ?_
    refine g_V5v (pc := 37) C lv8_98 dX8_sortNow_37 (s8_w2F h0 hby hta hf hK (fun q => e2 ((wWd_2 hK hf).mpr q))) h0 (by decide) (Nat.le_of_ble_eq_true rfl) ?_
    refine g_if_eqN (pc := 40) C 45 dX8_sortNow_40 (by decide) (by decide) (fun _ => ?_) (fun q => absurd q (by decide))
    refine g_aload_n (pc := 45) C (hl := rfl) dX8_sortNow_45 ?_
    refine g_bipush (pc := 46) C qk_bipush_6 dX8_sortNow_46 ?_
    refine g_bipush (pc := 48) C qk_bipush_103 dX8_sortNow_48 ?_
    refine g_bipush (pc := 50) C qk_bipush_114 dX8_sortNow_50 ?_
    refine g_bipush (pc := 52) C qk_bipush_101 dX8_sortNow_52 ?_
    refine g_bipush (pc := 54) C qk_bipush_121 dX8_sortNow_54 ?_
    by_cases p3 : (wSo f ta K.2.1 = 1 ∧ K.2.2.1 - K.2.1 = 6 ∧ f K.2.1 = 103 ∧ f (K.2.1 + 1) = 114 ∧ f (K.2.1 + 2) = 101 ∧ f (K.2.2.1 - 1) = 121)
    · refine g_V5v (pc := 56) C lv8_98 dX8_sortNow_56 (s8_w3T h0 hby hta hf hK p3) h0 (by decide) (Nat.le_of_ble_eq_true rfl) ?_
      refine g_if_eqN (pc := 59) C 88 dX8_sortNow_59 (by decide) (by decide) (fun q => absurd q (by decide)) (fun _ => ?_)
      refine g_aload_n (pc := 62) C (hl := rfl) dX8_sortNow_62 ?_
      refine g_bipush (pc := 63) C qk_bipush_101 dX8_sortNow_63 ?_
      by_cases g3 : f (K.2.1 + 3) = 101
      · refine g_V1v (pc := 65) C lv8_102 dX8_sortNow_65 (s8_f4T 101 h0 hby hta hf hK (by have := p3.2.1; have := hK.2.2; omega) (by decide) g3) h0 (by decide) (Nat.le_of_ble_eq_true rfl) ?_
        refine g_if_eqN (pc := 68) C 88 dX8_sortNow_68 (by decide) (by decide) (fun q => absurd q (by decide)) (fun _ => ?_)
        refine g_aload_n (pc := 71) C (hl := rfl) dX8_sortNow_71 ?_
        refine g_aload_n (pc := 72) C (hl := rfl) dX8_sortNow_72 ?_
        refine g_get (pc := 73) C fl8_83 dX8_sortNow_73 h0 rfl ?_
        refine g_iconst (pc := 76) C qk_iconst_4 dX8_sortNow_76 ?_
        refine g_iaddN (pc := 77) C dX8_sortNow_77 ?_
        refine g_V1v (pc := 78) C lv8_86 dX8_sortNow_78 (s8_byteAtN (K.2.1 + 4) h0 hby hta (by have := p3.2.1; have := hK.2.2; omega)) h0 (by decide) (Nat.le_of_ble_eq_true rfl) ?_
        refine g_bipush (pc := 81) C qk_bipush_100 dX8_sortNow_81 ?_
        refine g_ic_neN (pc := 83) C 88 dX8_sortNow_83 (by decide) (by have := hf (K.2.1 + 4) (by have := p3.2.1; have := hK.2.2; omega); omega) (fun _ => ?_) (fun q => absurd q (fun q => e3 ((wWd_3 hK hf).mpr ⟨p3, g3, q⟩)))
        refine g_aload_n (pc := 88) C (hl := rfl) dX8_sortNow_88 ?_
        refine g_iconst (pc := 89) C qk_iconst_4 dX8_sortNow_89 ?_
        refine g_bipush (pc := 90) C qk_bipush_100 dX8_sortNow_90 ?_
        refine g_bipush (pc := 92) C qk_bipush_101 dX8_sortNow_92 ?_
        refine g_bipush (pc := 94) C qk_bipush_97 dX8_sortNow_94 ?_
        refine g_bipush (pc := 96) C qk_bipush_102 dX8_sortNow_96 ?_
        refine g_V5v (pc := 98) C lv8_98 dX8_sortNow_98 (s8_w4F h0 hby hta hf hK (fun q => e4 ((wWd_4 hK hf).mpr q))) h0 (by decide) (Nat.le_of_ble_eq_true rfl) ?_
        refine g_if_eqN (pc := 101) C 106 dX8_sortNow_101 (by decide) (by decide) (fun _ => ?_) (fun q => absurd q (by decide))
        refine g_aload_n (pc := 106) C (hl := rfl) dX8_sortNow_106 ?_
        refine g_iconst (pc := 107) C qk_iconst_5 dX8_sortNow_107 ?_
        refine g_bipush (pc := 108) C qk_bipush_100 dX8_sortNow_108 ?_
        refine g_bipush (pc := 110) C qk_bipush_114 dX8_sortNow_110 ?_
        refine g_bipush (pc := 112) C qk_bipush_117 dX8_sortNow_112 ?_
        refine g_bipush (pc := 114) C qk_bipush_107 dX8_sortNow_114 ?_
        by_cases p5 : (wSo f ta K.2.1 = 1 ∧ K.2.2.1 - K.2.1 = 5 ∧ f K.2.1 = 100 ∧ f (K.2.1 + 1) = 114 ∧ f (K.2.1 + 2) = 117 ∧ f (K.2.2.1 - 1) = 107)
        · refine g_V5v (pc := 116) C lv8_98 dX8_sortNow_116 (s8_w5T h0 hby hta hf hK p5) h0 (by decide) (Nat.le_of_ble_eq_true rfl) ?_
          refine g_if_eqN (pc := 119) C 135 dX8_sortNow_119 (by decide) (by decide) (fun q => absurd q (by decide)) (fun _ => ?_)
          refine g_aload_n (pc := 122) C (hl := rfl) dX8_sortNow_122 ?_
          refine g_bipush (pc := 123) C qk_bipush_110 dX8_sortNow_123 ?_
          refine g_V1v (pc := 125) C lv8_102 dX8_sortNow_125 (s8_f4F 110 h0 hby hta hf hK (by have := p5.2.1; have := hK.2.2; omega) (by decide) (fun q => e5 ((wWd_5 hK hf).mpr ⟨p5, q⟩))) h0 (by decide) (Nat.le_of_ble_eq_true rfl) ?_
          refine g_if_eqN (pc := 128) C 135 dX8_sortNow_128 (by decide) (by decide) (fun _ => ?_) (fun q => absurd q (by decide))
          refine g_iconst (pc := 135) C qk_iconst_0 dX8_sortNow_135 ?_
          exact g_iret (pc := 136) C F dX8_sortNow_136 rfl rfl (rfl) (rfl)
        · refine g_V5v (pc := 116) C lv8_98 dX8_sortNow_116 (s8_w5F h0 hby hta hf hK p5) h0 (by decide) (Nat.le_of_ble_eq_true rfl) ?_
          refine g_if_eqN (pc := 119) C 135 dX8_sortNow_119 (by decide) (by decide) (fun _ => ?_) (fun q => absurd q (by decide))
          refine g_iconst (pc := 135) C qk_iconst_0 dX8_sortNow_135 ?_
          exact g_iret (pc := 136) C F dX8_sortNow_136 rfl rfl (rfl) (rfl)
      · refine g_V1v (pc := 65) C lv8_102 dX8_sortNow_65 (s8_f4F 101 h0 hby hta hf hK (by have := p3.2.1; have := hK.2.2; omega) (by decide) g3) h0 (by decide) (Nat.le_of_ble_eq_true rfl) ?_
        refine g_if_eqN (pc := 68) C 88 dX8_sortNow_68 (by decide) (by decide) (fun _ => ?_) (fun q => absurd q (by decide))
        refine g_aload_n (pc := 88) C (hl := rfl) dX8_sortNow_88 ?_
        refine g_iconst (pc := 89) C qk_iconst_4 dX8_sortNow_89 ?_
        refine g_bipush (pc := 90) C qk_bipush_100 dX8_sortNow_90 ?_
        refine g_bipush (pc := 92) C qk_bipush_101 dX8_sortNow_92 ?_
        refine g_bipush (pc := 94) C qk_bipush_97 dX8_sortNow_94 ?_
        refine g_bipush (pc := 96) C qk_bipush_102 dX8_sortNow_96 ?_
        refine g_V5v (pc := 98) C lv8_98 dX8_sortNow_98 (s8_w4F h0 hby hta hf hK (fun q => e4 ((wWd_4 hK hf).mpr q))) h0 (by decide) (Nat.le_of_ble_eq_true rfl) ?_
        refine g_if_eqN (pc := 101) C 106 dX8_sortNow_101 (by decide) (by decide) (fun _ => ?_) (fun q => absurd q (by decide))
        refine g_aload_n (pc := 106) C (hl := rfl) dX8_sortNow_106 ?_
        refine g_iconst (pc := 107) C qk_iconst_5 dX8_sortNow_107 ?_
        refine g_bipush (pc := 108) C qk_bipush_100 dX8_sortNow_108 ?_
        refine g_bipush (pc := 110) C qk_bipush_114 dX8_sortNow_110 ?_
        refine g_bipush (pc := 112) C qk_bipush_117 dX8_sortNow_112 ?_
        refine g_bipush (pc := 114) C qk_bipush_107 dX8_sortNow_114 ?_
        by_cases p5 : (wSo f ta K.2.1 = 1 ∧ K.2.2.1 - K.2.1 = 5 ∧ f K.2.1 = 100 ∧ f (K.2.1 + 1) = 114 ∧ f (K.2.1 + 2) = 117 ∧ f (K.2.2.1 - 1) = 107)
        · refine g_V5v (pc := 116) C lv8_98 dX8_sortNow_116 (s8_w5T h0 hby hta hf hK p5) h0 (by decide) (Nat.le_of_ble_eq_true rfl) ?_
          refine g_if_eqN (pc := 119) C 135 dX8_sortNow_119 (by decide) (by decide) (fun q => absurd q (by decide)) (fun _ => ?_)
          refine g_aload_n (pc := 122) C (hl := rfl) dX8_sortNow_122 ?_
          refine g_bipush (pc := 123) C qk_bipush_110 dX8_sortNow_123 ?_
          refine g_V1v (pc := 125) C lv8_102 dX8_sortNow_125 (s8_f4F 110 h0 hby hta hf hK (by have := p5.2.1; have := hK.2.2; omega) (by decide) (fun q => e5 ((wWd_5 hK hf).mpr ⟨p5, q⟩))) h0 (by decide) (Nat.le_of_ble_eq_true rfl) ?_
          refine g_if_eqN (pc := 128) C 135 dX8_sortNow_128 (by decide) (by decide) (fun _ => ?_) (fun q => absurd q (by decide))
          refine g_iconst (pc := 135) C qk_iconst_0 dX8_sortNow_135 ?_
          exact g_iret (pc := 136) C F dX8_sortNow_136 rfl rfl (rfl) (rfl)
        · refine g_V5v (pc := 116) C lv8_98 dX8_sortNow_116 (s8_w5F h0 hby hta hf hK p5) h0 (by decide) (Nat.le_of_ble_eq_true rfl) ?_
          refine g_if_eqN (pc := 119) C 135 dX8_sortNow_119 (by decide) (by decide) (fun _ => ?_) (fun q => absurd q (by decide))
          refine g_iconst (pc := 135) C qk_iconst_0 dX8_sortNow_135 ?_
          exact g_iret (pc := 136) C F dX8_sortNow_136 rfl rfl (rfl) (rfl)
    · refine g_V5v (pc := 56) C lv8_98 dX8_sortNow_56 (s8_w3F h0 hby hta hf hK p3) h0 (by decide) (Nat.le_of_ble_eq_true rfl) ?_
      refine g_if_eqN (pc := 59) C 88 dX8_sortNow_59 (by decide) (by decide) (fun _ => ?_) (fun q => absurd q (by decide))
      refine g_aload_n (pc := 88) C (hl := rfl) dX8_sortNow_88 ?_
      refine g_iconst (pc := 89) C qk_iconst_4 dX8_sortNow_89 ?_
      refine g_bipush (pc := 90) C qk_bipush_100 dX8_sortNow_90 ?_
      refine g_bipush (pc := 92) C qk_bipush_101 dX8_sortNow_92 ?_
      refine g_bipush (pc := 94) C qk_bipush_97 dX8_sortNow_94 ?_
      refine g_bipush (pc := 96) C qk_bipush_102 dX8_sortNow_96 ?_
      refine g_V5v (pc := 98) C lv8_98 dX8_sortNow_98 (s8_w4F h0 hby hta hf hK (fun q => e4 ((wWd_4 hK hf).mpr q))) h0 (by decide) (Nat.le_of_ble_eq_true rfl) ?_
      refine g_if_eqN (pc := 101) C 106 dX8_sortNow_101 (by decide) (by decide) (fun _ => ?_) (fun q => absurd q (by decide))
      refine g_aload_n (pc := 106) C (hl := rfl) dX8_sortNow_106 ?_
      refine g_iconst (pc := 107) C qk_iconst_5 dX8_sortNow_107 ?_
      refine g_bipush (pc := 108) C qk_bipush_100 dX8_sortNow_108 ?_
      refine g_bipush (pc := 110) C qk_bipush_114 dX8_sortNow_110 ?_
      refine g_bipush (pc := 112) C qk_bipush_117 dX8_sortNow_112 ?_
      refine g_bipush (pc := 114) C qk_bipush_107 dX8_sortNow_114 ?_
      by_cases p5 : (wSo f ta K.2.1 = 1 ∧ K.2.2.1 - K.2.1 = 5 ∧ f K.2.1 = 100 ∧ f (K.2.1 + 1) = 114 ∧ f (K.2.1 + 2) = 117 ∧ f (K.2.2.1 - 1) = 107)
      · refine g_V5v (pc := 116) C lv8_98 dX8_sortNow_116 (s8_w5T h0 hby hta hf hK p5) h0 (by decide) (Nat.le_of_ble_eq_true rfl) ?_
        refine g_if_eqN (pc := 119) C 135 dX8_sortNow_119 (by decide) (by decide) (fun q => absurd q (by decide)) (fun _ => ?_)
        refine g_aload_n (pc := 122) C (hl := rfl) dX8_sortNow_122 ?_
        refine g_bipush (pc := 123) C qk_bipush_110 dX8_sortNow_123 ?_
        refine g_V1v (pc := 125) C lv8_102 dX8_sortNow_125 (s8_f4F 110 h0 hby hta hf hK (by have := p5.2.1; have := hK.2.2; omega) (by decide) (fun q => e5 ((wWd_5 hK hf).mpr ⟨p5, q⟩))) h0 (by decide) (Nat.le_of_ble_eq_true rfl) ?_
        refine g_if_eqN (pc := 128) C 135 dX8_sortNow_128 (by decide) (by decide) (fun _ => ?_) (fun q => absurd q (by decide))
        refine g_iconst (pc := 135) C qk_iconst_0 dX8_sortNow_135 ?_
        exact g_iret (pc := 136) C F dX8_sortNow_136 rfl rfl (rfl) (rfl)
      · refine g_V5v (pc := 116) C lv8_98 dX8_sortNow_116 (s8_w5F h0 hby hta hf hK p5) h0 (by decide) (Nat.le_of_ble_eq_true rfl) ?_
        refine g_if_eqN (pc := 119) C 135 dX8_sortNow_119 (by decide) (by decide) (fun _ => ?_) (fun q => absurd q (by decide))
        refine g_iconst (pc := 135) C qk_iconst_0 dX8_sortNow_135 ?_
        exact g_iret (pc := 136) C F dX8_sortNow_136 rfl rfl (rfl) (rfl)
  · refine g_V5v (pc := 10) C lv8_98 dX8_sortNow_10 (s8_w1F h0 hby hta hf hK p1) h0 (by decide) (Nat.le_of_ble_eq_true rfl) ?_
    refine g_if_eqN (pc := 13) C 27 dX8_sortNow_13 (by decide) (by decide) (fun _ => ?_) (fun q => absurd q (by decide))
    refine g_aload_n (pc := 27) C (hl := rfl) dX8_sortNow_27 ?_
    refine g_iconst (pc := 28) C qk_iconst_4 dX8_sortNow_28 ?_
    refine g_bipush (pc := 29) C qk_bipush_102 dX8_sortNow_29 ?_
    refine g_bipush (pc := 31) C qk_bipush_97 dX8_sortNow_31 ?_
    refine g_bipush (pc := 33) C qk_bipush_115 dX8_sortNow_33 ?_
    refine g_bipush (pc := 35) C qk_bipush_116 dX8_sortNow_35 ?_
    refine g_V5v (pc := 37) C lv8_98 dX8_sortNow_37 (s8_w2F h0 hby hta hf hK (fun q => e2 ((wWd_2 hK hf).mpr q))) h0 (by decide) (Nat.le_of_ble_eq_true rfl) ?_
    refine g_if_eqN (pc := 40) C 45 dX8_sortNow_40 (by decide) (by decide) (fun _ => ?_) (fun q => absurd q (by decide))
    refine g_aload_n (pc := 45) C (hl := rfl) dX8_sortNow_45 ?_
    refine g_bipush (pc := 46) C qk_bipush_6 dX8_sortNow_46 ?_
    refine g_bipush (pc := 48) C qk_bipush_103 dX8_sortNow_48 ?_
    refine g_bipush (pc := 50) C qk_bipush_114 dX8_sortNow_50 ?_
    refine g_bipush (pc := 52) C qk_bipush_101 dX8_sortNow_52 ?_
    refine g_bipush (pc := 54) C qk_bipush_121 dX8_sortNow_54 ?_
    by_cases p3 : (wSo f ta K.2.1 = 1 ∧ K.2.2.1 - K.2.1 = 6 ∧ f K.2.1 = 103 ∧ f (K.2.1 + 1) = 114 ∧ f (K.2.1 + 2) = 101 ∧ f (K.2.2.1 - 1) = 121)
    · refine g_V5v (pc := 56) C lv8_98 dX8_sortNow_56 (s8_w3T h0 hby hta hf hK p3) h0 (by decide) (Nat.le_of_ble_eq_true rfl) ?_
      refine g_if_eqN (pc := 59) C 88 dX8_sortNow_59 (by decide) (by decide) (fun q => absurd q (by decide)) (fun _ => ?_)
      refine g_aload_n (pc := 62) C (hl := rfl) dX8_sortNow_62 ?_
      refine g_bipush (pc := 63) C qk_bipush_101 dX8_sortNow_63 ?_
      by_cases g3 : f (K.2.1 + 3) = 101
      · refine g_V1v (pc := 65) C lv8_102 dX8_sortNow_65 (s8_f4T 101 h0 hby hta hf hK (by have := p3.2.1; have := hK.2.2; omega) (by decide) g3) h0 (by decide) (Nat.le_of_ble_eq_true rfl) ?_
        refine g_if_eqN (pc := 68) C 88 dX8_sortNow_68 (by decide) (by decide) (fun q => absurd q (by decide)) (fun _ => ?_)
        refine g_aload_n (pc := 71) C (hl := rfl) dX8_sortNow_71 ?_
        refine g_aload_n (pc := 72) C (hl := rfl) dX8_sortNow_72 ?_
        refine g_get (pc := 73) C fl8_83 dX8_sortNow_73 h0 rfl ?_
        refine g_iconst (pc := 76) C qk_iconst_4 dX8_sortNow_76 ?_
        refine g_iaddN (pc := 77) C dX8_sortNow_77 ?_
        refine g_V1v (pc := 78) C lv8_86 dX8_sortNow_78 (s8_byteAtN (K.2.1 + 4) h0 hby hta (by have := p3.2.1; have := hK.2.2; omega)) h0 (by decide) (Nat.le_of_ble_eq_true rfl) ?_
        refine g_bipush (pc := 81) C qk_bipush_100 dX8_sortNow_81 ?_
        refine g_ic_neN (pc := 83) C 88 dX8_sortNow_83 (by decide) (by have := hf (K.2.1 + 4) (by have := p3.2.1; have := hK.2.2; omega); omega) (fun _ => ?_) (fun q => absurd q (fun q => e3 ((wWd_3 hK hf).mpr ⟨p3, g3, q⟩)))
        refine g_aload_n (pc := 88) C (hl := rfl) dX8_sortNow_88 ?_
        refine g_iconst (pc := 89) C qk_iconst_4 dX8_sortNow_89 ?_
        refine g_bipush (pc := 90) C qk_bipush_100 dX8_sortNow_90 ?_
        refine g_bipush (pc := 92) C qk_bipush_101 dX8_sortNow_92 ?_
        refine g_bipush (pc := 94) C qk_bipush_97 dX8_sortNow_94 ?_
        refine g_bipush (pc := 96) C qk_bipush_102 dX8_sortNow_96 ?_
        refine g_V5v (pc := 98) C lv8_98 dX8_sortNow_98 (s8_w4F h0 hby hta hf hK (fun q => e4 ((wWd_4 hK hf).mpr q))) h0 (by decide) (Nat.le_of_ble_eq_true rfl) ?_
        refine g_if_eqN (pc := 101) C 106 dX8_sortNow_101 (by decide) (by decide) (fun _ => ?_) (fun q => absurd q (by decide))
        refine g_aload_n (pc := 106) C (hl := rfl) dX8_sortNow_106 ?_
        refine g_iconst (pc := 107) C qk_iconst_5 dX8_sortNow_107 ?_
        refine g_bipush (pc := 108) C qk_bipush_100 dX8_sortNow_108 ?_
        refine g_bipush (pc := 110) C qk_bipush_114 dX8_sortNow_110 ?_
        refine g_bipush (pc := 112) C qk_bipush_117 dX8_sortNow_112 ?_
        refine g_bipush (pc := 114) C qk_bipush_107 dX8_sortNow_114 ?_
        by_cases p5 : (wSo f ta K.2.1 = 1 ∧ K.2.2.1 - K.2.1 = 5 ∧ f K.2.1 = 100 ∧ f (K.2.1 + 1) = 114 ∧ f (K.2.1 + 2) = 117 ∧ f (K.2.2.1 - 1) = 107)
        · refine g_V5v (pc := 116) C lv8_98 dX8_sortNow_116 (s8_w5T h0 hby hta hf hK p5) h0 (by decide) (Nat.le_of_ble_eq_true rfl) ?_
          refine g_if_eqN (pc := 119) C 135 dX8_sortNow_119 (by decide) (by decide) (fun q => absurd q (by decide)) (fun _ => ?_)
          refine g_aload_n (pc := 122) C (hl := rfl) dX8_sortNow_122 ?_
          refine g_bipush (pc := 123) C qk_bipush_110 dX8_sortNow_123 ?_
          refine g_V1v (pc := 125) C lv8_102 dX8_sortNow_125 (s8_f4F 110 h0 hby hta hf hK (by have := p5.2.1; have := hK.2.2; omega) (by decide) (fun q => e5 ((wWd_5 hK hf).mpr ⟨p5, q⟩))) h0 (by decide) (Nat.le_of_ble_eq_true rfl) ?_
          refine g_if_eqN (pc := 128) C 135 dX8_sortNow_128 (by decide) (by decide) (fun _ => ?_) (fun q => absurd q (by decide))
          refine g_iconst (pc := 135) C qk_iconst_0 dX8_sortNow_135 ?_
          exact g_iret (pc := 136) C F dX8_sortNow_136 rfl rfl (rfl) (rfl)
        · refine g_V5v (pc := 116) C lv8_98 dX8_sortNow_116 (s8_w5F h0 hby hta hf hK p5) h0 (by decide) (Nat.le_of_ble_eq_true rfl) ?_
          refine g_if_eqN (pc := 119) C 135 dX8_sortNow_119 (by decide) (by decide) (fun _ => ?_) (fun q => absurd q (by decide))
          refine g_iconst (pc := 135) C qk_iconst_0 dX8_sortNow_135 ?_
          exact g_iret (pc := 136) C F dX8_sortNow_136 rfl rfl (rfl) (rfl)
      · refine g_V1v (pc := 65) C lv8_102 dX8_sortNow_65 (s8_f4F 101 h0 hby hta hf hK (by have := p3.2.1; have := hK.2.2; omega) (by decide) g3) h0 (by decide) (Nat.le_of_ble_eq_true rfl) ?_
        refine g_if_eqN (pc := 68) C 88 dX8_sortNow_68 (by decide) (by decide) (fun _ => ?_) (fun q => absurd q (by decide))
        refine g_aload_n (pc := 88) C (hl := rfl) dX8_sortNow_88 ?_
        refine g_iconst (pc := 89) C qk_iconst_4 dX8_sortNow_89 ?_
        refine g_bipush (pc := 90) C qk_bipush_100 dX8_sortNow_90 ?_
        refine g_bipush (pc := 92) C qk_bipush_101 dX8_sortNow_92 ?_
        refine g_bipush (pc := 94) C qk_bipush_97 dX8_sortNow_94 ?_
        refine g_bipush (pc := 96) C qk_bipush_102 dX8_sortNow_96 ?_
        refine g_V5v (pc := 98) C lv8_98 dX8_sortNow_98 (s8_w4F h0 hby hta hf hK (fun q => e4 ((wWd_4 hK hf).mpr q))) h0 (by decide) (Nat.le_of_ble_eq_true rfl) ?_
        refine g_if_eqN (pc := 101) C 106 dX8_sortNow_101 (by decide) (by decide) (fun _ => ?_) (fun q => absurd q (by decide))
        refine g_aload_n (pc := 106) C (hl := rfl) dX8_sortNow_106 ?_
        refine g_iconst (pc := 107) C qk_iconst_5 dX8_sortNow_107 ?_
        refine g_bipush (pc := 108) C qk_bipush_100 dX8_sortNow_108 ?_
        refine g_bipush (pc := 110) C qk_bipush_114 dX8_sortNow_110 ?_
        refine g_bipush (pc := 112) C qk_bipush_117 dX8_sortNow_112 ?_
        refine g_bipush (pc := 114) C qk_bipush_107 dX8_sortNow_114 ?_
        by_cases p5 : (wSo f ta K.2.1 = 1 ∧ K.2.2.1 - K.2.1 = 5 ∧ f K.2.1 = 100 ∧ f (K.2.1 + 1) = 114 ∧ f (K.2.1 + 2) = 117 ∧ f (K.2.2.1 - 1) = 107)
        · refine g_V5v (pc := 116) C lv8_98 dX8_sortNow_116 (s8_w5T h0 hby hta hf hK p5) h0 (by decide) (Nat.le_of_ble_eq_true rfl) ?_
          refine g_if_eqN (pc := 119) C 135 dX8_sortNow_119 (by decide) (by decide) (fun q => absurd q (by decide)) (fun _ => ?_)
          refine g_aload_n (pc := 122) C (hl := rfl) dX8_sortNow_122 ?_
          refine g_bipush (pc := 123) C qk_bipush_110 dX8_sortNow_123 ?_
          refine g_V1v (pc := 125) C lv8_102 dX8_sortNow_125 (s8_f4F 110 h0 hby hta hf hK (by have := p5.2.1; have := hK.2.2; omega) (by decide) (fun q => e5 ((wWd_5 hK hf).mpr ⟨p5, q⟩))) h0 (by decide) (Nat.le_of_ble_eq_true rfl) ?_
          refine g_if_eqN (pc := 128) C 135 dX8_sortNow_128 (by decide) (by decide) (fun _ => ?_) (fun q => absurd q (by decide))
          refine g_iconst (pc := 135) C qk_iconst_0 dX8_sortNow_135 ?_
          exact g_iret (pc := 136) C F dX8_sortNow_136 rfl rfl (rfl) (rfl)
        · refine g_V5v (pc := 116) C lv8_98 dX8_sortNow_116 (s8_w5F h0 hby hta hf hK p5) h0 (by decide) (Nat.le_of_ble_eq_true rfl) ?_
          refine g_if_eqN (pc := 119) C 135 dX8_sortNow_119 (by decide) (by decide) (fun _ => ?_) (fun q => absurd q (by decide))
          refine g_iconst (pc := 135) C qk_iconst_0 dX8_sortNow_135 ?_
          exact g_iret (pc := 136) C F dX8_sortNow_136 rfl rfl (rfl) (rfl)
    · refine g_V5v (pc := 56) C lv8_98 dX8_sortNow_56 (s8_w3F h0 hby hta hf hK p3) h0 (by decide) (Nat.le_of_ble_eq_true rfl) ?_
      refine g_if_eqN (pc := 59) C 88 dX8_sortNow_59 (by decide) (by decide) (fun _ => ?_) (fun q => absurd q (by decide))
      refine g_aload_n (pc := 88) C (hl := rfl) dX8_sortNow_88 ?_
      refine g_iconst (pc := 89) C qk_iconst_4 dX8_sortNow_89 ?_
      refine g_bipush (pc := 90) C qk_bipush_100 dX8_sortNow_90 ?_
      refine g_bipush (pc := 92) C qk_bipush_101 dX8_sortNow_92 ?_
      refine g_bipush (pc := 94) C qk_bipush_97 dX8_sortNow_94 ?_
      refine g_bipush (pc := 96) C qk_bipush_102 dX8_sortNow_96 ?_
      refine g_V5v (pc := 98) C lv8_98 dX8_sortNow_98 (s8_w4F h0 hby hta hf hK (fun q => e4 ((wWd_4 hK hf).mpr q))) h0 (by decide) (Nat.le_of_ble_eq_true rfl) ?_
      refine g_if_eqN (pc := 101) C 106 dX8_sortNow_101 (by decide) (by decide) (fun _ => ?_) (fun q => absurd q (by decide))
      refine g_aload_n (pc := 106) C (hl := rfl) dX8_sortNow_106 ?_
      refine g_iconst (pc := 107) C qk_iconst_5 dX8_sortNow_107 ?_
      refine g_bipush (pc := 108) C qk_bipush_100 dX8_sortNow_108 ?_
      refine g_bipush (pc := 110) C qk_bipush_114 dX8_sortNow_110 ?_
      refine g_bipush (pc := 112) C qk_bipush_117 dX8_sortNow_112 ?_
      refine g_bipush (pc := 114) C qk_bipush_107 dX8_sortNow_114 ?_
      by_cases p5 : (wSo f ta K.2.1 = 1 ∧ K.2.2.1 - K.2.1 = 5 ∧ f K.2.1 = 100 ∧ f (K.2.1 + 1) = 114 ∧ f (K.2.1 + 2) = 117 ∧ f (K.2.2.1 - 1) = 107)
      · refine g_V5v (pc := 116) C lv8_98 dX8_sortNow_116 (s8_w5T h0 hby hta hf hK p5) h0 (by decide) (Nat.le_of_ble_eq_true rfl) ?_
        refine g_if_eqN (pc := 119) C 135 dX8_sortNow_119 (by decide) (by decide) (fun q => absurd q (by decide)) (fun _ => ?_)
        refine g_aload_n (pc := 122) C (hl := rfl) dX8_sortNow_122 ?_
        refine g_bipush (pc := 123) C qk_bipush_110 dX8_sortNow_123 ?_
        refine g_V1v (pc := 125) C lv8_102 dX8_sortNow_125 (s8_f4F 110 h0 hby hta hf hK (by have := p5.2.1; have := hK.2.2; omega) (by decide) (fun q => e5 ((wWd_5 hK hf).mpr ⟨p5, q⟩))) h0 (by decide) (Nat.le_of_ble_eq_true rfl) ?_
        refine g_if_eqN (pc := 128) C 135 dX8_sortNow_128 (by decide) (by decide) (fun _ => ?_) (fun q => absurd q (by decide))
        refine g_iconst (pc := 135) C qk_iconst_0 dX8_sortNow_135 ?_
        exact g_iret (pc := 136) C F dX8_sortNow_136 rfl rfl (rfl) (rfl)
      · refine g_V5v (pc := 116) C lv8_98 dX8_sortNow_116 (s8_w5F h0 hby hta hf hK p5) h0 (by decide) (Nat.le_of_ble_eq_true rfl) ?_
        refine g_if_eqN (pc := 119) C 135 dX8_sortNow_119 (by decide) (by decide) (fun _ => ?_) (fun q => absurd q (by decide))
        refine g_iconst (pc := 135) C qk_iconst_0 dX8_sortNow_135 ?_
        exact g_iret (pc := 136) C F dX8_sortNow_136 rfl rfl (rfl) (rfl)
theorem s8_sortNow {n : Nat} {h : q_H} {un ta fl st di pu at_ er en pa tr : Nat} {f : Nat → Nat} {K : mK} (h0 : h 87 = (MO un ta fl st K.2.1 K.2.2.1 (wSo f ta K.2.1) di pu at_ er en pa tr)) (hby : h 89 = PA f) (hta : ta ≤ 300) (hf : ∀ k, k < ta → f k < 256) (hK : wK f ta K) : SP 2 yX8_sortNow cX8_sortNow 1 (some .int) [.ref 87] n h (some (.int (nI (mSn f K)))) h := by
  unfold mSn
  by_cases e1 : mWd f K 1 = true
  · rw [if_pos e1]; exact s8_sn1 h0 hby hta hf hK e1
  · rw [if_neg e1]
    by_cases e2 : mWd f K 2 = true
    · rw [if_pos e2]; exact s8_sn2 h0 hby hta hf hK e1 e2
    · rw [if_neg e2]
      by_cases e3 : mWd f K 3 = true
      · rw [if_pos e3]; exact s8_sn3 h0 hby hta hf hK e1 e2 e3
      · rw [if_neg e3]
        by_cases e4 : mWd f K 4 = true
        · rw [if_pos e4]; exact s8_sn4 h0 hby hta hf hK e1 e2 e3 e4
        · rw [if_neg e4]
          by_cases e5 : mWd f K 5 = true
          · rw [if_pos e5]; exact s8_sn5 h0 hby hta hf hK e1 e2 e3 e4 e5
          · rw [if_neg e5]; exact s8_sn0 h0 hby hta hf hK e1 e2 e3 e4 e5
