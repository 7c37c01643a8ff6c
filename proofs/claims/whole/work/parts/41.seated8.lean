def wOk (f : Nat → Nat) (g tu left right j : Nat) : Prop := f (6 + j) < g → (mLeft f g tu j (f (6 + j)) ≤ left ∨ g - mLeft f g tu j (f (6 + j)) ≤ right)
theorem mQ_b (p : Prop) : mQ p ≤ 1 := by
  by_cases h : p
  · rw [mQ_t h]; exact Nat.le_refl _
  · rw [mQ_f h]; exact Nat.zero_le _
theorem mQ_i {p q : Prop} (h : p ↔ q) : mQ p = mQ q := by rw [propext h]
theorem mQ_0 {p : Prop} (h : mQ p = 0) : ¬ p := fun q => by rw [mQ_t q] at h; exact absurd h (by decide)
theorem mQ_1 {p : Prop} (h : ¬ mQ p = 0) : p := Classical.byContradiction (fun q => h (mQ_f q))
noncomputable def wSr (f : Nat → Nat) (g tu left : Nat) : Nat → Nat → Nat
  | 0, L => L
  | k + 1, L => if mQ (∀ j, j < g → wOk f g tu left k j) = 1 ∧ left + k + min left k < wSr f g tu left k L then left + k + min left k else wSr f g tu left k L
noncomputable def wSl (f : Nat → Nat) (g tu : Nat) : Nat → Nat
  | 0 => 1000000
  | k + 1 => wSr f g tu k g (wSl f g tu k)
theorem wSr_le (f : Nat → Nat) (g tu left : Nat) : ∀ k L, wSr f g tu left k L ≤ L
  | 0, L => Nat.le_refl _
  | k + 1, L => by
    have h := wSr_le f g tu left k L
    unfold wSr
    split
    · omega
    · exact h
theorem wSl_le (f : Nat → Nat) (g tu : Nat) : ∀ k, wSl f g tu k ≤ 1000000
  | 0 => Nat.le_refl _
  | k + 1 => Nat.le_trans (wSr_le f g tu k g _) (wSl_le f g tu k)
theorem mQ_s {p : Nat → Prop} {i : Nat} (a : Nat) (h : mQ (∀ j, j < i → p j) = a) : mQ (∀ j, j < i + 1 → p j) = if a = 0 then 0 else mQ (p i) := by
  subst h
  by_cases h : ∀ j, j < i → p j
  · rw [mQ_t h, if_neg (by decide)]
    exact mQ_i ⟨fun q => q i (by omega), fun q j hj => by
      rcases Nat.lt_or_ge j i with z | z
      · exact h j z
      · obtain rfl : j = i := by omega
        exact q⟩
  · rw [mQ_f h, if_pos rfl]
    exact mQ_f (fun q => h (fun j hj => q j (by omega)))
set_option maxHeartbeats 2000000 in
set_option maxRecDepth 20000 in
theorem l8_sv1 {Γ : q_X} {ad : Nat → Nat} {n : Nat} {h : q_H} {un ta fl st sa ne so di pu at_ er en pa tr g : Nat} {W : Nat → Nat} {x : mX} {ls left right : Nat} (h0 : h 87 = MO un ta fl st sa ne so di pu at_ er en pa tr) (hW : h 88 = WA W) (T : wT W 0 g x) (hv : mW g x) (hl_ : left < 1000 ∧ right < 1000) (hg : 0 < g ∧ g ≤ 6) (C : q_C Γ ad 5 0 0 RX8 yX8_served cX8_served 8 (some .int)) (kk : ∀ v7, q_G Γ ad 8 108 [some (.ref 87), some (.int (nI g)), some (.int (nI ls)), some (.int (nI left)), some (.int (nI right)), some (.int (nI (mQ (∀ j, j < g → wOk x.1 g x.2.1 left right j)))), some (.int (nI g)), v7] [] n h 0 0) : ∀ (m i a : Nat) (v7 : Option Value), i + m = g + 1 → i ≤ g → a = mQ (∀ j, j < i → wOk x.1 g x.2.1 left right j) → q_G Γ ad 8 42 [some (.ref 87), some (.int (nI g)), some (.int (nI ls)), some (.int (nI left)), some (.int (nI right)), some (.int (nI a)), some (.int (nI i)), v7] [] n h 0 0 := by
  intro m
  induction m with
  | zero => intro i a v7 hm hi; omega
  | succ m ih =>
    intro i a v7 hm hi ha
    refine g_iload (pc := 42) C (hl := rfl) dX8_served_42 ?_
    refine g_iload_n (pc := 44) C (hl := rfl) dX8_served_44 ?_
    refine g_ic_geN (pc := 45) C 108 dX8_served_45 (by decide) (by omega) (fun c45 => ?_) (fun c45 => ?_)
    · obtain rfl : i = g := by omega
      subst ha
      exact kk _
    · have hl := mLeft_lt x.1 g x.2.1 i (x.1 (6 + i)) hv.1.1
      refine g_aload_n (pc := 48) C (hl := rfl) dX8_served_48 ?_
      refine g_get (pc := 49) C fl8_7 dX8_served_49 h0 rfl ?_
      refine g_bipush (pc := 52) C qk_bipush_9 dX8_served_52 ?_
      refine g_iload (pc := 54) C (hl := rfl) dX8_served_54 ?_
      refine g_iaddN (pc := 56) C dX8_served_56 ?_
      refine g_ialdV (pc := 57) C dX8_served_57 hW (by omega) (wT0_wa T (by omega)) ?_
      refine g_iload_n (pc := 58) C (hl := rfl) dX8_served_58 ?_
      refine g_ic_geN (pc := 59) C 72 dX8_served_59 (by decide) (by exact ⟨Nat.lt_trans (hv.2.2 i (by omega)).2.1 (by decide), by omega⟩) (fun c59 => ?_) (fun c59 => ?_)
      · refine g_iconst (pc := 72) C qk_iconst_0 dX8_served_72 ?_
        refine g_istore (pc := 73) C rfl dX8_served_73 ?_
        refine g_iload (pc := 75) C (hl := rfl) dX8_served_75 ?_
        have ha1 : a ≤ 1 := by rw [ha]; exact mQ_b _
        refine g_if_eqN (pc := 77) C 99 dX8_served_77 (by decide) (by omega) (fun c77 => ?_) (fun c77 => ?_)
        · refine g_iconst (pc := 99) C qk_iconst_0 dX8_served_99 ?_
          have e : mQ (∀ j, j < (i + 1) → wOk x.1 g x.2.1 left right j) = 0 := by rw [mQ_s a ha.symm, if_pos c77]
          refine g_istore (pc := 100) C rfl dX8_served_100 ?_
          refine g_iincN (pc := 102) C (hl := rfl) (q_inc1 _) rfl dX8_served_102 ?_
          refine g_goto (pc := 105) C 42 dX8_served_105 (by decide) ?_
          exact ih (i + 1) _ _ (by omega) (by omega) e.symm
        · refine g_iload (pc := 80) C (hl := rfl) dX8_served_80 ?_
          refine g_iload_n (pc := 82) C (hl := rfl) dX8_served_82 ?_
          refine g_ic_leN (pc := 83) C 95 dX8_served_83 (by decide) (by omega) (fun c83 => ?_) (fun c83 => ?_)
          · refine g_iconst (pc := 95) C qk_iconst_1 dX8_served_95 ?_
            refine g_goto (pc := 96) C 100 dX8_served_96 (by decide) ?_
            have e : mQ (∀ j, j < (i + 1) → wOk x.1 g x.2.1 left right j) = 1 := by rw [mQ_s a ha.symm, if_neg c77]; exact mQ_t (fun q => absurd q (by omega))
            refine g_istore (pc := 100) C rfl dX8_served_100 ?_
            refine g_iincN (pc := 102) C (hl := rfl) (q_inc1 _) rfl dX8_served_102 ?_
            refine g_goto (pc := 105) C 42 dX8_served_105 (by decide) ?_
            exact ih (i + 1) _ _ (by omega) (by omega) e.symm
          · refine g_iload_n (pc := 86) C (hl := rfl) dX8_served_86 ?_
            refine g_iload (pc := 87) C (hl := rfl) dX8_served_87 ?_
            refine g_isubN (pc := 89) C dX8_served_89 (by omega) ?_
            refine g_iload (pc := 90) C (hl := rfl) dX8_served_90 ?_
            refine g_ic_gtN (pc := 92) C 99 dX8_served_92 (by decide) (by omega) (fun c92 => ?_) (fun c92 => ?_)
            · refine g_iconst (pc := 99) C qk_iconst_0 dX8_served_99 ?_
              have e : mQ (∀ j, j < (i + 1) → wOk x.1 g x.2.1 left right j) = 0 := by rw [mQ_s a ha.symm, if_neg c77]; exact mQ_f (fun q => (q (by omega)).elim (fun z => absurd z (by omega)) (fun z => absurd z (by omega)))
              refine g_istore (pc := 100) C rfl dX8_served_100 ?_
              refine g_iincN (pc := 102) C (hl := rfl) (q_inc1 _) rfl dX8_served_102 ?_
              refine g_goto (pc := 105) C 42 dX8_served_105 (by decide) ?_
              exact ih (i + 1) _ _ (by omega) (by omega) e.symm
            · refine g_iconst (pc := 95) C qk_iconst_1 dX8_served_95 ?_
              refine g_goto (pc := 96) C 100 dX8_served_96 (by decide) ?_
              have e : mQ (∀ j, j < (i + 1) → wOk x.1 g x.2.1 left right j) = 1 := by rw [mQ_s a ha.symm, if_neg c77]; exact mQ_t (fun q => absurd q (by omega))
              refine g_istore (pc := 100) C rfl dX8_served_100 ?_
              refine g_iincN (pc := 102) C (hl := rfl) (q_inc1 _) rfl dX8_served_102 ?_
              refine g_goto (pc := 105) C 42 dX8_served_105 (by decide) ?_
              exact ih (i + 1) _ _ (by omega) (by omega) e.symm
      · refine g_aload_n (pc := 62) C (hl := rfl) dX8_served_62 ?_
        refine g_iconst (pc := 63) C qk_iconst_0 dX8_served_63 ?_
        refine g_iload (pc := 64) C (hl := rfl) dX8_served_64 ?_
        refine g_V2v (pc := 66) C lv8_155 dX8_served_66 (s8_leftTo (r := 0) i h0 hW T (by decide) hv (by omega)) h0 (by decide) (Nat.le_of_ble_eq_true rfl) ?_
        refine g_goto (pc := 69) C 73 dX8_served_69 (by decide) ?_
        refine g_istore (pc := 73) C rfl dX8_served_73 ?_
        refine g_iload (pc := 75) C (hl := rfl) dX8_served_75 ?_
        have ha1 : a ≤ 1 := by rw [ha]; exact mQ_b _
        refine g_if_eqN (pc := 77) C 99 dX8_served_77 (by decide) (by omega) (fun c77 => ?_) (fun c77 => ?_)
        · refine g_iconst (pc := 99) C qk_iconst_0 dX8_served_99 ?_
          have e : mQ (∀ j, j < (i + 1) → wOk x.1 g x.2.1 left right j) = 0 := by rw [mQ_s a ha.symm, if_pos c77]
          refine g_istore (pc := 100) C rfl dX8_served_100 ?_
          refine g_iincN (pc := 102) C (hl := rfl) (q_inc1 _) rfl dX8_served_102 ?_
          refine g_goto (pc := 105) C 42 dX8_served_105 (by decide) ?_
          exact ih (i + 1) _ _ (by omega) (by omega) e.symm
        · refine g_iload (pc := 80) C (hl := rfl) dX8_served_80 ?_
          refine g_iload_n (pc := 82) C (hl := rfl) dX8_served_82 ?_
          refine g_ic_leN (pc := 83) C 95 dX8_served_83 (by decide) (by omega) (fun c83 => ?_) (fun c83 => ?_)
          · refine g_iconst (pc := 95) C qk_iconst_1 dX8_served_95 ?_
            refine g_goto (pc := 96) C 100 dX8_served_96 (by decide) ?_
            have e : mQ (∀ j, j < (i + 1) → wOk x.1 g x.2.1 left right j) = 1 := by rw [mQ_s a ha.symm, if_neg c77]; exact mQ_t (fun _ => Or.inl c83)
            refine g_istore (pc := 100) C rfl dX8_served_100 ?_
            refine g_iincN (pc := 102) C (hl := rfl) (q_inc1 _) rfl dX8_served_102 ?_
            refine g_goto (pc := 105) C 42 dX8_served_105 (by decide) ?_
            exact ih (i + 1) _ _ (by omega) (by omega) e.symm
          · refine g_iload_n (pc := 86) C (hl := rfl) dX8_served_86 ?_
            refine g_iload (pc := 87) C (hl := rfl) dX8_served_87 ?_
            refine g_isubN (pc := 89) C dX8_served_89 (by omega) ?_
            refine g_iload (pc := 90) C (hl := rfl) dX8_served_90 ?_
            refine g_ic_gtN (pc := 92) C 99 dX8_served_92 (by decide) (by omega) (fun c92 => ?_) (fun c92 => ?_)
            · refine g_iconst (pc := 99) C qk_iconst_0 dX8_served_99 ?_
              have e : mQ (∀ j, j < (i + 1) → wOk x.1 g x.2.1 left right j) = 0 := by rw [mQ_s a ha.symm, if_neg c77]; exact mQ_f (fun q => (q (by omega)).elim (fun z => absurd z (by omega)) (fun z => absurd z (by omega)))
              refine g_istore (pc := 100) C rfl dX8_served_100 ?_
              refine g_iincN (pc := 102) C (hl := rfl) (q_inc1 _) rfl dX8_served_102 ?_
              refine g_goto (pc := 105) C 42 dX8_served_105 (by decide) ?_
              exact ih (i + 1) _ _ (by omega) (by omega) e.symm
            · refine g_iconst (pc := 95) C qk_iconst_1 dX8_served_95 ?_
              refine g_goto (pc := 96) C 100 dX8_served_96 (by decide) ?_
              have e : mQ (∀ j, j < (i + 1) → wOk x.1 g x.2.1 left right j) = 1 := by rw [mQ_s a ha.symm, if_neg c77]; exact mQ_t (fun _ => Or.inr (by omega))
              refine g_istore (pc := 100) C rfl dX8_served_100 ?_
              refine g_iincN (pc := 102) C (hl := rfl) (q_inc1 _) rfl dX8_served_102 ?_
              refine g_goto (pc := 105) C 42 dX8_served_105 (by decide) ?_
              exact ih (i + 1) _ _ (by omega) (by omega) e.symm
set_option maxHeartbeats 2000000 in
set_option maxRecDepth 20000 in
theorem l8_sv2 {Γ : q_X} {ad : Nat → Nat} {n : Nat} {h : q_H} {un ta fl st sa ne so di pu at_ er en pa tr g : Nat} {W : Nat → Nat} {x : mX} {left L : Nat} (h0 : h 87 = MO un ta fl st sa ne so di pu at_ er en pa tr) (hW : h 88 = WA W) (T : wT W 0 g x) (hv : mW g x) (hl_ : left < g) (hg : 0 < g ∧ g ≤ 6) (hL : L ≤ 1000000) (C : q_C Γ ad 5 0 0 RX8 yX8_served cX8_served 8 (some .int)) (kk : ∀ v5 v6 v7, q_G Γ ad 8 151 [some (.ref 87), some (.int (nI g)), some (.int (nI (wSr x.1 g x.2.1 left g L))), some (.int (nI left)), some (.int (nI g)), v5, v6, v7] [] n h 0 0) : ∀ (m right ls : Nat) (v5 v6 v7 : Option Value), right + m = g + 1 → right ≤ g → ls = wSr x.1 g x.2.1 left right L → q_G Γ ad 8 30 [some (.ref 87), some (.int (nI g)), some (.int (nI ls)), some (.int (nI left)), some (.int (nI right)), v5, v6, v7] [] n h 0 0 := by
  intro m
  induction m with
  | zero => intro right ls v5 v6 v7 hm hi; omega
  | succ m ih =>
    intro right ls v5 v6 v7 hm hi hls
    refine g_iload (pc := 30) C (hl := rfl) dX8_served_30 ?_
    refine g_iload_n (pc := 32) C (hl := rfl) dX8_served_32 ?_
    refine g_ic_geN (pc := 33) C 151 dX8_served_33 (by decide) (by omega) (fun c33 => ?_) (fun c33 => ?_)
    · obtain rfl : right = g := by omega
      subst hls
      exact kk _ _ _
    · have hb : ls ≤ 1000000 := by rw [hls]; exact Nat.le_trans (wSr_le _ _ _ _ _ _) hL
      refine g_iconst (pc := 36) C qk_iconst_1 dX8_served_36 ?_
      refine g_istore (pc := 37) C rfl dX8_served_37 ?_
      refine g_iconst (pc := 39) C qk_iconst_0 dX8_served_39 ?_
      refine g_istore (pc := 40) C rfl dX8_served_40 ?_
      refine l8_sv1 h0 hW T hv ⟨by omega, by omega⟩ hg C (fun v7 => ?_) (g + 1) 0 1 _ (by omega) (by omega) (mQ_t (fun j hj => absurd hj (by omega))).symm
      refine g_iload_n (pc := 108) C (hl := rfl) dX8_served_108 ?_
      refine g_iload (pc := 109) C (hl := rfl) dX8_served_109 ?_
      refine g_iaddN (pc := 111) C dX8_served_111 ?_
      refine g_iload_n (pc := 112) C (hl := rfl) dX8_served_112 ?_
      refine g_iload (pc := 113) C (hl := rfl) dX8_served_113 ?_
      refine g_ic_geN (pc := 115) C 122 dX8_served_115 (by decide) (by omega) (fun c115 => ?_) (fun c115 => ?_)
      · refine g_iload (pc := 122) C (hl := rfl) dX8_served_122 ?_
        refine g_iaddN (pc := 124) C dX8_served_124 ?_
        refine g_istore (pc := 125) C rfl dX8_served_125 ?_
        refine g_iload (pc := 127) C (hl := rfl) dX8_served_127 ?_
        have ha1 := mQ_b (∀ j, j < g → wOk x.1 g x.2.1 left right j)
        refine g_if_eqN (pc := 129) C 143 dX8_served_129 (by decide) (by omega) (fun c129 => ?_) (fun c129 => ?_)
        · refine g_iload_n (pc := 143) C (hl := rfl) dX8_served_143 ?_
          have e : wSr x.1 g x.2.1 left (right + 1) L = ls := by rw [hls]; exact if_neg (fun z => absurd z.1 (by rw [c129]; decide))
          refine g_istore_n (pc := 144) C rfl dX8_served_144 ?_
          refine g_iincN (pc := 145) C (hl := rfl) (q_inc1 _) rfl dX8_served_145 ?_
          refine g_goto (pc := 148) C 30 dX8_served_148 (by decide) ?_
          exact ih (right + 1) _ _ _ _ (by omega) (by omega) e.symm
        · refine g_iload (pc := 132) C (hl := rfl) dX8_served_132 ?_
          refine g_iload_n (pc := 134) C (hl := rfl) dX8_served_134 ?_
          refine g_ic_geN (pc := 135) C 143 dX8_served_135 (by decide) (by omega) (fun c135 => ?_) (fun c135 => ?_)
          · refine g_iload_n (pc := 143) C (hl := rfl) dX8_served_143 ?_
            have e : wSr x.1 g x.2.1 left (right + 1) L = ls := by rw [hls]; exact if_neg (fun z => absurd z.2 (by rw [(show min left right = right by omega), ← hls]; omega))
            refine g_istore_n (pc := 144) C rfl dX8_served_144 ?_
            refine g_iincN (pc := 145) C (hl := rfl) (q_inc1 _) rfl dX8_served_145 ?_
            refine g_goto (pc := 148) C 30 dX8_served_148 (by decide) ?_
            exact ih (right + 1) _ _ _ _ (by omega) (by omega) e.symm
          · refine g_iload (pc := 138) C (hl := rfl) dX8_served_138 ?_
            refine g_goto (pc := 140) C 144 dX8_served_140 (by decide) ?_
            have e : wSr x.1 g x.2.1 left (right + 1) L = left + right + right := (if_pos ⟨mQ_t (mQ_1 c129), by rw [(show min left right = right by omega), ← hls]; omega⟩).trans (by rw [(show min left right = right by omega)])
            refine g_istore_n (pc := 144) C rfl dX8_served_144 ?_
            refine g_iincN (pc := 145) C (hl := rfl) (q_inc1 _) rfl dX8_served_145 ?_
            refine g_goto (pc := 148) C 30 dX8_served_148 (by decide) ?_
            exact ih (right + 1) _ _ _ _ (by omega) (by omega) e.symm
      · refine g_iload_n (pc := 118) C (hl := rfl) dX8_served_118 ?_
        refine g_goto (pc := 119) C 124 dX8_served_119 (by decide) ?_
        refine g_iaddN (pc := 124) C dX8_served_124 ?_
        refine g_istore (pc := 125) C rfl dX8_served_125 ?_
        refine g_iload (pc := 127) C (hl := rfl) dX8_served_127 ?_
        have ha1 := mQ_b (∀ j, j < g → wOk x.1 g x.2.1 left right j)
        refine g_if_eqN (pc := 129) C 143 dX8_served_129 (by decide) (by omega) (fun c129 => ?_) (fun c129 => ?_)
        · refine g_iload_n (pc := 143) C (hl := rfl) dX8_served_143 ?_
          have e : wSr x.1 g x.2.1 left (right + 1) L = ls := by rw [hls]; exact if_neg (fun z => absurd z.1 (by rw [c129]; decide))
          refine g_istore_n (pc := 144) C rfl dX8_served_144 ?_
          refine g_iincN (pc := 145) C (hl := rfl) (q_inc1 _) rfl dX8_served_145 ?_
          refine g_goto (pc := 148) C 30 dX8_served_148 (by decide) ?_
          exact ih (right + 1) _ _ _ _ (by omega) (by omega) e.symm
        · refine g_iload (pc := 132) C (hl := rfl) dX8_served_132 ?_
          refine g_iload_n (pc := 134) C (hl := rfl) dX8_served_134 ?_
          refine g_ic_geN (pc := 135) C 143 dX8_served_135 (by decide) (by omega) (fun c135 => ?_) (fun c135 => ?_)
          · refine g_iload_n (pc := 143) C (hl := rfl) dX8_served_143 ?_
            have e : wSr x.1 g x.2.1 left (right + 1) L = ls := by rw [hls]; exact if_neg (fun z => absurd z.2 (by rw [(show min left right = left by omega), ← hls]; omega))
            refine g_istore_n (pc := 144) C rfl dX8_served_144 ?_
            refine g_iincN (pc := 145) C (hl := rfl) (q_inc1 _) rfl dX8_served_145 ?_
            refine g_goto (pc := 148) C 30 dX8_served_148 (by decide) ?_
            exact ih (right + 1) _ _ _ _ (by omega) (by omega) e.symm
          · refine g_iload (pc := 138) C (hl := rfl) dX8_served_138 ?_
            refine g_goto (pc := 140) C 144 dX8_served_140 (by decide) ?_
            have e : wSr x.1 g x.2.1 left (right + 1) L = left + right + left := (if_pos ⟨mQ_t (mQ_1 c129), by rw [(show min left right = left by omega), ← hls]; omega⟩).trans (by rw [(show min left right = left by omega)])
            refine g_istore_n (pc := 144) C rfl dX8_served_144 ?_
            refine g_iincN (pc := 145) C (hl := rfl) (q_inc1 _) rfl dX8_served_145 ?_
            refine g_goto (pc := 148) C 30 dX8_served_148 (by decide) ?_
            exact ih (right + 1) _ _ _ _ (by omega) (by omega) e.symm
set_option maxHeartbeats 2000000 in
set_option maxRecDepth 20000 in
theorem l8_sv3 {Γ : q_X} {ad : Nat → Nat} {n : Nat} {h : q_H} {un ta fl st sa ne so di pu at_ er en pa tr g : Nat} {W : Nat → Nat} {x : mX} (h0 : h 87 = MO un ta fl st sa ne so di pu at_ er en pa tr) (hW : h 88 = WA W) (T : wT W 0 g x) (hv : mW g x) (hg : 0 < g ∧ g ≤ 6) (C : q_C Γ ad 5 0 0 RX8 yX8_served cX8_served 8 (some .int)) (F : q_N Γ ad n (some (.int (nI (wSl x.1 g x.2.1 g)))) h) : ∀ (m left ls : Nat) (v4 v5 v6 v7 : Option Value), left + m = g + 1 → left ≤ g → ls = wSl x.1 g x.2.1 left → q_G Γ ad 8 22 [some (.ref 87), some (.int (nI g)), some (.int (nI ls)), some (.int (nI left)), v4, v5, v6, v7] [] n h 0 0 := by
  intro m
  induction m with
  | zero => intro left ls v4 v5 v6 v7 hm hi; omega
  | succ m ih =>
    intro left ls v4 v5 v6 v7 hm hi hls
    subst hls
    refine g_iload_n (pc := 22) C (hl := rfl) dX8_served_22 ?_
    refine g_iload_n (pc := 23) C (hl := rfl) dX8_served_23 ?_
    refine g_ic_geN (pc := 24) C 157 dX8_served_24 (by decide) (by omega) (fun c24 => ?_) (fun c24 => ?_)
    · refine g_iload_n (pc := 157) C (hl := rfl) dX8_served_157 ?_
      obtain rfl : left = g := by omega
      exact g_iret (pc := 158) C F dX8_served_158 rfl rfl rfl rfl
    · refine g_iconst (pc := 27) C qk_iconst_0 dX8_served_27 ?_
      refine g_istore (pc := 28) C rfl dX8_served_28 ?_
      refine l8_sv2 h0 hW T hv (by omega) hg (wSl_le _ _ _ _) C (fun v5 v6 v7 => ?_) (g + 1) 0 _ _ _ _ (by omega) (by omega) rfl
      refine g_iincN (pc := 151) C (hl := rfl) (q_inc1 _) rfl dX8_served_151 ?_
      refine g_goto (pc := 154) C 22 dX8_served_154 (by decide) ?_
      exact ih (left + 1) _ _ _ _ _ (by omega) (by omega) rfl
set_option maxHeartbeats 2000000 in
set_option maxRecDepth 20000 in
theorem s8_servedT {n : Nat} {h : q_H} {un ta fl st sa ne so di pu at_ er en pa tr g : Nat} {W : Nat → Nat} {x : mX} (h0 : h 87 = MO un ta fl st sa ne so di pu at_ er en pa tr) (hW : h 88 = WA W) (T : wT W 0 g x) (hv : mW g x) (hm : x.2.2.1 ≤ 999) (hg : 0 < g ∧ g ≤ 6) : SP 5 yX8_served cX8_served 8 (some .int) [.ref 87] n h (some (.int (nI (wSl x.1 g x.2.1 g)))) h := by
  refine q_SPi RX8 rfl (by decide +kernel) (la := _) rfl rfl (fun Γ ad C F => ?_)
  refine g_aload_n (pc := 0) C (hl := rfl) dX8_served_0 ?_
  refine g_V0v (pc := 1) C lv8_177 dX8_served_1 (s8_isNoneT h0 hW (by rw [wT0_n T]; omega)) h0 (by decide) (Nat.le_of_ble_eq_true rfl) ?_
  refine g_if_eqN (pc := 4) C 10 dX8_served_4 (by decide) (by decide) (fun _ => ?_) (fun q => absurd q (by decide))
  refine g_aload_n (pc := 10) C (hl := rfl) dX8_served_10 ?_
  refine g_get (pc := 11) C fl8_7 dX8_served_11 h0 rfl ?_
  refine g_iconst (pc := 14) C qk_iconst_0 dX8_served_14 ?_
  refine g_ialdV (pc := 15) C dX8_served_15 hW (by omega) (wT0_n T) ?_
  refine g_istore_n (pc := 16) C rfl dX8_served_16 ?_
  refine g_ldc (pc := 17) C (v := nI 1000000) zk8_217 dX8_served_17 ?_
  refine g_istore_n (pc := 19) C rfl dX8_served_19 ?_
  refine g_iconst (pc := 20) C qk_iconst_0 dX8_served_20 ?_
  refine g_istore_n (pc := 21) C rfl dX8_served_21 ?_
  exact l8_sv3 h0 hW T hv hg C F (g + 1) 0 _ _ _ _ _ (by omega) (by omega) rfl
set_option maxHeartbeats 2000000 in
set_option maxRecDepth 20000 in
theorem s8_seatedB {n : Nat} {h : q_H} {un ta fl st sa ne so di pu at_ er en pa tr g : Nat} {W : Nat → Nat} {x : mX} (y z q : Int32) (h0 : h 87 = MO un ta fl st sa ne so di pu at_ er en pa tr) (hW : h 88 = WA W) (T : wT W 0 g x) (hg : g ≤ 6) (hb : (y < 0 ∨ nI g ≤ y) ∨ (z < nI 0 ∨ nI 99 < z) ∨ (q < nI 0 ∨ nI 1 < q)) : SP 5 yX8_seated cX8_seated 8 (some .int) [.ref 87, .int y, .int z, .int q] n h (some (.int (-1000001))) h := by
  refine q_SPi RX8 rfl (by decide +kernel) (la := _) rfl rfl (fun Γ ad C F => ?_)
  have hg0 : W 0 = g ∧ g ≤ 6 := ⟨wT0_n T, hg⟩
  refine g_aload_n (pc := 0) C (hl := rfl) dX8_seated_0 ?_
  refine g_iload_n (pc := 1) C (hl := rfl) dX8_seated_1 ?_
  by_cases cy : y < 0 ∨ nI g ≤ y
  · refine g_V1v (pc := 2) C lv8_194 dX8_seated_2 (s8_oneF y h0 hW hg0 cy) h0 (by decide) (Nat.le_of_ble_eq_true rfl) ?_
    refine g_if_eqN (pc := 5) C 25 dX8_seated_5 (by decide) (by decide) (fun _ => ?_) (fun q => absurd q (by decide))
    refine g_ldc (pc := 25) C (v := -1000001) zk8_52 dX8_seated_25 ?_
    exact g_iret (pc := 27) C F dX8_seated_27 rfl rfl (rfl) (rfl)
  · refine g_V1v (pc := 2) C lv8_194 dX8_seated_2 (s8_oneU y h0 hW hg0 cy) h0 (by decide) (Nat.le_of_ble_eq_true rfl) ?_
    refine g_if_eqN (pc := 5) C 25 dX8_seated_5 (by decide) (by decide) (fun q => absurd q (by decide)) (fun _ => ?_)
    refine g_iload_n (pc := 8) C (hl := rfl) dX8_seated_8 ?_
    by_cases cz : z < nI 0 ∨ nI 99 < z
    · refine g_S1v (pc := 9) C ls8_210 dX8_seated_9 (s8_laterF z cz) (by decide) (Nat.le_of_ble_eq_true rfl) ?_
      refine g_if_eqN (pc := 12) C 25 dX8_seated_12 (by decide) (by decide) (fun _ => ?_) (fun q => absurd q (by decide))
      refine g_ldc (pc := 25) C (v := -1000001) zk8_52 dX8_seated_25 ?_
      exact g_iret (pc := 27) C F dX8_seated_27 rfl rfl (rfl) (rfl)
    · refine g_S1v (pc := 9) C ls8_210 dX8_seated_9 (s8_laterU z cz) (by decide) (Nat.le_of_ble_eq_true rfl) ?_
      refine g_if_eqN (pc := 12) C 25 dX8_seated_12 (by decide) (by decide) (fun q => absurd q (by decide)) (fun _ => ?_)
      refine g_iload_n (pc := 15) C (hl := rfl) dX8_seated_15 ?_
      refine g_i2l (pc := 16) C rfl dX8_seated_16 ?_
      refine g_lconst (pc := 17) C (v := 0) rfl dX8_seated_17 ?_
      refine g_lconst (pc := 18) C (v := 1) rfl dX8_seated_18 ?_
      by_cases cq : q < (nI 0) ∨ (nI 1) < q
      · refine g_S3v (pc := 19) C ls8_37 dX8_seated_19 (s8_inF q (nI 0) (nI 1) (by decide) (by decide) cq) (by decide) (Nat.le_of_ble_eq_true rfl) ?_
        refine g_if_neN (pc := 22) C 28 dX8_seated_22 (by decide) (by decide) (fun q => absurd q (by decide)) (fun _ => ?_)
        refine g_ldc (pc := 25) C (v := -1000001) zk8_52 dX8_seated_25 ?_
        exact g_iret (pc := 27) C F dX8_seated_27 rfl rfl (rfl) (rfl)
      · refine g_S3v (pc := 19) C ls8_37 dX8_seated_19 (s8_inT q (nI 0) (nI 1) (by decide) (by decide) cq) (by decide) (Nat.le_of_ble_eq_true rfl) ?_
        refine g_if_neN (pc := 22) C 28 dX8_seated_22 (by decide) (by decide) (fun _ => ?_) (fun q => absurd q (by decide))
        exact absurd hb (fun t => t.elim cy (fun t => t.elim cz cq))
theorem wMX_e {un ta fl st sa ne so di pa tr : Nat} {x y : mX} (h : x.2.2.2 = y.2.2.2) : MX un ta fl st sa ne so di pa tr x = MX un ta fl st sa ne so di pa tr y := by
  obtain ⟨a, b, c, d⟩ := x
  obtain ⟨a2, b2, c2, d2⟩ := y
  have h : d = d2 := h
  subst h
  rfl
theorem wSeat_g {j k : Nat} {x s : mX} : (mSeat j k (mCopy x s)).2.2.2 = s.2.2.2 := by
  unfold mSeat
  split <;> rfl
def wPs (g N j : Nat) (x y : mX) (pa : Nat) : Nat → Nat
  | 0 => pa
  | k + 1 => (mPass g 1000000 N 0 (mSeat j k (mCopy x (mSit g N j x y k).1))).1
/-- two change seats in a row -/
theorem wSeat {W : Nat → Nat} {g j k : Nat} {x y : mX} (T : wT W 1053 g y) (hq : wQ x y) (hj : j < 6) (hk : k < 6) (hs : x.1 (12 + j) < 6 ∧ x.1 (12 + k) < 6) : va_up (va_up W (1074 + j) (x.1 (12 + k))) (1074 + k) (x.1 (12 + j)) = wPut W 1053 g (mSeat j k y) := by
  obtain ⟨f, r⟩ := y
  obtain ⟨q1, q2, q3⟩ := hq
  have q1 : x.1 = f := q1
  rw [q1] at hs ⊢
  rw [wS3_se T hj]
  rw [(wS3_se (wT_put _ _ _ _) hk).trans (wPut_put _ _ _ _ _ _)]
  refine wPut_E ⟨fun i hi => ?_, ?_, ?_⟩
  · unfold mSeat
    by_cases h : j = k
    · subst h
      rw [if_pos rfl]
      show va_up (va_up f (12 + j) (f (12 + j))) (12 + j) (f (12 + j)) i = f i
      unfold va_up
      by_cases hi2 : i = 12 + j
      · rw [if_pos hi2, hi2]
      · rw [if_neg hi2, if_neg hi2]
    · rw [if_neg h]
      show va_up (va_up f (12 + j) (f (12 + k))) (12 + k) (f (12 + j)) i = mSwS f j k i
      unfold mSwS
      exact ((va_up_n (by omega)).trans (va_up_n (by omega))).symm
  · unfold mSeat; split <;> rfl
  · unfold mSeat; split <;> rfl
set_option maxHeartbeats 2000000 in
set_option maxRecDepth 20000 in
theorem l8_seat0 {Γ : q_X} {ad : Nat → Nat} {n un ta fl st sa ne so di pa0 tr g N j : Nat} {x y : mX} {rz : Int32} {hF : q_H} (hg : 0 < g ∧ g ≤ 6) (hv : mW g x) (hj : j < g) (hN : N < 1000) (hm : x.2.2.1 + N < 1000000) (C : q_C Γ ad 5 0 0 RX8 yX8_seated cX8_seated 8 (some .int)) (F : q_N Γ ad n (some (.int rz)) hF) (hz : rz = nI (mSit g N j x y g).2.1) : ∀ (m i pa be : Nat) (mo : Int) (v7 : Option Value) (W : Nat → Nat) (H : q_H), i + m = g + 1 → i ≤ g → H 87 = MX un ta fl st sa ne so di pa tr (mSit g N j x y i).1 → H 88 = WA W → wT W 0 g x → be = (mSit g N j x y i).2.1 → mo = (mSit g N j x y i).2.2 → pa = wPs g N j x y pa0 i → (0 < i → wT W 1053 g (mSit g N j x y i).1) → hF = q_up (q_up H 88 (WA (wPut W 1053 g (mSit g N j x y g).1))) 87 (MX un ta fl st sa ne so di (wPs g N j x y pa0 g) tr (mSit g N j x y g).1) → q_G Γ ad 8 37 [some (.ref 87), some (.int (nI j)), some (.int (nI N)), some (.int (nI 0)), some (.int (qI mo)), some (.int (nI be)), some (.int (nI i)), v7] [] n H 0 0 := by
  intro m
  induction m with
  | zero => intro i pa be mo v7 W H hk hi; omega
  | succ m ih =>
    intro i pa be mo v7 W H hk hi h0 hW T0 hbe hmo hpa T3 hH
    refine g_iload (pc := 37) C (hl := rfl) dX8_seated_37 ?_
    refine g_aload_n (pc := 39) C (hl := rfl) dX8_seated_39 ?_
    refine g_get (pc := 40) C fl8_7 dX8_seated_40 h0 rfl ?_
    refine g_iconst (pc := 43) C qk_iconst_0 dX8_seated_43 ?_
    refine g_ialdV (pc := 44) C dX8_seated_44 hW (by omega) (wT0_n T0) ?_
    refine g_ic_geN (pc := 45) C 161 dX8_seated_45 (by decide) (by omega) (fun c45 => ?_) (fun c45 => ?_)
    · refine g_iload_n (pc := 161) C (hl := rfl) dX8_seated_161 ?_
      refine g_if_neN (pc := 162) C 170 dX8_seated_162 (by decide) (by decide) (fun q => absurd q (by decide)) (fun _ => ?_)
      refine g_iload (pc := 165) C (hl := rfl) dX8_seated_165 ?_
      refine g_goto (pc := 167) C 172 dX8_seated_167 (by decide) ?_
      obtain rfl : i = g := by omega
      exact g_iret (pc := 172) C F dX8_seated_172 rfl rfl (by rw [hz]; rw [hbe]) (by rw [hH, ← hpa]; show H = q_up (q_up H 88 (WA (wPut W 1053 i (mSit i N j x y i).1))) 87 _; rw [wPut_self (T3 hg.1), q_upI hW, q_upI h0])
    · have hb1 := mSit_b (x := y) hv hj hm i (by omega)
      have hb2 := mEat_b (k := i) (x := (mSit g N j x y i).1) hv hj (by omega) hm
      have w1 := hv.2.2 j (by omega)
      have w2 := hv.2.2 i (by omega)
      subst hbe
      subst hmo
      refine g_aload_n (pc := 48) C (hl := rfl) dX8_seated_48 ?_
      refine g_iconst (pc := 49) C qk_iconst_0 dX8_seated_49 ?_
      refine g_sipush (pc := 50) C qk_sipush_1053 dX8_seated_50 ?_
      refine g_V2u (pc := 53) C lv8_142 dX8_seated_53 (s8_copyRow (r := 1053) h0 hW T0 (by decide) (by decide)) h0 (by decide) (Nat.le_of_ble_eq_true rfl) ?_
      refine g_aload_n (pc := 56) C (hl := rfl) dX8_seated_56 ?_
      refine g_get (pc := 57) C fl8_7 dX8_seated_57 ((q_up_n _ _ (by decide)).trans h0) rfl ?_
      refine g_sipush (pc := 60) C qk_sipush_1074 dX8_seated_60 ?_
      refine g_iload_n (pc := 63) C (hl := rfl) dX8_seated_63 ?_
      refine g_iaddN (pc := 64) C dX8_seated_64 ?_
      refine g_aload_n (pc := 65) C (hl := rfl) dX8_seated_65 ?_
      refine g_get (pc := 66) C fl8_7 dX8_seated_66 ((q_up_n _ _ (by decide)).trans h0) rfl ?_
      refine g_bipush (pc := 69) C qk_bipush_21 dX8_seated_69 ?_
      refine g_iload (pc := 71) C (hl := rfl) dX8_seated_71 ?_
      refine g_iaddN (pc := 73) C dX8_seated_73 ?_
      refine g_ialdV (pc := 74) C dX8_seated_74 (q_up_s _ _ _) (by omega) (wT0_se (wT_o (by decide) T0) (by omega)) ?_
      refine g_iastV (pc := 75) C dX8_seated_75 (q_up_s _ _ _) (by omega) rfl ?_
      refine g_aload_n (pc := 76) C (hl := rfl) dX8_seated_76 ?_
      refine g_get (pc := 77) C fl8_7 dX8_seated_77 ((q_up_n _ _ (by decide)).trans ((q_up_n _ _ (by decide)).trans h0)) rfl ?_
      refine g_sipush (pc := 80) C qk_sipush_1074 dX8_seated_80 ?_
      refine g_iload (pc := 83) C (hl := rfl) dX8_seated_83 ?_
      refine g_iaddN (pc := 85) C dX8_seated_85 ?_
      refine g_aload_n (pc := 86) C (hl := rfl) dX8_seated_86 ?_
      refine g_get (pc := 87) C fl8_7 dX8_seated_87 ((q_up_n _ _ (by decide)).trans ((q_up_n _ _ (by decide)).trans h0)) rfl ?_
      refine g_bipush (pc := 90) C qk_bipush_21 dX8_seated_90 ?_
      refine g_iload_n (pc := 92) C (hl := rfl) dX8_seated_92 ?_
      refine g_iaddN (pc := 93) C dX8_seated_93 ?_
      refine g_ialdV (pc := 94) C dX8_seated_94 (q_up_s _ _ _) (by omega) ((va_up_n (by omega)).trans (wT0_se (wT_o (by decide) T0) (by omega))) ?_
      refine g_iastV (pc := 95) C dX8_seated_95 (q_up_s _ _ _) (by omega) (wSeat (wT_Q (z := mCopy x (mSit g N j x y i).1) ⟨rfl, rfl, rfl⟩ (wT_put _ _ _ _)) ⟨rfl, rfl, rfl⟩ (by omega) (by omega) ⟨w1.2.2.2.2.1, w2.2.2.2.2.1⟩) ?_
      refine g_aload_n (pc := 96) C (hl := rfl) dX8_seated_96 ?_
      refine g_iload_n (pc := 97) C (hl := rfl) dX8_seated_97 ?_
      refine g_V1u (pc := 98) C lv8_213 dX8_seated_98 (s8_goMinutes (x := mSeat j i (mCopy x (mSit g N j x y i).1)) N ((((q_up_n _ _ (by decide)).trans ((q_up_n _ _ (by decide)).trans ((q_up_n _ _ (by decide)).trans h0)))).trans (wMX_e wSeat_g.symm)) (q_up_s _ _ _) (wT_put _ _ _ _) (mSeat_V (x := mCopy x (mSit g N j x y i).1) hv hj (by omega)) (by omega) (by rw [show (mSeat j i (mCopy x (mSit g N j x y i).1)).2.2.1 = x.2.2.1 by unfold mSeat; split <;> rfl]; omega)) ((q_up_n _ _ (by decide)).trans ((q_up_n _ _ (by decide)).trans ((q_up_n _ _ (by decide)).trans h0))) (by decide) (Nat.le_of_ble_eq_true rfl) ?_
      refine g_aload_n (pc := 101) C (hl := rfl) dX8_seated_101 ?_
      refine g_get (pc := 102) C fl8_7 dX8_seated_102 (q_up_s _ _ _) rfl ?_
      refine g_sipush (pc := 105) C qk_sipush_1068 dX8_seated_105 ?_
      refine g_iload_n (pc := 108) C (hl := rfl) dX8_seated_108 ?_
      refine g_iaddN (pc := 109) C dX8_seated_109 ?_
      refine g_ialdV (pc := 110) C dX8_seated_110 ((q_up_n _ _ (by decide)).trans (q_up_s _ _ _)) (by omega) (wT3_ea (wT_put _ _ _ _) (by omega)) ?_
      refine g_aload_n (pc := 111) C (hl := rfl) dX8_seated_111 ?_
      refine g_get (pc := 112) C fl8_7 dX8_seated_112 (q_up_s _ _ _) rfl ?_
      refine g_bipush (pc := 115) C qk_bipush_15 dX8_seated_115 ?_
      refine g_iload_n (pc := 117) C (hl := rfl) dX8_seated_117 ?_
      refine g_iaddN (pc := 118) C dX8_seated_118 ?_
      refine g_ialdV (pc := 119) C dX8_seated_119 ((q_up_n _ _ (by decide)).trans (q_up_s _ _ _)) (by omega) (wT0_ea (wT_o (by decide) (wT_o (by decide) (wT_o (by decide) T0))) (by omega)) ?_
      refine g_isubE (pc := 120) C (w := qI (mEat g N j i x (mSit g N j x y i).1)) (by rw [qI_N, qI_N, qI_sub]; rfl) dX8_seated_120 ?_
      refine g_istore (pc := 121) C rfl dX8_seated_121 ?_
      refine g_iload (pc := 123) C (hl := rfl) dX8_seated_123 ?_
      refine g_iload (pc := 125) C (hl := rfl) dX8_seated_125 ?_
      refine g_ic_le (pc := 127) C 135 dX8_seated_127 (by decide) (fun c127 => ?_) (fun c127 => ?_)
      · refine g_iload (pc := 135) C (hl := rfl) dX8_seated_135 ?_
        refine g_istore (pc := 137) C rfl dX8_seated_137 ?_
        refine g_iload (pc := 139) C (hl := rfl) dX8_seated_139 ?_
        refine g_iload (pc := 141) C (hl := rfl) dX8_seated_141 ?_
        refine g_ic_le (pc := 143) C 151 dX8_seated_143 (by decide) (fun _ => ?_) (fun q => absurd (c127) q)
        refine g_iload (pc := 151) C (hl := rfl) dX8_seated_151 ?_
        refine g_istore (pc := 153) C rfl dX8_seated_153 ?_
        have e : (mSit g N j x y (i + 1)).2 = (mSit g N j x y i).2 := if_neg (fun z => absurd ((qI_le (by omega) (by omega) (by omega) (by omega)).mp c127) (by omega))
        refine g_iincN (pc := 155) C (hl := rfl) (q_inc1 _) rfl dX8_seated_155 ?_
        refine g_goto (pc := 158) C 37 dX8_seated_158 (by decide) ?_
        refine ih (i + 1) _ _ _ _ _ _ (by omega) (by omega) (q_up_s _ _ _) ((q_up_n _ _ (by decide)).trans (q_up_s _ _ _)) (wT_o (by decide) (wT_o (by decide) (wT_o (by decide) T0))) (by rw [e]) (by rw [e]) rfl (fun _ => wT_put _ _ _ _) ?_
        rw [hH]
        first | (simp only [q_up_u, q_up_c _ (show (87 : Nat) ≠ 88 by decide), wPut_put]; done) | (simp only [q_up_u, q_up_c _ (show (87 : Nat) ≠ 88 by decide), wPut_put]; rfl)
      · refine g_iload (pc := 130) C (hl := rfl) dX8_seated_130 ?_
        refine g_goto (pc := 132) C 137 dX8_seated_132 (by decide) ?_
        refine g_istore (pc := 137) C rfl dX8_seated_137 ?_
        refine g_iload (pc := 139) C (hl := rfl) dX8_seated_139 ?_
        refine g_iload (pc := 141) C (hl := rfl) dX8_seated_141 ?_
        refine g_ic_le (pc := 143) C 151 dX8_seated_143 (by decide) (fun q => absurd q (c127)) (fun _ => ?_)
        refine g_iload (pc := 146) C (hl := rfl) dX8_seated_146 ?_
        refine g_goto (pc := 148) C 153 dX8_seated_148 (by decide) ?_
        refine g_istore (pc := 153) C rfl dX8_seated_153 ?_
        have e : (mSit g N j x y (i + 1)).2 = (i, mEat g N j i x (mSit g N j x y i).1) := if_pos (Int.not_le.mp (fun z => c127 ((qI_le (by omega) (by omega) (by omega) (by omega)).mpr z)))
        refine g_iincN (pc := 155) C (hl := rfl) (q_inc1 _) rfl dX8_seated_155 ?_
        refine g_goto (pc := 158) C 37 dX8_seated_158 (by decide) ?_
        refine ih (i + 1) _ _ _ _ _ _ (by omega) (by omega) (q_up_s _ _ _) ((q_up_n _ _ (by decide)).trans (q_up_s _ _ _)) (wT_o (by decide) (wT_o (by decide) (wT_o (by decide) T0))) (by rw [e]) (by rw [e]) rfl (fun _ => wT_put _ _ _ _) ?_
        rw [hH]
        first | (simp only [q_up_u, q_up_c _ (show (87 : Nat) ≠ 88 by decide), wPut_put]; done) | (simp only [q_up_u, q_up_c _ (show (87 : Nat) ≠ 88 by decide), wPut_put]; rfl)
set_option maxHeartbeats 2000000 in
set_option maxRecDepth 20000 in
theorem s8_seated0 {n : Nat} {h : q_H} {un ta fl st sa ne so di pu at_ er en pa tr g : Nat} {W : Nat → Nat} {x : mX} (j N : Nat) (h0 : h 87 = MO un ta fl st sa ne so di pu at_ er en pa tr) (hW : h 88 = WA W) (T : wT W 0 g x) (hv : mW g x) (hm : x.2.2.1 ≤ 999) (hg : 0 < g ∧ g ≤ 6) (hj : j < g) (hN : N ≤ 99) : SP 5 yX8_seated cX8_seated 8 (some .int) [.ref 87, .int (nI j), .int (nI N), .int (nI 0)] n h (some (.int (nI (mSit g N j x (mG x er pu en at_) g).2.1))) (q_up (q_up h 88 (WA (wPut W 1053 g (mSit g N j x (mG x er pu en at_) g).1))) 87 (MX un ta fl st sa ne so di (wPs g N j x (mG x er pu en at_) pa g) tr (mSit g N j x (mG x er pu en at_) g).1)) := by
  refine q_SPi RX8 rfl (by decide +kernel) (la := _) rfl rfl (fun Γ ad C F => ?_)
  have hg0 : W 0 = g ∧ g ≤ 6 := ⟨wT0_n T, hg.2⟩
  refine g_aload_n (pc := 0) C (hl := rfl) dX8_seated_0 ?_
  refine g_iload_n (pc := 1) C (hl := rfl) dX8_seated_1 ?_
  refine g_V1v (pc := 2) C lv8_194 dX8_seated_2 (s8_oneN j h0 hW hg0 hj) h0 (by decide) (Nat.le_of_ble_eq_true rfl) ?_
  refine g_if_eqN (pc := 5) C 25 dX8_seated_5 (by decide) (by decide) (fun q => absurd q (by decide)) (fun _ => ?_)
  refine g_iload_n (pc := 8) C (hl := rfl) dX8_seated_8 ?_
  refine g_S1v (pc := 9) C ls8_210 dX8_seated_9 (s8_laterN N hN) (by decide) (Nat.le_of_ble_eq_true rfl) ?_
  refine g_if_eqN (pc := 12) C 25 dX8_seated_12 (by decide) (by decide) (fun q => absurd q (by decide)) (fun _ => ?_)
  refine g_iload_n (pc := 15) C (hl := rfl) dX8_seated_15 ?_
  refine g_i2l (pc := 16) C rfl dX8_seated_16 ?_
  refine g_lconst (pc := 17) C (v := 0) rfl dX8_seated_17 ?_
  refine g_lconst (pc := 18) C (v := 1) rfl dX8_seated_18 ?_
  refine g_S3v (pc := 19) C ls8_37 dX8_seated_19 (s8_inN 0 0 1 (by decide) (by decide) (by omega) (by decide)) (by decide) (Nat.le_of_ble_eq_true rfl) ?_
  refine g_if_neN (pc := 22) C 28 dX8_seated_22 (by decide) (by decide) (fun _ => ?_) (fun q => absurd q (by decide))
  refine g_iconst (pc := 28) C qk_iconst_m1 dX8_seated_28 ?_
  refine g_istore (pc := 29) C rfl dX8_seated_29 ?_
  refine g_iconst (pc := 31) C qk_iconst_0 dX8_seated_31 ?_
  refine g_istore (pc := 32) C rfl dX8_seated_32 ?_
  refine g_iconst (pc := 34) C qk_iconst_0 dX8_seated_34 ?_
  refine g_istore (pc := 35) C rfl dX8_seated_35 ?_
  exact l8_seat0 (y := (mG x er pu en at_)) (pa0 := pa) hg hv hj (by omega) (by omega) C F rfl (g + 1) 0 pa 0 (-1) _ W _ (by omega) (by omega) h0 hW T rfl rfl rfl (fun q => absurd q (by decide)) rfl
set_option maxHeartbeats 2000000 in
set_option maxRecDepth 20000 in
theorem l8_seat1 {Γ : q_X} {ad : Nat → Nat} {n un ta fl st sa ne so di pa0 tr g N j : Nat} {x y : mX} {rz : Int32} {hF : q_H} (hg : 0 < g ∧ g ≤ 6) (hv : mW g x) (hj : j < g) (hN : N < 1000) (hm : x.2.2.1 + N < 1000000) (C : q_C Γ ad 5 0 0 RX8 yX8_seated cX8_seated 8 (some .int)) (F : q_N Γ ad n (some (.int rz)) hF) (hz : rz = qI (mSit g N j x y g).2.2) : ∀ (m i pa be : Nat) (mo : Int) (v7 : Option Value) (W : Nat → Nat) (H : q_H), i + m = g + 1 → i ≤ g → H 87 = MX un ta fl st sa ne so di pa tr (mSit g N j x y i).1 → H 88 = WA W → wT W 0 g x → be = (mSit g N j x y i).2.1 → mo = (mSit g N j x y i).2.2 → pa = wPs g N j x y pa0 i → (0 < i → wT W 1053 g (mSit g N j x y i).1) → hF = q_up (q_up H 88 (WA (wPut W 1053 g (mSit g N j x y g).1))) 87 (MX un ta fl st sa ne so di (wPs g N j x y pa0 g) tr (mSit g N j x y g).1) → q_G Γ ad 8 37 [some (.ref 87), some (.int (nI j)), some (.int (nI N)), some (.int (nI 1)), some (.int (qI mo)), some (.int (nI be)), some (.int (nI i)), v7] [] n H 0 0 := by
  intro m
  induction m with
  | zero => intro i pa be mo v7 W H hk hi; omega
  | succ m ih =>
    intro i pa be mo v7 W H hk hi h0 hW T0 hbe hmo hpa T3 hH
    refine g_iload (pc := 37) C (hl := rfl) dX8_seated_37 ?_
    refine g_aload_n (pc := 39) C (hl := rfl) dX8_seated_39 ?_
    refine g_get (pc := 40) C fl8_7 dX8_seated_40 h0 rfl ?_
    refine g_iconst (pc := 43) C qk_iconst_0 dX8_seated_43 ?_
    refine g_ialdV (pc := 44) C dX8_seated_44 hW (by omega) (wT0_n T0) ?_
    refine g_ic_geN (pc := 45) C 161 dX8_seated_45 (by decide) (by omega) (fun c45 => ?_) (fun c45 => ?_)
    · refine g_iload_n (pc := 161) C (hl := rfl) dX8_seated_161 ?_
      refine g_if_neN (pc := 162) C 170 dX8_seated_162 (by decide) (by decide) (fun _ => ?_) (fun q => absurd q (by decide))
      refine g_iload (pc := 170) C (hl := rfl) dX8_seated_170 ?_
      obtain rfl : i = g := by omega
      exact g_iret (pc := 172) C F dX8_seated_172 rfl rfl (by rw [hz]; rw [hmo]) (by rw [hH, ← hpa]; show H = q_up (q_up H 88 (WA (wPut W 1053 i (mSit i N j x y i).1))) 87 _; rw [wPut_self (T3 hg.1), q_upI hW, q_upI h0])
    · have hb1 := mSit_b (x := y) hv hj hm i (by omega)
      have hb2 := mEat_b (k := i) (x := (mSit g N j x y i).1) hv hj (by omega) hm
      have w1 := hv.2.2 j (by omega)
      have w2 := hv.2.2 i (by omega)
      subst hbe
      subst hmo
      refine g_aload_n (pc := 48) C (hl := rfl) dX8_seated_48 ?_
      refine g_iconst (pc := 49) C qk_iconst_0 dX8_seated_49 ?_
      refine g_sipush (pc := 50) C qk_sipush_1053 dX8_seated_50 ?_
      refine g_V2u (pc := 53) C lv8_142 dX8_seated_53 (s8_copyRow (r := 1053) h0 hW T0 (by decide) (by decide)) h0 (by decide) (Nat.le_of_ble_eq_true rfl) ?_
      refine g_aload_n (pc := 56) C (hl := rfl) dX8_seated_56 ?_
      refine g_get (pc := 57) C fl8_7 dX8_seated_57 ((q_up_n _ _ (by decide)).trans h0) rfl ?_
      refine g_sipush (pc := 60) C qk_sipush_1074 dX8_seated_60 ?_
      refine g_iload_n (pc := 63) C (hl := rfl) dX8_seated_63 ?_
      refine g_iaddN (pc := 64) C dX8_seated_64 ?_
      refine g_aload_n (pc := 65) C (hl := rfl) dX8_seated_65 ?_
      refine g_get (pc := 66) C fl8_7 dX8_seated_66 ((q_up_n _ _ (by decide)).trans h0) rfl ?_
      refine g_bipush (pc := 69) C qk_bipush_21 dX8_seated_69 ?_
      refine g_iload (pc := 71) C (hl := rfl) dX8_seated_71 ?_
      refine g_iaddN (pc := 73) C dX8_seated_73 ?_
      refine g_ialdV (pc := 74) C dX8_seated_74 (q_up_s _ _ _) (by omega) (wT0_se (wT_o (by decide) T0) (by omega)) ?_
      refine g_iastV (pc := 75) C dX8_seated_75 (q_up_s _ _ _) (by omega) rfl ?_
      refine g_aload_n (pc := 76) C (hl := rfl) dX8_seated_76 ?_
      refine g_get (pc := 77) C fl8_7 dX8_seated_77 ((q_up_n _ _ (by decide)).trans ((q_up_n _ _ (by decide)).trans h0)) rfl ?_
      refine g_sipush (pc := 80) C qk_sipush_1074 dX8_seated_80 ?_
      refine g_iload (pc := 83) C (hl := rfl) dX8_seated_83 ?_
      refine g_iaddN (pc := 85) C dX8_seated_85 ?_
      refine g_aload_n (pc := 86) C (hl := rfl) dX8_seated_86 ?_
      refine g_get (pc := 87) C fl8_7 dX8_seated_87 ((q_up_n _ _ (by decide)).trans ((q_up_n _ _ (by decide)).trans h0)) rfl ?_
      refine g_bipush (pc := 90) C qk_bipush_21 dX8_seated_90 ?_
      refine g_iload_n (pc := 92) C (hl := rfl) dX8_seated_92 ?_
      refine g_iaddN (pc := 93) C dX8_seated_93 ?_
      refine g_ialdV (pc := 94) C dX8_seated_94 (q_up_s _ _ _) (by omega) ((va_up_n (by omega)).trans (wT0_se (wT_o (by decide) T0) (by omega))) ?_
      refine g_iastV (pc := 95) C dX8_seated_95 (q_up_s _ _ _) (by omega) (wSeat (wT_Q (z := mCopy x (mSit g N j x y i).1) ⟨rfl, rfl, rfl⟩ (wT_put _ _ _ _)) ⟨rfl, rfl, rfl⟩ (by omega) (by omega) ⟨w1.2.2.2.2.1, w2.2.2.2.2.1⟩) ?_
      refine g_aload_n (pc := 96) C (hl := rfl) dX8_seated_96 ?_
      refine g_iload_n (pc := 97) C (hl := rfl) dX8_seated_97 ?_
      refine g_V1u (pc := 98) C lv8_213 dX8_seated_98 (s8_goMinutes (x := mSeat j i (mCopy x (mSit g N j x y i).1)) N ((((q_up_n _ _ (by decide)).trans ((q_up_n _ _ (by decide)).trans ((q_up_n _ _ (by decide)).trans h0)))).trans (wMX_e wSeat_g.symm)) (q_up_s _ _ _) (wT_put _ _ _ _) (mSeat_V (x := mCopy x (mSit g N j x y i).1) hv hj (by omega)) (by omega) (by rw [show (mSeat j i (mCopy x (mSit g N j x y i).1)).2.2.1 = x.2.2.1 by unfold mSeat; split <;> rfl]; omega)) ((q_up_n _ _ (by decide)).trans ((q_up_n _ _ (by decide)).trans ((q_up_n _ _ (by decide)).trans h0))) (by decide) (Nat.le_of_ble_eq_true rfl) ?_
      refine g_aload_n (pc := 101) C (hl := rfl) dX8_seated_101 ?_
      refine g_get (pc := 102) C fl8_7 dX8_seated_102 (q_up_s _ _ _) rfl ?_
      refine g_sipush (pc := 105) C qk_sipush_1068 dX8_seated_105 ?_
      refine g_iload_n (pc := 108) C (hl := rfl) dX8_seated_108 ?_
      refine g_iaddN (pc := 109) C dX8_seated_109 ?_
      refine g_ialdV (pc := 110) C dX8_seated_110 ((q_up_n _ _ (by decide)).trans (q_up_s _ _ _)) (by omega) (wT3_ea (wT_put _ _ _ _) (by omega)) ?_
      refine g_aload_n (pc := 111) C (hl := rfl) dX8_seated_111 ?_
      refine g_get (pc := 112) C fl8_7 dX8_seated_112 (q_up_s _ _ _) rfl ?_
      refine g_bipush (pc := 115) C qk_bipush_15 dX8_seated_115 ?_
      refine g_iload_n (pc := 117) C (hl := rfl) dX8_seated_117 ?_
      refine g_iaddN (pc := 118) C dX8_seated_118 ?_
      refine g_ialdV (pc := 119) C dX8_seated_119 ((q_up_n _ _ (by decide)).trans (q_up_s _ _ _)) (by omega) (wT0_ea (wT_o (by decide) (wT_o (by decide) (wT_o (by decide) T0))) (by omega)) ?_
      refine g_isubE (pc := 120) C (w := qI (mEat g N j i x (mSit g N j x y i).1)) (by rw [qI_N, qI_N, qI_sub]; rfl) dX8_seated_120 ?_
      refine g_istore (pc := 121) C rfl dX8_seated_121 ?_
      refine g_iload (pc := 123) C (hl := rfl) dX8_seated_123 ?_
      refine g_iload (pc := 125) C (hl := rfl) dX8_seated_125 ?_
      refine g_ic_le (pc := 127) C 135 dX8_seated_127 (by decide) (fun c127 => ?_) (fun c127 => ?_)
      · refine g_iload (pc := 135) C (hl := rfl) dX8_seated_135 ?_
        refine g_istore (pc := 137) C rfl dX8_seated_137 ?_
        refine g_iload (pc := 139) C (hl := rfl) dX8_seated_139 ?_
        refine g_iload (pc := 141) C (hl := rfl) dX8_seated_141 ?_
        refine g_ic_le (pc := 143) C 151 dX8_seated_143 (by decide) (fun _ => ?_) (fun q => absurd (c127) q)
        refine g_iload (pc := 151) C (hl := rfl) dX8_seated_151 ?_
        refine g_istore (pc := 153) C rfl dX8_seated_153 ?_
        have e : (mSit g N j x y (i + 1)).2 = (mSit g N j x y i).2 := if_neg (fun z => absurd ((qI_le (by omega) (by omega) (by omega) (by omega)).mp c127) (by omega))
        refine g_iincN (pc := 155) C (hl := rfl) (q_inc1 _) rfl dX8_seated_155 ?_
        refine g_goto (pc := 158) C 37 dX8_seated_158 (by decide) ?_
        refine ih (i + 1) _ _ _ _ _ _ (by omega) (by omega) (q_up_s _ _ _) ((q_up_n _ _ (by decide)).trans (q_up_s _ _ _)) (wT_o (by decide) (wT_o (by decide) (wT_o (by decide) T0))) (by rw [e]) (by rw [e]) rfl (fun _ => wT_put _ _ _ _) ?_
        rw [hH]
        first | (simp only [q_up_u, q_up_c _ (show (87 : Nat) ≠ 88 by decide), wPut_put]; done) | (simp only [q_up_u, q_up_c _ (show (87 : Nat) ≠ 88 by decide), wPut_put]; rfl)
      · refine g_iload (pc := 130) C (hl := rfl) dX8_seated_130 ?_
        refine g_goto (pc := 132) C 137 dX8_seated_132 (by decide) ?_
        refine g_istore (pc := 137) C rfl dX8_seated_137 ?_
        refine g_iload (pc := 139) C (hl := rfl) dX8_seated_139 ?_
        refine g_iload (pc := 141) C (hl := rfl) dX8_seated_141 ?_
        refine g_ic_le (pc := 143) C 151 dX8_seated_143 (by decide) (fun q => absurd q (c127)) (fun _ => ?_)
        refine g_iload (pc := 146) C (hl := rfl) dX8_seated_146 ?_
        refine g_goto (pc := 148) C 153 dX8_seated_148 (by decide) ?_
        refine g_istore (pc := 153) C rfl dX8_seated_153 ?_
        have e : (mSit g N j x y (i + 1)).2 = (i, mEat g N j i x (mSit g N j x y i).1) := if_pos (Int.not_le.mp (fun z => c127 ((qI_le (by omega) (by omega) (by omega) (by omega)).mpr z)))
        refine g_iincN (pc := 155) C (hl := rfl) (q_inc1 _) rfl dX8_seated_155 ?_
        refine g_goto (pc := 158) C 37 dX8_seated_158 (by decide) ?_
        refine ih (i + 1) _ _ _ _ _ _ (by omega) (by omega) (q_up_s _ _ _) ((q_up_n _ _ (by decide)).trans (q_up_s _ _ _)) (wT_o (by decide) (wT_o (by decide) (wT_o (by decide) T0))) (by rw [e]) (by rw [e]) rfl (fun _ => wT_put _ _ _ _) ?_
        rw [hH]
        first | (simp only [q_up_u, q_up_c _ (show (87 : Nat) ≠ 88 by decide), wPut_put]; done) | (simp only [q_up_u, q_up_c _ (show (87 : Nat) ≠ 88 by decide), wPut_put]; rfl)
set_option maxHeartbeats 2000000 in
set_option maxRecDepth 20000 in
theorem s8_seated1 {n : Nat} {h : q_H} {un ta fl st sa ne so di pu at_ er en pa tr g : Nat} {W : Nat → Nat} {x : mX} (j N : Nat) (h0 : h 87 = MO un ta fl st sa ne so di pu at_ er en pa tr) (hW : h 88 = WA W) (T : wT W 0 g x) (hv : mW g x) (hm : x.2.2.1 ≤ 999) (hg : 0 < g ∧ g ≤ 6) (hj : j < g) (hN : N ≤ 99) : SP 5 yX8_seated cX8_seated 8 (some .int) [.ref 87, .int (nI j), .int (nI N), .int (nI 1)] n h (some (.int (qI (mSit g N j x (mG x er pu en at_) g).2.2))) (q_up (q_up h 88 (WA (wPut W 1053 g (mSit g N j x (mG x er pu en at_) g).1))) 87 (MX un ta fl st sa ne so di (wPs g N j x (mG x er pu en at_) pa g) tr (mSit g N j x (mG x er pu en at_) g).1)) := by
  refine q_SPi RX8 rfl (by decide +kernel) (la := _) rfl rfl (fun Γ ad C F => ?_)
  have hg0 : W 0 = g ∧ g ≤ 6 := ⟨wT0_n T, hg.2⟩
  refine g_aload_n (pc := 0) C (hl := rfl) dX8_seated_0 ?_
  refine g_iload_n (pc := 1) C (hl := rfl) dX8_seated_1 ?_
  refine g_V1v (pc := 2) C lv8_194 dX8_seated_2 (s8_oneN j h0 hW hg0 hj) h0 (by decide) (Nat.le_of_ble_eq_true rfl) ?_
  refine g_if_eqN (pc := 5) C 25 dX8_seated_5 (by decide) (by decide) (fun q => absurd q (by decide)) (fun _ => ?_)
  refine g_iload_n (pc := 8) C (hl := rfl) dX8_seated_8 ?_
  refine g_S1v (pc := 9) C ls8_210 dX8_seated_9 (s8_laterN N hN) (by decide) (Nat.le_of_ble_eq_true rfl) ?_
  refine g_if_eqN (pc := 12) C 25 dX8_seated_12 (by decide) (by decide) (fun q => absurd q (by decide)) (fun _ => ?_)
  refine g_iload_n (pc := 15) C (hl := rfl) dX8_seated_15 ?_
  refine g_i2l (pc := 16) C rfl dX8_seated_16 ?_
  refine g_lconst (pc := 17) C (v := 0) rfl dX8_seated_17 ?_
  refine g_lconst (pc := 18) C (v := 1) rfl dX8_seated_18 ?_
  refine g_S3v (pc := 19) C ls8_37 dX8_seated_19 (s8_inN 1 0 1 (by decide) (by decide) (by omega) (by decide)) (by decide) (Nat.le_of_ble_eq_true rfl) ?_
  refine g_if_neN (pc := 22) C 28 dX8_seated_22 (by decide) (by decide) (fun _ => ?_) (fun q => absurd q (by decide))
  refine g_iconst (pc := 28) C qk_iconst_m1 dX8_seated_28 ?_
  refine g_istore (pc := 29) C rfl dX8_seated_29 ?_
  refine g_iconst (pc := 31) C qk_iconst_0 dX8_seated_31 ?_
  refine g_istore (pc := 32) C rfl dX8_seated_32 ?_
  refine g_iconst (pc := 34) C qk_iconst_0 dX8_seated_34 ?_
  refine g_istore (pc := 35) C rfl dX8_seated_35 ?_
  exact l8_seat1 (y := (mG x er pu en at_)) (pa0 := pa) hg hv hj (by omega) (by omega) C F rfl (g + 1) 0 pa 0 (-1) _ W _ (by omega) (by omega) h0 hW T rfl rfl rfl (fun q => absurd q (by decide)) rfl
