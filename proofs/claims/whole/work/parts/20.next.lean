set_option maxHeartbeats 2000000 in
set_option maxRecDepth 20000 in
theorem l2_ri {Γ : q_X} {ad : Nat → Nat} {n w t s bs g : Nat} {h : q_H} {f : Nat → Nat} (hw : h w = FO t s bs) (hs : h s = SA f) (hf : ∀ k, k < 6 → f k < 6) (C : q_C Γ ad 2 0 0 RX2 yX2_toNextOrder cX2_toNextOrder 6 (some .boolean)) {R0 : Nat} (v3 v4 v5 : Option Value) (kk : q_G Γ ad 6 39 [some (.ref w), some (.int (nI g)), some (.int (qI ((R0 : Int) - 1))), v3, v4, v5] [] n h 0 0) : ∀ R, R < 6 → mRi f R = R0 → q_G Γ ad 6 12 [some (.ref w), some (.int (nI g)), some (.int (qI ((R : Int) - 1))), v3, v4, v5] [] n h 0 0 := by
  intro R
  induction R with
  | zero =>
    intro hR hm
    rw [← hm] at kk
    have kk : q_G Γ ad 6 39 [some (.ref w), some (.int (nI g)), some (.int (qI (((0 : Nat) : Int) - 1))), v3, v4, v5] [] n h 0 0 := kk
    refine g_iload_n (pc := 12) C (hl := rfl) dX2_toNextOrder_12 ?_
    refine g_if_lt (pc := 13) C 39 dX2_toNextOrder_13 (by decide) (fun _ => ?_) (fun q => absurd (by rw [← qI_0, qI_lt (by omega) (by omega) (by omega) (by omega)]; omega) q)
    exact kk
  | succ R ih =>
    intro hR hm
    rw [show qI (((R + 1 : Nat) : Int) - 1) = nI R by rw [qI_N]; congr 1; omega]
    refine g_iload_n (pc := 12) C (hl := rfl) dX2_toNextOrder_12 ?_
    refine g_if_ltN (pc := 13) C 39 dX2_toNextOrder_13 (by decide) (by omega) ?_
    refine g_aload_n (pc := 16) C (hl := rfl) dX2_toNextOrder_16 ?_
    refine g_get (pc := 17) C fl2_18 dX2_toNextOrder_17 hw rfl ?_
    refine g_iload_n (pc := 20) C (hl := rfl) dX2_toNextOrder_20 ?_
    refine g_ialdN (pc := 21) C dX2_toNextOrder_21 hs (by omega) ?_
    refine g_aload_n (pc := 22) C (hl := rfl) dX2_toNextOrder_22 ?_
    refine g_get (pc := 23) C fl2_18 dX2_toNextOrder_23 hw rfl ?_
    refine g_iload_n (pc := 26) C (hl := rfl) dX2_toNextOrder_26 ?_
    refine g_iconst (pc := 27) C qk_iconst_1 dX2_toNextOrder_27 ?_
    refine g_iaddN (pc := 28) C dX2_toNextOrder_28 ?_
    refine g_ialdN (pc := 29) C dX2_toNextOrder_29 hs (by omega) ?_
    refine g_ic_leN (pc := 30) C 39 dX2_toNextOrder_30 (by decide) (by have a1 := hf R (by omega); have a2 := hf (R + 1) (by omega); omega) (fun c30 => ?_) (fun c30 => ?_)
    · have e : mRi f (R + 1) = R + 1 := if_neg (by omega)
      rw [e] at hm
      rw [← hm] at kk
      rw [show qI (((R + 1 : Nat) : Int) - 1) = nI R by rw [qI_N]; congr 1; omega] at kk
      exact kk
    · refine g_iinc (pc := 33) C (hl := rfl) (v := qI ((R : Int) - 1)) (by rw [qI_N]; exact qI_add _ _) rfl dX2_toNextOrder_33 ?_
      refine g_goto (pc := 36) C 12 dX2_toNextOrder_36 (by decide) ?_
      exact ih (by omega) (by rw [← hm]; exact ((if_pos (by omega)) : mRi f (R + 1) = mRi f R).symm)
set_option maxHeartbeats 2000000 in
set_option maxRecDepth 20000 in
theorem l2_gr {Γ : q_X} {ad : Nat → Nat} {n w t s bs g : Nat} {h : q_H} {f : Nat → Nat} {ri : Nat} (hw : h w = FO t s bs) (hs : h s = SA f) (hf : ∀ k, k < 6 → f k < 6) (hri : ri < 6) (C : q_C Γ ad 2 0 0 RX2 yX2_toNextOrder cX2_toNextOrder 6 (some .boolean)) {G0 : Nat} (v4 v5 : Option Value) (kk : q_G Γ ad 6 85 [some (.ref w), some (.int (nI g)), some (.int (nI ri)), some (.int (nI G0)), v4, v5] [] n h 0 0) : ∀ G, G < 6 → mGr f ri G = G0 → q_G Γ ad 6 57 [some (.ref w), some (.int (nI g)), some (.int (nI ri)), some (.int (nI G)), v4, v5] [] n h 0 0 := by
  intro G
  induction G with
  | zero =>
    intro hR hm
    refine g_iload_n (pc := 57) C (hl := rfl) dX2_toNextOrder_57 ?_
    refine g_iload_n (pc := 58) C (hl := rfl) dX2_toNextOrder_58 ?_
    refine g_iconst (pc := 59) C qk_iconst_1 dX2_toNextOrder_59 ?_
    refine g_iaddN (pc := 60) C dX2_toNextOrder_60 ?_
    refine g_ic_leN (pc := 61) C 85 dX2_toNextOrder_61 (by decide) (by omega) (fun _ => ?_) (fun q => absurd (by omega) q)
    rw [← hm] at kk
    exact kk
  | succ G ih =>
    intro hR hm
    refine g_iload_n (pc := 57) C (hl := rfl) dX2_toNextOrder_57 ?_
    refine g_iload_n (pc := 58) C (hl := rfl) dX2_toNextOrder_58 ?_
    refine g_iconst (pc := 59) C qk_iconst_1 dX2_toNextOrder_59 ?_
    refine g_iaddN (pc := 60) C dX2_toNextOrder_60 ?_
    refine g_ic_leN (pc := 61) C 85 dX2_toNextOrder_61 (by decide) (by omega) (fun c61 => ?_) (fun c61 => ?_)
    · rw [← hm] at kk
      have e : mGr f ri (G + 1) = G + 1 := if_neg (by omega)
      rw [e] at kk
      exact kk
    · refine g_aload_n (pc := 64) C (hl := rfl) dX2_toNextOrder_64 ?_
      refine g_get (pc := 65) C fl2_18 dX2_toNextOrder_65 hw rfl ?_
      refine g_iload_n (pc := 68) C (hl := rfl) dX2_toNextOrder_68 ?_
      refine g_ialdN (pc := 69) C dX2_toNextOrder_69 hs (by omega) ?_
      refine g_aload_n (pc := 70) C (hl := rfl) dX2_toNextOrder_70 ?_
      refine g_get (pc := 71) C fl2_18 dX2_toNextOrder_71 hw rfl ?_
      refine g_iload_n (pc := 74) C (hl := rfl) dX2_toNextOrder_74 ?_
      refine g_ialdN (pc := 75) C dX2_toNextOrder_75 hs (by omega) ?_
      refine g_ic_geN (pc := 76) C 85 dX2_toNextOrder_76 (by decide) (by have a1 := hf ri (by omega); have a2 := hf (G + 1) (by omega); omega) (fun c76 => ?_) (fun c76 => ?_)
      · rw [← hm] at kk
        have e : mGr f ri (G + 1) = G + 1 := if_neg (by omega)
        rw [e] at kk
        exact kk
      · refine g_iincN (pc := 79) C (hl := rfl) (q_dec1 _) rfl dX2_toNextOrder_79 ?_
        refine g_goto (pc := 82) C 57 dX2_toNextOrder_82 (by decide) ?_
        exact ih (by omega) (by rw [← hm]; exact ((if_pos (by omega)) : mGr f ri (G + 1) = mGr f ri G).symm)
set_option maxHeartbeats 2000000 in
set_option maxRecDepth 20000 in
theorem l2_rv {Γ : q_X} {ad : Nat → Nat} {n w t s bs g : Nat} {hF : q_H} {v2 v3 : Nat} (C : q_C Γ ad 2 0 0 RX2 yX2_toNextOrder cX2_toNextOrder 6 (some .boolean)) (F : q_N Γ ad n (some (.int (nI 1))) hF) : ∀ (m lo hi : Nat) (f : Nat → Nat) (H : q_H), hi < lo + m + m → lo < 7 ∧ hi < 6 → H w = FO t s bs → H s = SA f → hF = q_up H s (SA (mRv m f lo hi)) → q_G Γ ad 6 109 [some (.ref w), some (.int (nI g)), some (.int (nI v2)), some (.int (nI v3)), some (.int (nI hi)), some (.int (nI lo))] [] n H 0 0 := by
  intro m
  induction m with
  | zero =>
    intro lo hi f H hm hb hw hs hH
    refine g_iload (pc := 109) C (hl := rfl) dX2_toNextOrder_109 ?_
    refine g_iload (pc := 111) C (hl := rfl) dX2_toNextOrder_111 ?_
    refine g_ic_geN (pc := 113) C 133 dX2_toNextOrder_113 (by decide) (by omega) (fun _ => ?_) (fun q => absurd (by omega) q)
    refine g_iconst (pc := 133) C qk_iconst_1 dX2_toNextOrder_133 ?_
    exact g_iret (pc := 134) C F dX2_toNextOrder_134 rfl rfl (rfl) (by rw [hH, show mRv 0 f lo hi = f from rfl, q_upI hs])
  | succ m ih =>
    intro lo hi f H hm hb hw hs hH
    have ws : w ≠ s := fun q => by rw [q, hs] at hw; cases hw
    refine g_iload (pc := 109) C (hl := rfl) dX2_toNextOrder_109 ?_
    refine g_iload (pc := 111) C (hl := rfl) dX2_toNextOrder_111 ?_
    refine g_ic_geN (pc := 113) C 133 dX2_toNextOrder_113 (by decide) (by omega) (fun c113 => ?_) (fun c113 => ?_)
    · refine g_iconst (pc := 133) C qk_iconst_1 dX2_toNextOrder_133 ?_
      exact g_iret (pc := 134) C F dX2_toNextOrder_134 rfl rfl (rfl) (by rw [hH, show mRv (m + 1) f lo hi = f from if_neg (by omega), q_upI hs])
    · obtain ⟨hi, rfl⟩ : ∃ z, hi = z + 1 := ⟨hi - 1, by omega⟩
      refine g_aload_n (pc := 116) C (hl := rfl) dX2_toNextOrder_116 ?_
      refine g_iload (pc := 117) C (hl := rfl) dX2_toNextOrder_117 ?_
      refine g_iload (pc := 119) C (hl := rfl) dX2_toNextOrder_119 ?_
      refine g_V2u (pc := 121) C lv2_96 dX2_toNextOrder_121 (s2_sw _ _ hw hs (by omega)) hw (by decide) (Nat.le_of_ble_eq_true rfl) ?_
      refine g_iincN (pc := 124) C (hl := rfl) (q_dec1 _) rfl dX2_toNextOrder_124 ?_
      refine g_iincN (pc := 127) C (hl := rfl) (q_inc1 _) rfl dX2_toNextOrder_127 ?_
      refine g_goto (pc := 130) C 109 dX2_toNextOrder_130 (by decide) ?_
      exact ih (lo + 1) hi _ _ (by omega) (by omega) (((q_up_n _ _ ws).trans hw)) (q_up_s _ _ _) (by rw [hH, q_up_u, show mRv (m + 1) f lo (hi + 1) = mRv m (mSw f lo (hi + 1)) (lo + 1) hi from if_pos (by omega)])
set_option maxHeartbeats 2000000 in
set_option maxRecDepth 20000 in
theorem s2_nextN {n : Nat} {h : q_H} {w t s bs : Nat} {f : Nat → Nat} {g : Nat} (hw : h w = FO t s bs) (hs : h s = SA f) (hf : ∀ k, k < 6 → f k < 6) (hg : 0 < g ∧ g ≤ 6) (hq : mRi f (g - 1) = 0) : SP 2 yX2_toNextOrder cX2_toNextOrder 6 (some .boolean) [.ref w, .int (nI g)] n h (some (.int (nI 0))) h := by
  have ws : w ≠ s := fun q => by rw [q, hs] at hw; cases hw
  refine q_SPi RX2 rfl (by decide +kernel) (la := _) rfl rfl (fun Γ ad C F => ?_)
  refine g_iload_n (pc := 0) C (hl := rfl) dX2_toNextOrder_0 ?_
  refine g_aload_n (pc := 1) C (hl := rfl) dX2_toNextOrder_1 ?_
  refine g_get (pc := 2) C fl2_18 dX2_toNextOrder_2 hw rfl ?_
  refine g_alenN (pc := 5) C dX2_toNextOrder_5 hs ?_
  refine g_minN (pc := 6) C lm2_66 dX2_toNextOrder_6 (by omega) (by decide) (Nat.le_of_ble_eq_true rfl) ⟨Nat.zero_le _, Nat.zero_le _⟩ ?_
  refine g_iconst (pc := 9) C qk_iconst_2 dX2_toNextOrder_9 ?_
  refine g_isubE (pc := 10) C (w := qI (((g - 1 : Nat) : Int) - 1)) (by rw [show min g 6 = g by omega, qI_N, qI_N, qI_sub]; congr 1; omega) dX2_toNextOrder_10 ?_
  refine g_istore_n (pc := 11) C rfl dX2_toNextOrder_11 ?_
  refine l2_ri hw hs hf C (R0 := 0) _ _ _ ?_ (g - 1) (by omega) hq
  refine g_iload_n (pc := 39) C (hl := rfl) dX2_toNextOrder_39 ?_
  refine g_if_ge (pc := 40) C 45 dX2_toNextOrder_40 (by decide) (fun q => absurd q (by rw [← qI_0, qI_le (by omega) (by omega) (by omega) (by omega)]; omega)) (fun _ => ?_)
  refine g_iconst (pc := 43) C qk_iconst_0 dX2_toNextOrder_43 ?_
  exact g_iret (pc := 44) C F dX2_toNextOrder_44 rfl rfl (rfl) (rfl)
set_option maxHeartbeats 2000000 in
set_option maxRecDepth 20000 in
theorem s2_nextS {n : Nat} {h : q_H} {w t s bs : Nat} {f : Nat → Nat} {g ri : Nat} (hw : h w = FO t s bs) (hs : h s = SA f) (hf : ∀ k, k < 6 → f k < 6) (hg : 0 < g ∧ g ≤ 6) (hq : mRi f (g - 1) = ri + 1) (hri : ri + 1 < 6 ∧ mGr f ri (g - 1) < 6) : SP 2 yX2_toNextOrder cX2_toNextOrder 6 (some .boolean) [.ref w, .int (nI g)] n h (some (.int (nI 1))) (q_up h s (SA (mRv 6 (mSw f ri (mGr f ri (g - 1))) (ri + 1) (g - 1)))) := by
  have ws : w ≠ s := fun q => by rw [q, hs] at hw; cases hw
  refine q_SPi RX2 rfl (by decide +kernel) (la := _) rfl rfl (fun Γ ad C F => ?_)
  refine g_iload_n (pc := 0) C (hl := rfl) dX2_toNextOrder_0 ?_
  refine g_aload_n (pc := 1) C (hl := rfl) dX2_toNextOrder_1 ?_
  refine g_get (pc := 2) C fl2_18 dX2_toNextOrder_2 hw rfl ?_
  refine g_alenN (pc := 5) C dX2_toNextOrder_5 hs ?_
  refine g_minN (pc := 6) C lm2_66 dX2_toNextOrder_6 (by omega) (by decide) (Nat.le_of_ble_eq_true rfl) ⟨Nat.zero_le _, Nat.zero_le _⟩ ?_
  refine g_iconst (pc := 9) C qk_iconst_2 dX2_toNextOrder_9 ?_
  refine g_isubE (pc := 10) C (w := qI (((g - 1 : Nat) : Int) - 1)) (by rw [show min g 6 = g by omega, qI_N, qI_N, qI_sub]; congr 1; omega) dX2_toNextOrder_10 ?_
  refine g_istore_n (pc := 11) C rfl dX2_toNextOrder_11 ?_
  refine l2_ri hw hs hf C (R0 := ri + 1) _ _ _ ?_ (g - 1) (by omega) hq
  rw [show qI (((ri + 1 : Nat) : Int) - 1) = nI ri by rw [qI_N]; congr 1; omega]
  refine g_iload_n (pc := 39) C (hl := rfl) dX2_toNextOrder_39 ?_
  refine g_if_geN (pc := 40) C 45 dX2_toNextOrder_40 (by decide) (by omega) ?_
  refine g_iload_n (pc := 45) C (hl := rfl) dX2_toNextOrder_45 ?_
  refine g_aload_n (pc := 46) C (hl := rfl) dX2_toNextOrder_46 ?_
  refine g_get (pc := 47) C fl2_18 dX2_toNextOrder_47 hw rfl ?_
  refine g_alenN (pc := 50) C dX2_toNextOrder_50 hs ?_
  refine g_minN (pc := 51) C lm2_66 dX2_toNextOrder_51 (by omega) (by decide) (Nat.le_of_ble_eq_true rfl) ⟨Nat.zero_le _, Nat.zero_le _⟩ ?_
  refine g_iconst (pc := 54) C qk_iconst_1 dX2_toNextOrder_54 ?_
  refine g_isubN (pc := 55) C dX2_toNextOrder_55 (by omega) ?_
  refine g_istore_n (pc := 56) C rfl dX2_toNextOrder_56 ?_
  rw [show min g 6 - 1 = g - 1 by omega]
  refine l2_gr hw hs hf (by omega) C _ _ ?_ (g - 1) (by omega) rfl
  refine g_aload_n (pc := 85) C (hl := rfl) dX2_toNextOrder_85 ?_
  refine g_iload_n (pc := 86) C (hl := rfl) dX2_toNextOrder_86 ?_
  refine g_iload_n (pc := 87) C (hl := rfl) dX2_toNextOrder_87 ?_
  refine g_V2u (pc := 88) C lv2_96 dX2_toNextOrder_88 (s2_sw _ _ hw hs (by omega)) hw (by decide) (Nat.le_of_ble_eq_true rfl) ?_
  refine g_iload_n (pc := 91) C (hl := rfl) dX2_toNextOrder_91 ?_
  refine g_aload_n (pc := 92) C (hl := rfl) dX2_toNextOrder_92 ?_
  refine g_get (pc := 93) C fl2_18 dX2_toNextOrder_93 ((q_up_n _ _ ws).trans hw) rfl ?_
  refine g_alenN (pc := 96) C dX2_toNextOrder_96 (q_up_s _ _ _) ?_
  refine g_minN (pc := 97) C lm2_66 dX2_toNextOrder_97 (by omega) (by decide) (Nat.le_of_ble_eq_true rfl) ⟨Nat.zero_le _, Nat.zero_le _⟩ ?_
  refine g_iconst (pc := 100) C qk_iconst_1 dX2_toNextOrder_100 ?_
  refine g_isubN (pc := 101) C dX2_toNextOrder_101 (by omega) ?_
  refine g_istore (pc := 102) C rfl dX2_toNextOrder_102 ?_
  refine g_iload_n (pc := 104) C (hl := rfl) dX2_toNextOrder_104 ?_
  refine g_iconst (pc := 105) C qk_iconst_1 dX2_toNextOrder_105 ?_
  refine g_iaddN (pc := 106) C dX2_toNextOrder_106 ?_
  refine g_istore (pc := 107) C rfl dX2_toNextOrder_107 ?_
  rw [show min g 6 - 1 = g - 1 by omega]
  exact l2_rv C F 6 (ri + 1) (g - 1) _ _ (by omega) (by omega) (((q_up_n _ _ ws).trans hw)) (q_up_s _ _ _) (by rw [q_up_u])
