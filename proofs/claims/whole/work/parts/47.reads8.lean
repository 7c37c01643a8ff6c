set_option maxHeartbeats 2000000 in
set_option maxRecDepth 20000 in
theorem s8_wrong {n : Nat} {h : q_H} {un ta fl st sa ne so di pu at_ er en pa tr : Nat} (k : Nat) (h0 : h 87 = MO un ta fl st sa ne so di pu at_ er en pa tr) : SP 0 yX8_wrong cX8_wrong 2 (some .boolean) [.ref 87, .int (nI k)] n h (some (.int (nI 0))) (q_up h 87 (MO un ta k st sa ne so di pu at_ er en pa tr)) := by
  refine q_SPi RX8 rfl (by decide +kernel) (la := _) rfl rfl (fun Γ ad C F => ?_)
  refine g_aload_n (pc := 0) C (hl := rfl) dX8_wrong_0 ?_
  refine g_iload_n (pc := 1) C (hl := rfl) dX8_wrong_1 ?_
  refine g_put (pc := 2) C fp8_95 dX8_wrong_2 h0 (Nat.le_of_ble_eq_true rfl) ?_
  refine g_iconst (pc := 5) C qk_iconst_0 dX8_wrong_5 ?_
  exact g_iret (pc := 6) C F dX8_wrong_6 rfl rfl (rfl) (rfl)
set_option maxHeartbeats 2000000 in
set_option maxRecDepth 20000 in
theorem s8_tnF1 {n : Nat} {h : q_H} {un ta fl st sa so di pu at_ er en pa tr : Nat} {f W : Nat → Nat} {K : mK} (at0 mx : Nat) (h0 : h 87 = MO un ta fl st sa K.2.2.1 so di pu at_ er en pa tr) (hW : h 88 = WA W) (hby : h 89 = PA f) (hta : ta ≤ 300) (hf : ∀ k, k < ta → f k < 256) (hK : K.2.2.1 ≤ ta) (hq : ¬ (mNxt f ta K).1 = 1) : SP 3 yX8_takesNumber cX8_takesNumber 5 (some .boolean) [.ref 87, .int (nI at0), .int (nI mx)] n h (some (.int (nI 0))) (q_up h 87 (MO un ta 1 st (mNxt f ta K).2.1 (mNxt f ta K).2.2.1 (wSo f ta (mNxt f ta K).2.1) di pu at_ er en pa tr)) := by
  refine q_SPi RX8 rfl (by decide +kernel) (la := _) rfl rfl (fun Γ ad C F => ?_)
  have wk := wK_n (f := f) hK
  have wb := wSo_b f ta (mNxt f ta K).2.1
  have wn := wk.2.2
  refine g_aload_n (pc := 0) C (hl := rfl) dX8_takesNumber_0 ?_
  refine g_V0u (pc := 1) C lv8_105 dX8_takesNumber_1 (s8_token h0 hby hta hf hK) h0 (by decide) (Nat.le_of_ble_eq_true rfl) ?_
  refine g_aload_n (pc := 4) C (hl := rfl) dX8_takesNumber_4 ?_
  refine g_get (pc := 5) C fl8_92 dX8_takesNumber_5 (q_up_s _ _ _) rfl ?_
  refine g_iconst (pc := 8) C qk_iconst_2 dX8_takesNumber_8 ?_
  refine g_ic_neN (pc := 9) C 25 dX8_takesNumber_9 (by decide) (by omega) (fun c9 => ?_) (fun c9 => ?_)
  · refine g_aload_n (pc := 25) C (hl := rfl) dX8_takesNumber_25 ?_
    refine g_iconst (pc := 26) C qk_iconst_1 dX8_takesNumber_26 ?_
    refine g_V1v (pc := 27) C lv8_108 dX8_takesNumber_27 (s8_wrong 1 (q_up_s _ _ _)) (q_up_s _ _ _) (by decide) (Nat.le_of_ble_eq_true rfl) ?_
    exact g_iret (pc := 30) C F dX8_takesNumber_30 rfl rfl (rfl) (by simp only [q_up_u])
  · refine g_aload_n (pc := 12) C (hl := rfl) dX8_takesNumber_12 ?_
    refine g_get (pc := 13) C fl8_80 dX8_takesNumber_13 (q_up_s _ _ _) rfl ?_
    refine g_aload_n (pc := 16) C (hl := rfl) dX8_takesNumber_16 ?_
    refine g_get (pc := 17) C fl8_83 dX8_takesNumber_17 (q_up_s _ _ _) rfl ?_
    refine g_isubN (pc := 20) C dX8_takesNumber_20 (by omega) ?_
    refine g_iconst (pc := 21) C qk_iconst_3 dX8_takesNumber_21 ?_
    refine g_ic_leN (pc := 22) C 31 dX8_takesNumber_22 (by decide) (by omega) (fun c22 => ?_) (fun c22 => ?_)
    · exact absurd (wk.1.2.1.mpr ⟨c9, c22⟩) hq
    · refine g_aload_n (pc := 25) C (hl := rfl) dX8_takesNumber_25 ?_
      refine g_iconst (pc := 26) C qk_iconst_1 dX8_takesNumber_26 ?_
      refine g_V1v (pc := 27) C lv8_108 dX8_takesNumber_27 (s8_wrong 1 (q_up_s _ _ _)) (q_up_s _ _ _) (by decide) (Nat.le_of_ble_eq_true rfl) ?_
      exact g_iret (pc := 30) C F dX8_takesNumber_30 rfl rfl (rfl) (by simp only [q_up_u])
set_option maxHeartbeats 2000000 in
set_option maxRecDepth 20000 in
theorem l8_tn {Γ : q_X} {ad : Nat → Nat} {n : Nat} {h : q_H} {un ta fl st di pu at_ er en pa tr : Nat} {f : Nat → Nat} {K : mK} {at0 mx : Nat} (h0 : h 87 = (MO un ta fl st K.2.1 K.2.2.1 (wSo f ta K.2.1) di pu at_ er en pa tr)) (hby : h 89 = PA f) (hta : ta ≤ 300) (hf : ∀ k, k < ta → f k < 256) (hK : wK f ta K) (hd : ∀ j, j < K.2.2.1 - K.2.1 → 48 ≤ f (K.2.1 + j) ∧ f (K.2.1 + j) ≤ 57) (C : q_C Γ ad 3 0 0 RX8 yX8_takesNumber cX8_takesNumber 5 (some .boolean)) (kk : q_G Γ ad 5 69 [some (.ref 87), some (.int (nI at0)), some (.int (nI mx)), some (.int (nI (mVal f K.2.1 (K.2.2.1 - K.2.1)))), some (.int (nI K.2.2.1))] [] n h 0 0) : ∀ (m i : Nat), i + m = K.2.2.1 - K.2.1 + 1 → i ≤ K.2.2.1 - K.2.1 → q_G Γ ad 5 39 [some (.ref 87), some (.int (nI at0)), some (.int (nI mx)), some (.int (nI (mVal f K.2.1 i))), some (.int (nI (K.2.1 + i)))] [] n h 0 0 := by
  intro m
  induction m with
  | zero => intro i hm hi; omega
  | succ m ih =>
    intro i hm hi
    refine g_iload (pc := 39) C (hl := rfl) dX8_takesNumber_39 ?_
    refine g_aload_n (pc := 41) C (hl := rfl) dX8_takesNumber_41 ?_
    refine g_get (pc := 42) C fl8_80 dX8_takesNumber_42 h0 rfl ?_
    refine g_ic_geN (pc := 45) C 69 dX8_takesNumber_45 (by decide) (by have := hK.2.2; omega) (fun c45 => ?_) (fun c45 => ?_)
    · have e : i = K.2.2.1 - K.2.1 := by have := hK.2.2; omega
      subst e
      rw [show K.2.1 + (K.2.2.1 - K.2.1) = K.2.2.1 by have := hK.2.2; omega]
      exact kk
    · refine g_bipush (pc := 48) C qk_bipush_10 dX8_takesNumber_48 ?_
      refine g_iload_n (pc := 50) C (hl := rfl) dX8_takesNumber_50 ?_
      refine g_imulN (pc := 51) C dX8_takesNumber_51 ?_
      refine g_aload_n (pc := 52) C (hl := rfl) dX8_takesNumber_52 ?_
      refine g_iload (pc := 53) C (hl := rfl) dX8_takesNumber_53 ?_
      refine g_V1v (pc := 55) C lv8_86 dX8_takesNumber_55 (s8_byteAtN (K.2.1 + i) h0 hby hta (by have := hK.2.2; omega)) h0 (by decide) (Nat.le_of_ble_eq_true rfl) ?_
      refine g_iaddN (pc := 58) C dX8_takesNumber_58 ?_
      refine g_bipush (pc := 59) C qk_bipush_48 dX8_takesNumber_59 ?_
      refine g_isubN (pc := 61) C dX8_takesNumber_61 (by have := (hd i (by omega)).1; omega) ?_
      refine g_istore_n (pc := 62) C rfl dX8_takesNumber_62 ?_
      refine g_iincN (pc := 63) C (hl := rfl) (q_inc1 _) rfl dX8_takesNumber_63 ?_
      refine g_goto (pc := 66) C 39 dX8_takesNumber_66 (by decide) ?_
      exact ih (i + 1) (by omega) (by omega)
set_option maxHeartbeats 2000000 in
set_option maxRecDepth 20000 in
theorem s8_tnF2 {n : Nat} {h : q_H} {un ta fl st sa so di pu at_ er en pa tr : Nat} {f W : Nat → Nat} {K : mK} (at0 mx : Nat) (h0 : h 87 = MO un ta fl st sa K.2.2.1 so di pu at_ er en pa tr) (hW : h 88 = WA W) (hby : h 89 = PA f) (hta : ta ≤ 300) (hf : ∀ k, k < ta → f k < 256) (hK : K.2.2.1 ≤ ta) (hat : at0 < 1131) (hmx : mx < 1000) (hq : (mNxt f ta K).1 = 1) (hv : mx < (mNxt f ta K).2.2.2) : SP 3 yX8_takesNumber cX8_takesNumber 5 (some .boolean) [.ref 87, .int (nI at0), .int (nI mx)] n h (some (.int (nI 0))) (q_up (q_up h 88 (WA (va_up W at0 (mNxt f ta K).2.2.2))) 87 (MO un ta 2 st (mNxt f ta K).2.1 (mNxt f ta K).2.2.1 (wSo f ta (mNxt f ta K).2.1) di pu at_ er en pa tr)) := by
  refine q_SPi RX8 rfl (by decide +kernel) (la := _) rfl rfl (fun Γ ad C F => ?_)
  have wk := wK_n (f := f) hK
  have wb := wSo_b f ta (mNxt f ta K).2.1
  have wn := wk.2.2
  have w1 := wk.1.2.1.mp hq
  have w2 := wk.2.1 hq
  have w3 : (mNxt f ta K).2.2.2 < 1000 := by
    rw [w2.1]
    refine Nat.lt_of_lt_of_le (mVal_lt _ w1.2 (fun j hj => (w2.2 j hj).2)) ?_
    exact Nat.pow_le_pow_right (n := 10) (by decide) w1.2
  refine g_aload_n (pc := 0) C (hl := rfl) dX8_takesNumber_0 ?_
  refine g_V0u (pc := 1) C lv8_105 dX8_takesNumber_1 (s8_token h0 hby hta hf hK) h0 (by decide) (Nat.le_of_ble_eq_true rfl) ?_
  refine g_aload_n (pc := 4) C (hl := rfl) dX8_takesNumber_4 ?_
  refine g_get (pc := 5) C fl8_92 dX8_takesNumber_5 (q_up_s _ _ _) rfl ?_
  refine g_iconst (pc := 8) C qk_iconst_2 dX8_takesNumber_8 ?_
  refine g_ic_neN (pc := 9) C 25 dX8_takesNumber_9 (by decide) (by omega) (fun q => absurd q (fun z => z w1.1)) (fun _ => ?_)
  refine g_aload_n (pc := 12) C (hl := rfl) dX8_takesNumber_12 ?_
  refine g_get (pc := 13) C fl8_80 dX8_takesNumber_13 (q_up_s _ _ _) rfl ?_
  refine g_aload_n (pc := 16) C (hl := rfl) dX8_takesNumber_16 ?_
  refine g_get (pc := 17) C fl8_83 dX8_takesNumber_17 (q_up_s _ _ _) rfl ?_
  refine g_isubN (pc := 20) C dX8_takesNumber_20 (by omega) ?_
  refine g_iconst (pc := 21) C qk_iconst_3 dX8_takesNumber_21 ?_
  refine g_ic_leN (pc := 22) C 31 dX8_takesNumber_22 (by decide) (by omega) (fun _ => ?_) (fun q => absurd (w1.2) q)
  refine g_iconst (pc := 31) C qk_iconst_0 dX8_takesNumber_31 ?_
  refine g_istore_n (pc := 32) C rfl dX8_takesNumber_32 ?_
  refine g_aload_n (pc := 33) C (hl := rfl) dX8_takesNumber_33 ?_
  refine g_get (pc := 34) C fl8_83 dX8_takesNumber_34 (q_up_s _ _ _) rfl ?_
  refine g_istore (pc := 37) C rfl dX8_takesNumber_37 ?_
  refine l8_tn (K := (mNxt f ta K)) (q_up_s _ _ _) ((q_up_n _ _ (by decide)).trans hby) hta hf wk w2.2 C ?_ ((mNxt f ta K).2.2.1 - (mNxt f ta K).2.1 + 1) 0 (by omega) (by omega)
  rw [← w2.1]
  refine g_aload_n (pc := 69) C (hl := rfl) dX8_takesNumber_69 ?_
  refine g_get (pc := 70) C fl8_7 dX8_takesNumber_70 (q_up_s _ _ _) rfl ?_
  refine g_iload_n (pc := 73) C (hl := rfl) dX8_takesNumber_73 ?_
  refine g_iload_n (pc := 74) C (hl := rfl) dX8_takesNumber_74 ?_
  refine g_iastN (pc := 75) C dX8_takesNumber_75 ((q_up_n _ _ (by decide)).trans hW) (by omega) ?_
  refine g_iload_n (pc := 76) C (hl := rfl) dX8_takesNumber_76 ?_
  refine g_iload_n (pc := 77) C (hl := rfl) dX8_takesNumber_77 ?_
  refine g_ic_leN (pc := 78) C 89 dX8_takesNumber_78 (by decide) (by omega) (fun q => absurd q (by omega)) (fun _ => ?_)
  refine g_aload_n (pc := 81) C (hl := rfl) dX8_takesNumber_81 ?_
  refine g_iconst (pc := 82) C qk_iconst_2 dX8_takesNumber_82 ?_
  refine g_V1v (pc := 83) C lv8_108 dX8_takesNumber_83 (s8_wrong 2 ((q_up_n _ _ (by decide)).trans (q_up_s _ _ _))) ((q_up_n _ _ (by decide)).trans (q_up_s _ _ _)) (by decide) (Nat.le_of_ble_eq_true rfl) ?_
  refine g_if_eqN (pc := 86) C 93 dX8_takesNumber_86 (by decide) (by decide) (fun _ => ?_) (fun q => absurd q (by decide))
  refine g_iconst (pc := 93) C qk_iconst_0 dX8_takesNumber_93 ?_
  exact g_iret (pc := 94) C F dX8_takesNumber_94 rfl rfl (rfl) (by first | (simp only [q_up_u, q_up_c _ (show (87 : Nat) ≠ 88 by decide)]; done) | (simp only [q_up_u, q_up_c _ (show (87 : Nat) ≠ 88 by decide)]; rfl))
set_option maxHeartbeats 2000000 in
set_option maxRecDepth 20000 in
theorem s8_tnT {n : Nat} {h : q_H} {un ta fl st sa so di pu at_ er en pa tr : Nat} {f W : Nat → Nat} {K : mK} (at0 mx : Nat) (h0 : h 87 = MO un ta fl st sa K.2.2.1 so di pu at_ er en pa tr) (hW : h 88 = WA W) (hby : h 89 = PA f) (hta : ta ≤ 300) (hf : ∀ k, k < ta → f k < 256) (hK : K.2.2.1 ≤ ta) (hat : at0 < 1131) (hmx : mx < 1000) (hq : (mNxt f ta K).1 = 1) (hv : (mNxt f ta K).2.2.2 ≤ mx) : SP 3 yX8_takesNumber cX8_takesNumber 5 (some .boolean) [.ref 87, .int (nI at0), .int (nI mx)] n h (some (.int (nI 1))) (q_up (q_up h 88 (WA (va_up W at0 (mNxt f ta K).2.2.2))) 87 (MO un ta fl st (mNxt f ta K).2.1 (mNxt f ta K).2.2.1 (wSo f ta (mNxt f ta K).2.1) di pu at_ er en pa tr)) := by
  refine q_SPi RX8 rfl (by decide +kernel) (la := _) rfl rfl (fun Γ ad C F => ?_)
  have wk := wK_n (f := f) hK
  have wb := wSo_b f ta (mNxt f ta K).2.1
  have wn := wk.2.2
  have w1 := wk.1.2.1.mp hq
  have w2 := wk.2.1 hq
  have w3 : (mNxt f ta K).2.2.2 < 1000 := by
    rw [w2.1]
    refine Nat.lt_of_lt_of_le (mVal_lt _ w1.2 (fun j hj => (w2.2 j hj).2)) ?_
    exact Nat.pow_le_pow_right (n := 10) (by decide) w1.2
  refine g_aload_n (pc := 0) C (hl := rfl) dX8_takesNumber_0 ?_
  refine g_V0u (pc := 1) C lv8_105 dX8_takesNumber_1 (s8_token h0 hby hta hf hK) h0 (by decide) (Nat.le_of_ble_eq_true rfl) ?_
  refine g_aload_n (pc := 4) C (hl := rfl) dX8_takesNumber_4 ?_
  refine g_get (pc := 5) C fl8_92 dX8_takesNumber_5 (q_up_s _ _ _) rfl ?_
  refine g_iconst (pc := 8) C qk_iconst_2 dX8_takesNumber_8 ?_
  refine g_ic_neN (pc := 9) C 25 dX8_takesNumber_9 (by decide) (by omega) (fun q => absurd q (fun z => z w1.1)) (fun _ => ?_)
  refine g_aload_n (pc := 12) C (hl := rfl) dX8_takesNumber_12 ?_
  refine g_get (pc := 13) C fl8_80 dX8_takesNumber_13 (q_up_s _ _ _) rfl ?_
  refine g_aload_n (pc := 16) C (hl := rfl) dX8_takesNumber_16 ?_
  refine g_get (pc := 17) C fl8_83 dX8_takesNumber_17 (q_up_s _ _ _) rfl ?_
  refine g_isubN (pc := 20) C dX8_takesNumber_20 (by omega) ?_
  refine g_iconst (pc := 21) C qk_iconst_3 dX8_takesNumber_21 ?_
  refine g_ic_leN (pc := 22) C 31 dX8_takesNumber_22 (by decide) (by omega) (fun _ => ?_) (fun q => absurd (w1.2) q)
  refine g_iconst (pc := 31) C qk_iconst_0 dX8_takesNumber_31 ?_
  refine g_istore_n (pc := 32) C rfl dX8_takesNumber_32 ?_
  refine g_aload_n (pc := 33) C (hl := rfl) dX8_takesNumber_33 ?_
  refine g_get (pc := 34) C fl8_83 dX8_takesNumber_34 (q_up_s _ _ _) rfl ?_
  refine g_istore (pc := 37) C rfl dX8_takesNumber_37 ?_
  refine l8_tn (K := (mNxt f ta K)) (q_up_s _ _ _) ((q_up_n _ _ (by decide)).trans hby) hta hf wk w2.2 C ?_ ((mNxt f ta K).2.2.1 - (mNxt f ta K).2.1 + 1) 0 (by omega) (by omega)
  rw [← w2.1]
  refine g_aload_n (pc := 69) C (hl := rfl) dX8_takesNumber_69 ?_
  refine g_get (pc := 70) C fl8_7 dX8_takesNumber_70 (q_up_s _ _ _) rfl ?_
  refine g_iload_n (pc := 73) C (hl := rfl) dX8_takesNumber_73 ?_
  refine g_iload_n (pc := 74) C (hl := rfl) dX8_takesNumber_74 ?_
  refine g_iastN (pc := 75) C dX8_takesNumber_75 ((q_up_n _ _ (by decide)).trans hW) (by omega) ?_
  refine g_iload_n (pc := 76) C (hl := rfl) dX8_takesNumber_76 ?_
  refine g_iload_n (pc := 77) C (hl := rfl) dX8_takesNumber_77 ?_
  refine g_ic_leN (pc := 78) C 89 dX8_takesNumber_78 (by decide) (by omega) (fun _ => ?_) (fun q => absurd (by omega) q)
  refine g_iconst (pc := 89) C qk_iconst_1 dX8_takesNumber_89 ?_
  refine g_goto (pc := 90) C 94 dX8_takesNumber_90 (by decide) ?_
  exact g_iret (pc := 94) C F dX8_takesNumber_94 rfl rfl (rfl) (by first | (simp only [q_up_u, q_up_c _ (show (87 : Nat) ≠ 88 by decide)]; done) | (simp only [q_up_u, q_up_c _ (show (87 : Nat) ≠ 88 by decide)]; rfl))
set_option maxHeartbeats 2000000 in
set_option maxRecDepth 20000 in
theorem s8_stopsT {n : Nat} {h : q_H} {un ta fl st sa so di pu at_ er en pa tr : Nat} {f : Nat → Nat} {K : mK} (h0 : h 87 = MO un ta fl st sa K.2.2.1 so di pu at_ er en pa tr) (hby : h 89 = PA f) (hta : ta ≤ 300) (hf : ∀ k, k < ta → f k < 256) (hK : K.2.2.1 ≤ ta) (hq : (mNxt f ta K).1 = 2) : SP 3 yX8_stops cX8_stops 1 (some .boolean) [.ref 87] n h (some (.int (nI 1))) (q_up h 87 (MO un ta fl st (mNxt f ta K).2.1 (mNxt f ta K).2.2.1 (wSo f ta (mNxt f ta K).2.1) di pu at_ er en pa tr)) := by
  refine q_SPi RX8 rfl (by decide +kernel) (la := _) rfl rfl (fun Γ ad C F => ?_)
  have wk := wK_n (f := f) hK
  have wb := wSo_b f ta (mNxt f ta K).2.1
  have wn := wk.2.2
  refine g_aload_n (pc := 0) C (hl := rfl) dX8_stops_0 ?_
  refine g_V0u (pc := 1) C lv8_105 dX8_stops_1 (s8_token h0 hby hta hf hK) h0 (by decide) (Nat.le_of_ble_eq_true rfl) ?_
  refine g_aload_n (pc := 4) C (hl := rfl) dX8_stops_4 ?_
  refine g_get (pc := 5) C fl8_92 dX8_stops_5 (q_up_s _ _ _) rfl ?_
  refine g_iconst (pc := 8) C qk_iconst_3 dX8_stops_8 ?_
  refine g_ic_eqN (pc := 9) C 20 dX8_stops_9 (by decide) (by omega) (fun _ => ?_) (fun q => absurd (wk.1.2.2.1.mp hq) q)
  refine g_iconst (pc := 20) C qk_iconst_1 dX8_stops_20 ?_
  refine g_goto (pc := 21) C 25 dX8_stops_21 (by decide) ?_
  exact g_iret (pc := 25) C F dX8_stops_25 rfl rfl (rfl) (by first | rfl | simp only [q_up_u])
set_option maxHeartbeats 2000000 in
set_option maxRecDepth 20000 in
theorem s8_stopsF {n : Nat} {h : q_H} {un ta fl st sa so di pu at_ er en pa tr : Nat} {f : Nat → Nat} {K : mK} (h0 : h 87 = MO un ta fl st sa K.2.2.1 so di pu at_ er en pa tr) (hby : h 89 = PA f) (hta : ta ≤ 300) (hf : ∀ k, k < ta → f k < 256) (hK : K.2.2.1 ≤ ta) (hq : ¬ (mNxt f ta K).1 = 2) : SP 3 yX8_stops cX8_stops 1 (some .boolean) [.ref 87] n h (some (.int (nI 0))) (q_up h 87 (MO un ta 1 st (mNxt f ta K).2.1 (mNxt f ta K).2.2.1 (wSo f ta (mNxt f ta K).2.1) di pu at_ er en pa tr)) := by
  refine q_SPi RX8 rfl (by decide +kernel) (la := _) rfl rfl (fun Γ ad C F => ?_)
  have wk := wK_n (f := f) hK
  have wb := wSo_b f ta (mNxt f ta K).2.1
  have wn := wk.2.2
  refine g_aload_n (pc := 0) C (hl := rfl) dX8_stops_0 ?_
  refine g_V0u (pc := 1) C lv8_105 dX8_stops_1 (s8_token h0 hby hta hf hK) h0 (by decide) (Nat.le_of_ble_eq_true rfl) ?_
  refine g_aload_n (pc := 4) C (hl := rfl) dX8_stops_4 ?_
  refine g_get (pc := 5) C fl8_92 dX8_stops_5 (q_up_s _ _ _) rfl ?_
  refine g_iconst (pc := 8) C qk_iconst_3 dX8_stops_8 ?_
  refine g_ic_eqN (pc := 9) C 20 dX8_stops_9 (by decide) (by omega) (fun q => absurd q (fun z => hq (wk.1.2.2.1.mpr z))) (fun _ => ?_)
  refine g_aload_n (pc := 12) C (hl := rfl) dX8_stops_12 ?_
  refine g_iconst (pc := 13) C qk_iconst_1 dX8_stops_13 ?_
  refine g_V1v (pc := 14) C lv8_108 dX8_stops_14 (s8_wrong 1 (q_up_s _ _ _)) (q_up_s _ _ _) (by decide) (Nat.le_of_ble_eq_true rfl) ?_
  refine g_if_eqN (pc := 17) C 24 dX8_stops_17 (by decide) (by decide) (fun _ => ?_) (fun q => absurd q (by decide))
  refine g_iconst (pc := 24) C qk_iconst_0 dX8_stops_24 ?_
  exact g_iret (pc := 25) C F dX8_stops_25 rfl rfl (rfl) (by first | rfl | simp only [q_up_u])
def wX (T : Nat → Nat) : mX := (T, 0, 0, 0, 0, 0, 0)
theorem wS2_n {W : Nat → Nat} {g v : Nat} {x : mX} (T : wT W 1092 g x) : va_up W 1092 v = wPut W 1092 v x := by
  funext q
  unfold va_up wPut
  by_cases hq : 1092 ≤ q ∧ q < 1092 + 39
  · rw [if_pos hq]
    by_cases he : q = 1092
    · rw [if_pos he, he]; rfl
    · rw [if_neg he]
      have := T (q - 1092) (by omega)
      rw [show 1092 + (q - 1092) = q by omega] at this
      rw [this]
      unfold wRo
      rw [if_neg (show ¬ q - 1092 = 0 by omega), if_neg (show ¬ q - 1092 = 0 by omega)]
  · rw [if_neg hq, if_neg (by omega)]
theorem wS2_so0 {W : Nat → Nat} {g v i : Nat} {x : mX} (T : wT W 1092 g x) (hi : i < 6) : wT (va_up W (1095 + i) v) 1092 g (va_up x.1 (0 + i) v, x.2) := by
  rw [wS2_so T hi]
  exact wT_put _ _ _ _
/-- outside the row that is read nothing is another -/
def wOut (W W' : Nat → Nat) : Prop := ∀ k, k < 1092 ∨ 1131 ≤ k → W' k = W k
theorem wOut_r (W : Nat → Nat) : wOut W W := fun _ _ => rfl
theorem wOut_up {W W' : Nat → Nat} {a v : Nat} (ha : 1092 ≤ a ∧ a < 1131) (h : wOut W W') : wOut W (va_up W' a v) := fun k hk => by
  rw [va_up_n (by omega)]; exact h k hk
theorem wOut_put {W W' : Nat → Nat} {g : Nat} {x : mX} (h : wOut W W') : wOut W (wPut W' 1092 g x) := fun k hk => by
  rw [wPut_o (by omega)]; exact h k hk
theorem wOut_t {W W' W2 : Nat → Nat} (h : wOut W W') (h2 : wOut W' W2) : wOut W W2 := fun k hk => (h2 k hk).trans (h k hk)
theorem wOut_T {W W' : Nat → Nat} {r g : Nat} {x : mX} (h : wOut W W') (hr : r + 39 ≤ 1092) (T : wT W r g x) : wT W' r g x := fun j hj => (h _ (Or.inl (by omega))).trans (T j hj)
set_option maxHeartbeats 2000000 in
set_option maxRecDepth 20000 in
theorem s8_rg6 {n : Nat} {h : q_H} {un ta fl st di pu at_ er en pa tr g : Nat} {f W T : Nat → Nat} {K : mK} (h0 : h 87 = (MO un ta fl st K.2.1 K.2.2.1 (wSo f ta K.2.1) di pu at_ er en pa tr)) (hW : h 88 = WA W) (hby : h 89 = PA f) (hta : ta ≤ 300) (hf : ∀ k, k < ta → f k < 256) (hK : wK f ta K) (TT : wT W 1092 g (wX T)) (hg : g = 6) : SP 4 yX8_readsGuest cX8_readsGuest 2 (some .boolean) [.ref 87] n h (some (.int (nI 0))) (q_up h 87 (MO un ta 3 st K.2.1 K.2.2.1 (wSo f ta K.2.1) di pu at_ er en pa tr)) := by
  refine q_SPi RX8 rfl (by decide +kernel) (la := _) rfl rfl (fun Γ ad C F => ?_)
  refine g_aload_n (pc := 0) C (hl := rfl) dX8_readsGuest_0 ?_
  refine g_get (pc := 1) C fl8_7 dX8_readsGuest_1 h0 rfl ?_
  refine g_sipush (pc := 4) C qk_sipush_1092 dX8_readsGuest_4 ?_
  refine g_ialdV (pc := 7) C dX8_readsGuest_7 hW (by decide) (wT2_n TT) ?_
  refine g_istore_n (pc := 8) C rfl dX8_readsGuest_8 ?_
  refine g_iload_n (pc := 9) C (hl := rfl) dX8_readsGuest_9 ?_
  refine g_bipush (pc := 10) C qk_bipush_6 dX8_readsGuest_10 ?_
  refine g_ic_neN (pc := 12) C 21 dX8_readsGuest_12 (by decide) (by omega) (fun q => absurd q (fun z => z hg)) (fun _ => ?_)
  refine g_aload_n (pc := 15) C (hl := rfl) dX8_readsGuest_15 ?_
  refine g_iconst (pc := 16) C qk_iconst_3 dX8_readsGuest_16 ?_
  refine g_V1v (pc := 17) C lv8_108 dX8_readsGuest_17 (s8_wrong 3 h0) h0 (by decide) (Nat.le_of_ble_eq_true rfl) ?_
  exact g_iret (pc := 20) C F dX8_readsGuest_20 rfl rfl (rfl) (rfl)
set_option maxHeartbeats 2000000 in
set_option maxRecDepth 20000 in
theorem s8_rg1 {n : Nat} {h : q_H} {un ta fl st di pu at_ er en pa tr g : Nat} {f W T : Nat → Nat} {K : mK} (h0 : h 87 = (MO un ta fl st K.2.1 K.2.2.1 (wSo f ta K.2.1) di pu at_ er en pa tr)) (hW : h 88 = WA W) (hby : h 89 = PA f) (hta : ta ≤ 300) (hf : ∀ k, k < ta → f k < 256) (hK : wK f ta K) (TT : wT W 1092 g (wX T)) (hg : g < 6) (hs : (mSn f (mNxt f ta K)) = 0) : SP 4 yX8_readsGuest cX8_readsGuest 2 (some .boolean) [.ref 87] n h (some (.int (nI 0))) (q_up (q_up h 88 (WA (va_up (va_up W 1092 (g + 1)) (1095 + g) (mSn f (mNxt f ta K))))) 87 (MO un ta 1 st (mNxt f ta K).2.1 (mNxt f ta K).2.2.1 (wSo f ta (mNxt f ta K).2.1) di pu at_ er en pa tr)) := by
  refine q_SPi RX8 rfl (by decide +kernel) (la := _) rfl rfl (fun Γ ad C F => ?_)
  have wk := wK_n (f := f) hK.2.2.2
  have wk2 := wK_n (f := f) wk.2.2.2
  have sb := mSn_b f (mNxt f ta K)
  refine g_aload_n (pc := 0) C (hl := rfl) dX8_readsGuest_0 ?_
  refine g_get (pc := 1) C fl8_7 dX8_readsGuest_1 h0 rfl ?_
  refine g_sipush (pc := 4) C qk_sipush_1092 dX8_readsGuest_4 ?_
  refine g_ialdV (pc := 7) C dX8_readsGuest_7 hW (by decide) (wT2_n TT) ?_
  refine g_istore_n (pc := 8) C rfl dX8_readsGuest_8 ?_
  refine g_iload_n (pc := 9) C (hl := rfl) dX8_readsGuest_9 ?_
  refine g_bipush (pc := 10) C qk_bipush_6 dX8_readsGuest_10 ?_
  refine g_ic_neN (pc := 12) C 21 dX8_readsGuest_12 (by decide) (by omega) (fun _ => ?_) (fun q => absurd q (by omega))
  refine g_aload_n (pc := 21) C (hl := rfl) dX8_readsGuest_21 ?_
  refine g_get (pc := 22) C fl8_7 dX8_readsGuest_22 h0 rfl ?_
  refine g_sipush (pc := 25) C qk_sipush_1092 dX8_readsGuest_25 ?_
  refine g_dup2 (pc := 28) C rfl rfl dX8_readsGuest_28 ?_
  refine g_ialdV (pc := 29) C dX8_readsGuest_29 hW (by decide) (wT2_n TT) ?_
  refine g_iconst (pc := 30) C qk_iconst_1 dX8_readsGuest_30 ?_
  refine g_iaddN (pc := 31) C dX8_readsGuest_31 ?_
  refine g_iastN (pc := 32) C dX8_readsGuest_32 hW (by decide) ?_
  refine g_aload_n (pc := 33) C (hl := rfl) dX8_readsGuest_33 ?_
  refine g_V0u (pc := 34) C lv8_105 dX8_readsGuest_34 (s8_token ((q_up_n _ _ (by decide)).trans h0) ((q_up_n _ _ (by decide)).trans hby) hta hf hK.2.2.2) ((q_up_n _ _ (by decide)).trans h0) (by decide) (Nat.le_of_ble_eq_true rfl) ?_
  refine g_aload_n (pc := 37) C (hl := rfl) dX8_readsGuest_37 ?_
  refine g_get (pc := 38) C fl8_7 dX8_readsGuest_38 (q_up_s _ _ _) rfl ?_
  refine g_sipush (pc := 41) C qk_sipush_1095 dX8_readsGuest_41 ?_
  refine g_iload_n (pc := 44) C (hl := rfl) dX8_readsGuest_44 ?_
  refine g_iaddN (pc := 45) C dX8_readsGuest_45 ?_
  refine g_aload_n (pc := 46) C (hl := rfl) dX8_readsGuest_46 ?_
  refine g_V0v (pc := 47) C lv8_111 dX8_readsGuest_47 (s8_sortNow (q_up_s _ _ _) ((q_up_n _ _ (by decide)).trans ((q_up_n _ _ (by decide)).trans hby)) hta hf wk) (q_up_s _ _ _) (by decide) (Nat.le_of_ble_eq_true rfl) ?_
  refine g_iastN (pc := 50) C dX8_readsGuest_50 ((q_up_n _ _ (by decide)).trans (q_up_s _ _ _)) (by omega) ?_
  refine g_aload_n (pc := 51) C (hl := rfl) dX8_readsGuest_51 ?_
  refine g_get (pc := 52) C fl8_7 dX8_readsGuest_52 ((q_up_n _ _ (by decide)).trans (q_up_s _ _ _)) rfl ?_
  refine g_sipush (pc := 55) C qk_sipush_1095 dX8_readsGuest_55 ?_
  refine g_iload_n (pc := 58) C (hl := rfl) dX8_readsGuest_58 ?_
  refine g_iaddN (pc := 59) C dX8_readsGuest_59 ?_
  refine g_ialdV (pc := 60) C dX8_readsGuest_60 (q_up_s _ _ _) (by omega) (va_up_self _ _ _) ?_
  refine g_if_neN (pc := 61) C 70 dX8_readsGuest_61 (by decide) (by omega) (fun q => absurd q (fun z => z hs)) (fun _ => ?_)
  refine g_aload_n (pc := 64) C (hl := rfl) dX8_readsGuest_64 ?_
  refine g_iconst (pc := 65) C qk_iconst_1 dX8_readsGuest_65 ?_
  refine g_V1v (pc := 66) C lv8_108 dX8_readsGuest_66 (s8_wrong 1 ((q_up_n _ _ (by decide)).trans (q_up_s _ _ _))) ((q_up_n _ _ (by decide)).trans (q_up_s _ _ _)) (by decide) (Nat.le_of_ble_eq_true rfl) ?_
  exact g_iret (pc := 69) C F dX8_readsGuest_69 rfl rfl (rfl) (by first | (simp only [q_up_u, q_up_c _ (show (87 : Nat) ≠ 88 by decide)]; done) | (simp only [q_up_u, q_up_c _ (show (87 : Nat) ≠ 88 by decide)]; rfl))
set_option maxHeartbeats 2000000 in
set_option maxRecDepth 20000 in
theorem s8_rg2 {n : Nat} {h : q_H} {un ta fl st di pu at_ er en pa tr g : Nat} {f W T : Nat → Nat} {K : mK} (h0 : h 87 = (MO un ta fl st K.2.1 K.2.2.1 (wSo f ta K.2.1) di pu at_ er en pa tr)) (hW : h 88 = WA W) (hby : h 89 = PA f) (hta : ta ≤ 300) (hf : ∀ k, k < ta → f k < 256) (hK : wK f ta K) (TT : wT W 1092 g (wX T)) (hg : g < 6) (hs : ¬ (mSn f (mNxt f ta K)) = 0) (hn : ¬ (mNxt f ta (mNxt f ta K)).1 = 1) : SP 4 yX8_readsGuest cX8_readsGuest 2 (some .boolean) [.ref 87] n h (some (.int (nI 0))) (q_up (q_up h 88 (WA (va_up (va_up (va_up (va_up W 1092 (g + 1)) (1095 + g) (mSn f (mNxt f ta K))) (1113 + g) g) (1125 + g) g))) 87 (MO un ta 1 st (mNxt f ta (mNxt f ta K)).2.1 (mNxt f ta (mNxt f ta K)).2.2.1 (wSo f ta (mNxt f ta (mNxt f ta K)).2.1) di pu at_ er en pa tr)) := by
  refine q_SPi RX8 rfl (by decide +kernel) (la := _) rfl rfl (fun Γ ad C F => ?_)
  have wk := wK_n (f := f) hK.2.2.2
  have wk2 := wK_n (f := f) wk.2.2.2
  have sb := mSn_b f (mNxt f ta K)
  refine g_aload_n (pc := 0) C (hl := rfl) dX8_readsGuest_0 ?_
  refine g_get (pc := 1) C fl8_7 dX8_readsGuest_1 h0 rfl ?_
  refine g_sipush (pc := 4) C qk_sipush_1092 dX8_readsGuest_4 ?_
  refine g_ialdV (pc := 7) C dX8_readsGuest_7 hW (by decide) (wT2_n TT) ?_
  refine g_istore_n (pc := 8) C rfl dX8_readsGuest_8 ?_
  refine g_iload_n (pc := 9) C (hl := rfl) dX8_readsGuest_9 ?_
  refine g_bipush (pc := 10) C qk_bipush_6 dX8_readsGuest_10 ?_
  refine g_ic_neN (pc := 12) C 21 dX8_readsGuest_12 (by decide) (by omega) (fun _ => ?_) (fun q => absurd q (by omega))
  refine g_aload_n (pc := 21) C (hl := rfl) dX8_readsGuest_21 ?_
  refine g_get (pc := 22) C fl8_7 dX8_readsGuest_22 h0 rfl ?_
  refine g_sipush (pc := 25) C qk_sipush_1092 dX8_readsGuest_25 ?_
  refine g_dup2 (pc := 28) C rfl rfl dX8_readsGuest_28 ?_
  refine g_ialdV (pc := 29) C dX8_readsGuest_29 hW (by decide) (wT2_n TT) ?_
  refine g_iconst (pc := 30) C qk_iconst_1 dX8_readsGuest_30 ?_
  refine g_iaddN (pc := 31) C dX8_readsGuest_31 ?_
  refine g_iastN (pc := 32) C dX8_readsGuest_32 hW (by decide) ?_
  refine g_aload_n (pc := 33) C (hl := rfl) dX8_readsGuest_33 ?_
  refine g_V0u (pc := 34) C lv8_105 dX8_readsGuest_34 (s8_token ((q_up_n _ _ (by decide)).trans h0) ((q_up_n _ _ (by decide)).trans hby) hta hf hK.2.2.2) ((q_up_n _ _ (by decide)).trans h0) (by decide) (Nat.le_of_ble_eq_true rfl) ?_
  refine g_aload_n (pc := 37) C (hl := rfl) dX8_readsGuest_37 ?_
  refine g_get (pc := 38) C fl8_7 dX8_readsGuest_38 (q_up_s _ _ _) rfl ?_
  refine g_sipush (pc := 41) C qk_sipush_1095 dX8_readsGuest_41 ?_
  refine g_iload_n (pc := 44) C (hl := rfl) dX8_readsGuest_44 ?_
  refine g_iaddN (pc := 45) C dX8_readsGuest_45 ?_
  refine g_aload_n (pc := 46) C (hl := rfl) dX8_readsGuest_46 ?_
  refine g_V0v (pc := 47) C lv8_111 dX8_readsGuest_47 (s8_sortNow (q_up_s _ _ _) ((q_up_n _ _ (by decide)).trans ((q_up_n _ _ (by decide)).trans hby)) hta hf wk) (q_up_s _ _ _) (by decide) (Nat.le_of_ble_eq_true rfl) ?_
  refine g_iastN (pc := 50) C dX8_readsGuest_50 ((q_up_n _ _ (by decide)).trans (q_up_s _ _ _)) (by omega) ?_
  refine g_aload_n (pc := 51) C (hl := rfl) dX8_readsGuest_51 ?_
  refine g_get (pc := 52) C fl8_7 dX8_readsGuest_52 ((q_up_n _ _ (by decide)).trans (q_up_s _ _ _)) rfl ?_
  refine g_sipush (pc := 55) C qk_sipush_1095 dX8_readsGuest_55 ?_
  refine g_iload_n (pc := 58) C (hl := rfl) dX8_readsGuest_58 ?_
  refine g_iaddN (pc := 59) C dX8_readsGuest_59 ?_
  refine g_ialdV (pc := 60) C dX8_readsGuest_60 (q_up_s _ _ _) (by omega) (va_up_self _ _ _) ?_
  refine g_if_neN (pc := 61) C 70 dX8_readsGuest_61 (by decide) (by omega) (fun _ => ?_) (fun q => absurd q (hs))
  refine g_aload_n (pc := 70) C (hl := rfl) dX8_readsGuest_70 ?_
  refine g_get (pc := 71) C fl8_7 dX8_readsGuest_71 ((q_up_n _ _ (by decide)).trans (q_up_s _ _ _)) rfl ?_
  refine g_sipush (pc := 74) C qk_sipush_1113 dX8_readsGuest_74 ?_
  refine g_iload_n (pc := 77) C (hl := rfl) dX8_readsGuest_77 ?_
  refine g_iaddN (pc := 78) C dX8_readsGuest_78 ?_
  refine g_iload_n (pc := 79) C (hl := rfl) dX8_readsGuest_79 ?_
  refine g_iastN (pc := 80) C dX8_readsGuest_80 (q_up_s _ _ _) (by omega) ?_
  refine g_aload_n (pc := 81) C (hl := rfl) dX8_readsGuest_81 ?_
  refine g_get (pc := 82) C fl8_7 dX8_readsGuest_82 ((q_up_n _ _ (by decide)).trans ((q_up_n _ _ (by decide)).trans (q_up_s _ _ _))) rfl ?_
  refine g_sipush (pc := 85) C qk_sipush_1125 dX8_readsGuest_85 ?_
  refine g_iload_n (pc := 88) C (hl := rfl) dX8_readsGuest_88 ?_
  refine g_iaddN (pc := 89) C dX8_readsGuest_89 ?_
  refine g_iload_n (pc := 90) C (hl := rfl) dX8_readsGuest_90 ?_
  refine g_iastN (pc := 91) C dX8_readsGuest_91 (q_up_s _ _ _) (by omega) ?_
  refine g_aload_n (pc := 92) C (hl := rfl) dX8_readsGuest_92 ?_
  refine g_sipush (pc := 93) C qk_sipush_1101 dX8_readsGuest_93 ?_
  refine g_iload_n (pc := 96) C (hl := rfl) dX8_readsGuest_96 ?_
  refine g_iaddN (pc := 97) C dX8_readsGuest_97 ?_
  refine g_iconst (pc := 98) C qk_iconst_5 dX8_readsGuest_98 ?_
  refine g_V2v (pc := 99) C lv8_115 dX8_readsGuest_99 (s8_tnF1 (K := (mNxt f ta K)) (1101 + g) 5 ((q_up_n _ _ (by decide)).trans ((q_up_n _ _ (by decide)).trans ((q_up_n _ _ (by decide)).trans (q_up_s _ _ _)))) (q_up_s _ _ _) ((q_up_n _ _ (by decide)).trans ((q_up_n _ _ (by decide)).trans ((q_up_n _ _ (by decide)).trans ((q_up_n _ _ (by decide)).trans ((q_up_n _ _ (by decide)).trans hby))))) hta hf wk.2.2.2 hn) ((q_up_n _ _ (by decide)).trans ((q_up_n _ _ (by decide)).trans ((q_up_n _ _ (by decide)).trans (q_up_s _ _ _)))) (by decide) (Nat.le_of_ble_eq_true rfl) ?_
  refine g_if_eqN (pc := 102) C 116 dX8_readsGuest_102 (by decide) (by decide) (fun _ => ?_) (fun q => absurd q (by decide))
  refine g_iconst (pc := 116) C qk_iconst_0 dX8_readsGuest_116 ?_
  exact g_iret (pc := 117) C F dX8_readsGuest_117 rfl rfl (rfl) (by first | (simp only [q_up_u, q_up_c _ (show (87 : Nat) ≠ 88 by decide)]; done) | (simp only [q_up_u, q_up_c _ (show (87 : Nat) ≠ 88 by decide)]; rfl))
set_option maxHeartbeats 2000000 in
set_option maxRecDepth 20000 in
theorem s8_rg3 {n : Nat} {h : q_H} {un ta fl st di pu at_ er en pa tr g : Nat} {f W T : Nat → Nat} {K : mK} (h0 : h 87 = (MO un ta fl st K.2.1 K.2.2.1 (wSo f ta K.2.1) di pu at_ er en pa tr)) (hW : h 88 = WA W) (hby : h 89 = PA f) (hta : ta ≤ 300) (hf : ∀ k, k < ta → f k < 256) (hK : wK f ta K) (TT : wT W 1092 g (wX T)) (hg : g < 6) (hs : ¬ (mSn f (mNxt f ta K)) = 0) (hn : (mNxt f ta (mNxt f ta K)).1 = 1) (hv : 5 < (mNxt f ta (mNxt f ta K)).2.2.2) : SP 4 yX8_readsGuest cX8_readsGuest 2 (some .boolean) [.ref 87] n h (some (.int (nI 0))) (q_up (q_up h 88 (WA (va_up (va_up (va_up (va_up (va_up W 1092 (g + 1)) (1095 + g) (mSn f (mNxt f ta K))) (1113 + g) g) (1125 + g) g) (1101 + g) (mNxt f ta (mNxt f ta K)).2.2.2))) 87 (MO un ta 2 st (mNxt f ta (mNxt f ta K)).2.1 (mNxt f ta (mNxt f ta K)).2.2.1 (wSo f ta (mNxt f ta (mNxt f ta K)).2.1) di pu at_ er en pa tr)) := by
  refine q_SPi RX8 rfl (by decide +kernel) (la := _) rfl rfl (fun Γ ad C F => ?_)
  have wk := wK_n (f := f) hK.2.2.2
  have wk2 := wK_n (f := f) wk.2.2.2
  have sb := mSn_b f (mNxt f ta K)
  refine g_aload_n (pc := 0) C (hl := rfl) dX8_readsGuest_0 ?_
  refine g_get (pc := 1) C fl8_7 dX8_readsGuest_1 h0 rfl ?_
  refine g_sipush (pc := 4) C qk_sipush_1092 dX8_readsGuest_4 ?_
  refine g_ialdV (pc := 7) C dX8_readsGuest_7 hW (by decide) (wT2_n TT) ?_
  refine g_istore_n (pc := 8) C rfl dX8_readsGuest_8 ?_
  refine g_iload_n (pc := 9) C (hl := rfl) dX8_readsGuest_9 ?_
  refine g_bipush (pc := 10) C qk_bipush_6 dX8_readsGuest_10 ?_
  refine g_ic_neN (pc := 12) C 21 dX8_readsGuest_12 (by decide) (by omega) (fun _ => ?_) (fun q => absurd q (by omega))
  refine g_aload_n (pc := 21) C (hl := rfl) dX8_readsGuest_21 ?_
  refine g_get (pc := 22) C fl8_7 dX8_readsGuest_22 h0 rfl ?_
  refine g_sipush (pc := 25) C qk_sipush_1092 dX8_readsGuest_25 ?_
  refine g_dup2 (pc := 28) C rfl rfl dX8_readsGuest_28 ?_
  refine g_ialdV (pc := 29) C dX8_readsGuest_29 hW (by decide) (wT2_n TT) ?_
  refine g_iconst (pc := 30) C qk_iconst_1 dX8_readsGuest_30 ?_
  refine g_iaddN (pc := 31) C dX8_readsGuest_31 ?_
  refine g_iastN (pc := 32) C dX8_readsGuest_32 hW (by decide) ?_
  refine g_aload_n (pc := 33) C (hl := rfl) dX8_readsGuest_33 ?_
  refine g_V0u (pc := 34) C lv8_105 dX8_readsGuest_34 (s8_token ((q_up_n _ _ (by decide)).trans h0) ((q_up_n _ _ (by decide)).trans hby) hta hf hK.2.2.2) ((q_up_n _ _ (by decide)).trans h0) (by decide) (Nat.le_of_ble_eq_true rfl) ?_
  refine g_aload_n (pc := 37) C (hl := rfl) dX8_readsGuest_37 ?_
  refine g_get (pc := 38) C fl8_7 dX8_readsGuest_38 (q_up_s _ _ _) rfl ?_
  refine g_sipush (pc := 41) C qk_sipush_1095 dX8_readsGuest_41 ?_
  refine g_iload_n (pc := 44) C (hl := rfl) dX8_readsGuest_44 ?_
  refine g_iaddN (pc := 45) C dX8_readsGuest_45 ?_
  refine g_aload_n (pc := 46) C (hl := rfl) dX8_readsGuest_46 ?_
  refine g_V0v (pc := 47) C lv8_111 dX8_readsGuest_47 (s8_sortNow (q_up_s _ _ _) ((q_up_n _ _ (by decide)).trans ((q_up_n _ _ (by decide)).trans hby)) hta hf wk) (q_up_s _ _ _) (by decide) (Nat.le_of_ble_eq_true rfl) ?_
  refine g_iastN (pc := 50) C dX8_readsGuest_50 ((q_up_n _ _ (by decide)).trans (q_up_s _ _ _)) (by omega) ?_
  refine g_aload_n (pc := 51) C (hl := rfl) dX8_readsGuest_51 ?_
  refine g_get (pc := 52) C fl8_7 dX8_readsGuest_52 ((q_up_n _ _ (by decide)).trans (q_up_s _ _ _)) rfl ?_
  refine g_sipush (pc := 55) C qk_sipush_1095 dX8_readsGuest_55 ?_
  refine g_iload_n (pc := 58) C (hl := rfl) dX8_readsGuest_58 ?_
  refine g_iaddN (pc := 59) C dX8_readsGuest_59 ?_
  refine g_ialdV (pc := 60) C dX8_readsGuest_60 (q_up_s _ _ _) (by omega) (va_up_self _ _ _) ?_
  refine g_if_neN (pc := 61) C 70 dX8_readsGuest_61 (by decide) (by omega) (fun _ => ?_) (fun q => absurd q (hs))
  refine g_aload_n (pc := 70) C (hl := rfl) dX8_readsGuest_70 ?_
  refine g_get (pc := 71) C fl8_7 dX8_readsGuest_71 ((q_up_n _ _ (by decide)).trans (q_up_s _ _ _)) rfl ?_
  refine g_sipush (pc := 74) C qk_sipush_1113 dX8_readsGuest_74 ?_
  refine g_iload_n (pc := 77) C (hl := rfl) dX8_readsGuest_77 ?_
  refine g_iaddN (pc := 78) C dX8_readsGuest_78 ?_
  refine g_iload_n (pc := 79) C (hl := rfl) dX8_readsGuest_79 ?_
  refine g_iastN (pc := 80) C dX8_readsGuest_80 (q_up_s _ _ _) (by omega) ?_
  refine g_aload_n (pc := 81) C (hl := rfl) dX8_readsGuest_81 ?_
  refine g_get (pc := 82) C fl8_7 dX8_readsGuest_82 ((q_up_n _ _ (by decide)).trans ((q_up_n _ _ (by decide)).trans (q_up_s _ _ _))) rfl ?_
  refine g_sipush (pc := 85) C qk_sipush_1125 dX8_readsGuest_85 ?_
  refine g_iload_n (pc := 88) C (hl := rfl) dX8_readsGuest_88 ?_
  refine g_iaddN (pc := 89) C dX8_readsGuest_89 ?_
  refine g_iload_n (pc := 90) C (hl := rfl) dX8_readsGuest_90 ?_
  refine g_iastN (pc := 91) C dX8_readsGuest_91 (q_up_s _ _ _) (by omega) ?_
  refine g_aload_n (pc := 92) C (hl := rfl) dX8_readsGuest_92 ?_
  refine g_sipush (pc := 93) C qk_sipush_1101 dX8_readsGuest_93 ?_
  refine g_iload_n (pc := 96) C (hl := rfl) dX8_readsGuest_96 ?_
  refine g_iaddN (pc := 97) C dX8_readsGuest_97 ?_
  refine g_iconst (pc := 98) C qk_iconst_5 dX8_readsGuest_98 ?_
  refine g_V2v (pc := 99) C lv8_115 dX8_readsGuest_99 (s8_tnF2 (K := (mNxt f ta K)) (1101 + g) 5 ((q_up_n _ _ (by decide)).trans ((q_up_n _ _ (by decide)).trans ((q_up_n _ _ (by decide)).trans (q_up_s _ _ _)))) (q_up_s _ _ _) ((q_up_n _ _ (by decide)).trans ((q_up_n _ _ (by decide)).trans ((q_up_n _ _ (by decide)).trans ((q_up_n _ _ (by decide)).trans ((q_up_n _ _ (by decide)).trans hby))))) hta hf wk.2.2.2 (by omega) (by decide) hn hv) ((q_up_n _ _ (by decide)).trans ((q_up_n _ _ (by decide)).trans ((q_up_n _ _ (by decide)).trans (q_up_s _ _ _)))) (by decide) (Nat.le_of_ble_eq_true rfl) ?_
  refine g_if_eqN (pc := 102) C 116 dX8_readsGuest_102 (by decide) (by decide) (fun _ => ?_) (fun q => absurd q (by decide))
  refine g_iconst (pc := 116) C qk_iconst_0 dX8_readsGuest_116 ?_
  exact g_iret (pc := 117) C F dX8_readsGuest_117 rfl rfl (rfl) (by first | (simp only [q_up_u, q_up_c _ (show (87 : Nat) ≠ 88 by decide)]; done) | (simp only [q_up_u, q_up_c _ (show (87 : Nat) ≠ 88 by decide)]; rfl))
set_option maxHeartbeats 2000000 in
set_option maxRecDepth 20000 in
theorem s8_rg4 {n : Nat} {h : q_H} {un ta fl st di pu at_ er en pa tr g : Nat} {f W T : Nat → Nat} {K : mK} (h0 : h 87 = (MO un ta fl st K.2.1 K.2.2.1 (wSo f ta K.2.1) di pu at_ er en pa tr)) (hW : h 88 = WA W) (hby : h 89 = PA f) (hta : ta ≤ 300) (hf : ∀ k, k < ta → f k < 256) (hK : wK f ta K) (TT : wT W 1092 g (wX T)) (hg : g < 6) (hs : ¬ (mSn f (mNxt f ta K)) = 0) (hn : (mNxt f ta (mNxt f ta K)).1 = 1) (hv : (mNxt f ta (mNxt f ta K)).2.2.2 ≤ 5) (hp : ¬ (mNxt f ta (mNxt f ta (mNxt f ta K))).1 = 2) : SP 4 yX8_readsGuest cX8_readsGuest 2 (some .boolean) [.ref 87] n h (some (.int (nI 0))) (q_up (q_up h 88 (WA (va_up (va_up (va_up (va_up (va_up W 1092 (g + 1)) (1095 + g) (mSn f (mNxt f ta K))) (1113 + g) g) (1125 + g) g) (1101 + g) (mNxt f ta (mNxt f ta K)).2.2.2))) 87 (MO un ta 1 st (mNxt f ta (mNxt f ta (mNxt f ta K))).2.1 (mNxt f ta (mNxt f ta (mNxt f ta K))).2.2.1 (wSo f ta (mNxt f ta (mNxt f ta (mNxt f ta K))).2.1) di pu at_ er en pa tr)) := by
  refine q_SPi RX8 rfl (by decide +kernel) (la := _) rfl rfl (fun Γ ad C F => ?_)
  have wk := wK_n (f := f) hK.2.2.2
  have wk2 := wK_n (f := f) wk.2.2.2
  have sb := mSn_b f (mNxt f ta K)
  refine g_aload_n (pc := 0) C (hl := rfl) dX8_readsGuest_0 ?_
  refine g_get (pc := 1) C fl8_7 dX8_readsGuest_1 h0 rfl ?_
  refine g_sipush (pc := 4) C qk_sipush_1092 dX8_readsGuest_4 ?_
  refine g_ialdV (pc := 7) C dX8_readsGuest_7 hW (by decide) (wT2_n TT) ?_
  refine g_istore_n (pc := 8) C rfl dX8_readsGuest_8 ?_
  refine g_iload_n (pc := 9) C (hl := rfl) dX8_readsGuest_9 ?_
  refine g_bipush (pc := 10) C qk_bipush_6 dX8_readsGuest_10 ?_
  refine g_ic_neN (pc := 12) C 21 dX8_readsGuest_12 (by decide) (by omega) (fun _ => ?_) (fun q => absurd q (by omega))
  refine g_aload_n (pc := 21) C (hl := rfl) dX8_readsGuest_21 ?_
  refine g_get (pc := 22) C fl8_7 dX8_readsGuest_22 h0 rfl ?_
  refine g_sipush (pc := 25) C qk_sipush_1092 dX8_readsGuest_25 ?_
  refine g_dup2 (pc := 28) C rfl rfl dX8_readsGuest_28 ?_
  refine g_ialdV (pc := 29) C dX8_readsGuest_29 hW (by decide) (wT2_n TT) ?_
  refine g_iconst (pc := 30) C qk_iconst_1 dX8_readsGuest_30 ?_
  refine g_iaddN (pc := 31) C dX8_readsGuest_31 ?_
  refine g_iastN (pc := 32) C dX8_readsGuest_32 hW (by decide) ?_
  refine g_aload_n (pc := 33) C (hl := rfl) dX8_readsGuest_33 ?_
  refine g_V0u (pc := 34) C lv8_105 dX8_readsGuest_34 (s8_token ((q_up_n _ _ (by decide)).trans h0) ((q_up_n _ _ (by decide)).trans hby) hta hf hK.2.2.2) ((q_up_n _ _ (by decide)).trans h0) (by decide) (Nat.le_of_ble_eq_true rfl) ?_
  refine g_aload_n (pc := 37) C (hl := rfl) dX8_readsGuest_37 ?_
  refine g_get (pc := 38) C fl8_7 dX8_readsGuest_38 (q_up_s _ _ _) rfl ?_
  refine g_sipush (pc := 41) C qk_sipush_1095 dX8_readsGuest_41 ?_
  refine g_iload_n (pc := 44) C (hl := rfl) dX8_readsGuest_44 ?_
  refine g_iaddN (pc := 45) C dX8_readsGuest_45 ?_
  refine g_aload_n (pc := 46) C (hl := rfl) dX8_readsGuest_46 ?_
  refine g_V0v (pc := 47) C lv8_111 dX8_readsGuest_47 (s8_sortNow (q_up_s _ _ _) ((q_up_n _ _ (by decide)).trans ((q_up_n _ _ (by decide)).trans hby)) hta hf wk) (q_up_s _ _ _) (by decide) (Nat.le_of_ble_eq_true rfl) ?_
  refine g_iastN (pc := 50) C dX8_readsGuest_50 ((q_up_n _ _ (by decide)).trans (q_up_s _ _ _)) (by omega) ?_
  refine g_aload_n (pc := 51) C (hl := rfl) dX8_readsGuest_51 ?_
  refine g_get (pc := 52) C fl8_7 dX8_readsGuest_52 ((q_up_n _ _ (by decide)).trans (q_up_s _ _ _)) rfl ?_
  refine g_sipush (pc := 55) C qk_sipush_1095 dX8_readsGuest_55 ?_
  refine g_iload_n (pc := 58) C (hl := rfl) dX8_readsGuest_58 ?_
  refine g_iaddN (pc := 59) C dX8_readsGuest_59 ?_
  refine g_ialdV (pc := 60) C dX8_readsGuest_60 (q_up_s _ _ _) (by omega) (va_up_self _ _ _) ?_
  refine g_if_neN (pc := 61) C 70 dX8_readsGuest_61 (by decide) (by omega) (fun _ => ?_) (fun q => absurd q (hs))
  refine g_aload_n (pc := 70) C (hl := rfl) dX8_readsGuest_70 ?_
  refine g_get (pc := 71) C fl8_7 dX8_readsGuest_71 ((q_up_n _ _ (by decide)).trans (q_up_s _ _ _)) rfl ?_
  refine g_sipush (pc := 74) C qk_sipush_1113 dX8_readsGuest_74 ?_
  refine g_iload_n (pc := 77) C (hl := rfl) dX8_readsGuest_77 ?_
  refine g_iaddN (pc := 78) C dX8_readsGuest_78 ?_
  refine g_iload_n (pc := 79) C (hl := rfl) dX8_readsGuest_79 ?_
  refine g_iastN (pc := 80) C dX8_readsGuest_80 (q_up_s _ _ _) (by omega) ?_
  refine g_aload_n (pc := 81) C (hl := rfl) dX8_readsGuest_81 ?_
  refine g_get (pc := 82) C fl8_7 dX8_readsGuest_82 ((q_up_n _ _ (by decide)).trans ((q_up_n _ _ (by decide)).trans (q_up_s _ _ _))) rfl ?_
  refine g_sipush (pc := 85) C qk_sipush_1125 dX8_readsGuest_85 ?_
  refine g_iload_n (pc := 88) C (hl := rfl) dX8_readsGuest_88 ?_
  refine g_iaddN (pc := 89) C dX8_readsGuest_89 ?_
  refine g_iload_n (pc := 90) C (hl := rfl) dX8_readsGuest_90 ?_
  refine g_iastN (pc := 91) C dX8_readsGuest_91 (q_up_s _ _ _) (by omega) ?_
  refine g_aload_n (pc := 92) C (hl := rfl) dX8_readsGuest_92 ?_
  refine g_sipush (pc := 93) C qk_sipush_1101 dX8_readsGuest_93 ?_
  refine g_iload_n (pc := 96) C (hl := rfl) dX8_readsGuest_96 ?_
  refine g_iaddN (pc := 97) C dX8_readsGuest_97 ?_
  refine g_iconst (pc := 98) C qk_iconst_5 dX8_readsGuest_98 ?_
  refine g_V2v (pc := 99) C lv8_115 dX8_readsGuest_99 (s8_tnT (K := (mNxt f ta K)) (1101 + g) 5 ((q_up_n _ _ (by decide)).trans ((q_up_n _ _ (by decide)).trans ((q_up_n _ _ (by decide)).trans (q_up_s _ _ _)))) (q_up_s _ _ _) ((q_up_n _ _ (by decide)).trans ((q_up_n _ _ (by decide)).trans ((q_up_n _ _ (by decide)).trans ((q_up_n _ _ (by decide)).trans ((q_up_n _ _ (by decide)).trans hby))))) hta hf wk.2.2.2 (by omega) (by decide) hn hv) ((q_up_n _ _ (by decide)).trans ((q_up_n _ _ (by decide)).trans ((q_up_n _ _ (by decide)).trans (q_up_s _ _ _)))) (by decide) (Nat.le_of_ble_eq_true rfl) ?_
  refine g_if_eqN (pc := 102) C 116 dX8_readsGuest_102 (by decide) (by decide) (fun q => absurd q (by decide)) (fun _ => ?_)
  refine g_aload_n (pc := 105) C (hl := rfl) dX8_readsGuest_105 ?_
  refine g_V0v (pc := 106) C lv8_119 dX8_readsGuest_106 (s8_stopsF (K := (mNxt f ta (mNxt f ta K))) (q_up_s _ _ _) ((q_up_n _ _ (by decide)).trans ((q_up_n _ _ (by decide)).trans ((q_up_n _ _ (by decide)).trans ((q_up_n _ _ (by decide)).trans ((q_up_n _ _ (by decide)).trans ((q_up_n _ _ (by decide)).trans ((q_up_n _ _ (by decide)).trans hby))))))) hta hf wk2.2.2.2 hp) (q_up_s _ _ _) (by decide) (Nat.le_of_ble_eq_true rfl) ?_
  refine g_if_eqN (pc := 109) C 116 dX8_readsGuest_109 (by decide) (by decide) (fun _ => ?_) (fun q => absurd q (by decide))
  refine g_iconst (pc := 116) C qk_iconst_0 dX8_readsGuest_116 ?_
  exact g_iret (pc := 117) C F dX8_readsGuest_117 rfl rfl (rfl) (by first | (simp only [q_up_u, q_up_c _ (show (87 : Nat) ≠ 88 by decide)]; done) | (simp only [q_up_u, q_up_c _ (show (87 : Nat) ≠ 88 by decide)]; rfl))
set_option maxHeartbeats 2000000 in
set_option maxRecDepth 20000 in
theorem s8_rgT {n : Nat} {h : q_H} {un ta fl st di pu at_ er en pa tr g : Nat} {f W T : Nat → Nat} {K : mK} (h0 : h 87 = (MO un ta fl st K.2.1 K.2.2.1 (wSo f ta K.2.1) di pu at_ er en pa tr)) (hW : h 88 = WA W) (hby : h 89 = PA f) (hta : ta ≤ 300) (hf : ∀ k, k < ta → f k < 256) (hK : wK f ta K) (TT : wT W 1092 g (wX T)) (hg : g < 6) (hs : ¬ (mSn f (mNxt f ta K)) = 0) (hn : (mNxt f ta (mNxt f ta K)).1 = 1) (hv : (mNxt f ta (mNxt f ta K)).2.2.2 ≤ 5) (hp : (mNxt f ta (mNxt f ta (mNxt f ta K))).1 = 2) : SP 4 yX8_readsGuest cX8_readsGuest 2 (some .boolean) [.ref 87] n h (some (.int (nI 1))) (q_up (q_up h 88 (WA (va_up (va_up (va_up (va_up (va_up W 1092 (g + 1)) (1095 + g) (mSn f (mNxt f ta K))) (1113 + g) g) (1125 + g) g) (1101 + g) (mNxt f ta (mNxt f ta K)).2.2.2))) 87 (MO un ta fl st (mNxt f ta (mNxt f ta (mNxt f ta K))).2.1 (mNxt f ta (mNxt f ta (mNxt f ta K))).2.2.1 (wSo f ta (mNxt f ta (mNxt f ta (mNxt f ta K))).2.1) di pu at_ er en pa tr)) := by
  refine q_SPi RX8 rfl (by decide +kernel) (la := _) rfl rfl (fun Γ ad C F => ?_)
  have wk := wK_n (f := f) hK.2.2.2
  have wk2 := wK_n (f := f) wk.2.2.2
  have sb := mSn_b f (mNxt f ta K)
  refine g_aload_n (pc := 0) C (hl := rfl) dX8_readsGuest_0 ?_
  refine g_get (pc := 1) C fl8_7 dX8_readsGuest_1 h0 rfl ?_
  refine g_sipush (pc := 4) C qk_sipush_1092 dX8_readsGuest_4 ?_
  refine g_ialdV (pc := 7) C dX8_readsGuest_7 hW (by decide) (wT2_n TT) ?_
  refine g_istore_n (pc := 8) C rfl dX8_readsGuest_8 ?_
  refine g_iload_n (pc := 9) C (hl := rfl) dX8_readsGuest_9 ?_
  refine g_bipush (pc := 10) C qk_bipush_6 dX8_readsGuest_10 ?_
  refine g_ic_neN (pc := 12) C 21 dX8_readsGuest_12 (by decide) (by omega) (fun _ => ?_) (fun q => absurd q (by omega))
  refine g_aload_n (pc := 21) C (hl := rfl) dX8_readsGuest_21 ?_
  refine g_get (pc := 22) C fl8_7 dX8_readsGuest_22 h0 rfl ?_
  refine g_sipush (pc := 25) C qk_sipush_1092 dX8_readsGuest_25 ?_
  refine g_dup2 (pc := 28) C rfl rfl dX8_readsGuest_28 ?_
  refine g_ialdV (pc := 29) C dX8_readsGuest_29 hW (by decide) (wT2_n TT) ?_
  refine g_iconst (pc := 30) C qk_iconst_1 dX8_readsGuest_30 ?_
  refine g_iaddN (pc := 31) C dX8_readsGuest_31 ?_
  refine g_iastN (pc := 32) C dX8_readsGuest_32 hW (by decide) ?_
  refine g_aload_n (pc := 33) C (hl := rfl) dX8_readsGuest_33 ?_
  refine g_V0u (pc := 34) C lv8_105 dX8_readsGuest_34 (s8_token ((q_up_n _ _ (by decide)).trans h0) ((q_up_n _ _ (by decide)).trans hby) hta hf hK.2.2.2) ((q_up_n _ _ (by decide)).trans h0) (by decide) (Nat.le_of_ble_eq_true rfl) ?_
  refine g_aload_n (pc := 37) C (hl := rfl) dX8_readsGuest_37 ?_
  refine g_get (pc := 38) C fl8_7 dX8_readsGuest_38 (q_up_s _ _ _) rfl ?_
  refine g_sipush (pc := 41) C qk_sipush_1095 dX8_readsGuest_41 ?_
  refine g_iload_n (pc := 44) C (hl := rfl) dX8_readsGuest_44 ?_
  refine g_iaddN (pc := 45) C dX8_readsGuest_45 ?_
  refine g_aload_n (pc := 46) C (hl := rfl) dX8_readsGuest_46 ?_
  refine g_V0v (pc := 47) C lv8_111 dX8_readsGuest_47 (s8_sortNow (q_up_s _ _ _) ((q_up_n _ _ (by decide)).trans ((q_up_n _ _ (by decide)).trans hby)) hta hf wk) (q_up_s _ _ _) (by decide) (Nat.le_of_ble_eq_true rfl) ?_
  refine g_iastN (pc := 50) C dX8_readsGuest_50 ((q_up_n _ _ (by decide)).trans (q_up_s _ _ _)) (by omega) ?_
  refine g_aload_n (pc := 51) C (hl := rfl) dX8_readsGuest_51 ?_
  refine g_get (pc := 52) C fl8_7 dX8_readsGuest_52 ((q_up_n _ _ (by decide)).trans (q_up_s _ _ _)) rfl ?_
  refine g_sipush (pc := 55) C qk_sipush_1095 dX8_readsGuest_55 ?_
  refine g_iload_n (pc := 58) C (hl := rfl) dX8_readsGuest_58 ?_
  refine g_iaddN (pc := 59) C dX8_readsGuest_59 ?_
  refine g_ialdV (pc := 60) C dX8_readsGuest_60 (q_up_s _ _ _) (by omega) (va_up_self _ _ _) ?_
  refine g_if_neN (pc := 61) C 70 dX8_readsGuest_61 (by decide) (by omega) (fun _ => ?_) (fun q => absurd q (hs))
  refine g_aload_n (pc := 70) C (hl := rfl) dX8_readsGuest_70 ?_
  refine g_get (pc := 71) C fl8_7 dX8_readsGuest_71 ((q_up_n _ _ (by decide)).trans (q_up_s _ _ _)) rfl ?_
  refine g_sipush (pc := 74) C qk_sipush_1113 dX8_readsGuest_74 ?_
  refine g_iload_n (pc := 77) C (hl := rfl) dX8_readsGuest_77 ?_
  refine g_iaddN (pc := 78) C dX8_readsGuest_78 ?_
  refine g_iload_n (pc := 79) C (hl := rfl) dX8_readsGuest_79 ?_
  refine g_iastN (pc := 80) C dX8_readsGuest_80 (q_up_s _ _ _) (by omega) ?_
  refine g_aload_n (pc := 81) C (hl := rfl) dX8_readsGuest_81 ?_
  refine g_get (pc := 82) C fl8_7 dX8_readsGuest_82 ((q_up_n _ _ (by decide)).trans ((q_up_n _ _ (by decide)).trans (q_up_s _ _ _))) rfl ?_
  refine g_sipush (pc := 85) C qk_sipush_1125 dX8_readsGuest_85 ?_
  refine g_iload_n (pc := 88) C (hl := rfl) dX8_readsGuest_88 ?_
  refine g_iaddN (pc := 89) C dX8_readsGuest_89 ?_
  refine g_iload_n (pc := 90) C (hl := rfl) dX8_readsGuest_90 ?_
  refine g_iastN (pc := 91) C dX8_readsGuest_91 (q_up_s _ _ _) (by omega) ?_
  refine g_aload_n (pc := 92) C (hl := rfl) dX8_readsGuest_92 ?_
  refine g_sipush (pc := 93) C qk_sipush_1101 dX8_readsGuest_93 ?_
  refine g_iload_n (pc := 96) C (hl := rfl) dX8_readsGuest_96 ?_
  refine g_iaddN (pc := 97) C dX8_readsGuest_97 ?_
  refine g_iconst (pc := 98) C qk_iconst_5 dX8_readsGuest_98 ?_
  refine g_V2v (pc := 99) C lv8_115 dX8_readsGuest_99 (s8_tnT (K := (mNxt f ta K)) (1101 + g) 5 ((q_up_n _ _ (by decide)).trans ((q_up_n _ _ (by decide)).trans ((q_up_n _ _ (by decide)).trans (q_up_s _ _ _)))) (q_up_s _ _ _) ((q_up_n _ _ (by decide)).trans ((q_up_n _ _ (by decide)).trans ((q_up_n _ _ (by decide)).trans ((q_up_n _ _ (by decide)).trans ((q_up_n _ _ (by decide)).trans hby))))) hta hf wk.2.2.2 (by omega) (by decide) hn hv) ((q_up_n _ _ (by decide)).trans ((q_up_n _ _ (by decide)).trans ((q_up_n _ _ (by decide)).trans (q_up_s _ _ _)))) (by decide) (Nat.le_of_ble_eq_true rfl) ?_
  refine g_if_eqN (pc := 102) C 116 dX8_readsGuest_102 (by decide) (by decide) (fun q => absurd q (by decide)) (fun _ => ?_)
  refine g_aload_n (pc := 105) C (hl := rfl) dX8_readsGuest_105 ?_
  refine g_V0v (pc := 106) C lv8_119 dX8_readsGuest_106 (s8_stopsT (K := (mNxt f ta (mNxt f ta K))) (q_up_s _ _ _) ((q_up_n _ _ (by decide)).trans ((q_up_n _ _ (by decide)).trans ((q_up_n _ _ (by decide)).trans ((q_up_n _ _ (by decide)).trans ((q_up_n _ _ (by decide)).trans ((q_up_n _ _ (by decide)).trans ((q_up_n _ _ (by decide)).trans hby))))))) hta hf wk2.2.2.2 hp) (q_up_s _ _ _) (by decide) (Nat.le_of_ble_eq_true rfl) ?_
  refine g_if_eqN (pc := 109) C 116 dX8_readsGuest_109 (by decide) (by decide) (fun q => absurd q (by decide)) (fun _ => ?_)
  refine g_iconst (pc := 112) C qk_iconst_1 dX8_readsGuest_112 ?_
  refine g_goto (pc := 113) C 117 dX8_readsGuest_113 (by decide) ?_
  exact g_iret (pc := 117) C F dX8_readsGuest_117 rfl rfl (rfl) (by first | (simp only [q_up_u, q_up_c _ (show (87 : Nat) ≠ 88 by decide)]; done) | (simp only [q_up_u, q_up_c _ (show (87 : Nat) ≠ 88 by decide)]; rfl))
set_option maxHeartbeats 2000000 in
set_option maxRecDepth 20000 in
theorem s8_rd6 {n : Nat} {h : q_H} {un ta fl st di pu at_ er en pa tr g : Nat} {f W T : Nat → Nat} {K : mK} (h0 : h 87 = (MO un ta fl st K.2.1 K.2.2.1 (wSo f ta K.2.1) di pu at_ er en pa tr)) (hW : h 88 = WA W) (hby : h 89 = PA f) (hta : ta ≤ 300) (hf : ∀ k, k < ta → f k < 256) (hK : wK f ta K) (TT : wT W 1092 g (wX T)) (hg : di = g) (hg6 : g ≤ 6) : SP 4 yX8_readsDish cX8_readsDish 1 (some .boolean) [.ref 87] n h (some (.int (nI 0))) (q_up h 87 (MO un ta 3 st K.2.1 K.2.2.1 (wSo f ta K.2.1) di pu at_ er en pa tr)) := by
  refine q_SPi RX8 rfl (by decide +kernel) (la := _) rfl rfl (fun Γ ad C F => ?_)
  refine g_aload_n (pc := 0) C (hl := rfl) dX8_readsDish_0 ?_
  refine g_get (pc := 1) C fl8_123 dX8_readsDish_1 h0 rfl ?_
  refine g_aload_n (pc := 4) C (hl := rfl) dX8_readsDish_4 ?_
  refine g_get (pc := 5) C fl8_7 dX8_readsDish_5 h0 rfl ?_
  refine g_sipush (pc := 8) C qk_sipush_1092 dX8_readsDish_8 ?_
  refine g_ialdV (pc := 11) C dX8_readsDish_11 hW (by decide) (wT2_n TT) ?_
  refine g_ic_neN (pc := 12) C 21 dX8_readsDish_12 (by decide) (by omega) (fun q => absurd q (fun z => z hg)) (fun _ => ?_)
  refine g_aload_n (pc := 15) C (hl := rfl) dX8_readsDish_15 ?_
  refine g_iconst (pc := 16) C qk_iconst_3 dX8_readsDish_16 ?_
  refine g_V1v (pc := 17) C lv8_108 dX8_readsDish_17 (s8_wrong 3 h0) h0 (by decide) (Nat.le_of_ble_eq_true rfl) ?_
  exact g_iret (pc := 20) C F dX8_readsDish_20 rfl rfl (rfl) (rfl)
set_option maxHeartbeats 2000000 in
set_option maxRecDepth 20000 in
theorem s8_rd2 {n : Nat} {h : q_H} {un ta fl st di pu at_ er en pa tr g : Nat} {f W T : Nat → Nat} {K : mK} (h0 : h 87 = (MO un ta fl st K.2.1 K.2.2.1 (wSo f ta K.2.1) di pu at_ er en pa tr)) (hW : h 88 = WA W) (hby : h 89 = PA f) (hta : ta ≤ 300) (hf : ∀ k, k < ta → f k < 256) (hK : wK f ta K) (TT : wT W 1092 g (wX T)) (hg : di < g) (hg6 : g ≤ 6) (hn : ¬ (mNxt f ta K).1 = 1) : SP 4 yX8_readsDish cX8_readsDish 1 (some .boolean) [.ref 87] n h (some (.int (nI 0))) (q_up h 87 (MO un ta 1 st (mNxt f ta K).2.1 (mNxt f ta K).2.2.1 (wSo f ta (mNxt f ta K).2.1) (di + 1) pu at_ er en pa tr)) := by
  refine q_SPi RX8 rfl (by decide +kernel) (la := _) rfl rfl (fun Γ ad C F => ?_)
  have wk := wK_n (f := f) hK.2.2.2
  refine g_aload_n (pc := 0) C (hl := rfl) dX8_readsDish_0 ?_
  refine g_get (pc := 1) C fl8_123 dX8_readsDish_1 h0 rfl ?_
  refine g_aload_n (pc := 4) C (hl := rfl) dX8_readsDish_4 ?_
  refine g_get (pc := 5) C fl8_7 dX8_readsDish_5 h0 rfl ?_
  refine g_sipush (pc := 8) C qk_sipush_1092 dX8_readsDish_8 ?_
  refine g_ialdV (pc := 11) C dX8_readsDish_11 hW (by decide) (wT2_n TT) ?_
  refine g_ic_neN (pc := 12) C 21 dX8_readsDish_12 (by decide) (by omega) (fun _ => ?_) (fun q => absurd q (by omega))
  refine g_aload_n (pc := 21) C (hl := rfl) dX8_readsDish_21 ?_
  refine g_dup (pc := 22) C rfl dX8_readsDish_22 ?_
  refine g_get (pc := 23) C fl8_123 dX8_readsDish_23 h0 rfl ?_
  refine g_iconst (pc := 26) C qk_iconst_1 dX8_readsDish_26 ?_
  refine g_iaddN (pc := 27) C dX8_readsDish_27 ?_
  refine g_put (pc := 28) C fp8_123 dX8_readsDish_28 h0 (Nat.le_of_ble_eq_true rfl) ?_
  refine g_aload_n (pc := 31) C (hl := rfl) dX8_readsDish_31 ?_
  refine g_sipush (pc := 32) C qk_sipush_1119 dX8_readsDish_32 ?_
  refine g_aload_n (pc := 35) C (hl := rfl) dX8_readsDish_35 ?_
  refine g_get (pc := 36) C fl8_123 dX8_readsDish_36 (q_up_s _ _ _) rfl ?_
  refine g_iaddN (pc := 39) C dX8_readsDish_39 ?_
  refine g_iconst (pc := 40) C qk_iconst_1 dX8_readsDish_40 ?_
  refine g_isubE (pc := 41) C (w := nI (1119 + di)) (by rw [pk_sub (by omega)]; exact congrArg nI (by omega)) dX8_readsDish_41 ?_
  refine g_bipush (pc := 42) C qk_bipush_30 dX8_readsDish_42 ?_
  refine g_V2v (pc := 44) C lv8_115 dX8_readsDish_44 (s8_tnF1 (K := K) (1119 + di) 30 (q_up_s _ _ _) ((q_up_n _ _ (by decide)).trans hW) ((q_up_n _ _ (by decide)).trans hby) hta hf hK.2.2.2 hn) (q_up_s _ _ _) (by decide) (Nat.le_of_ble_eq_true rfl) ?_
  refine g_if_eqN (pc := 47) C 61 dX8_readsDish_47 (by decide) (by decide) (fun _ => ?_) (fun q => absurd q (by decide))
  refine g_iconst (pc := 61) C qk_iconst_0 dX8_readsDish_61 ?_
  exact g_iret (pc := 62) C F dX8_readsDish_62 rfl rfl (rfl) (by first | (simp only [q_up_u, q_up_c _ (show (87 : Nat) ≠ 88 by decide)]; done) | (simp only [q_up_u, q_up_c _ (show (87 : Nat) ≠ 88 by decide)]; rfl))
set_option maxHeartbeats 2000000 in
set_option maxRecDepth 20000 in
theorem s8_rd3 {n : Nat} {h : q_H} {un ta fl st di pu at_ er en pa tr g : Nat} {f W T : Nat → Nat} {K : mK} (h0 : h 87 = (MO un ta fl st K.2.1 K.2.2.1 (wSo f ta K.2.1) di pu at_ er en pa tr)) (hW : h 88 = WA W) (hby : h 89 = PA f) (hta : ta ≤ 300) (hf : ∀ k, k < ta → f k < 256) (hK : wK f ta K) (TT : wT W 1092 g (wX T)) (hg : di < g) (hg6 : g ≤ 6) (hn : (mNxt f ta K).1 = 1) (hv : 30 < (mNxt f ta K).2.2.2) : SP 4 yX8_readsDish cX8_readsDish 1 (some .boolean) [.ref 87] n h (some (.int (nI 0))) (q_up (q_up h 88 (WA (va_up W (1119 + di) (mNxt f ta K).2.2.2))) 87 (MO un ta 2 st (mNxt f ta K).2.1 (mNxt f ta K).2.2.1 (wSo f ta (mNxt f ta K).2.1) (di + 1) pu at_ er en pa tr)) := by
  refine q_SPi RX8 rfl (by decide +kernel) (la := _) rfl rfl (fun Γ ad C F => ?_)
  have wk := wK_n (f := f) hK.2.2.2
  refine g_aload_n (pc := 0) C (hl := rfl) dX8_readsDish_0 ?_
  refine g_get (pc := 1) C fl8_123 dX8_readsDish_1 h0 rfl ?_
  refine g_aload_n (pc := 4) C (hl := rfl) dX8_readsDish_4 ?_
  refine g_get (pc := 5) C fl8_7 dX8_readsDish_5 h0 rfl ?_
  refine g_sipush (pc := 8) C qk_sipush_1092 dX8_readsDish_8 ?_
  refine g_ialdV (pc := 11) C dX8_readsDish_11 hW (by decide) (wT2_n TT) ?_
  refine g_ic_neN (pc := 12) C 21 dX8_readsDish_12 (by decide) (by omega) (fun _ => ?_) (fun q => absurd q (by omega))
  refine g_aload_n (pc := 21) C (hl := rfl) dX8_readsDish_21 ?_
  refine g_dup (pc := 22) C rfl dX8_readsDish_22 ?_
  refine g_get (pc := 23) C fl8_123 dX8_readsDish_23 h0 rfl ?_
  refine g_iconst (pc := 26) C qk_iconst_1 dX8_readsDish_26 ?_
  refine g_iaddN (pc := 27) C dX8_readsDish_27 ?_
  refine g_put (pc := 28) C fp8_123 dX8_readsDish_28 h0 (Nat.le_of_ble_eq_true rfl) ?_
  refine g_aload_n (pc := 31) C (hl := rfl) dX8_readsDish_31 ?_
  refine g_sipush (pc := 32) C qk_sipush_1119 dX8_readsDish_32 ?_
  refine g_aload_n (pc := 35) C (hl := rfl) dX8_readsDish_35 ?_
  refine g_get (pc := 36) C fl8_123 dX8_readsDish_36 (q_up_s _ _ _) rfl ?_
  refine g_iaddN (pc := 39) C dX8_readsDish_39 ?_
  refine g_iconst (pc := 40) C qk_iconst_1 dX8_readsDish_40 ?_
  refine g_isubE (pc := 41) C (w := nI (1119 + di)) (by rw [pk_sub (by omega)]; exact congrArg nI (by omega)) dX8_readsDish_41 ?_
  refine g_bipush (pc := 42) C qk_bipush_30 dX8_readsDish_42 ?_
  refine g_V2v (pc := 44) C lv8_115 dX8_readsDish_44 (s8_tnF2 (K := K) (1119 + di) 30 (q_up_s _ _ _) ((q_up_n _ _ (by decide)).trans hW) ((q_up_n _ _ (by decide)).trans hby) hta hf hK.2.2.2 (by omega) (by decide) hn hv) (q_up_s _ _ _) (by decide) (Nat.le_of_ble_eq_true rfl) ?_
  refine g_if_eqN (pc := 47) C 61 dX8_readsDish_47 (by decide) (by decide) (fun _ => ?_) (fun q => absurd q (by decide))
  refine g_iconst (pc := 61) C qk_iconst_0 dX8_readsDish_61 ?_
  exact g_iret (pc := 62) C F dX8_readsDish_62 rfl rfl (rfl) (by first | (simp only [q_up_u, q_up_c _ (show (87 : Nat) ≠ 88 by decide)]; done) | (simp only [q_up_u, q_up_c _ (show (87 : Nat) ≠ 88 by decide)]; rfl))
set_option maxHeartbeats 2000000 in
set_option maxRecDepth 20000 in
theorem s8_rd4 {n : Nat} {h : q_H} {un ta fl st di pu at_ er en pa tr g : Nat} {f W T : Nat → Nat} {K : mK} (h0 : h 87 = (MO un ta fl st K.2.1 K.2.2.1 (wSo f ta K.2.1) di pu at_ er en pa tr)) (hW : h 88 = WA W) (hby : h 89 = PA f) (hta : ta ≤ 300) (hf : ∀ k, k < ta → f k < 256) (hK : wK f ta K) (TT : wT W 1092 g (wX T)) (hg : di < g) (hg6 : g ≤ 6) (hn : (mNxt f ta K).1 = 1) (hv : (mNxt f ta K).2.2.2 ≤ 30) (hp : ¬ (mNxt f ta (mNxt f ta K)).1 = 2) : SP 4 yX8_readsDish cX8_readsDish 1 (some .boolean) [.ref 87] n h (some (.int (nI 0))) (q_up (q_up h 88 (WA (va_up W (1119 + di) (mNxt f ta K).2.2.2))) 87 (MO un ta 1 st (mNxt f ta (mNxt f ta K)).2.1 (mNxt f ta (mNxt f ta K)).2.2.1 (wSo f ta (mNxt f ta (mNxt f ta K)).2.1) (di + 1) pu at_ er en pa tr)) := by
  refine q_SPi RX8 rfl (by decide +kernel) (la := _) rfl rfl (fun Γ ad C F => ?_)
  have wk := wK_n (f := f) hK.2.2.2
  refine g_aload_n (pc := 0) C (hl := rfl) dX8_readsDish_0 ?_
  refine g_get (pc := 1) C fl8_123 dX8_readsDish_1 h0 rfl ?_
  refine g_aload_n (pc := 4) C (hl := rfl) dX8_readsDish_4 ?_
  refine g_get (pc := 5) C fl8_7 dX8_readsDish_5 h0 rfl ?_
  refine g_sipush (pc := 8) C qk_sipush_1092 dX8_readsDish_8 ?_
  refine g_ialdV (pc := 11) C dX8_readsDish_11 hW (by decide) (wT2_n TT) ?_
  refine g_ic_neN (pc := 12) C 21 dX8_readsDish_12 (by decide) (by omega) (fun _ => ?_) (fun q => absurd q (by omega))
  refine g_aload_n (pc := 21) C (hl := rfl) dX8_readsDish_21 ?_
  refine g_dup (pc := 22) C rfl dX8_readsDish_22 ?_
  refine g_get (pc := 23) C fl8_123 dX8_readsDish_23 h0 rfl ?_
  refine g_iconst (pc := 26) C qk_iconst_1 dX8_readsDish_26 ?_
  refine g_iaddN (pc := 27) C dX8_readsDish_27 ?_
  refine g_put (pc := 28) C fp8_123 dX8_readsDish_28 h0 (Nat.le_of_ble_eq_true rfl) ?_
  refine g_aload_n (pc := 31) C (hl := rfl) dX8_readsDish_31 ?_
  refine g_sipush (pc := 32) C qk_sipush_1119 dX8_readsDish_32 ?_
  refine g_aload_n (pc := 35) C (hl := rfl) dX8_readsDish_35 ?_
  refine g_get (pc := 36) C fl8_123 dX8_readsDish_36 (q_up_s _ _ _) rfl ?_
  refine g_iaddN (pc := 39) C dX8_readsDish_39 ?_
  refine g_iconst (pc := 40) C qk_iconst_1 dX8_readsDish_40 ?_
  refine g_isubE (pc := 41) C (w := nI (1119 + di)) (by rw [pk_sub (by omega)]; exact congrArg nI (by omega)) dX8_readsDish_41 ?_
  refine g_bipush (pc := 42) C qk_bipush_30 dX8_readsDish_42 ?_
  refine g_V2v (pc := 44) C lv8_115 dX8_readsDish_44 (s8_tnT (K := K) (1119 + di) 30 (q_up_s _ _ _) ((q_up_n _ _ (by decide)).trans hW) ((q_up_n _ _ (by decide)).trans hby) hta hf hK.2.2.2 (by omega) (by decide) hn hv) (q_up_s _ _ _) (by decide) (Nat.le_of_ble_eq_true rfl) ?_
  refine g_if_eqN (pc := 47) C 61 dX8_readsDish_47 (by decide) (by decide) (fun q => absurd q (by decide)) (fun _ => ?_)
  refine g_aload_n (pc := 50) C (hl := rfl) dX8_readsDish_50 ?_
  refine g_V0v (pc := 51) C lv8_119 dX8_readsDish_51 (s8_stopsF (K := (mNxt f ta K)) (q_up_s _ _ _) ((q_up_n _ _ (by decide)).trans ((q_up_n _ _ (by decide)).trans ((q_up_n _ _ (by decide)).trans hby))) hta hf wk.2.2.2 hp) (q_up_s _ _ _) (by decide) (Nat.le_of_ble_eq_true rfl) ?_
  refine g_if_eqN (pc := 54) C 61 dX8_readsDish_54 (by decide) (by decide) (fun _ => ?_) (fun q => absurd q (by decide))
  refine g_iconst (pc := 61) C qk_iconst_0 dX8_readsDish_61 ?_
  exact g_iret (pc := 62) C F dX8_readsDish_62 rfl rfl (rfl) (by first | (simp only [q_up_u, q_up_c _ (show (87 : Nat) ≠ 88 by decide)]; done) | (simp only [q_up_u, q_up_c _ (show (87 : Nat) ≠ 88 by decide)]; rfl))
set_option maxHeartbeats 2000000 in
set_option maxRecDepth 20000 in
theorem s8_rdT {n : Nat} {h : q_H} {un ta fl st di pu at_ er en pa tr g : Nat} {f W T : Nat → Nat} {K : mK} (h0 : h 87 = (MO un ta fl st K.2.1 K.2.2.1 (wSo f ta K.2.1) di pu at_ er en pa tr)) (hW : h 88 = WA W) (hby : h 89 = PA f) (hta : ta ≤ 300) (hf : ∀ k, k < ta → f k < 256) (hK : wK f ta K) (TT : wT W 1092 g (wX T)) (hg : di < g) (hg6 : g ≤ 6) (hn : (mNxt f ta K).1 = 1) (hv : (mNxt f ta K).2.2.2 ≤ 30) (hp : (mNxt f ta (mNxt f ta K)).1 = 2) : SP 4 yX8_readsDish cX8_readsDish 1 (some .boolean) [.ref 87] n h (some (.int (nI 1))) (q_up (q_up h 88 (WA (va_up W (1119 + di) (mNxt f ta K).2.2.2))) 87 (MO un ta fl st (mNxt f ta (mNxt f ta K)).2.1 (mNxt f ta (mNxt f ta K)).2.2.1 (wSo f ta (mNxt f ta (mNxt f ta K)).2.1) (di + 1) pu at_ er en pa tr)) := by
  refine q_SPi RX8 rfl (by decide +kernel) (la := _) rfl rfl (fun Γ ad C F => ?_)
  have wk := wK_n (f := f) hK.2.2.2
  refine g_aload_n (pc := 0) C (hl := rfl) dX8_readsDish_0 ?_
  refine g_get (pc := 1) C fl8_123 dX8_readsDish_1 h0 rfl ?_
  refine g_aload_n (pc := 4) C (hl := rfl) dX8_readsDish_4 ?_
  refine g_get (pc := 5) C fl8_7 dX8_readsDish_5 h0 rfl ?_
  refine g_sipush (pc := 8) C qk_sipush_1092 dX8_readsDish_8 ?_
  refine g_ialdV (pc := 11) C dX8_readsDish_11 hW (by decide) (wT2_n TT) ?_
  refine g_ic_neN (pc := 12) C 21 dX8_readsDish_12 (by decide) (by omega) (fun _ => ?_) (fun q => absurd q (by omega))
  refine g_aload_n (pc := 21) C (hl := rfl) dX8_readsDish_21 ?_
  refine g_dup (pc := 22) C rfl dX8_readsDish_22 ?_
  refine g_get (pc := 23) C fl8_123 dX8_readsDish_23 h0 rfl ?_
  refine g_iconst (pc := 26) C qk_iconst_1 dX8_readsDish_26 ?_
  refine g_iaddN (pc := 27) C dX8_readsDish_27 ?_
  refine g_put (pc := 28) C fp8_123 dX8_readsDish_28 h0 (Nat.le_of_ble_eq_true rfl) ?_
  refine g_aload_n (pc := 31) C (hl := rfl) dX8_readsDish_31 ?_
  refine g_sipush (pc := 32) C qk_sipush_1119 dX8_readsDish_32 ?_
  refine g_aload_n (pc := 35) C (hl := rfl) dX8_readsDish_35 ?_
  refine g_get (pc := 36) C fl8_123 dX8_readsDish_36 (q_up_s _ _ _) rfl ?_
  refine g_iaddN (pc := 39) C dX8_readsDish_39 ?_
  refine g_iconst (pc := 40) C qk_iconst_1 dX8_readsDish_40 ?_
  refine g_isubE (pc := 41) C (w := nI (1119 + di)) (by rw [pk_sub (by omega)]; exact congrArg nI (by omega)) dX8_readsDish_41 ?_
  refine g_bipush (pc := 42) C qk_bipush_30 dX8_readsDish_42 ?_
  refine g_V2v (pc := 44) C lv8_115 dX8_readsDish_44 (s8_tnT (K := K) (1119 + di) 30 (q_up_s _ _ _) ((q_up_n _ _ (by decide)).trans hW) ((q_up_n _ _ (by decide)).trans hby) hta hf hK.2.2.2 (by omega) (by decide) hn hv) (q_up_s _ _ _) (by decide) (Nat.le_of_ble_eq_true rfl) ?_
  refine g_if_eqN (pc := 47) C 61 dX8_readsDish_47 (by decide) (by decide) (fun q => absurd q (by decide)) (fun _ => ?_)
  refine g_aload_n (pc := 50) C (hl := rfl) dX8_readsDish_50 ?_
  refine g_V0v (pc := 51) C lv8_119 dX8_readsDish_51 (s8_stopsT (K := (mNxt f ta K)) (q_up_s _ _ _) ((q_up_n _ _ (by decide)).trans ((q_up_n _ _ (by decide)).trans ((q_up_n _ _ (by decide)).trans hby))) hta hf wk.2.2.2 hp) (q_up_s _ _ _) (by decide) (Nat.le_of_ble_eq_true rfl) ?_
  refine g_if_eqN (pc := 54) C 61 dX8_readsDish_54 (by decide) (by decide) (fun q => absurd q (by decide)) (fun _ => ?_)
  refine g_iconst (pc := 57) C qk_iconst_1 dX8_readsDish_57 ?_
  refine g_goto (pc := 58) C 62 dX8_readsDish_58 (by decide) ?_
  exact g_iret (pc := 62) C F dX8_readsDish_62 rfl rfl (rfl) (by first | (simp only [q_up_u, q_up_c _ (show (87 : Nat) ≠ 88 by decide)]; done) | (simp only [q_up_u, q_up_c _ (show (87 : Nat) ≠ 88 by decide)]; rfl))
