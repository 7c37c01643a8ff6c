theorem wRo_z (j : Nat) : wRo 0 (wX fun _ => 0) j = 0 := by
  unfold wRo wX
  repeat' split
  all_goals rfl
theorem wZ_s {W : Nat → Nat} {i : Nat} : va_up (wPK W 1092 0 (wX fun _ => 0) i) (1092 + i) 0 = wPK W 1092 0 (wX fun _ => 0) (i + 1) := by
  have q := wPK_s (W := W) (r := 1092) (g := 0) (k := i) (x := (wX fun _ => 0))
  rw [wRo_z] at q
  exact q
set_option maxHeartbeats 2000000 in
set_option maxRecDepth 20000 in
theorem l8_rz {Γ : q_X} {ad : Nat → Nat} {n : Nat} {h : q_H} {un ta fl st sa ne so di pu at_ er en pa tr : Nat} {f W : Nat → Nat} (C : q_C Γ ad 5 0 0 RX8 yX8_reads cX8_reads 4 (some .boolean)) (kk : ∀ H : q_H, H = q_up h 88 (WA (wPut W 1092 0 (wX fun _ => 0))) → H 87 = MO un ta fl st sa ne so di pu at_ er en pa tr → H 89 = PA f → q_G Γ ad 4 25 [some (.ref 87), some (.int (nI 39)), none, none] [] n H 0 0) : ∀ (m i : Nat) (H : q_H), i + m = 40 → i ≤ 39 → H 87 = MO un ta fl st sa ne so di pu at_ er en pa tr → H 89 = PA f → H 88 = WA (wPK W 1092 0 (wX fun _ => 0) i) → q_up H 88 (WA (wPut W 1092 0 (wX fun _ => 0))) = q_up h 88 (WA (wPut W 1092 0 (wX fun _ => 0))) → q_G Γ ad 4 2 [some (.ref 87), some (.int (nI i)), none, none] [] n H 0 0 := by
  intro m
  induction m with
  | zero => intro i H hm hi; omega
  | succ m ih =>
    intro i H hm hi h0 hby hW hU
    refine g_iload_n (pc := 2) C (hl := rfl) dX8_reads_2 ?_
    refine g_bipush (pc := 3) C qk_bipush_39 dX8_reads_3 ?_
    refine g_ic_geN (pc := 5) C 25 dX8_reads_5 (by decide) (by omega) (fun c5 => ?_) (fun c5 => ?_)
    · obtain rfl : i = 39 := by omega
      exact kk H (by rw [← hU]; exact (q_upI hW).symm) h0 hby
    · refine g_aload_n (pc := 8) C (hl := rfl) dX8_reads_8 ?_
      refine g_get (pc := 9) C fl8_7 dX8_reads_9 h0 rfl ?_
      refine g_sipush (pc := 12) C qk_sipush_1092 dX8_reads_12 ?_
      refine g_iload_n (pc := 15) C (hl := rfl) dX8_reads_15 ?_
      refine g_iaddN (pc := 16) C dX8_reads_16 ?_
      refine g_iconst (pc := 17) C qk_iconst_0 dX8_reads_17 ?_
      refine g_iastV (pc := 18) C dX8_reads_18 hW (by omega) wZ_s ?_
      refine g_iincN (pc := 19) C (hl := rfl) (q_inc1 _) rfl dX8_reads_19 ?_
      refine g_goto (pc := 22) C 2 dX8_reads_22 (by decide) ?_
      exact ih (i + 1) _ (by omega) (by omega) ((q_up_n _ _ (by decide)).trans h0) ((q_up_n _ _ (by decide)).trans hby) (q_up_s _ _ _) (by rw [q_up_u]; exact hU)
theorem q_Gh {Γ : q_X} {ad : Nat → Nat} {nL pc : Nat} {la : List (Option Value)} {st : List Value} {n : Nat} {h1 h2 : q_H} {k1 k2 : Nat} (e : h1 = h2) (g : q_G Γ ad nL pc la st n h2 k1 k2) : q_G Γ ad nL pc la st n h1 k1 k2 := by rw [e]; exact g
set_option maxHeartbeats 2000000 in
set_option maxRecDepth 20000 in
theorem s8_reads {n : Nat} {h : q_H} {un ta fl st sa ne so di pu at_ er en pa tr : Nat} {f W : Nat → Nat} (K : mK) (h0 : h 87 = MO un ta fl st sa ne so di pu at_ er en pa tr) (hW : h 88 = WA W) (hby : h 89 = PA f) (hta : ta ≤ 300) (hf : ∀ k, k < ta → f k < 256) : ∃ (r sa' ne' so' di' fl' : Nat) (W' : Nat → Nat), wPo f ta fl (mRead f ta K) W W' r sa' fl' ∧ SP 5 yX8_reads cX8_reads 4 (some .boolean) [.ref 87] n h (some (.int (nI r))) (q_up (q_up h 88 (WA W')) 87 (MO un ta fl' st sa' ne' so' di' pu at_ er en pa tr)) := by
  have wk := wK_n (f := f) (K := (K.1, K.2.1, 0, K.2.2.2)) (Nat.zero_le ta)
  have wb := wSo_b f ta (mNxt f ta (K.1, K.2.1, 0, K.2.2.2)).2.1
  have o0 : wOut W (wPut W 1092 0 (wX fun _ => 0)) := wOut_put (wOut_r W)
  by_cases e0 : mWd f (mNxt f ta (K.1, K.2.1, 0, K.2.2.2)) 0 = true
  · have hso : ¬ wSo f ta (mNxt f ta (K.1, K.2.1, 0, K.2.2.2)).2.1 = 0 := fun q => by
      have k3 := wk.1.2.2.2.mpr q
      exact absurd ((mWd_i.mp e0).1.symm.trans k3) (by decide)
    have e : (mRead f ta K) = wCt f ta ((mNxt f ta (K.1, K.2.1, 0, K.2.2.2)), 0, 0, 0, fun _ => 0) := by
      unfold mRead
      rw [if_pos e0]
      rfl
    obtain ⟨r, sa', ne', so', di', fl', W', po, G⟩ := l8_rl (n := n) (un := un) (fl := fl) (st := st) (pu := pu) (at_ := at_) (er := er) (en := en) (pa := pa) (tr := tr) hta hf 13 0 0 (mNxt f ta (K.1, K.2.1, 0, K.2.2.2)) (fun _ => 0) (wPut W 1092 0 (wX fun _ => 0)) (q_up (q_up h 88 (WA (wPut W 1092 0 (wX fun _ => 0)))) 87 (MO un ta fl st (mNxt f ta (K.1, K.2.1, 0, K.2.2.2)).2.1 (mNxt f ta (K.1, K.2.1, 0, K.2.2.2)).2.2.1 (wSo f ta (mNxt f ta (K.1, K.2.1, 0, K.2.2.2)).2.1) 0 pu at_ er en pa tr)) (by decide) (q_up_s _ _ _) ((q_up_n _ _ (by decide)).trans (q_up_s _ _ _)) ((q_up_n _ _ (by decide)).trans ((q_up_n _ _ (by decide)).trans hby)) wk (wT_put _ _ _ _) (by decide) (Nat.le_refl _) (fun _ => e0)
    refine ⟨r, sa', ne', so', di', fl', W', ⟨wOut_t o0 po.1, by rw [e]; exact po.2⟩, ?_⟩
    refine q_SPi RX8 rfl (by decide +kernel) (la := _) rfl rfl (fun Γ ad C F => ?_)
    have F : q_N Γ ad n (some (.int (nI r))) (q_up (q_up (q_up (q_up h 88 (WA (wPut W 1092 0 (wX fun _ => 0)))) 87 (MO un ta fl st (mNxt f ta (K.1, K.2.1, 0, K.2.2.2)).2.1 (mNxt f ta (K.1, K.2.1, 0, K.2.2.2)).2.2.1 (wSo f ta (mNxt f ta (K.1, K.2.1, 0, K.2.2.2)).2.1) 0 pu at_ er en pa tr)) 88 (WA W')) 87 (MO un ta fl' st sa' ne' so' di' pu at_ er en pa tr)) := by
      rw [show q_up (q_up (q_up (q_up h 88 (WA (wPut W 1092 0 (wX fun _ => 0)))) 87 (MO un ta fl st (mNxt f ta (K.1, K.2.1, 0, K.2.2.2)).2.1 (mNxt f ta (K.1, K.2.1, 0, K.2.2.2)).2.2.1 (wSo f ta (mNxt f ta (K.1, K.2.1, 0, K.2.2.2)).2.1) 0 pu at_ er en pa tr)) 88 (WA W')) 87 (MO un ta fl' st sa' ne' so' di' pu at_ er en pa tr) = (q_up (q_up h 88 (WA W')) 87 (MO un ta fl' st sa' ne' so' di' pu at_ er en pa tr)) by simp only [q_up_u, q_up_c _ (show (87 : Nat) ≠ 88 by decide)]]
      exact F
    refine g_iconst (pc := 0) C qk_iconst_0 dX8_reads_0 ?_
    refine g_istore_n (pc := 1) C rfl dX8_reads_1 ?_
    refine l8_rz (W := W) C (fun H hHH g0 gby => ?_) 40 0 h rfl (by decide) h0 hby (hW.trans (by rw [show wPK W 1092 0 (wX fun _ => 0) 0 = W from wPK_0])) rfl
    have gW : H 88 = WA (wPut W 1092 0 (wX fun _ => 0)) := by rw [hHH]; exact q_up_s _ _ _
    refine g_aload_n (pc := 25) C (hl := rfl) dX8_reads_25 ?_
    refine g_iconst (pc := 26) C qk_iconst_0 dX8_reads_26 ?_
    refine g_put (pc := 27) C fp8_123 dX8_reads_27 g0 (Nat.le_of_ble_eq_true rfl) ?_
    refine g_aload_n (pc := 30) C (hl := rfl) dX8_reads_30 ?_
    refine g_iconst (pc := 31) C qk_iconst_0 dX8_reads_31 ?_
    refine g_put (pc := 32) C fp8_80 dX8_reads_32 (q_up_s _ _ _) (Nat.le_of_ble_eq_true rfl) ?_
    refine g_aload_n (pc := 35) C (hl := rfl) dX8_reads_35 ?_
    refine g_V0u (pc := 36) C lv8_105 dX8_reads_36 (s8_token (K := (K.1, K.2.1, 0, K.2.2.2)) (q_up_s _ _ _) ((q_up_n _ _ (by decide)).trans ((q_up_n _ _ (by decide)).trans gby)) hta hf (Nat.zero_le _)) (q_up_s _ _ _) (by decide) (Nat.le_of_ble_eq_true rfl) ?_
    refine g_aload_n (pc := 39) C (hl := rfl) dX8_reads_39 ?_
    refine g_get (pc := 40) C fl8_92 dX8_reads_40 (q_up_s _ _ _) rfl ?_
    refine g_if_neN (pc := 43) C 52 dX8_reads_43 (by decide) (by omega) (fun _ => ?_) (fun q => absurd q (hso))
    refine g_iconst (pc := 52) C qk_iconst_1 dX8_reads_52 ?_
    refine g_istore_n (pc := 53) C rfl dX8_reads_53 ?_
    refine q_Gh (h2 := (q_up (q_up h 88 (WA (wPut W 1092 0 (wX fun _ => 0)))) 87 (MO un ta fl st (mNxt f ta (K.1, K.2.1, 0, K.2.2.2)).2.1 (mNxt f ta (K.1, K.2.1, 0, K.2.2.2)).2.2.1 (wSo f ta (mNxt f ta (K.1, K.2.1, 0, K.2.2.2)).2.1) 0 pu at_ er en pa tr))) ?_ (G Γ ad C F none none)
    rw [hHH]
    first | (simp only [q_up_u, q_up_c _ (show (87 : Nat) ≠ 88 by decide)]; done) | (simp only [q_up_u, q_up_c _ (show (87 : Nat) ≠ 88 by decide)]; rfl)
  · have e : (mRead f ta K) = ((mNxt f ta (K.1, K.2.1, 0, K.2.2.2)), 1, 0, 0, fun _ => 0) := by
      unfold mRead
      rw [if_neg e0, mLg_f (Nat.succ_ne_zero _), mLd_f (Nat.succ_ne_zero _), mFin_f (Nat.succ_ne_zero _)]
    refine ⟨0, (mNxt f ta (K.1, K.2.1, 0, K.2.2.2)).2.1, (mNxt f ta (K.1, K.2.1, 0, K.2.2.2)).2.2.1, wSo f ta (mNxt f ta (K.1, K.2.1, 0, K.2.2.2)).2.1, 0, 1, (wPut W 1092 0 (wX fun _ => 0)), ⟨o0, Or.inr (by rw [e]; exact ⟨Nat.succ_ne_zero _, rfl, rfl, rfl⟩)⟩, ?_⟩
    refine q_SPi RX8 rfl (by decide +kernel) (la := _) rfl rfl (fun Γ ad C F => ?_)
    refine g_iconst (pc := 0) C qk_iconst_0 dX8_reads_0 ?_
    refine g_istore_n (pc := 1) C rfl dX8_reads_1 ?_
    refine l8_rz (W := W) C (fun H hHH g0 gby => ?_) 40 0 h rfl (by decide) h0 hby (hW.trans (by rw [show wPK W 1092 0 (wX fun _ => 0) 0 = W from wPK_0])) rfl
    have gW : H 88 = WA (wPut W 1092 0 (wX fun _ => 0)) := by rw [hHH]; exact q_up_s _ _ _
    refine g_aload_n (pc := 25) C (hl := rfl) dX8_reads_25 ?_
    refine g_iconst (pc := 26) C qk_iconst_0 dX8_reads_26 ?_
    refine g_put (pc := 27) C fp8_123 dX8_reads_27 g0 (Nat.le_of_ble_eq_true rfl) ?_
    refine g_aload_n (pc := 30) C (hl := rfl) dX8_reads_30 ?_
    refine g_iconst (pc := 31) C qk_iconst_0 dX8_reads_31 ?_
    refine g_put (pc := 32) C fp8_80 dX8_reads_32 (q_up_s _ _ _) (Nat.le_of_ble_eq_true rfl) ?_
    refine g_aload_n (pc := 35) C (hl := rfl) dX8_reads_35 ?_
    refine g_V0u (pc := 36) C lv8_105 dX8_reads_36 (s8_token (K := (K.1, K.2.1, 0, K.2.2.2)) (q_up_s _ _ _) ((q_up_n _ _ (by decide)).trans ((q_up_n _ _ (by decide)).trans gby)) hta hf (Nat.zero_le _)) (q_up_s _ _ _) (by decide) (Nat.le_of_ble_eq_true rfl) ?_
    refine g_aload_n (pc := 39) C (hl := rfl) dX8_reads_39 ?_
    refine g_get (pc := 40) C fl8_92 dX8_reads_40 (q_up_s _ _ _) rfl ?_
    refine g_if_neN (pc := 43) C 52 dX8_reads_43 (by decide) (by omega) (fun c43 => ?_) (fun c43 => ?_)
    · refine g_iconst (pc := 52) C qk_iconst_1 dX8_reads_52 ?_
      refine g_istore_n (pc := 53) C rfl dX8_reads_53 ?_
      refine g_iload_n (pc := 54) C (hl := rfl) dX8_reads_54 ?_
      refine g_if_eqN (pc := 55) C 148 dX8_reads_55 (by decide) (by decide) (fun q => absurd q (by decide)) (fun _ => ?_)
      refine g_aload_n (pc := 58) C (hl := rfl) dX8_reads_58 ?_
      refine g_get (pc := 59) C fl8_92 dX8_reads_59 (q_up_s _ _ _) rfl ?_
      refine g_if_eqN (pc := 62) C 148 dX8_reads_62 (by decide) (by omega) (fun q => absurd q (c43)) (fun _ => ?_)
      refine g_aload_n (pc := 65) C (hl := rfl) dX8_reads_65 ?_
      refine g_V0v (pc := 66) C lv8_126 dX8_reads_66 (s8_isGuestWordF (q_up_s _ _ _) ((q_up_n _ _ (by decide)).trans ((q_up_n _ _ (by decide)).trans ((q_up_n _ _ (by decide)).trans gby))) hta hf wk e0) (q_up_s _ _ _) (by decide) (Nat.le_of_ble_eq_true rfl) ?_
      refine g_if_eqN (pc := 69) C 83 dX8_reads_69 (by decide) (by decide) (fun _ => ?_) (fun q => absurd q (by decide))
      refine g_iconst (pc := 83) C qk_iconst_0 dX8_reads_83 ?_
      refine g_istore_n (pc := 84) C rfl dX8_reads_84 ?_
      refine g_aload_n (pc := 85) C (hl := rfl) dX8_reads_85 ?_
      by_cases e6 : mWd f (mNxt f ta (K.1, K.2.1, 0, K.2.2.2)) 6 = true
      · refine g_V0v (pc := 86) C lv8_129 dX8_reads_86 (s8_isDishWordT (q_up_s _ _ _) ((q_up_n _ _ (by decide)).trans ((q_up_n _ _ (by decide)).trans ((q_up_n _ _ (by decide)).trans gby))) hta hf wk e6) (q_up_s _ _ _) (by decide) (Nat.le_of_ble_eq_true rfl) ?_
        refine g_if_eqN (pc := 89) C 107 dX8_reads_89 (by decide) (by decide) (fun q => absurd q (by decide)) (fun _ => ?_)
        refine g_aload_n (pc := 92) C (hl := rfl) dX8_reads_92 ?_
        refine g_get (pc := 93) C fl8_7 dX8_reads_93 (q_up_s _ _ _) rfl ?_
        refine g_sipush (pc := 96) C qk_sipush_1092 dX8_reads_96 ?_
        refine g_ialdV (pc := 99) C dX8_reads_99 ((q_up_n _ _ (by decide)).trans ((q_up_n _ _ (by decide)).trans ((q_up_n _ _ (by decide)).trans gW))) (by decide) (wT2_n (wT_put _ _ _ _)) ?_
        refine g_if_leN (pc := 100) C 107 dX8_reads_100 (by decide) (by omega) (fun _ => ?_) (fun q => absurd (Nat.le_refl _) q)
        refine g_iconst (pc := 107) C qk_iconst_0 dX8_reads_107 ?_
        refine g_istore_n (pc := 108) C rfl dX8_reads_108 ?_
        refine g_iload_n (pc := 109) C (hl := rfl) dX8_reads_109 ?_
        refine g_if_eqN (pc := 110) C 120 dX8_reads_110 (by decide) (by decide) (fun _ => ?_) (fun q => absurd q (by decide))
        refine g_iload_n (pc := 120) C (hl := rfl) dX8_reads_120 ?_
        refine g_if_eqN (pc := 121) C 131 dX8_reads_121 (by decide) (by decide) (fun _ => ?_) (fun q => absurd q (by decide))
        refine g_aload_n (pc := 131) C (hl := rfl) dX8_reads_131 ?_
        refine g_iconst (pc := 132) C qk_iconst_1 dX8_reads_132 ?_
        refine g_V1v (pc := 133) C lv8_108 dX8_reads_133 (s8_wrong 1 (q_up_s _ _ _)) (q_up_s _ _ _) (by decide) (Nat.le_of_ble_eq_true rfl) ?_
        refine g_istore_n (pc := 136) C rfl dX8_reads_136 ?_
        refine g_iload_n (pc := 137) C (hl := rfl) dX8_reads_137 ?_
        refine g_if_eqN (pc := 138) C 145 dX8_reads_138 (by decide) (by decide) (fun _ => ?_) (fun q => absurd q (by decide))
        refine g_goto (pc := 145) C 54 dX8_reads_145 (by decide) ?_
        refine g_iload_n (pc := 54) C (hl := rfl) dX8_reads_54 ?_
        refine g_if_eqN (pc := 55) C 148 dX8_reads_55 (by decide) (by decide) (fun _ => ?_) (fun q => absurd q (by decide))
        refine g_iload_n (pc := 148) C (hl := rfl) dX8_reads_148 ?_
        exact g_iret (pc := 149) C F dX8_reads_149 rfl rfl (rfl) (by rw [hHH]; first | (simp only [q_up_u, q_up_c _ (show (87 : Nat) ≠ 88 by decide)]; done) | (simp only [q_up_u, q_up_c _ (show (87 : Nat) ≠ 88 by decide)]; rfl))
      · refine g_V0v (pc := 86) C lv8_129 dX8_reads_86 (s8_isDishWordF (q_up_s _ _ _) ((q_up_n _ _ (by decide)).trans ((q_up_n _ _ (by decide)).trans ((q_up_n _ _ (by decide)).trans gby))) hta hf wk e6) (q_up_s _ _ _) (by decide) (Nat.le_of_ble_eq_true rfl) ?_
        refine g_if_eqN (pc := 89) C 107 dX8_reads_89 (by decide) (by decide) (fun _ => ?_) (fun q => absurd q (by decide))
        refine g_iconst (pc := 107) C qk_iconst_0 dX8_reads_107 ?_
        refine g_istore_n (pc := 108) C rfl dX8_reads_108 ?_
        refine g_iload_n (pc := 109) C (hl := rfl) dX8_reads_109 ?_
        refine g_if_eqN (pc := 110) C 120 dX8_reads_110 (by decide) (by decide) (fun _ => ?_) (fun q => absurd q (by decide))
        refine g_iload_n (pc := 120) C (hl := rfl) dX8_reads_120 ?_
        refine g_if_eqN (pc := 121) C 131 dX8_reads_121 (by decide) (by decide) (fun _ => ?_) (fun q => absurd q (by decide))
        refine g_aload_n (pc := 131) C (hl := rfl) dX8_reads_131 ?_
        refine g_iconst (pc := 132) C qk_iconst_1 dX8_reads_132 ?_
        refine g_V1v (pc := 133) C lv8_108 dX8_reads_133 (s8_wrong 1 (q_up_s _ _ _)) (q_up_s _ _ _) (by decide) (Nat.le_of_ble_eq_true rfl) ?_
        refine g_istore_n (pc := 136) C rfl dX8_reads_136 ?_
        refine g_iload_n (pc := 137) C (hl := rfl) dX8_reads_137 ?_
        refine g_if_eqN (pc := 138) C 145 dX8_reads_138 (by decide) (by decide) (fun _ => ?_) (fun q => absurd q (by decide))
        refine g_goto (pc := 145) C 54 dX8_reads_145 (by decide) ?_
        refine g_iload_n (pc := 54) C (hl := rfl) dX8_reads_54 ?_
        refine g_if_eqN (pc := 55) C 148 dX8_reads_55 (by decide) (by decide) (fun _ => ?_) (fun q => absurd q (by decide))
        refine g_iload_n (pc := 148) C (hl := rfl) dX8_reads_148 ?_
        exact g_iret (pc := 149) C F dX8_reads_149 rfl rfl (rfl) (by rw [hHH]; first | (simp only [q_up_u, q_up_c _ (show (87 : Nat) ≠ 88 by decide)]; done) | (simp only [q_up_u, q_up_c _ (show (87 : Nat) ≠ 88 by decide)]; rfl))
    · refine g_aload_n (pc := 46) C (hl := rfl) dX8_reads_46 ?_
      refine g_iconst (pc := 47) C qk_iconst_1 dX8_reads_47 ?_
      refine g_V1v (pc := 48) C lv8_108 dX8_reads_48 (s8_wrong 1 (q_up_s _ _ _)) (q_up_s _ _ _) (by decide) (Nat.le_of_ble_eq_true rfl) ?_
      exact g_iret (pc := 51) C F dX8_reads_51 rfl rfl (rfl) (by rw [hHH]; first | (simp only [q_up_u, q_up_c _ (show (87 : Nat) ≠ 88 by decide)]; done) | (simp only [q_up_u, q_up_c _ (show (87 : Nat) ≠ 88 by decide)]; rfl))
set_option maxHeartbeats 2000000 in
set_option maxRecDepth 20000 in
theorem s8_tableF {n : Nat} {h : q_H} {un ta fl st sa ne so di pu at_ er en pa tr : Nat} {f W : Nat → Nat} (K : mK) (h0 : h 87 = MO un ta fl st sa ne so di pu at_ er en pa tr) (hW : h 88 = WA W) (hby : h 89 = PA f) (hta : ta ≤ 300) (hf : ∀ k, k < ta → f k < 256) (hq : ¬ (mRead f ta K).2.1 = 0) : ∃ (sa' ne' so' di' : Nat) (W' : Nat → Nat), wOut W W' ∧ SP 6 yX8_table cX8_table 2 (some .int) [.ref 87] n h (some (.int (-1000100 - nI (mRead f ta K).1.2.1))) (q_up (q_up h 88 (WA W')) 87 (MO un 0 (mRead f ta K).2.1 st sa' ne' so' di' pu at_ er en pa tr)) := by
  obtain ⟨r, sa', ne', so', di', fl', W', ⟨po, q⟩, sp⟩ := s8_reads (n := n) K h0 hW hby hta hf
  rcases q with ⟨q, -⟩ | ⟨-, rfl, rfl, rfl⟩
  · exact absurd q hq
  refine ⟨(mRead f ta K).1.2.1, ne', so', di', W', po, ?_⟩
  refine q_SPi RX8 rfl (by decide +kernel) (la := _) rfl rfl (fun Γ ad C F => ?_)
  refine g_aload_n (pc := 0) C (hl := rfl) dX8_table_0 ?_
  refine g_V0v (pc := 1) C lv8_138 dX8_table_1 (sp) h0 (by decide) (Nat.le_of_ble_eq_true rfl) ?_
  refine g_istore_n (pc := 4) C rfl dX8_table_4 ?_
  refine g_aload_n (pc := 5) C (hl := rfl) dX8_table_5 ?_
  refine g_iconst (pc := 6) C qk_iconst_0 dX8_table_6 ?_
  refine g_put (pc := 7) C fp8_66 dX8_table_7 (q_up_s _ _ _) (Nat.le_of_ble_eq_true rfl) ?_
  refine g_iload_n (pc := 10) C (hl := rfl) dX8_table_10 ?_
  refine g_if_neN (pc := 11) C 22 dX8_table_11 (by decide) (by decide) (fun q => absurd q (by decide)) (fun _ => ?_)
  refine g_ldc (pc := 14) C (v := -1000100) zk8_141 dX8_table_14 ?_
  refine g_aload_n (pc := 16) C (hl := rfl) dX8_table_16 ?_
  refine g_get (pc := 17) C fl8_83 dX8_table_17 (q_up_s _ _ _) rfl ?_
  refine g_isub (pc := 20) C dX8_table_20 ?_
  exact g_iret (pc := 21) C F dX8_table_21 rfl rfl (rfl) (by first | (simp only [q_up_u, q_up_c _ (show (87 : Nat) ≠ 88 by decide)]; done) | (simp only [q_up_u, q_up_c _ (show (87 : Nat) ≠ 88 by decide)]; rfl))
set_option maxHeartbeats 2000000 in
set_option maxRecDepth 20000 in
theorem s8_tableT {n : Nat} {h : q_H} {un ta fl st sa ne so di pu at_ er en pa tr : Nat} {f W : Nat → Nat} (K : mK) (h0 : h 87 = MO un ta fl st sa ne so di pu at_ er en pa tr) (hW : h 88 = WA W) (hby : h 89 = PA f) (hta : ta ≤ 300) (hf : ∀ k, k < ta → f k < 256) (hq : (mRead f ta K).2.1 = 0) : ∃ (sa' ne' so' di' : Nat) (W' : Nat → Nat), wOut W W' ∧ SP 6 yX8_table cX8_table 2 (some .int) [.ref 87] n h (some (.int (nI (mRead f ta K).2.2.1))) (q_up (q_up h 88 (WA (wPut W' 0 (mRead f ta K).2.2.1 (wX (mRead f ta K).2.2.2.2)))) 87 (MO 0 0 fl st sa' ne' so' di' pu at_ er en pa tr)) := by
  obtain ⟨r, sa', ne', so', di', fl', W', ⟨po, q⟩, sp⟩ := s8_reads (n := n) K h0 hW hby hta hf
  have q2 := q.resolve_right (fun z => z.1 hq)
  obtain ⟨-, rfl, rfl, hT⟩ := q2
  refine ⟨sa', ne', so', di', W', po, ?_⟩
  refine q_SPi RX8 rfl (by decide +kernel) (la := _) rfl rfl (fun Γ ad C F => ?_)
  refine g_aload_n (pc := 0) C (hl := rfl) dX8_table_0 ?_
  refine g_V0v (pc := 1) C lv8_138 dX8_table_1 (sp) h0 (by decide) (Nat.le_of_ble_eq_true rfl) ?_
  refine g_istore_n (pc := 4) C rfl dX8_table_4 ?_
  refine g_aload_n (pc := 5) C (hl := rfl) dX8_table_5 ?_
  refine g_iconst (pc := 6) C qk_iconst_0 dX8_table_6 ?_
  refine g_put (pc := 7) C fp8_66 dX8_table_7 (q_up_s _ _ _) (Nat.le_of_ble_eq_true rfl) ?_
  refine g_iload_n (pc := 10) C (hl := rfl) dX8_table_10 ?_
  refine g_if_neN (pc := 11) C 22 dX8_table_11 (by decide) (by decide) (fun _ => ?_) (fun q => absurd q (by decide))
  refine g_aload_n (pc := 22) C (hl := rfl) dX8_table_22 ?_
  refine g_sipush (pc := 23) C qk_sipush_1092 dX8_table_23 ?_
  refine g_iconst (pc := 26) C qk_iconst_0 dX8_table_26 ?_
  refine g_V2u (pc := 27) C lv8_142 dX8_table_27 (s8_copyRow (r := 0) (q_up_s _ _ _) ((q_up_n _ _ (by decide)).trans ((q_up_n _ _ (by decide)).trans (q_up_s _ _ _))) hT (by decide) (by decide)) (q_up_s _ _ _) (by decide) (Nat.le_of_ble_eq_true rfl) ?_
  refine g_aload_n (pc := 30) C (hl := rfl) dX8_table_30 ?_
  refine g_iconst (pc := 31) C qk_iconst_0 dX8_table_31 ?_
  refine g_put (pc := 32) C fp8_146 dX8_table_32 ((q_up_n _ _ (by decide)).trans (q_up_s _ _ _)) (Nat.le_of_ble_eq_true rfl) ?_
  refine g_aload_n (pc := 35) C (hl := rfl) dX8_table_35 ?_
  refine g_get (pc := 36) C fl8_7 dX8_table_36 (q_up_s _ _ _) rfl ?_
  refine g_iconst (pc := 39) C qk_iconst_0 dX8_table_39 ?_
  refine g_ialdV (pc := 40) C dX8_table_40 ((q_up_n _ _ (by decide)).trans (q_up_s _ _ _)) (by decide) (wT0_n (wT_put _ _ _ _)) ?_
  exact g_iret (pc := 41) C F dX8_table_41 rfl rfl (rfl) (by first | (simp only [q_up_u, q_up_c _ (show (87 : Nat) ≠ 88 by decide)]; done) | (simp only [q_up_u, q_up_c _ (show (87 : Nat) ≠ 88 by decide)]; rfl))
