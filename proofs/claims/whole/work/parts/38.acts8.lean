noncomputable def wMi (W : Nat → Nat) (un g : Nat) (x : mX) : Nat → Nat := if un < 24 then wPut W (117 + 39 * un) g x else wPut (wSh W 897) (117 + 39 * 23) g x
theorem wMi_o {W : Nat → Nat} {un r g g2 : Nat} {x z : mX} (hu : un ≤ 24) (h : r + 39 ≤ 117 ∨ 1053 ≤ r) (T : wT W r g2 z) : wT (wMi W un g x) r g2 z := by
  unfold wMi
  split
  · exact wT_o (by omega) T
  · exact wT_o (by omega) (wSh_T (by omega) T)
theorem s8_minds {n : Nat} {h : q_H} {un ta fl st sa ne so di pu at_ er en pa tr g : Nat} {W : Nat → Nat} {x : mX} (h0 : h 87 = MO un ta fl st sa ne so di pu at_ er en pa tr) (hW : h 88 = WA W) (T : wT W 0 g x) (hu : un ≤ 24) : SP 1 yX8_minds cX8_minds 2 none [.ref 87] n h none (q_up (q_up h 88 (WA (wMi W un g x))) 87 (MO (min (un + 1) 24) ta fl st sa ne so di pu at_ er en pa tr)) := by
  unfold wMi
  by_cases h : un < 24
  · rw [if_pos h, show min (un + 1) 24 = un + 1 by omega]
    exact s8_mindsL h0 hW T h
  · obtain rfl : un = 24 := by omega
    exact s8_mindsF h0 hW T
/-- the cells that a row tells -/
def wE (x z : mX) : Prop := (∀ i, i < 36 → x.1 i = z.1 i) ∧ x.2.1 = z.2.1 ∧ x.2.2.1 = z.2.2.1
theorem wRo_E {g j : Nat} {x z : mX} (h : wE x z) (hj : j < 39) : wRo g x j = wRo g z j := by
  obtain ⟨h1, h2, h3⟩ := h
  unfold wRo
  rw [h2, h3]
  repeat' split
  all_goals first | rfl | exact h1 _ (by omega)
theorem wPut_E {W : Nat → Nat} {r g : Nat} {x z : mX} (h : wE x z) : wPut W r g x = wPut W r g z := by
  funext k
  unfold wPut
  split
  · exact wRo_E h (by omega)
  · rfl
theorem wT_E {W : Nat → Nat} {r g : Nat} {x z : mX} (h : wE x z) (T : wT W r g x) : wT W r g z := fun j hj => (T j hj).trans (wRo_E h hj)
set_option maxHeartbeats 2000000 in
set_option maxRecDepth 20000 in
theorem s8_turnN {n : Nat} {h : q_H} {un ta fl st sa ne so di pu at_ er en pa tr g : Nat} {W : Nat → Nat} {x : mX} (z : Int32) (h0 : h 87 = MO un ta fl st sa ne so di pu at_ er en pa tr) (hW : h 88 = WA W) (T : wT W 0 g x) (hg : g = 0) : SP 3 yX8_turn cX8_turn 2 (some .int) [.ref 87, .int z] n h (some (.int (-1000002))) h := by
  refine q_SPi RX8 rfl (by decide +kernel) (la := _) rfl rfl (fun Γ ad C F => ?_)
  refine g_aload_n (pc := 0) C (hl := rfl) dX8_turn_0 ?_
  refine g_V0v (pc := 1) C lv8_177 dX8_turn_1 (s8_isNoneZ h0 hW (by rw [wT0_n T]; exact hg)) h0 (by decide) (Nat.le_of_ble_eq_true rfl) ?_
  refine g_if_eqN (pc := 4) C 10 dX8_turn_4 (by decide) (by decide) (fun q => absurd q (by decide)) (fun _ => ?_)
  refine g_ldc (pc := 7) C (v := -1000002) zk8_180 dX8_turn_7 ?_
  exact g_iret (pc := 9) C F dX8_turn_9 rfl rfl (rfl) (rfl)
set_option maxHeartbeats 2000000 in
set_option maxRecDepth 20000 in
theorem s8_turnB {n : Nat} {h : q_H} {un ta fl st sa ne so di pu at_ er en pa tr g : Nat} {W : Nat → Nat} {x : mX} (z : Int32) (h0 : h 87 = MO un ta fl st sa ne so di pu at_ er en pa tr) (hW : h 88 = WA W) (T : wT W 0 g x) (hg : 0 < g ∧ g ≤ 6) (hz : z < -9 ∨ nI 9 < z) : SP 3 yX8_turn cX8_turn 2 (some .int) [.ref 87, .int z] n h (some (.int (-1000001))) h := by
  refine q_SPi RX8 rfl (by decide +kernel) (la := _) rfl rfl (fun Γ ad C F => ?_)
  refine g_aload_n (pc := 0) C (hl := rfl) dX8_turn_0 ?_
  refine g_V0v (pc := 1) C lv8_177 dX8_turn_1 (s8_isNoneT h0 hW (by rw [wT0_n T]; omega)) h0 (by decide) (Nat.le_of_ble_eq_true rfl) ?_
  refine g_if_eqN (pc := 4) C 10 dX8_turn_4 (by decide) (by decide) (fun _ => ?_) (fun q => absurd q (by decide))
  refine g_iload_n (pc := 10) C (hl := rfl) dX8_turn_10 ?_
  refine g_i2l (pc := 11) C rfl dX8_turn_11 ?_
  refine g_ldc2 (pc := 12) C zk8_190 dX8_turn_12 ?_
  refine g_ldc2 (pc := 15) C zk8_192 dX8_turn_15 ?_
  refine g_S3v (pc := 18) C ls8_37 dX8_turn_18 (s8_inF z (-9) (nI 9) (by decide) (by decide) hz) (by decide) (Nat.le_of_ble_eq_true rfl) ?_
  refine g_if_neN (pc := 21) C 27 dX8_turn_21 (by decide) (by decide) (fun q => absurd q (by decide)) (fun _ => ?_)
  refine g_ldc (pc := 24) C (v := -1000001) zk8_52 dX8_turn_24 ?_
  exact g_iret (pc := 26) C F dX8_turn_26 rfl rfl (rfl) (rfl)
set_option maxHeartbeats 2000000 in
set_option maxRecDepth 20000 in
theorem s8_turnT {n : Nat} {h : q_H} {un ta fl st sa ne so di pu at_ er en pa tr g : Nat} {W : Nat → Nat} {x : mX} (z : Int) (h0 : h 87 = MO un ta fl st sa ne so di pu at_ er en pa tr) (hW : h 88 = WA W) (T : wT W 0 g x) (hu : un ≤ 24) (hg : 0 < g ∧ g ≤ 6) (hz : ¬ (qI z < -9 ∨ nI 9 < qI z)) (hz2 : -9 ≤ z ∧ z ≤ 9) (htu : x.2.1 < 6) : SP 3 yX8_turn cX8_turn 2 (some .int) [.ref 87, .int (qI z)] n h (some (.int (nI (mTurn g x.2.1 z)))) (q_up (q_up h 88 (WA (wPut (wMi W un g x) 0 g (x.1, mTurn g x.2.1 z, x.2.2)))) 87 (MO (min (un + 1) 24) ta fl st sa ne so di pu at_ er en pa tr)) := by
  refine q_SPi RX8 rfl (by decide +kernel) (la := _) rfl rfl (fun Γ ad C F => ?_)
  refine g_aload_n (pc := 0) C (hl := rfl) dX8_turn_0 ?_
  refine g_V0v (pc := 1) C lv8_177 dX8_turn_1 (s8_isNoneT h0 hW (by rw [wT0_n T]; omega)) h0 (by decide) (Nat.le_of_ble_eq_true rfl) ?_
  refine g_if_eqN (pc := 4) C 10 dX8_turn_4 (by decide) (by decide) (fun _ => ?_) (fun q => absurd q (by decide))
  refine g_iload_n (pc := 10) C (hl := rfl) dX8_turn_10 ?_
  refine g_i2l (pc := 11) C rfl dX8_turn_11 ?_
  refine g_ldc2 (pc := 12) C zk8_190 dX8_turn_12 ?_
  refine g_ldc2 (pc := 15) C zk8_192 dX8_turn_15 ?_
  refine g_S3v (pc := 18) C ls8_37 dX8_turn_18 (s8_inT (qI z) (-9) (nI 9) (by decide) (by decide) hz) (by decide) (Nat.le_of_ble_eq_true rfl) ?_
  refine g_if_neN (pc := 21) C 27 dX8_turn_21 (by decide) (by decide) (fun _ => ?_) (fun q => absurd q (by decide))
  refine g_aload_n (pc := 27) C (hl := rfl) dX8_turn_27 ?_
  refine g_V0u (pc := 28) C lv8_183 dX8_turn_28 (s8_minds h0 hW T hu) h0 (by decide) (Nat.le_of_ble_eq_true rfl) ?_
  refine g_aload_n (pc := 31) C (hl := rfl) dX8_turn_31 ?_
  refine g_iconst (pc := 32) C qk_iconst_0 dX8_turn_32 ?_
  refine g_iload_n (pc := 33) C (hl := rfl) dX8_turn_33 ?_
  refine g_V2u (pc := 34) C lv8_152 dX8_turn_34 (s8_turnBy z (q_up_s _ _ _) ((q_up_n _ _ (by decide)).trans (q_up_s _ _ _)) (wMi_o hu (by omega) T) (by decide) (by omega) (by omega) (by omega)) (q_up_s _ _ _) (by decide) (Nat.le_of_ble_eq_true rfl) ?_
  refine g_aload_n (pc := 37) C (hl := rfl) dX8_turn_37 ?_
  refine g_get (pc := 38) C fl8_7 dX8_turn_38 ((q_up_n _ _ (by decide)).trans (q_up_s _ _ _)) rfl ?_
  refine g_iconst (pc := 41) C qk_iconst_1 dX8_turn_41 ?_
  refine g_ialdV (pc := 42) C dX8_turn_42 (q_up_s _ _ _) (by omega) (wT0_t (wT_put _ _ _ _)) ?_
  exact g_iret (pc := 43) C F dX8_turn_43 rfl rfl (rfl) (by first | (simp only [q_up_u, q_up_c _ (show (87 : Nat) ≠ 88 by decide)]; done) | (simp only [q_up_u, q_up_c _ (show (87 : Nat) ≠ 88 by decide)]; rfl) | rfl)
set_option maxHeartbeats 2000000 in
set_option maxRecDepth 20000 in
theorem s8_fillB {n : Nat} {h : q_H} {un ta fl st sa ne so di pu at_ er en pa tr g : Nat} {W : Nat → Nat} {x : mX} (z k : Int32) (h0 : h 87 = MO un ta fl st sa ne so di pu at_ er en pa tr) (hW : h 88 = WA W) (T : wT W 0 g x) (hg : g ≤ 6) (hb : (z < 0 ∨ nI g ≤ z) ∨ (k < nI 1 ∨ nI 30 < k)) : SP 3 yX8_fill cX8_fill 3 (some .int) [.ref 87, .int z, .int k] n h (some (.int (-1000001))) h := by
  refine q_SPi RX8 rfl (by decide +kernel) (la := _) rfl rfl (fun Γ ad C F => ?_)
  have hg0 : W 0 = g ∧ g ≤ 6 := ⟨wT0_n T, hg⟩
  refine g_aload_n (pc := 0) C (hl := rfl) dX8_fill_0 ?_
  refine g_iload_n (pc := 1) C (hl := rfl) dX8_fill_1 ?_
  by_cases cz : z < 0 ∨ nI g ≤ z
  · refine g_V1v (pc := 2) C lv8_194 dX8_fill_2 (s8_oneF z h0 hW hg0 cz) h0 (by decide) (Nat.le_of_ble_eq_true rfl) ?_
    refine g_if_eqN (pc := 5) C 20 dX8_fill_5 (by decide) (by decide) (fun _ => ?_) (fun q => absurd q (by decide))
    refine g_ldc (pc := 20) C (v := -1000001) zk8_52 dX8_fill_20 ?_
    exact g_iret (pc := 22) C F dX8_fill_22 rfl rfl (rfl) (rfl)
  · refine g_V1v (pc := 2) C lv8_194 dX8_fill_2 (s8_oneU z h0 hW hg0 cz) h0 (by decide) (Nat.le_of_ble_eq_true rfl) ?_
    refine g_if_eqN (pc := 5) C 20 dX8_fill_5 (by decide) (by decide) (fun q => absurd q (by decide)) (fun _ => ?_)
    refine g_iload_n (pc := 8) C (hl := rfl) dX8_fill_8 ?_
    refine g_i2l (pc := 9) C rfl dX8_fill_9 ?_
    refine g_lconst (pc := 10) C (v := 1) rfl dX8_fill_10 ?_
    refine g_ldc2 (pc := 11) C zk8_197 dX8_fill_11 ?_
    by_cases ck : k < (nI 1) ∨ (nI 30) < k
    · refine g_S3v (pc := 14) C ls8_37 dX8_fill_14 (s8_inF k (nI 1) (nI 30) (by decide) (by decide) ck) (by decide) (Nat.le_of_ble_eq_true rfl) ?_
      refine g_if_neN (pc := 17) C 23 dX8_fill_17 (by decide) (by decide) (fun q => absurd q (by decide)) (fun _ => ?_)
      refine g_ldc (pc := 20) C (v := -1000001) zk8_52 dX8_fill_20 ?_
      exact g_iret (pc := 22) C F dX8_fill_22 rfl rfl (rfl) (rfl)
    · refine g_S3v (pc := 14) C ls8_37 dX8_fill_14 (s8_inT k (nI 1) (nI 30) (by decide) (by decide) ck) (by decide) (Nat.le_of_ble_eq_true rfl) ?_
      refine g_if_neN (pc := 17) C 23 dX8_fill_17 (by decide) (by decide) (fun _ => ?_) (fun q => absurd q (by decide))
      exact absurd hb (fun q => q.elim cz ck)
set_option maxHeartbeats 2000000 in
set_option maxRecDepth 20000 in
theorem s8_fillM {n : Nat} {h : q_H} {un ta fl st sa ne so di pu at_ er en pa tr g : Nat} {W : Nat → Nat} {x : mX} (z q : Nat) (h0 : h 87 = MO un ta fl st sa ne so di pu at_ er en pa tr) (hW : h 88 = WA W) (T : wT W 0 g x) (hg : 0 < g ∧ g ≤ 6) (hz : z < g) (hq : 1 ≤ q ∧ q ≤ 30) (hf : x.1 (24 + z) ≤ 99) (hs : 99 < x.1 (24 + z) + q) : SP 3 yX8_fill cX8_fill 3 (some .int) [.ref 87, .int (nI z), .int (nI q)] n h (some (.int (-1000003))) h := by
  refine q_SPi RX8 rfl (by decide +kernel) (la := _) rfl rfl (fun Γ ad C F => ?_)
  have hg0 : W 0 = g ∧ g ≤ 6 := ⟨wT0_n T, hg.2⟩
  refine g_aload_n (pc := 0) C (hl := rfl) dX8_fill_0 ?_
  refine g_iload_n (pc := 1) C (hl := rfl) dX8_fill_1 ?_
  refine g_V1v (pc := 2) C lv8_194 dX8_fill_2 (s8_oneN z h0 hW hg0 hz) h0 (by decide) (Nat.le_of_ble_eq_true rfl) ?_
  refine g_if_eqN (pc := 5) C 20 dX8_fill_5 (by decide) (by decide) (fun q => absurd q (by decide)) (fun _ => ?_)
  refine g_iload_n (pc := 8) C (hl := rfl) dX8_fill_8 ?_
  refine g_i2l (pc := 9) C rfl dX8_fill_9 ?_
  refine g_lconst (pc := 10) C (v := 1) rfl dX8_fill_10 ?_
  refine g_ldc2 (pc := 11) C zk8_197 dX8_fill_11 ?_
  refine g_S3v (pc := 14) C ls8_37 dX8_fill_14 (s8_inN q 1 30 (by decide) (by decide) hq (by decide)) (by decide) (Nat.le_of_ble_eq_true rfl) ?_
  refine g_if_neN (pc := 17) C 23 dX8_fill_17 (by decide) (by decide) (fun _ => ?_) (fun q => absurd q (by decide))
  refine g_aload_n (pc := 23) C (hl := rfl) dX8_fill_23 ?_
  refine g_get (pc := 24) C fl8_7 dX8_fill_24 h0 rfl ?_
  refine g_bipush (pc := 27) C qk_bipush_27 dX8_fill_27 ?_
  refine g_iload_n (pc := 29) C (hl := rfl) dX8_fill_29 ?_
  refine g_iaddN (pc := 30) C dX8_fill_30 ?_
  refine g_ialdV (pc := 31) C dX8_fill_31 hW (by omega) (wT0_po T (by omega)) ?_
  refine g_iload_n (pc := 32) C (hl := rfl) dX8_fill_32 ?_
  refine g_iaddN (pc := 33) C dX8_fill_33 ?_
  refine g_bipush (pc := 34) C qk_bipush_99 dX8_fill_34 ?_
  refine g_ic_leN (pc := 36) C 42 dX8_fill_36 (by decide) (by omega) (fun q => absurd q (by omega)) (fun _ => ?_)
  refine g_ldc (pc := 39) C (v := -1000003) zk8_69 dX8_fill_39 ?_
  exact g_iret (pc := 41) C F dX8_fill_41 rfl rfl (rfl) (rfl)
set_option maxHeartbeats 2000000 in
set_option maxRecDepth 20000 in
theorem s8_fillT {n : Nat} {h : q_H} {un ta fl st sa ne so di pu at_ er en pa tr g : Nat} {W : Nat → Nat} {x : mX} (z q : Nat) (h0 : h 87 = MO un ta fl st sa ne so di pu at_ er en pa tr) (hW : h 88 = WA W) (T : wT W 0 g x) (hu : un ≤ 24) (hg : 0 < g ∧ g ≤ 6) (hz : z < g) (hq : 1 ≤ q ∧ q ≤ 30) (hf : x.1 (24 + z) ≤ 99) (hs : x.1 (24 + z) + q ≤ 99) : SP 3 yX8_fill cX8_fill 3 (some .int) [.ref 87, .int (nI z), .int (nI q)] n h (some (.int (nI (x.1 (24 + z) + q)))) (q_up (q_up h 88 (WA (wPut (wMi W un g x) 0 g (va_up x.1 (24 + z) (x.1 (24 + z) + q), x.2)))) 87 (MO (min (un + 1) 24) ta fl st sa ne so di pu at_ er en pa tr)) := by
  refine q_SPi RX8 rfl (by decide +kernel) (la := _) rfl rfl (fun Γ ad C F => ?_)
  have hg0 : W 0 = g ∧ g ≤ 6 := ⟨wT0_n T, hg.2⟩
  refine g_aload_n (pc := 0) C (hl := rfl) dX8_fill_0 ?_
  refine g_iload_n (pc := 1) C (hl := rfl) dX8_fill_1 ?_
  refine g_V1v (pc := 2) C lv8_194 dX8_fill_2 (s8_oneN z h0 hW hg0 hz) h0 (by decide) (Nat.le_of_ble_eq_true rfl) ?_
  refine g_if_eqN (pc := 5) C 20 dX8_fill_5 (by decide) (by decide) (fun q => absurd q (by decide)) (fun _ => ?_)
  refine g_iload_n (pc := 8) C (hl := rfl) dX8_fill_8 ?_
  refine g_i2l (pc := 9) C rfl dX8_fill_9 ?_
  refine g_lconst (pc := 10) C (v := 1) rfl dX8_fill_10 ?_
  refine g_ldc2 (pc := 11) C zk8_197 dX8_fill_11 ?_
  refine g_S3v (pc := 14) C ls8_37 dX8_fill_14 (s8_inN q 1 30 (by decide) (by decide) hq (by decide)) (by decide) (Nat.le_of_ble_eq_true rfl) ?_
  refine g_if_neN (pc := 17) C 23 dX8_fill_17 (by decide) (by decide) (fun _ => ?_) (fun q => absurd q (by decide))
  refine g_aload_n (pc := 23) C (hl := rfl) dX8_fill_23 ?_
  refine g_get (pc := 24) C fl8_7 dX8_fill_24 h0 rfl ?_
  refine g_bipush (pc := 27) C qk_bipush_27 dX8_fill_27 ?_
  refine g_iload_n (pc := 29) C (hl := rfl) dX8_fill_29 ?_
  refine g_iaddN (pc := 30) C dX8_fill_30 ?_
  refine g_ialdV (pc := 31) C dX8_fill_31 hW (by omega) (wT0_po T (by omega)) ?_
  refine g_iload_n (pc := 32) C (hl := rfl) dX8_fill_32 ?_
  refine g_iaddN (pc := 33) C dX8_fill_33 ?_
  refine g_bipush (pc := 34) C qk_bipush_99 dX8_fill_34 ?_
  refine g_ic_leN (pc := 36) C 42 dX8_fill_36 (by decide) (by omega) (fun _ => ?_) (fun q => absurd (by omega) q)
  refine g_aload_n (pc := 42) C (hl := rfl) dX8_fill_42 ?_
  refine g_V0u (pc := 43) C lv8_183 dX8_fill_43 (s8_minds h0 hW T hu) h0 (by decide) (Nat.le_of_ble_eq_true rfl) ?_
  refine g_aload_n (pc := 46) C (hl := rfl) dX8_fill_46 ?_
  refine g_get (pc := 47) C fl8_7 dX8_fill_47 (q_up_s _ _ _) rfl ?_
  refine g_bipush (pc := 50) C qk_bipush_27 dX8_fill_50 ?_
  refine g_iload_n (pc := 52) C (hl := rfl) dX8_fill_52 ?_
  refine g_iaddN (pc := 53) C dX8_fill_53 ?_
  refine g_dup2 (pc := 54) C rfl rfl dX8_fill_54 ?_
  refine g_ialdV (pc := 55) C dX8_fill_55 ((q_up_n _ _ (by decide)).trans (q_up_s _ _ _)) (by omega) (wT0_po (wMi_o hu (by omega) T) (by omega)) ?_
  refine g_iload_n (pc := 56) C (hl := rfl) dX8_fill_56 ?_
  refine g_iaddN (pc := 57) C dX8_fill_57 ?_
  refine g_iastV (pc := 58) C dX8_fill_58 ((q_up_n _ _ (by decide)).trans (q_up_s _ _ _)) (by omega) (wS0_po (wMi_o hu (by omega) T) (by omega)) ?_
  refine g_aload_n (pc := 59) C (hl := rfl) dX8_fill_59 ?_
  refine g_get (pc := 60) C fl8_7 dX8_fill_60 ((q_up_n _ _ (by decide)).trans (q_up_s _ _ _)) rfl ?_
  refine g_bipush (pc := 63) C qk_bipush_27 dX8_fill_63 ?_
  refine g_iload_n (pc := 65) C (hl := rfl) dX8_fill_65 ?_
  refine g_iaddN (pc := 66) C dX8_fill_66 ?_
  refine g_ialdV (pc := 67) C dX8_fill_67 (q_up_s _ _ _) (by omega) ((wT0_po (wT_put _ _ _ _) (by omega)).trans (va_up_self _ _ _)) ?_
  exact g_iret (pc := 68) C F dX8_fill_68 rfl rfl (rfl) (by first | (simp only [q_up_u, q_up_c _ (show (87 : Nat) ≠ 88 by decide)]; done) | (simp only [q_up_u, q_up_c _ (show (87 : Nat) ≠ 88 by decide)]; rfl) | rfl)
set_option maxHeartbeats 2000000 in
set_option maxRecDepth 20000 in
theorem s8_swaps_se {n : Nat} {h : q_H} {un ta fl st sa ne so di pu at_ er en pa tr g : Nat} {W : Nat → Nat} {x : mX} (y z : Nat) (h0 : h 87 = MO un ta fl st sa ne so di pu at_ er en pa tr) (hW : h 88 = WA W) (T : wT W 0 g x) (hu : un ≤ 24) (hy : y < 6) (hz : z < 6) (hyz : ¬ y = z) : SP 2 yX8_swaps cX8_swaps 5 (some .int) [.ref 87, .int (nI 21), .int (nI y), .int (nI z)] n h (some (.int (nI (x.1 (12 + z))))) (q_up (q_up h 88 (WA (wPut (wMi W un g x) 0 g (va_up (va_up x.1 (12 + y) (x.1 (12 + z))) (12 + z) (x.1 (12 + y)), x.2)))) 87 (MO (min (un + 1) 24) ta fl st sa ne so di pu at_ er en pa tr)) := by
  refine q_SPi RX8 rfl (by decide +kernel) (la := _) rfl rfl (fun Γ ad C F => ?_)
  refine g_aload_n (pc := 0) C (hl := rfl) dX8_swaps_0 ?_
  refine g_V0u (pc := 1) C lv8_183 dX8_swaps_1 (s8_minds h0 hW T hu) h0 (by decide) (Nat.le_of_ble_eq_true rfl) ?_
  refine g_aload_n (pc := 4) C (hl := rfl) dX8_swaps_4 ?_
  refine g_get (pc := 5) C fl8_7 dX8_swaps_5 (q_up_s _ _ _) rfl ?_
  refine g_iload_n (pc := 8) C (hl := rfl) dX8_swaps_8 ?_
  refine g_iload_n (pc := 9) C (hl := rfl) dX8_swaps_9 ?_
  refine g_iaddN (pc := 10) C dX8_swaps_10 ?_
  refine g_ialdV (pc := 11) C dX8_swaps_11 ((q_up_n _ _ (by decide)).trans (q_up_s _ _ _)) (by omega) (wT0_se (wMi_o hu (by omega) T) hy) ?_
  refine g_istore (pc := 12) C rfl dX8_swaps_12 ?_
  refine g_aload_n (pc := 14) C (hl := rfl) dX8_swaps_14 ?_
  refine g_get (pc := 15) C fl8_7 dX8_swaps_15 (q_up_s _ _ _) rfl ?_
  refine g_iload_n (pc := 18) C (hl := rfl) dX8_swaps_18 ?_
  refine g_iload_n (pc := 19) C (hl := rfl) dX8_swaps_19 ?_
  refine g_iaddN (pc := 20) C dX8_swaps_20 ?_
  refine g_aload_n (pc := 21) C (hl := rfl) dX8_swaps_21 ?_
  refine g_get (pc := 22) C fl8_7 dX8_swaps_22 (q_up_s _ _ _) rfl ?_
  refine g_iload_n (pc := 25) C (hl := rfl) dX8_swaps_25 ?_
  refine g_iload_n (pc := 26) C (hl := rfl) dX8_swaps_26 ?_
  refine g_iaddN (pc := 27) C dX8_swaps_27 ?_
  refine g_ialdV (pc := 28) C dX8_swaps_28 ((q_up_n _ _ (by decide)).trans (q_up_s _ _ _)) (by omega) (wT0_se (wMi_o hu (by omega) T) hz) ?_
  refine g_iastV (pc := 29) C dX8_swaps_29 ((q_up_n _ _ (by decide)).trans (q_up_s _ _ _)) (by omega) (wS0_se (wMi_o hu (by omega) T) hy) ?_
  refine g_aload_n (pc := 30) C (hl := rfl) dX8_swaps_30 ?_
  refine g_get (pc := 31) C fl8_7 dX8_swaps_31 ((q_up_n _ _ (by decide)).trans (q_up_s _ _ _)) rfl ?_
  refine g_iload_n (pc := 34) C (hl := rfl) dX8_swaps_34 ?_
  refine g_iload_n (pc := 35) C (hl := rfl) dX8_swaps_35 ?_
  refine g_iaddN (pc := 36) C dX8_swaps_36 ?_
  refine g_iload (pc := 37) C (hl := rfl) dX8_swaps_37 ?_
  refine g_iastV (pc := 39) C dX8_swaps_39 (q_up_s _ _ _) (by omega) ((wS0_se (wT_put _ _ _ _) hz).trans (wPut_put _ _ _ _ _ _)) ?_
  refine g_aload_n (pc := 40) C (hl := rfl) dX8_swaps_40 ?_
  refine g_get (pc := 41) C fl8_7 dX8_swaps_41 ((q_up_n _ _ (by decide)).trans ((q_up_n _ _ (by decide)).trans (q_up_s _ _ _))) rfl ?_
  refine g_iload_n (pc := 44) C (hl := rfl) dX8_swaps_44 ?_
  refine g_iload_n (pc := 45) C (hl := rfl) dX8_swaps_45 ?_
  refine g_iaddN (pc := 46) C dX8_swaps_46 ?_
  refine g_ialdV (pc := 47) C dX8_swaps_47 (q_up_s _ _ _) (by omega) ((wT0_se (wT_put _ _ _ _) hy).trans (va_up_n (by omega))) ?_
  exact g_iret (pc := 48) C F dX8_swaps_48 rfl rfl (by show some (Value.int (nI (va_up x.1 (12 + y) (x.1 (12 + z)) (12 + y)))) = _; rw [va_up_self]) (by first | (simp only [q_up_u, q_up_c _ (show (87 : Nat) ≠ 88 by decide)]; done) | (simp only [q_up_u, q_up_c _ (show (87 : Nat) ≠ 88 by decide)]; rfl) | rfl)
set_option maxHeartbeats 2000000 in
set_option maxRecDepth 20000 in
theorem s8_swaps_sl {n : Nat} {h : q_H} {un ta fl st sa ne so di pu at_ er en pa tr g : Nat} {W : Nat → Nat} {x : mX} (y z : Nat) (h0 : h 87 = MO un ta fl st sa ne so di pu at_ er en pa tr) (hW : h 88 = WA W) (T : wT W 0 g x) (hu : un ≤ 24) (hy : y < 6) (hz : z < 6) (hyz : ¬ y = z) : SP 2 yX8_swaps cX8_swaps 5 (some .int) [.ref 87, .int (nI 33), .int (nI y), .int (nI z)] n h (some (.int (nI (x.1 (30 + z))))) (q_up (q_up h 88 (WA (wPut (wMi W un g x) 0 g (va_up (va_up x.1 (30 + y) (x.1 (30 + z))) (30 + z) (x.1 (30 + y)), x.2)))) 87 (MO (min (un + 1) 24) ta fl st sa ne so di pu at_ er en pa tr)) := by
  refine q_SPi RX8 rfl (by decide +kernel) (la := _) rfl rfl (fun Γ ad C F => ?_)
  refine g_aload_n (pc := 0) C (hl := rfl) dX8_swaps_0 ?_
  refine g_V0u (pc := 1) C lv8_183 dX8_swaps_1 (s8_minds h0 hW T hu) h0 (by decide) (Nat.le_of_ble_eq_true rfl) ?_
  refine g_aload_n (pc := 4) C (hl := rfl) dX8_swaps_4 ?_
  refine g_get (pc := 5) C fl8_7 dX8_swaps_5 (q_up_s _ _ _) rfl ?_
  refine g_iload_n (pc := 8) C (hl := rfl) dX8_swaps_8 ?_
  refine g_iload_n (pc := 9) C (hl := rfl) dX8_swaps_9 ?_
  refine g_iaddN (pc := 10) C dX8_swaps_10 ?_
  refine g_ialdV (pc := 11) C dX8_swaps_11 ((q_up_n _ _ (by decide)).trans (q_up_s _ _ _)) (by omega) (wT0_sl (wMi_o hu (by omega) T) hy) ?_
  refine g_istore (pc := 12) C rfl dX8_swaps_12 ?_
  refine g_aload_n (pc := 14) C (hl := rfl) dX8_swaps_14 ?_
  refine g_get (pc := 15) C fl8_7 dX8_swaps_15 (q_up_s _ _ _) rfl ?_
  refine g_iload_n (pc := 18) C (hl := rfl) dX8_swaps_18 ?_
  refine g_iload_n (pc := 19) C (hl := rfl) dX8_swaps_19 ?_
  refine g_iaddN (pc := 20) C dX8_swaps_20 ?_
  refine g_aload_n (pc := 21) C (hl := rfl) dX8_swaps_21 ?_
  refine g_get (pc := 22) C fl8_7 dX8_swaps_22 (q_up_s _ _ _) rfl ?_
  refine g_iload_n (pc := 25) C (hl := rfl) dX8_swaps_25 ?_
  refine g_iload_n (pc := 26) C (hl := rfl) dX8_swaps_26 ?_
  refine g_iaddN (pc := 27) C dX8_swaps_27 ?_
  refine g_ialdV (pc := 28) C dX8_swaps_28 ((q_up_n _ _ (by decide)).trans (q_up_s _ _ _)) (by omega) (wT0_sl (wMi_o hu (by omega) T) hz) ?_
  refine g_iastV (pc := 29) C dX8_swaps_29 ((q_up_n _ _ (by decide)).trans (q_up_s _ _ _)) (by omega) (wS0_sl (wMi_o hu (by omega) T) hy) ?_
  refine g_aload_n (pc := 30) C (hl := rfl) dX8_swaps_30 ?_
  refine g_get (pc := 31) C fl8_7 dX8_swaps_31 ((q_up_n _ _ (by decide)).trans (q_up_s _ _ _)) rfl ?_
  refine g_iload_n (pc := 34) C (hl := rfl) dX8_swaps_34 ?_
  refine g_iload_n (pc := 35) C (hl := rfl) dX8_swaps_35 ?_
  refine g_iaddN (pc := 36) C dX8_swaps_36 ?_
  refine g_iload (pc := 37) C (hl := rfl) dX8_swaps_37 ?_
  refine g_iastV (pc := 39) C dX8_swaps_39 (q_up_s _ _ _) (by omega) ((wS0_sl (wT_put _ _ _ _) hz).trans (wPut_put _ _ _ _ _ _)) ?_
  refine g_aload_n (pc := 40) C (hl := rfl) dX8_swaps_40 ?_
  refine g_get (pc := 41) C fl8_7 dX8_swaps_41 ((q_up_n _ _ (by decide)).trans ((q_up_n _ _ (by decide)).trans (q_up_s _ _ _))) rfl ?_
  refine g_iload_n (pc := 44) C (hl := rfl) dX8_swaps_44 ?_
  refine g_iload_n (pc := 45) C (hl := rfl) dX8_swaps_45 ?_
  refine g_iaddN (pc := 46) C dX8_swaps_46 ?_
  refine g_ialdV (pc := 47) C dX8_swaps_47 (q_up_s _ _ _) (by omega) ((wT0_sl (wT_put _ _ _ _) hy).trans (va_up_n (by omega))) ?_
  exact g_iret (pc := 48) C F dX8_swaps_48 rfl rfl (by show some (Value.int (nI (va_up x.1 (30 + y) (x.1 (30 + z)) (30 + y)))) = _; rw [va_up_self]) (by first | (simp only [q_up_u, q_up_c _ (show (87 : Nat) ≠ 88 by decide)]; done) | (simp only [q_up_u, q_up_c _ (show (87 : Nat) ≠ 88 by decide)]; rfl) | rfl)
set_option maxHeartbeats 2000000 in
set_option maxRecDepth 20000 in
theorem s8_changeB {n : Nat} {h : q_H} {un ta fl st sa ne so di pu at_ er en pa tr g : Nat} {W : Nat → Nat} {x : mX} (y z : Int32) (h0 : h 87 = MO un ta fl st sa ne so di pu at_ er en pa tr) (hW : h 88 = WA W) (T : wT W 0 g x) (hg : g ≤ 6) (hb : (y < 0 ∨ nI g ≤ y) ∨ (z < 0 ∨ nI g ≤ z) ∨ y = z) : SP 3 yX8_change cX8_change 3 (some .int) [.ref 87, .int y, .int z] n h (some (.int (-1000001))) h := by
  refine q_SPi RX8 rfl (by decide +kernel) (la := _) rfl rfl (fun Γ ad C F => ?_)
  have hg0 : W 0 = g ∧ g ≤ 6 := ⟨wT0_n T, hg⟩
  refine g_aload_n (pc := 0) C (hl := rfl) dX8_change_0 ?_
  refine g_iload_n (pc := 1) C (hl := rfl) dX8_change_1 ?_
  by_cases cy : y < 0 ∨ nI g ≤ y
  · refine g_V1v (pc := 2) C lv8_194 dX8_change_2 (s8_oneF y h0 hW hg0 cy) h0 (by decide) (Nat.le_of_ble_eq_true rfl) ?_
    refine g_if_eqN (pc := 5) C 32 dX8_change_5 (by decide) (by decide) (fun _ => ?_) (fun q => absurd q (by decide))
    refine g_ldc (pc := 32) C (v := -1000001) zk8_52 dX8_change_32 ?_
    exact g_iret (pc := 34) C F dX8_change_34 rfl rfl (rfl) (rfl)
  · refine g_V1v (pc := 2) C lv8_194 dX8_change_2 (s8_oneU y h0 hW hg0 cy) h0 (by decide) (Nat.le_of_ble_eq_true rfl) ?_
    refine g_if_eqN (pc := 5) C 32 dX8_change_5 (by decide) (by decide) (fun q => absurd q (by decide)) (fun _ => ?_)
    refine g_aload_n (pc := 8) C (hl := rfl) dX8_change_8 ?_
    refine g_iload_n (pc := 9) C (hl := rfl) dX8_change_9 ?_
    by_cases cz : z < 0 ∨ nI g ≤ z
    · refine g_V1v (pc := 10) C lv8_194 dX8_change_10 (s8_oneF z h0 hW hg0 cz) h0 (by decide) (Nat.le_of_ble_eq_true rfl) ?_
      refine g_if_eqN (pc := 13) C 32 dX8_change_13 (by decide) (by decide) (fun _ => ?_) (fun q => absurd q (by decide))
      refine g_ldc (pc := 32) C (v := -1000001) zk8_52 dX8_change_32 ?_
      exact g_iret (pc := 34) C F dX8_change_34 rfl rfl (rfl) (rfl)
    · refine g_V1v (pc := 10) C lv8_194 dX8_change_10 (s8_oneU z h0 hW hg0 cz) h0 (by decide) (Nat.le_of_ble_eq_true rfl) ?_
      refine g_if_eqN (pc := 13) C 32 dX8_change_13 (by decide) (by decide) (fun q => absurd q (by decide)) (fun _ => ?_)
      refine g_iload_n (pc := 16) C (hl := rfl) dX8_change_16 ?_
      refine g_iload_n (pc := 17) C (hl := rfl) dX8_change_17 ?_
      refine g_ic_eq (pc := 18) C 32 dX8_change_18 (by decide) (fun c18 => ?_) (fun c18 => ?_)
      · refine g_ldc (pc := 32) C (v := -1000001) zk8_52 dX8_change_32 ?_
        exact g_iret (pc := 34) C F dX8_change_34 rfl rfl (rfl) (rfl)
      · exact absurd hb (fun q => q.elim cy (fun q => q.elim cz c18))
set_option maxHeartbeats 2000000 in
set_option maxRecDepth 20000 in
theorem s8_changeT {n : Nat} {h : q_H} {un ta fl st sa ne so di pu at_ er en pa tr g : Nat} {W : Nat → Nat} {x : mX} (y z : Nat) (h0 : h 87 = MO un ta fl st sa ne so di pu at_ er en pa tr) (hW : h 88 = WA W) (T : wT W 0 g x) (hu : un ≤ 24) (hg : 0 < g ∧ g ≤ 6) (hy : y < g) (hz : z < g) (hne : ¬ y = z) : SP 3 yX8_change cX8_change 3 (some .int) [.ref 87, .int (nI y), .int (nI z)] n h (some (.int (nI (x.1 (12 + z))))) (q_up (q_up h 88 (WA (wPut (wMi W un g x) 0 g (va_up (va_up x.1 (12 + y) (x.1 (12 + z))) (12 + z) (x.1 (12 + y)), x.2)))) 87 (MO (min (un + 1) 24) ta fl st sa ne so di pu at_ er en pa tr)) := by
  refine q_SPi RX8 rfl (by decide +kernel) (la := _) rfl rfl (fun Γ ad C F => ?_)
  have hg0 : W 0 = g ∧ g ≤ 6 := ⟨wT0_n T, hg.2⟩
  refine g_aload_n (pc := 0) C (hl := rfl) dX8_change_0 ?_
  refine g_iload_n (pc := 1) C (hl := rfl) dX8_change_1 ?_
  refine g_V1v (pc := 2) C lv8_194 dX8_change_2 (s8_oneN y h0 hW hg0 hy) h0 (by decide) (Nat.le_of_ble_eq_true rfl) ?_
  refine g_if_eqN (pc := 5) C 32 dX8_change_5 (by decide) (by decide) (fun q => absurd q (by decide)) (fun _ => ?_)
  refine g_aload_n (pc := 8) C (hl := rfl) dX8_change_8 ?_
  refine g_iload_n (pc := 9) C (hl := rfl) dX8_change_9 ?_
  refine g_V1v (pc := 10) C lv8_194 dX8_change_10 (s8_oneN z h0 hW hg0 hz) h0 (by decide) (Nat.le_of_ble_eq_true rfl) ?_
  refine g_if_eqN (pc := 13) C 32 dX8_change_13 (by decide) (by decide) (fun q => absurd q (by decide)) (fun _ => ?_)
  refine g_iload_n (pc := 16) C (hl := rfl) dX8_change_16 ?_
  refine g_iload_n (pc := 17) C (hl := rfl) dX8_change_17 ?_
  refine g_ic_eqN (pc := 18) C 32 dX8_change_18 (by decide) (by omega) (fun q => absurd q (hne)) (fun _ => ?_)
  refine g_aload_n (pc := 21) C (hl := rfl) dX8_change_21 ?_
  refine g_bipush (pc := 22) C qk_bipush_21 dX8_change_22 ?_
  refine g_iload_n (pc := 24) C (hl := rfl) dX8_change_24 ?_
  refine g_iload_n (pc := 25) C (hl := rfl) dX8_change_25 ?_
  refine g_V3v (pc := 26) C lv8_199 dX8_change_26 (s8_swaps_se y z h0 hW T hu (by omega) (by omega) hne) h0 (by decide) (Nat.le_of_ble_eq_true rfl) ?_
  refine g_goto (pc := 29) C 34 dX8_change_29 (by decide) ?_
  exact g_iret (pc := 34) C F dX8_change_34 rfl rfl (rfl) (rfl)
set_option maxHeartbeats 2000000 in
set_option maxRecDepth 20000 in
theorem s8_layB {n : Nat} {h : q_H} {un ta fl st sa ne so di pu at_ er en pa tr g : Nat} {W : Nat → Nat} {x : mX} (y z : Int32) (h0 : h 87 = MO un ta fl st sa ne so di pu at_ er en pa tr) (hW : h 88 = WA W) (T : wT W 0 g x) (hg : g ≤ 6) (hb : (y < 0 ∨ nI g ≤ y) ∨ (z < 0 ∨ nI g ≤ z) ∨ y = z) : SP 3 yX8_lay cX8_lay 3 (some .int) [.ref 87, .int y, .int z] n h (some (.int (-1000001))) h := by
  refine q_SPi RX8 rfl (by decide +kernel) (la := _) rfl rfl (fun Γ ad C F => ?_)
  have hg0 : W 0 = g ∧ g ≤ 6 := ⟨wT0_n T, hg⟩
  refine g_aload_n (pc := 0) C (hl := rfl) dX8_lay_0 ?_
  refine g_iload_n (pc := 1) C (hl := rfl) dX8_lay_1 ?_
  by_cases cy : y < 0 ∨ nI g ≤ y
  · refine g_V1v (pc := 2) C lv8_194 dX8_lay_2 (s8_oneF y h0 hW hg0 cy) h0 (by decide) (Nat.le_of_ble_eq_true rfl) ?_
    refine g_if_eqN (pc := 5) C 32 dX8_lay_5 (by decide) (by decide) (fun _ => ?_) (fun q => absurd q (by decide))
    refine g_ldc (pc := 32) C (v := -1000001) zk8_52 dX8_lay_32 ?_
    exact g_iret (pc := 34) C F dX8_lay_34 rfl rfl (rfl) (rfl)
  · refine g_V1v (pc := 2) C lv8_194 dX8_lay_2 (s8_oneU y h0 hW hg0 cy) h0 (by decide) (Nat.le_of_ble_eq_true rfl) ?_
    refine g_if_eqN (pc := 5) C 32 dX8_lay_5 (by decide) (by decide) (fun q => absurd q (by decide)) (fun _ => ?_)
    refine g_aload_n (pc := 8) C (hl := rfl) dX8_lay_8 ?_
    refine g_iload_n (pc := 9) C (hl := rfl) dX8_lay_9 ?_
    by_cases cz : z < 0 ∨ nI g ≤ z
    · refine g_V1v (pc := 10) C lv8_194 dX8_lay_10 (s8_oneF z h0 hW hg0 cz) h0 (by decide) (Nat.le_of_ble_eq_true rfl) ?_
      refine g_if_eqN (pc := 13) C 32 dX8_lay_13 (by decide) (by decide) (fun _ => ?_) (fun q => absurd q (by decide))
      refine g_ldc (pc := 32) C (v := -1000001) zk8_52 dX8_lay_32 ?_
      exact g_iret (pc := 34) C F dX8_lay_34 rfl rfl (rfl) (rfl)
    · refine g_V1v (pc := 10) C lv8_194 dX8_lay_10 (s8_oneU z h0 hW hg0 cz) h0 (by decide) (Nat.le_of_ble_eq_true rfl) ?_
      refine g_if_eqN (pc := 13) C 32 dX8_lay_13 (by decide) (by decide) (fun q => absurd q (by decide)) (fun _ => ?_)
      refine g_iload_n (pc := 16) C (hl := rfl) dX8_lay_16 ?_
      refine g_iload_n (pc := 17) C (hl := rfl) dX8_lay_17 ?_
      refine g_ic_eq (pc := 18) C 32 dX8_lay_18 (by decide) (fun c18 => ?_) (fun c18 => ?_)
      · refine g_ldc (pc := 32) C (v := -1000001) zk8_52 dX8_lay_32 ?_
        exact g_iret (pc := 34) C F dX8_lay_34 rfl rfl (rfl) (rfl)
      · exact absurd hb (fun q => q.elim cy (fun q => q.elim cz c18))
set_option maxHeartbeats 2000000 in
set_option maxRecDepth 20000 in
theorem s8_layT {n : Nat} {h : q_H} {un ta fl st sa ne so di pu at_ er en pa tr g : Nat} {W : Nat → Nat} {x : mX} (y z : Nat) (h0 : h 87 = MO un ta fl st sa ne so di pu at_ er en pa tr) (hW : h 88 = WA W) (T : wT W 0 g x) (hu : un ≤ 24) (hg : 0 < g ∧ g ≤ 6) (hy : y < g) (hz : z < g) (hne : ¬ y = z) : SP 3 yX8_lay cX8_lay 3 (some .int) [.ref 87, .int (nI y), .int (nI z)] n h (some (.int (nI (x.1 (30 + z))))) (q_up (q_up h 88 (WA (wPut (wMi W un g x) 0 g (va_up (va_up x.1 (30 + y) (x.1 (30 + z))) (30 + z) (x.1 (30 + y)), x.2)))) 87 (MO (min (un + 1) 24) ta fl st sa ne so di pu at_ er en pa tr)) := by
  refine q_SPi RX8 rfl (by decide +kernel) (la := _) rfl rfl (fun Γ ad C F => ?_)
  have hg0 : W 0 = g ∧ g ≤ 6 := ⟨wT0_n T, hg.2⟩
  refine g_aload_n (pc := 0) C (hl := rfl) dX8_lay_0 ?_
  refine g_iload_n (pc := 1) C (hl := rfl) dX8_lay_1 ?_
  refine g_V1v (pc := 2) C lv8_194 dX8_lay_2 (s8_oneN y h0 hW hg0 hy) h0 (by decide) (Nat.le_of_ble_eq_true rfl) ?_
  refine g_if_eqN (pc := 5) C 32 dX8_lay_5 (by decide) (by decide) (fun q => absurd q (by decide)) (fun _ => ?_)
  refine g_aload_n (pc := 8) C (hl := rfl) dX8_lay_8 ?_
  refine g_iload_n (pc := 9) C (hl := rfl) dX8_lay_9 ?_
  refine g_V1v (pc := 10) C lv8_194 dX8_lay_10 (s8_oneN z h0 hW hg0 hz) h0 (by decide) (Nat.le_of_ble_eq_true rfl) ?_
  refine g_if_eqN (pc := 13) C 32 dX8_lay_13 (by decide) (by decide) (fun q => absurd q (by decide)) (fun _ => ?_)
  refine g_iload_n (pc := 16) C (hl := rfl) dX8_lay_16 ?_
  refine g_iload_n (pc := 17) C (hl := rfl) dX8_lay_17 ?_
  refine g_ic_eqN (pc := 18) C 32 dX8_lay_18 (by decide) (by omega) (fun q => absurd q (hne)) (fun _ => ?_)
  refine g_aload_n (pc := 21) C (hl := rfl) dX8_lay_21 ?_
  refine g_bipush (pc := 22) C qk_bipush_33 dX8_lay_22 ?_
  refine g_iload_n (pc := 24) C (hl := rfl) dX8_lay_24 ?_
  refine g_iload_n (pc := 25) C (hl := rfl) dX8_lay_25 ?_
  refine g_V3v (pc := 26) C lv8_199 dX8_lay_26 (s8_swaps_sl y z h0 hW T hu (by omega) (by omega) hne) h0 (by decide) (Nat.le_of_ble_eq_true rfl) ?_
  refine g_goto (pc := 29) C 34 dX8_lay_29 (by decide) ?_
  exact g_iret (pc := 34) C F dX8_lay_34 rfl rfl (rfl) (rfl)
set_option maxHeartbeats 2000000 in
set_option maxRecDepth 20000 in
theorem s8_undoN {n : Nat} {h : q_H} {un ta fl st sa ne so di pu at_ er en pa tr g : Nat} {W : Nat → Nat} {x : mX} (h0 : h 87 = MO un ta fl st sa ne so di pu at_ er en pa tr) (hW : h 88 = WA W) (hk : un = 0) : SP 3 yX8_undo cX8_undo 1 (some .int) [.ref 87] n h (some (.int (-1000002))) h := by
  refine q_SPi RX8 rfl (by decide +kernel) (la := _) rfl rfl (fun Γ ad C F => ?_)
  refine g_aload_n (pc := 0) C (hl := rfl) dX8_undo_0 ?_
  refine g_get (pc := 1) C fl8_146 dX8_undo_1 h0 rfl ?_
  refine g_if_neN (pc := 4) C 10 dX8_undo_4 (by decide) (by omega) (fun q => absurd q (fun z => z hk)) (fun _ => ?_)
  refine g_ldc (pc := 7) C (v := -1000002) zk8_180 dX8_undo_7 ?_
  exact g_iret (pc := 9) C F dX8_undo_9 rfl rfl (rfl) (rfl)
set_option maxHeartbeats 2000000 in
set_option maxRecDepth 20000 in
theorem s8_undoT {n : Nat} {h : q_H} {un ta fl st sa ne so di pu at_ er en pa tr g : Nat} {W : Nat → Nat} {x : mX} (h0 : h 87 = MO un ta fl st sa ne so di pu at_ er en pa tr) (hW : h 88 = WA W) (T : wT W (117 + 39 * (un - 1)) g x) (hk : 0 < un ∧ un ≤ 24) : SP 3 yX8_undo cX8_undo 1 (some .int) [.ref 87] n h (some (.int (nI (un - 1)))) (q_up (q_up h 88 (WA (wPut W 0 g x))) 87 (MO (un - 1) ta fl st sa ne so di pu at_ er en pa tr)) := by
  refine q_SPi RX8 rfl (by decide +kernel) (la := _) rfl rfl (fun Γ ad C F => ?_)
  refine g_aload_n (pc := 0) C (hl := rfl) dX8_undo_0 ?_
  refine g_get (pc := 1) C fl8_146 dX8_undo_1 h0 rfl ?_
  refine g_if_neN (pc := 4) C 10 dX8_undo_4 (by decide) (by omega) (fun _ => ?_) (fun q => absurd q (by omega))
  refine g_aload_n (pc := 10) C (hl := rfl) dX8_undo_10 ?_
  refine g_dup (pc := 11) C rfl dX8_undo_11 ?_
  refine g_get (pc := 12) C fl8_146 dX8_undo_12 h0 rfl ?_
  refine g_iconst (pc := 15) C qk_iconst_1 dX8_undo_15 ?_
  refine g_isubN (pc := 16) C dX8_undo_16 (by omega) ?_
  refine g_put (pc := 17) C fp8_146 dX8_undo_17 h0 (Nat.le_of_ble_eq_true rfl) ?_
  refine g_aload_n (pc := 20) C (hl := rfl) dX8_undo_20 ?_
  refine g_bipush (pc := 21) C qk_bipush_117 dX8_undo_21 ?_
  refine g_bipush (pc := 23) C qk_bipush_39 dX8_undo_23 ?_
  refine g_aload_n (pc := 25) C (hl := rfl) dX8_undo_25 ?_
  refine g_get (pc := 26) C fl8_146 dX8_undo_26 (q_up_s _ _ _) rfl ?_
  refine g_imulN (pc := 29) C dX8_undo_29 ?_
  refine g_iaddN (pc := 30) C dX8_undo_30 ?_
  refine g_iconst (pc := 31) C qk_iconst_0 dX8_undo_31 ?_
  refine g_V2u (pc := 32) C lv8_142 dX8_undo_32 (s8_copyRow (r := 0) (q_up_s _ _ _) ((q_up_n _ _ (by decide)).trans hW) T (by omega) (by omega)) (q_up_s _ _ _) (by decide) (Nat.le_of_ble_eq_true rfl) ?_
  refine g_aload_n (pc := 35) C (hl := rfl) dX8_undo_35 ?_
  refine g_get (pc := 36) C fl8_146 dX8_undo_36 ((q_up_n _ _ (by decide)).trans (q_up_s _ _ _)) rfl ?_
  exact g_iret (pc := 39) C F dX8_undo_39 rfl rfl (rfl) (by first | (simp only [q_up_u, q_up_c _ (show (87 : Nat) ≠ 88 by decide)]; done) | (simp only [q_up_u, q_up_c _ (show (87 : Nat) ≠ 88 by decide)]; rfl) | rfl)
set_option maxHeartbeats 2000000 in
set_option maxRecDepth 20000 in
theorem s8_guestB {n : Nat} {h : q_H} {un ta fl st sa ne so di pu at_ er en pa tr g : Nat} {W : Nat → Nat} {x : mX} (z k : Int32) (h0 : h 87 = MO un ta fl st sa ne so di pu at_ er en pa tr) (hW : h 88 = WA W) (T : wT W 0 g x) (hg : g ≤ 6) (hb : (z < 0 ∨ nI g ≤ z) ∨ (k < nI 0 ∨ nI 3 < k)) : SP 3 yX8_guest cX8_guest 3 (some .int) [.ref 87, .int z, .int k] n h (some (.int (-1000001))) h := by
  refine q_SPi RX8 rfl (by decide +kernel) (la := _) rfl rfl (fun Γ ad C F => ?_)
  have hg0 : W 0 = g ∧ g ≤ 6 := ⟨wT0_n T, hg⟩
  refine g_aload_n (pc := 0) C (hl := rfl) dX8_guest_0 ?_
  refine g_iload_n (pc := 1) C (hl := rfl) dX8_guest_1 ?_
  by_cases cz : z < 0 ∨ nI g ≤ z
  · refine g_V1v (pc := 2) C lv8_194 dX8_guest_2 (s8_oneF z h0 hW hg0 cz) h0 (by decide) (Nat.le_of_ble_eq_true rfl) ?_
    refine g_if_eqN (pc := 5) C 20 dX8_guest_5 (by decide) (by decide) (fun _ => ?_) (fun q => absurd q (by decide))
    refine g_ldc (pc := 20) C (v := -1000001) zk8_52 dX8_guest_20 ?_
    exact g_iret (pc := 22) C F dX8_guest_22 rfl rfl (rfl) (rfl)
  · refine g_V1v (pc := 2) C lv8_194 dX8_guest_2 (s8_oneU z h0 hW hg0 cz) h0 (by decide) (Nat.le_of_ble_eq_true rfl) ?_
    refine g_if_eqN (pc := 5) C 20 dX8_guest_5 (by decide) (by decide) (fun q => absurd q (by decide)) (fun _ => ?_)
    refine g_iload_n (pc := 8) C (hl := rfl) dX8_guest_8 ?_
    refine g_i2l (pc := 9) C rfl dX8_guest_9 ?_
    refine g_lconst (pc := 10) C (v := 0) rfl dX8_guest_10 ?_
    refine g_ldc2 (pc := 11) C zk8_203 dX8_guest_11 ?_
    by_cases ck : k < (nI 0) ∨ (nI 3) < k
    · refine g_S3v (pc := 14) C ls8_37 dX8_guest_14 (s8_inF k (nI 0) (nI 3) (by decide) (by decide) ck) (by decide) (Nat.le_of_ble_eq_true rfl) ?_
      refine g_if_neN (pc := 17) C 23 dX8_guest_17 (by decide) (by decide) (fun q => absurd q (by decide)) (fun _ => ?_)
      refine g_ldc (pc := 20) C (v := -1000001) zk8_52 dX8_guest_20 ?_
      exact g_iret (pc := 22) C F dX8_guest_22 rfl rfl (rfl) (rfl)
    · refine g_S3v (pc := 14) C ls8_37 dX8_guest_14 (s8_inT k (nI 0) (nI 3) (by decide) (by decide) ck) (by decide) (Nat.le_of_ble_eq_true rfl) ?_
      refine g_if_neN (pc := 17) C 23 dX8_guest_17 (by decide) (by decide) (fun _ => ?_) (fun q => absurd q (by decide))
      exact absurd hb (fun q => q.elim cz ck)
set_option maxHeartbeats 2000000 in
set_option maxRecDepth 20000 in
theorem s8_guest0 {n : Nat} {h : q_H} {un ta fl st sa ne so di pu at_ er en pa tr g : Nat} {W : Nat → Nat} {x : mX} (z : Nat) (h0 : h 87 = MO un ta fl st sa ne so di pu at_ er en pa tr) (hW : h 88 = WA W) (T : wT W 0 g x) (hg : 0 < g ∧ g ≤ 6) (hz : z < g) : SP 3 yX8_guest cX8_guest 3 (some .int) [.ref 87, .int (nI z), .int (nI 0)] n h (some (.int (nI (x.1 (12 + z))))) h := by
  refine q_SPi RX8 rfl (by decide +kernel) (la := _) rfl rfl (fun Γ ad C F => ?_)
  have hg0 : W 0 = g ∧ g ≤ 6 := ⟨wT0_n T, hg.2⟩
  refine g_aload_n (pc := 0) C (hl := rfl) dX8_guest_0 ?_
  refine g_iload_n (pc := 1) C (hl := rfl) dX8_guest_1 ?_
  refine g_V1v (pc := 2) C lv8_194 dX8_guest_2 (s8_oneN z h0 hW hg0 hz) h0 (by decide) (Nat.le_of_ble_eq_true rfl) ?_
  refine g_if_eqN (pc := 5) C 20 dX8_guest_5 (by decide) (by decide) (fun q => absurd q (by decide)) (fun _ => ?_)
  refine g_iload_n (pc := 8) C (hl := rfl) dX8_guest_8 ?_
  refine g_i2l (pc := 9) C rfl dX8_guest_9 ?_
  refine g_lconst (pc := 10) C (v := 0) rfl dX8_guest_10 ?_
  refine g_ldc2 (pc := 11) C zk8_203 dX8_guest_11 ?_
  refine g_S3v (pc := 14) C ls8_37 dX8_guest_14 (s8_inN 0 0 3 (by decide) (by decide) (by omega) (by decide)) (by decide) (Nat.le_of_ble_eq_true rfl) ?_
  refine g_if_neN (pc := 17) C 23 dX8_guest_17 (by decide) (by decide) (fun _ => ?_) (fun q => absurd q (by decide))
  refine g_iload_n (pc := 23) C (hl := rfl) dX8_guest_23 ?_
  refine g_if_neN (pc := 24) C 39 dX8_guest_24 (by decide) (by decide) (fun q => absurd q (by decide)) (fun _ => ?_)
  refine g_aload_n (pc := 27) C (hl := rfl) dX8_guest_27 ?_
  refine g_get (pc := 28) C fl8_7 dX8_guest_28 h0 rfl ?_
  refine g_bipush (pc := 31) C qk_bipush_21 dX8_guest_31 ?_
  refine g_iload_n (pc := 33) C (hl := rfl) dX8_guest_33 ?_
  refine g_iaddN (pc := 34) C dX8_guest_34 ?_
  refine g_ialdV (pc := 35) C dX8_guest_35 hW (by omega) (wT0_se T (by omega)) ?_
  refine g_goto (pc := 36) C 79 dX8_guest_36 (by decide) ?_
  exact g_iret (pc := 79) C F dX8_guest_79 rfl rfl (rfl) (rfl)
set_option maxHeartbeats 2000000 in
set_option maxRecDepth 20000 in
theorem s8_guest1 {n : Nat} {h : q_H} {un ta fl st sa ne so di pu at_ er en pa tr g : Nat} {W : Nat → Nat} {x : mX} (z : Nat) (h0 : h 87 = MO un ta fl st sa ne so di pu at_ er en pa tr) (hW : h 88 = WA W) (T : wT W 0 g x) (hg : 0 < g ∧ g ≤ 6) (hz : z < g) : SP 3 yX8_guest cX8_guest 3 (some .int) [.ref 87, .int (nI z), .int (nI 1)] n h (some (.int (nI (x.1 (6 + z))))) h := by
  refine q_SPi RX8 rfl (by decide +kernel) (la := _) rfl rfl (fun Γ ad C F => ?_)
  have hg0 : W 0 = g ∧ g ≤ 6 := ⟨wT0_n T, hg.2⟩
  refine g_aload_n (pc := 0) C (hl := rfl) dX8_guest_0 ?_
  refine g_iload_n (pc := 1) C (hl := rfl) dX8_guest_1 ?_
  refine g_V1v (pc := 2) C lv8_194 dX8_guest_2 (s8_oneN z h0 hW hg0 hz) h0 (by decide) (Nat.le_of_ble_eq_true rfl) ?_
  refine g_if_eqN (pc := 5) C 20 dX8_guest_5 (by decide) (by decide) (fun q => absurd q (by decide)) (fun _ => ?_)
  refine g_iload_n (pc := 8) C (hl := rfl) dX8_guest_8 ?_
  refine g_i2l (pc := 9) C rfl dX8_guest_9 ?_
  refine g_lconst (pc := 10) C (v := 0) rfl dX8_guest_10 ?_
  refine g_ldc2 (pc := 11) C zk8_203 dX8_guest_11 ?_
  refine g_S3v (pc := 14) C ls8_37 dX8_guest_14 (s8_inN 1 0 3 (by decide) (by decide) (by omega) (by decide)) (by decide) (Nat.le_of_ble_eq_true rfl) ?_
  refine g_if_neN (pc := 17) C 23 dX8_guest_17 (by decide) (by decide) (fun _ => ?_) (fun q => absurd q (by decide))
  refine g_iload_n (pc := 23) C (hl := rfl) dX8_guest_23 ?_
  refine g_if_neN (pc := 24) C 39 dX8_guest_24 (by decide) (by decide) (fun _ => ?_) (fun q => absurd q (by decide))
  refine g_iload_n (pc := 39) C (hl := rfl) dX8_guest_39 ?_
  refine g_iconst (pc := 40) C qk_iconst_1 dX8_guest_40 ?_
  refine g_ic_neN (pc := 41) C 56 dX8_guest_41 (by decide) (by decide) (fun q => absurd q (by decide)) (fun _ => ?_)
  refine g_aload_n (pc := 44) C (hl := rfl) dX8_guest_44 ?_
  refine g_get (pc := 45) C fl8_7 dX8_guest_45 h0 rfl ?_
  refine g_bipush (pc := 48) C qk_bipush_9 dX8_guest_48 ?_
  refine g_iload_n (pc := 50) C (hl := rfl) dX8_guest_50 ?_
  refine g_iaddN (pc := 51) C dX8_guest_51 ?_
  refine g_ialdV (pc := 52) C dX8_guest_52 hW (by omega) (wT0_wa T (by omega)) ?_
  refine g_goto (pc := 53) C 79 dX8_guest_53 (by decide) ?_
  exact g_iret (pc := 79) C F dX8_guest_79 rfl rfl (rfl) (rfl)
set_option maxHeartbeats 2000000 in
set_option maxRecDepth 20000 in
theorem s8_guest2 {n : Nat} {h : q_H} {un ta fl st sa ne so di pu at_ er en pa tr g : Nat} {W : Nat → Nat} {x : mX} (z : Nat) (h0 : h 87 = MO un ta fl st sa ne so di pu at_ er en pa tr) (hW : h 88 = WA W) (T : wT W 0 g x) (hg : 0 < g ∧ g ≤ 6) (hz : z < g) : SP 3 yX8_guest cX8_guest 3 (some .int) [.ref 87, .int (nI z), .int (nI 2)] n h (some (.int (nI (x.1 (18 + z))))) h := by
  refine q_SPi RX8 rfl (by decide +kernel) (la := _) rfl rfl (fun Γ ad C F => ?_)
  have hg0 : W 0 = g ∧ g ≤ 6 := ⟨wT0_n T, hg.2⟩
  refine g_aload_n (pc := 0) C (hl := rfl) dX8_guest_0 ?_
  refine g_iload_n (pc := 1) C (hl := rfl) dX8_guest_1 ?_
  refine g_V1v (pc := 2) C lv8_194 dX8_guest_2 (s8_oneN z h0 hW hg0 hz) h0 (by decide) (Nat.le_of_ble_eq_true rfl) ?_
  refine g_if_eqN (pc := 5) C 20 dX8_guest_5 (by decide) (by decide) (fun q => absurd q (by decide)) (fun _ => ?_)
  refine g_iload_n (pc := 8) C (hl := rfl) dX8_guest_8 ?_
  refine g_i2l (pc := 9) C rfl dX8_guest_9 ?_
  refine g_lconst (pc := 10) C (v := 0) rfl dX8_guest_10 ?_
  refine g_ldc2 (pc := 11) C zk8_203 dX8_guest_11 ?_
  refine g_S3v (pc := 14) C ls8_37 dX8_guest_14 (s8_inN 2 0 3 (by decide) (by decide) (by omega) (by decide)) (by decide) (Nat.le_of_ble_eq_true rfl) ?_
  refine g_if_neN (pc := 17) C 23 dX8_guest_17 (by decide) (by decide) (fun _ => ?_) (fun q => absurd q (by decide))
  refine g_iload_n (pc := 23) C (hl := rfl) dX8_guest_23 ?_
  refine g_if_neN (pc := 24) C 39 dX8_guest_24 (by decide) (by decide) (fun _ => ?_) (fun q => absurd q (by decide))
  refine g_iload_n (pc := 39) C (hl := rfl) dX8_guest_39 ?_
  refine g_iconst (pc := 40) C qk_iconst_1 dX8_guest_40 ?_
  refine g_ic_neN (pc := 41) C 56 dX8_guest_41 (by decide) (by decide) (fun _ => ?_) (fun q => absurd q (by decide))
  refine g_iload_n (pc := 56) C (hl := rfl) dX8_guest_56 ?_
  refine g_iconst (pc := 57) C qk_iconst_2 dX8_guest_57 ?_
  refine g_ic_neN (pc := 58) C 73 dX8_guest_58 (by decide) (by decide) (fun q => absurd q (by decide)) (fun _ => ?_)
  refine g_aload_n (pc := 61) C (hl := rfl) dX8_guest_61 ?_
  refine g_get (pc := 62) C fl8_7 dX8_guest_62 h0 rfl ?_
  refine g_bipush (pc := 65) C qk_bipush_15 dX8_guest_65 ?_
  refine g_iload_n (pc := 67) C (hl := rfl) dX8_guest_67 ?_
  refine g_iaddN (pc := 68) C dX8_guest_68 ?_
  refine g_ialdV (pc := 69) C dX8_guest_69 hW (by omega) (wT0_ea T (by omega)) ?_
  refine g_goto (pc := 70) C 79 dX8_guest_70 (by decide) ?_
  exact g_iret (pc := 79) C F dX8_guest_79 rfl rfl (rfl) (rfl)
set_option maxHeartbeats 2000000 in
set_option maxRecDepth 20000 in
theorem s8_guest3 {n : Nat} {h : q_H} {un ta fl st sa ne so di pu at_ er en pa tr g : Nat} {W : Nat → Nat} {x : mX} (z : Nat) (h0 : h 87 = MO un ta fl st sa ne so di pu at_ er en pa tr) (hW : h 88 = WA W) (T : wT W 0 g x) (hg : 0 < g ∧ g ≤ 6) (hz : z < g) (hv : mW g x) : SP 3 yX8_guest cX8_guest 3 (some .int) [.ref 87, .int (nI z), .int (nI 3)] n h (some (.int (nI (mDish x.1 g x.2.1 z)))) h := by
  refine q_SPi RX8 rfl (by decide +kernel) (la := _) rfl rfl (fun Γ ad C F => ?_)
  have hg0 : W 0 = g ∧ g ≤ 6 := ⟨wT0_n T, hg.2⟩
  refine g_aload_n (pc := 0) C (hl := rfl) dX8_guest_0 ?_
  refine g_iload_n (pc := 1) C (hl := rfl) dX8_guest_1 ?_
  refine g_V1v (pc := 2) C lv8_194 dX8_guest_2 (s8_oneN z h0 hW hg0 hz) h0 (by decide) (Nat.le_of_ble_eq_true rfl) ?_
  refine g_if_eqN (pc := 5) C 20 dX8_guest_5 (by decide) (by decide) (fun q => absurd q (by decide)) (fun _ => ?_)
  refine g_iload_n (pc := 8) C (hl := rfl) dX8_guest_8 ?_
  refine g_i2l (pc := 9) C rfl dX8_guest_9 ?_
  refine g_lconst (pc := 10) C (v := 0) rfl dX8_guest_10 ?_
  refine g_ldc2 (pc := 11) C zk8_203 dX8_guest_11 ?_
  refine g_S3v (pc := 14) C ls8_37 dX8_guest_14 (s8_inN 3 0 3 (by decide) (by decide) (by omega) (by decide)) (by decide) (Nat.le_of_ble_eq_true rfl) ?_
  refine g_if_neN (pc := 17) C 23 dX8_guest_17 (by decide) (by decide) (fun _ => ?_) (fun q => absurd q (by decide))
  refine g_iload_n (pc := 23) C (hl := rfl) dX8_guest_23 ?_
  refine g_if_neN (pc := 24) C 39 dX8_guest_24 (by decide) (by decide) (fun _ => ?_) (fun q => absurd q (by decide))
  refine g_iload_n (pc := 39) C (hl := rfl) dX8_guest_39 ?_
  refine g_iconst (pc := 40) C qk_iconst_1 dX8_guest_40 ?_
  refine g_ic_neN (pc := 41) C 56 dX8_guest_41 (by decide) (by decide) (fun _ => ?_) (fun q => absurd q (by decide))
  refine g_iload_n (pc := 56) C (hl := rfl) dX8_guest_56 ?_
  refine g_iconst (pc := 57) C qk_iconst_2 dX8_guest_57 ?_
  refine g_ic_neN (pc := 58) C 73 dX8_guest_58 (by decide) (by decide) (fun _ => ?_) (fun q => absurd q (by decide))
  refine g_aload_n (pc := 73) C (hl := rfl) dX8_guest_73 ?_
  refine g_iconst (pc := 74) C qk_iconst_0 dX8_guest_74 ?_
  refine g_iload_n (pc := 75) C (hl := rfl) dX8_guest_75 ?_
  refine g_V2v (pc := 76) C lv8_165 dX8_guest_76 (s8_dishBefore z h0 hW T (by decide) hv hz) h0 (by decide) (Nat.le_of_ble_eq_true rfl) ?_
  exact g_iret (pc := 79) C F dX8_guest_79 rfl rfl (rfl) (rfl)
set_option maxHeartbeats 2000000 in
set_option maxRecDepth 20000 in
theorem s8_dishB {n : Nat} {h : q_H} {un ta fl st sa ne so di pu at_ er en pa tr g : Nat} {W : Nat → Nat} {x : mX} (z k : Int32) (h0 : h 87 = MO un ta fl st sa ne so di pu at_ er en pa tr) (hW : h 88 = WA W) (T : wT W 0 g x) (hg : g ≤ 6) (hb : (z < 0 ∨ nI g ≤ z) ∨ (k < nI 0 ∨ nI 1 < k)) : SP 3 yX8_dish cX8_dish 3 (some .int) [.ref 87, .int z, .int k] n h (some (.int (-1000001))) h := by
  refine q_SPi RX8 rfl (by decide +kernel) (la := _) rfl rfl (fun Γ ad C F => ?_)
  have hg0 : W 0 = g ∧ g ≤ 6 := ⟨wT0_n T, hg⟩
  refine g_aload_n (pc := 0) C (hl := rfl) dX8_dish_0 ?_
  refine g_iload_n (pc := 1) C (hl := rfl) dX8_dish_1 ?_
  by_cases cz : z < 0 ∨ nI g ≤ z
  · refine g_V1v (pc := 2) C lv8_194 dX8_dish_2 (s8_oneF z h0 hW hg0 cz) h0 (by decide) (Nat.le_of_ble_eq_true rfl) ?_
    refine g_if_eqN (pc := 5) C 18 dX8_dish_5 (by decide) (by decide) (fun _ => ?_) (fun q => absurd q (by decide))
    refine g_ldc (pc := 18) C (v := -1000001) zk8_52 dX8_dish_18 ?_
    exact g_iret (pc := 20) C F dX8_dish_20 rfl rfl (rfl) (rfl)
  · refine g_V1v (pc := 2) C lv8_194 dX8_dish_2 (s8_oneU z h0 hW hg0 cz) h0 (by decide) (Nat.le_of_ble_eq_true rfl) ?_
    refine g_if_eqN (pc := 5) C 18 dX8_dish_5 (by decide) (by decide) (fun q => absurd q (by decide)) (fun _ => ?_)
    refine g_iload_n (pc := 8) C (hl := rfl) dX8_dish_8 ?_
    refine g_i2l (pc := 9) C rfl dX8_dish_9 ?_
    refine g_lconst (pc := 10) C (v := 0) rfl dX8_dish_10 ?_
    refine g_lconst (pc := 11) C (v := 1) rfl dX8_dish_11 ?_
    by_cases ck : k < (nI 0) ∨ (nI 1) < k
    · refine g_S3v (pc := 12) C ls8_37 dX8_dish_12 (s8_inF k (nI 0) (nI 1) (by decide) (by decide) ck) (by decide) (Nat.le_of_ble_eq_true rfl) ?_
      refine g_if_neN (pc := 15) C 21 dX8_dish_15 (by decide) (by decide) (fun q => absurd q (by decide)) (fun _ => ?_)
      refine g_ldc (pc := 18) C (v := -1000001) zk8_52 dX8_dish_18 ?_
      exact g_iret (pc := 20) C F dX8_dish_20 rfl rfl (rfl) (rfl)
    · refine g_S3v (pc := 12) C ls8_37 dX8_dish_12 (s8_inT k (nI 0) (nI 1) (by decide) (by decide) ck) (by decide) (Nat.le_of_ble_eq_true rfl) ?_
      refine g_if_neN (pc := 15) C 21 dX8_dish_15 (by decide) (by decide) (fun _ => ?_) (fun q => absurd q (by decide))
      exact absurd hb (fun q => q.elim cz ck)
set_option maxHeartbeats 2000000 in
set_option maxRecDepth 20000 in
theorem s8_dish0 {n : Nat} {h : q_H} {un ta fl st sa ne so di pu at_ er en pa tr g : Nat} {W : Nat → Nat} {x : mX} (z : Nat) (h0 : h 87 = MO un ta fl st sa ne so di pu at_ er en pa tr) (hW : h 88 = WA W) (T : wT W 0 g x) (hg : 0 < g ∧ g ≤ 6) (hz : z < g) : SP 3 yX8_dish cX8_dish 3 (some .int) [.ref 87, .int (nI z), .int (nI 0)] n h (some (.int (nI (x.1 (24 + z))))) h := by
  refine q_SPi RX8 rfl (by decide +kernel) (la := _) rfl rfl (fun Γ ad C F => ?_)
  have hg0 : W 0 = g ∧ g ≤ 6 := ⟨wT0_n T, hg.2⟩
  refine g_aload_n (pc := 0) C (hl := rfl) dX8_dish_0 ?_
  refine g_iload_n (pc := 1) C (hl := rfl) dX8_dish_1 ?_
  refine g_V1v (pc := 2) C lv8_194 dX8_dish_2 (s8_oneN z h0 hW hg0 hz) h0 (by decide) (Nat.le_of_ble_eq_true rfl) ?_
  refine g_if_eqN (pc := 5) C 18 dX8_dish_5 (by decide) (by decide) (fun q => absurd q (by decide)) (fun _ => ?_)
  refine g_iload_n (pc := 8) C (hl := rfl) dX8_dish_8 ?_
  refine g_i2l (pc := 9) C rfl dX8_dish_9 ?_
  refine g_lconst (pc := 10) C (v := 0) rfl dX8_dish_10 ?_
  refine g_lconst (pc := 11) C (v := 1) rfl dX8_dish_11 ?_
  refine g_S3v (pc := 12) C ls8_37 dX8_dish_12 (s8_inN 0 0 1 (by decide) (by decide) (by omega) (by decide)) (by decide) (Nat.le_of_ble_eq_true rfl) ?_
  refine g_if_neN (pc := 15) C 21 dX8_dish_15 (by decide) (by decide) (fun _ => ?_) (fun q => absurd q (by decide))
  refine g_iload_n (pc := 21) C (hl := rfl) dX8_dish_21 ?_
  refine g_if_neN (pc := 22) C 37 dX8_dish_22 (by decide) (by decide) (fun q => absurd q (by decide)) (fun _ => ?_)
  refine g_aload_n (pc := 25) C (hl := rfl) dX8_dish_25 ?_
  refine g_get (pc := 26) C fl8_7 dX8_dish_26 h0 rfl ?_
  refine g_bipush (pc := 29) C qk_bipush_27 dX8_dish_29 ?_
  refine g_iload_n (pc := 31) C (hl := rfl) dX8_dish_31 ?_
  refine g_iaddN (pc := 32) C dX8_dish_32 ?_
  refine g_ialdV (pc := 33) C dX8_dish_33 hW (by omega) (wT0_po T (by omega)) ?_
  refine g_goto (pc := 34) C 46 dX8_dish_34 (by decide) ?_
  exact g_iret (pc := 46) C F dX8_dish_46 rfl rfl (rfl) (rfl)
set_option maxHeartbeats 2000000 in
set_option maxRecDepth 20000 in
theorem s8_dish1 {n : Nat} {h : q_H} {un ta fl st sa ne so di pu at_ er en pa tr g : Nat} {W : Nat → Nat} {x : mX} (z : Nat) (h0 : h 87 = MO un ta fl st sa ne so di pu at_ er en pa tr) (hW : h 88 = WA W) (T : wT W 0 g x) (hg : 0 < g ∧ g ≤ 6) (hz : z < g) : SP 3 yX8_dish cX8_dish 3 (some .int) [.ref 87, .int (nI z), .int (nI 1)] n h (some (.int (nI (x.1 (30 + z))))) h := by
  refine q_SPi RX8 rfl (by decide +kernel) (la := _) rfl rfl (fun Γ ad C F => ?_)
  have hg0 : W 0 = g ∧ g ≤ 6 := ⟨wT0_n T, hg.2⟩
  refine g_aload_n (pc := 0) C (hl := rfl) dX8_dish_0 ?_
  refine g_iload_n (pc := 1) C (hl := rfl) dX8_dish_1 ?_
  refine g_V1v (pc := 2) C lv8_194 dX8_dish_2 (s8_oneN z h0 hW hg0 hz) h0 (by decide) (Nat.le_of_ble_eq_true rfl) ?_
  refine g_if_eqN (pc := 5) C 18 dX8_dish_5 (by decide) (by decide) (fun q => absurd q (by decide)) (fun _ => ?_)
  refine g_iload_n (pc := 8) C (hl := rfl) dX8_dish_8 ?_
  refine g_i2l (pc := 9) C rfl dX8_dish_9 ?_
  refine g_lconst (pc := 10) C (v := 0) rfl dX8_dish_10 ?_
  refine g_lconst (pc := 11) C (v := 1) rfl dX8_dish_11 ?_
  refine g_S3v (pc := 12) C ls8_37 dX8_dish_12 (s8_inN 1 0 1 (by decide) (by decide) (by omega) (by decide)) (by decide) (Nat.le_of_ble_eq_true rfl) ?_
  refine g_if_neN (pc := 15) C 21 dX8_dish_15 (by decide) (by decide) (fun _ => ?_) (fun q => absurd q (by decide))
  refine g_iload_n (pc := 21) C (hl := rfl) dX8_dish_21 ?_
  refine g_if_neN (pc := 22) C 37 dX8_dish_22 (by decide) (by decide) (fun _ => ?_) (fun q => absurd q (by decide))
  refine g_aload_n (pc := 37) C (hl := rfl) dX8_dish_37 ?_
  refine g_get (pc := 38) C fl8_7 dX8_dish_38 h0 rfl ?_
  refine g_bipush (pc := 41) C qk_bipush_33 dX8_dish_41 ?_
  refine g_iload_n (pc := 43) C (hl := rfl) dX8_dish_43 ?_
  refine g_iaddN (pc := 44) C dX8_dish_44 ?_
  refine g_ialdV (pc := 45) C dX8_dish_45 hW (by omega) (wT0_sl T (by omega)) ?_
  exact g_iret (pc := 46) C F dX8_dish_46 rfl rfl (rfl) (rfl)
set_option maxHeartbeats 2000000 in
set_option maxRecDepth 20000 in
theorem s8_kindB {n : Nat} {h : q_H} {un ta fl st sa ne so di pu at_ er en pa tr g : Nat} {W : Nat → Nat} {x : mX} (z : Int32) (h0 : h 87 = MO un ta fl st sa ne so di pu at_ er en pa tr) (hW : h 88 = WA W) (T : wT W 0 g x) (hg : g ≤ 6) (hz : z < 0 ∨ nI g ≤ z) : SP 3 yX8_kind cX8_kind 2 (some .int) [.ref 87, .int z] n h (some (.int (-1000001))) h := by
  refine q_SPi RX8 rfl (by decide +kernel) (la := _) rfl rfl (fun Γ ad C F => ?_)
  have hg0 : W 0 = g ∧ g ≤ 6 := ⟨wT0_n T, hg⟩
  refine g_aload_n (pc := 0) C (hl := rfl) dX8_kind_0 ?_
  refine g_iload_n (pc := 1) C (hl := rfl) dX8_kind_1 ?_
  refine g_V1v (pc := 2) C lv8_194 dX8_kind_2 (s8_oneF z h0 hW hg0 hz) h0 (by decide) (Nat.le_of_ble_eq_true rfl) ?_
  refine g_if_eqN (pc := 5) C 19 dX8_kind_5 (by decide) (by decide) (fun _ => ?_) (fun q => absurd q (by decide))
  refine g_ldc (pc := 19) C (v := -1000001) zk8_52 dX8_kind_19 ?_
  exact g_iret (pc := 21) C F dX8_kind_21 rfl rfl (rfl) (rfl)
set_option maxHeartbeats 2000000 in
set_option maxRecDepth 20000 in
theorem s8_kindT {n : Nat} {h : q_H} {un ta fl st sa ne so di pu at_ er en pa tr g : Nat} {W : Nat → Nat} {x : mX} (z : Nat) (h0 : h 87 = MO un ta fl st sa ne so di pu at_ er en pa tr) (hW : h 88 = WA W) (T : wT W 0 g x) (hg : 0 < g ∧ g ≤ 6) (hz : z < g) : SP 3 yX8_kind cX8_kind 2 (some .int) [.ref 87, .int (nI z)] n h (some (.int (nI (x.1 (0 + z))))) h := by
  refine q_SPi RX8 rfl (by decide +kernel) (la := _) rfl rfl (fun Γ ad C F => ?_)
  have hg0 : W 0 = g ∧ g ≤ 6 := ⟨wT0_n T, hg.2⟩
  refine g_aload_n (pc := 0) C (hl := rfl) dX8_kind_0 ?_
  refine g_iload_n (pc := 1) C (hl := rfl) dX8_kind_1 ?_
  refine g_V1v (pc := 2) C lv8_194 dX8_kind_2 (s8_oneN z h0 hW hg0 hz) h0 (by decide) (Nat.le_of_ble_eq_true rfl) ?_
  refine g_if_eqN (pc := 5) C 19 dX8_kind_5 (by decide) (by decide) (fun q => absurd q (by decide)) (fun _ => ?_)
  refine g_aload_n (pc := 8) C (hl := rfl) dX8_kind_8 ?_
  refine g_get (pc := 9) C fl8_7 dX8_kind_9 h0 rfl ?_
  refine g_iconst (pc := 12) C qk_iconst_3 dX8_kind_12 ?_
  refine g_iload_n (pc := 13) C (hl := rfl) dX8_kind_13 ?_
  refine g_iaddN (pc := 14) C dX8_kind_14 ?_
  refine g_ialdV (pc := 15) C dX8_kind_15 hW (by omega) (wT0_so T (by omega)) ?_
  refine g_goto (pc := 16) C 21 dX8_kind_16 (by decide) ?_
  exact g_iret (pc := 21) C F dX8_kind_21 rfl rfl (rfl) (rfl)
set_option maxHeartbeats 2000000 in
set_option maxRecDepth 20000 in
theorem s8_isOf {n : Nat} {h : q_H} (so k : Nat) (hs : so < 6) (hk : k < 6) : SP 0 yX8_isOf cX8_isOf 2 (some .boolean) [.int (nI so), .int (nI k)] n h (some (.int (if mIs so k = true then nI 1 else nI 0))) h := by
  refine q_SPi RX8 rfl (by decide +kernel) (la := _) rfl rfl (fun Γ ad C F => ?_)
  refine g_iload_n (pc := 0) C (hl := rfl) dX8_isOf_0 ?_
  refine g_if_eqN (pc := 1) C 34 dX8_isOf_1 (by decide) (by omega) (fun c1 => ?_) (fun c1 => ?_)
  · refine g_iconst (pc := 34) C qk_iconst_1 dX8_isOf_34 ?_
    refine g_goto (pc := 35) C 39 dX8_isOf_35 (by decide) ?_
    exact g_iret (pc := 39) C F dX8_isOf_39 rfl rfl (by unfold mIs; first | (exfalso; omega) | rw [if_pos (by simp; omega)] | rw [if_neg (by simp; omega)]) (rfl)
  · refine g_iload_n (pc := 4) C (hl := rfl) dX8_isOf_4 ?_
    refine g_iload_n (pc := 5) C (hl := rfl) dX8_isOf_5 ?_
    refine g_ic_eqN (pc := 6) C 34 dX8_isOf_6 (by decide) (by omega) (fun c6 => ?_) (fun c6 => ?_)
    · refine g_iconst (pc := 34) C qk_iconst_1 dX8_isOf_34 ?_
      refine g_goto (pc := 35) C 39 dX8_isOf_35 (by decide) ?_
      exact g_iret (pc := 39) C F dX8_isOf_39 rfl rfl (by unfold mIs; first | (exfalso; omega) | rw [if_pos (by simp; omega)] | rw [if_neg (by simp; omega)]) (rfl)
    · refine g_iload_n (pc := 9) C (hl := rfl) dX8_isOf_9 ?_
      refine g_iconst (pc := 10) C qk_iconst_1 dX8_isOf_10 ?_
      refine g_ic_neN (pc := 11) C 24 dX8_isOf_11 (by decide) (by omega) (fun c11 => ?_) (fun c11 => ?_)
      · refine g_iload_n (pc := 24) C (hl := rfl) dX8_isOf_24 ?_
        refine g_iconst (pc := 25) C qk_iconst_4 dX8_isOf_25 ?_
        refine g_ic_neN (pc := 26) C 38 dX8_isOf_26 (by decide) (by omega) (fun c26 => ?_) (fun c26 => ?_)
        · refine g_iconst (pc := 38) C qk_iconst_0 dX8_isOf_38 ?_
          exact g_iret (pc := 39) C F dX8_isOf_39 rfl rfl (by unfold mIs; first | (exfalso; omega) | rw [if_pos (by simp; omega)] | rw [if_neg (by simp; omega)]) (rfl)
        · refine g_iload_n (pc := 29) C (hl := rfl) dX8_isOf_29 ?_
          refine g_iconst (pc := 30) C qk_iconst_5 dX8_isOf_30 ?_
          refine g_ic_neN (pc := 31) C 38 dX8_isOf_31 (by decide) (by omega) (fun c31 => ?_) (fun c31 => ?_)
          · refine g_iconst (pc := 38) C qk_iconst_0 dX8_isOf_38 ?_
            exact g_iret (pc := 39) C F dX8_isOf_39 rfl rfl (by unfold mIs; first | (exfalso; omega) | rw [if_pos (by simp; omega)] | rw [if_neg (by simp; omega)]) (rfl)
          · refine g_iconst (pc := 34) C qk_iconst_1 dX8_isOf_34 ?_
            refine g_goto (pc := 35) C 39 dX8_isOf_35 (by decide) ?_
            exact g_iret (pc := 39) C F dX8_isOf_39 rfl rfl (by unfold mIs; first | (exfalso; omega) | rw [if_pos (by simp; omega)] | rw [if_neg (by simp; omega)]) (rfl)
      · refine g_iload_n (pc := 14) C (hl := rfl) dX8_isOf_14 ?_
        refine g_iconst (pc := 15) C qk_iconst_2 dX8_isOf_15 ?_
        refine g_ic_eqN (pc := 16) C 34 dX8_isOf_16 (by decide) (by omega) (fun c16 => ?_) (fun c16 => ?_)
        · refine g_iconst (pc := 34) C qk_iconst_1 dX8_isOf_34 ?_
          refine g_goto (pc := 35) C 39 dX8_isOf_35 (by decide) ?_
          exact g_iret (pc := 39) C F dX8_isOf_39 rfl rfl (by unfold mIs; first | (exfalso; omega) | rw [if_pos (by simp; omega)] | rw [if_neg (by simp; omega)]) (rfl)
        · refine g_iload_n (pc := 19) C (hl := rfl) dX8_isOf_19 ?_
          refine g_iconst (pc := 20) C qk_iconst_3 dX8_isOf_20 ?_
          refine g_ic_eqN (pc := 21) C 34 dX8_isOf_21 (by decide) (by omega) (fun c21 => ?_) (fun c21 => ?_)
          · refine g_iconst (pc := 34) C qk_iconst_1 dX8_isOf_34 ?_
            refine g_goto (pc := 35) C 39 dX8_isOf_35 (by decide) ?_
            exact g_iret (pc := 39) C F dX8_isOf_39 rfl rfl (by unfold mIs; first | (exfalso; omega) | rw [if_pos (by simp; omega)] | rw [if_neg (by simp; omega)]) (rfl)
          · refine g_iload_n (pc := 24) C (hl := rfl) dX8_isOf_24 ?_
            refine g_iconst (pc := 25) C qk_iconst_4 dX8_isOf_25 ?_
            refine g_ic_neN (pc := 26) C 38 dX8_isOf_26 (by decide) (by omega) (fun c26 => ?_) (fun c26 => ?_)
            · refine g_iconst (pc := 38) C qk_iconst_0 dX8_isOf_38 ?_
              exact g_iret (pc := 39) C F dX8_isOf_39 rfl rfl (by unfold mIs; first | (exfalso; omega) | rw [if_pos (by simp; omega)] | rw [if_neg (by simp; omega)]) (rfl)
            · refine g_iload_n (pc := 29) C (hl := rfl) dX8_isOf_29 ?_
              refine g_iconst (pc := 30) C qk_iconst_5 dX8_isOf_30 ?_
              refine g_ic_neN (pc := 31) C 38 dX8_isOf_31 (by decide) (by omega) (fun c31 => ?_) (fun c31 => ?_)
              · refine g_iconst (pc := 38) C qk_iconst_0 dX8_isOf_38 ?_
                exact g_iret (pc := 39) C F dX8_isOf_39 rfl rfl (by unfold mIs; first | (exfalso; omega) | rw [if_pos (by simp; omega)] | rw [if_neg (by simp; omega)]) (rfl)
              · refine g_iconst (pc := 34) C qk_iconst_1 dX8_isOf_34 ?_
                refine g_goto (pc := 35) C 39 dX8_isOf_35 (by decide) ?_
                exact g_iret (pc := 39) C F dX8_isOf_39 rfl rfl (by unfold mIs; first | (exfalso; omega) | rw [if_pos (by simp; omega)] | rw [if_neg (by simp; omega)]) (rfl)
theorem s8_isOfT {n : Nat} {h : q_H} (so k : Nat) (hs : so < 6) (hk : k < 6) (e : mIs so k = true) : SP 0 yX8_isOf cX8_isOf 2 (some .boolean) [.int (nI so), .int (nI k)] n h (some (.int (nI 1))) h := by
  have q := s8_isOf (n := n) (h := h) so k hs hk
  rw [if_pos e] at q
  exact q
theorem s8_isOfF {n : Nat} {h : q_H} (so k : Nat) (hs : so < 6) (hk : k < 6) (e : ¬ mIs so k = true) : SP 0 yX8_isOf cX8_isOf 2 (some .boolean) [.int (nI so), .int (nI k)] n h (some (.int (nI 0))) h := by
  have q := s8_isOf (n := n) (h := h) so k hs hk
  rw [if_neg e] at q
  exact q
set_option maxHeartbeats 2000000 in
set_option maxRecDepth 20000 in
theorem s8_asB {n : Nat} {h : q_H} {un ta fl st sa ne so di pu at_ er en pa tr g : Nat} {W : Nat → Nat} {x : mX} (z k : Int32) (h0 : h 87 = MO un ta fl st sa ne so di pu at_ er en pa tr) (hW : h 88 = WA W) (T : wT W 0 g x) (hg : g ≤ 6) (hb : (z < 0 ∨ nI g ≤ z) ∨ (k < nI 0 ∨ nI 5 < k)) : SP 3 yX8_as cX8_as 3 (some .int) [.ref 87, .int z, .int k] n h (some (.int (-1000001))) h := by
  refine q_SPi RX8 rfl (by decide +kernel) (la := _) rfl rfl (fun Γ ad C F => ?_)
  have hg0 : W 0 = g ∧ g ≤ 6 := ⟨wT0_n T, hg⟩
  refine g_aload_n (pc := 0) C (hl := rfl) dX8_as_0 ?_
  refine g_iload_n (pc := 1) C (hl := rfl) dX8_as_1 ?_
  by_cases cz : z < 0 ∨ nI g ≤ z
  · refine g_V1v (pc := 2) C lv8_194 dX8_as_2 (s8_oneF z h0 hW hg0 cz) h0 (by decide) (Nat.le_of_ble_eq_true rfl) ?_
    refine g_if_eqN (pc := 5) C 20 dX8_as_5 (by decide) (by decide) (fun _ => ?_) (fun q => absurd q (by decide))
    refine g_ldc (pc := 20) C (v := -1000001) zk8_52 dX8_as_20 ?_
    exact g_iret (pc := 22) C F dX8_as_22 rfl rfl (rfl) (rfl)
  · refine g_V1v (pc := 2) C lv8_194 dX8_as_2 (s8_oneU z h0 hW hg0 cz) h0 (by decide) (Nat.le_of_ble_eq_true rfl) ?_
    refine g_if_eqN (pc := 5) C 20 dX8_as_5 (by decide) (by decide) (fun q => absurd q (by decide)) (fun _ => ?_)
    refine g_iload_n (pc := 8) C (hl := rfl) dX8_as_8 ?_
    refine g_i2l (pc := 9) C rfl dX8_as_9 ?_
    refine g_lconst (pc := 10) C (v := 0) rfl dX8_as_10 ?_
    refine g_ldc2 (pc := 11) C zk8_228 dX8_as_11 ?_
    by_cases ck : k < (nI 0) ∨ (nI 5) < k
    · refine g_S3v (pc := 14) C ls8_37 dX8_as_14 (s8_inF k (nI 0) (nI 5) (by decide) (by decide) ck) (by decide) (Nat.le_of_ble_eq_true rfl) ?_
      refine g_if_neN (pc := 17) C 23 dX8_as_17 (by decide) (by decide) (fun q => absurd q (by decide)) (fun _ => ?_)
      refine g_ldc (pc := 20) C (v := -1000001) zk8_52 dX8_as_20 ?_
      exact g_iret (pc := 22) C F dX8_as_22 rfl rfl (rfl) (rfl)
    · refine g_S3v (pc := 14) C ls8_37 dX8_as_14 (s8_inT k (nI 0) (nI 5) (by decide) (by decide) ck) (by decide) (Nat.le_of_ble_eq_true rfl) ?_
      refine g_if_neN (pc := 17) C 23 dX8_as_17 (by decide) (by decide) (fun _ => ?_) (fun q => absurd q (by decide))
      exact absurd hb (fun q => q.elim cz ck)
set_option maxHeartbeats 2000000 in
set_option maxRecDepth 20000 in
theorem s8_asT {n : Nat} {h : q_H} {un ta fl st sa ne so di pu at_ er en pa tr g : Nat} {W : Nat → Nat} {x : mX} (z k : Nat) (h0 : h 87 = MO un ta fl st sa ne so di pu at_ er en pa tr) (hW : h 88 = WA W) (T : wT W 0 g x) (hg : 0 < g ∧ g ≤ 6) (hz : z < g) (hk : k ≤ 5) (hso : x.1 (0 + z) < 6) (he : mIs (x.1 (0 + z)) k = true) : SP 3 yX8_as cX8_as 3 (some .int) [.ref 87, .int (nI z), .int (nI k)] n h (some (.int (nI z))) (q_up h 87 (MO un ta fl 0 sa ne so di pu at_ er en pa tr)) := by
  refine q_SPi RX8 rfl (by decide +kernel) (la := _) rfl rfl (fun Γ ad C F => ?_)
  have hg0 : W 0 = g ∧ g ≤ 6 := ⟨wT0_n T, hg.2⟩
  refine g_aload_n (pc := 0) C (hl := rfl) dX8_as_0 ?_
  refine g_iload_n (pc := 1) C (hl := rfl) dX8_as_1 ?_
  refine g_V1v (pc := 2) C lv8_194 dX8_as_2 (s8_oneN z h0 hW hg0 hz) h0 (by decide) (Nat.le_of_ble_eq_true rfl) ?_
  refine g_if_eqN (pc := 5) C 20 dX8_as_5 (by decide) (by decide) (fun q => absurd q (by decide)) (fun _ => ?_)
  refine g_iload_n (pc := 8) C (hl := rfl) dX8_as_8 ?_
  refine g_i2l (pc := 9) C rfl dX8_as_9 ?_
  refine g_lconst (pc := 10) C (v := 0) rfl dX8_as_10 ?_
  refine g_ldc2 (pc := 11) C zk8_228 dX8_as_11 ?_
  refine g_S3v (pc := 14) C ls8_37 dX8_as_14 (s8_inN k 0 5 (by decide) (by decide) (by omega) (by decide)) (by decide) (Nat.le_of_ble_eq_true rfl) ?_
  refine g_if_neN (pc := 17) C 23 dX8_as_17 (by decide) (by decide) (fun _ => ?_) (fun q => absurd q (by decide))
  refine g_aload_n (pc := 23) C (hl := rfl) dX8_as_23 ?_
  refine g_get (pc := 24) C fl8_7 dX8_as_24 h0 rfl ?_
  refine g_iconst (pc := 27) C qk_iconst_3 dX8_as_27 ?_
  refine g_iload_n (pc := 28) C (hl := rfl) dX8_as_28 ?_
  refine g_iaddN (pc := 29) C dX8_as_29 ?_
  refine g_ialdV (pc := 30) C dX8_as_30 hW (by omega) (wT0_so T (by omega)) ?_
  refine g_iload_n (pc := 31) C (hl := rfl) dX8_as_31 ?_
  refine g_S2v (pc := 32) C ls8_230 dX8_as_32 (s8_isOfT _ _ hso (by omega) he) (by decide) (Nat.le_of_ble_eq_true rfl) ?_
  refine g_if_eqN (pc := 35) C 46 dX8_as_35 (by decide) (by decide) (fun q => absurd q (by decide)) (fun _ => ?_)
  refine g_aload_n (pc := 38) C (hl := rfl) dX8_as_38 ?_
  refine g_iload_n (pc := 39) C (hl := rfl) dX8_as_39 ?_
  refine g_V1v (pc := 40) C lv8_57 dX8_as_40 (s8_well _ h0) h0 (by decide) (Nat.le_of_ble_eq_true rfl) ?_
  refine g_goto (pc := 43) C 51 dX8_as_43 (by decide) ?_
  exact g_iret (pc := 51) C F dX8_as_51 rfl rfl (rfl) (rfl)
set_option maxHeartbeats 2000000 in
set_option maxRecDepth 20000 in
theorem s8_asF {n : Nat} {h : q_H} {un ta fl st sa ne so di pu at_ er en pa tr g : Nat} {W : Nat → Nat} {x : mX} (z k : Nat) (h0 : h 87 = MO un ta fl st sa ne so di pu at_ er en pa tr) (hW : h 88 = WA W) (T : wT W 0 g x) (hg : 0 < g ∧ g ≤ 6) (hz : z < g) (hk : k ≤ 5) (hso : x.1 (0 + z) < 6) (he : ¬ mIs (x.1 (0 + z)) k = true) : SP 3 yX8_as cX8_as 3 (some .int) [.ref 87, .int (nI z), .int (nI k)] n h (some (.int (-1000010 - nI 3))) (q_up h 87 (MO un ta fl 3 sa ne so di pu at_ er en pa tr)) := by
  refine q_SPi RX8 rfl (by decide +kernel) (la := _) rfl rfl (fun Γ ad C F => ?_)
  have hg0 : W 0 = g ∧ g ≤ 6 := ⟨wT0_n T, hg.2⟩
  refine g_aload_n (pc := 0) C (hl := rfl) dX8_as_0 ?_
  refine g_iload_n (pc := 1) C (hl := rfl) dX8_as_1 ?_
  refine g_V1v (pc := 2) C lv8_194 dX8_as_2 (s8_oneN z h0 hW hg0 hz) h0 (by decide) (Nat.le_of_ble_eq_true rfl) ?_
  refine g_if_eqN (pc := 5) C 20 dX8_as_5 (by decide) (by decide) (fun q => absurd q (by decide)) (fun _ => ?_)
  refine g_iload_n (pc := 8) C (hl := rfl) dX8_as_8 ?_
  refine g_i2l (pc := 9) C rfl dX8_as_9 ?_
  refine g_lconst (pc := 10) C (v := 0) rfl dX8_as_10 ?_
  refine g_ldc2 (pc := 11) C zk8_228 dX8_as_11 ?_
  refine g_S3v (pc := 14) C ls8_37 dX8_as_14 (s8_inN k 0 5 (by decide) (by decide) (by omega) (by decide)) (by decide) (Nat.le_of_ble_eq_true rfl) ?_
  refine g_if_neN (pc := 17) C 23 dX8_as_17 (by decide) (by decide) (fun _ => ?_) (fun q => absurd q (by decide))
  refine g_aload_n (pc := 23) C (hl := rfl) dX8_as_23 ?_
  refine g_get (pc := 24) C fl8_7 dX8_as_24 h0 rfl ?_
  refine g_iconst (pc := 27) C qk_iconst_3 dX8_as_27 ?_
  refine g_iload_n (pc := 28) C (hl := rfl) dX8_as_28 ?_
  refine g_iaddN (pc := 29) C dX8_as_29 ?_
  refine g_ialdV (pc := 30) C dX8_as_30 hW (by omega) (wT0_so T (by omega)) ?_
  refine g_iload_n (pc := 31) C (hl := rfl) dX8_as_31 ?_
  refine g_S2v (pc := 32) C ls8_230 dX8_as_32 (s8_isOfF _ _ hso (by omega) he) (by decide) (Nat.le_of_ble_eq_true rfl) ?_
  refine g_if_eqN (pc := 35) C 46 dX8_as_35 (by decide) (by decide) (fun _ => ?_) (fun q => absurd q (by decide))
  refine g_aload_n (pc := 46) C (hl := rfl) dX8_as_46 ?_
  refine g_iconst (pc := 47) C qk_iconst_3 dX8_as_47 ?_
  refine g_V1v (pc := 48) C lv8_53 dX8_as_48 (s8_found _ h0) h0 (by decide) (Nat.le_of_ble_eq_true rfl) ?_
  exact g_iret (pc := 51) C F dX8_as_51 rfl rfl (rfl) (rfl)
set_option maxHeartbeats 2000000 in
set_option maxRecDepth 20000 in
theorem s8_imageB {n : Nat} {h : q_H} {un ta fl st sa ne so di pu at_ er en pa tr : Nat} {W : Nat → Nat} (z : Int32) (h0 : h 87 = MO un ta fl st sa ne so di pu at_ er en pa tr) (hW : h 88 = WA W) {K : Nat → Nat} (hk_ : h 94 = .inl (1, 2, qN K)) (hz : z < nI 0 ∨ nI 1 < z) : SP 3 yX8_image cX8_image 2 (some .int) [.ref 87, .int z] n h (some (.int (-1000001))) h := by
  refine q_SPi RX8 rfl (by decide +kernel) (la := _) rfl rfl (fun Γ ad C F => ?_)
  refine g_iload_n (pc := 0) C (hl := rfl) dX8_image_0 ?_
  refine g_i2l (pc := 1) C rfl dX8_image_1 ?_
  refine g_lconst (pc := 2) C (v := 0) rfl dX8_image_2 ?_
  refine g_lconst (pc := 3) C (v := 1) rfl dX8_image_3 ?_
  refine g_S3v (pc := 4) C ls8_37 dX8_image_4 (s8_inF z (nI 0) (nI 1) (by decide) (by decide) hz) (by decide) (Nat.le_of_ble_eq_true rfl) ?_
  refine g_if_neN (pc := 7) C 13 dX8_image_7 (by decide) (by decide) (fun q => absurd q (by decide)) (fun _ => ?_)
  refine g_ldc (pc := 10) C (v := -1000001) zk8_52 dX8_image_10 ?_
  exact g_iret (pc := 12) C F dX8_image_12 rfl rfl (rfl) (rfl)
set_option maxHeartbeats 2000000 in
set_option maxRecDepth 20000 in
theorem s8_restoreB {n : Nat} {h : q_H} {un ta fl st sa ne so di pu at_ er en pa tr : Nat} {W : Nat → Nat} (z : Int32) (h0 : h 87 = MO un ta fl st sa ne so di pu at_ er en pa tr) (hW : h 88 = WA W) {K : Nat → Nat} (hk_ : h 94 = .inl (1, 2, qN K)) (hz : z < nI 0 ∨ nI 1 < z) : SP 3 yX8_restore cX8_restore 2 (some .int) [.ref 87, .int z] n h (some (.int (-1000001))) h := by
  refine q_SPi RX8 rfl (by decide +kernel) (la := _) rfl rfl (fun Γ ad C F => ?_)
  refine g_iload_n (pc := 0) C (hl := rfl) dX8_restore_0 ?_
  refine g_i2l (pc := 1) C rfl dX8_restore_1 ?_
  refine g_lconst (pc := 2) C (v := 0) rfl dX8_restore_2 ?_
  refine g_lconst (pc := 3) C (v := 1) rfl dX8_restore_3 ?_
  refine g_S3v (pc := 4) C ls8_37 dX8_restore_4 (s8_inF z (nI 0) (nI 1) (by decide) (by decide) hz) (by decide) (Nat.le_of_ble_eq_true rfl) ?_
  refine g_if_neN (pc := 7) C 13 dX8_restore_7 (by decide) (by decide) (fun q => absurd q (by decide)) (fun _ => ?_)
  refine g_ldc (pc := 10) C (v := -1000001) zk8_52 dX8_restore_10 ?_
  exact g_iret (pc := 12) C F dX8_restore_12 rfl rfl (rfl) (rfl)
set_option maxHeartbeats 2000000 in
set_option maxRecDepth 20000 in
theorem s8_imageN {n : Nat} {h : q_H} {un ta fl st sa ne so di pu at_ er en pa tr g : Nat} {W : Nat → Nat} {x : mX} (i : Nat) (h0 : h 87 = MO un ta fl st sa ne so di pu at_ er en pa tr) (hW : h 88 = WA W) (T : wT W 0 g x) {K : Nat → Nat} (hk_ : h 94 = .inl (1, 2, qN K)) (hi : i < 2) (hg : g = 0) : SP 3 yX8_image cX8_image 2 (some .int) [.ref 87, .int (nI i)] n h (some (.int (-1000002))) h := by
  refine q_SPi RX8 rfl (by decide +kernel) (la := _) rfl rfl (fun Γ ad C F => ?_)
  refine g_iload_n (pc := 0) C (hl := rfl) dX8_image_0 ?_
  refine g_i2l (pc := 1) C rfl dX8_image_1 ?_
  refine g_lconst (pc := 2) C (v := 0) rfl dX8_image_2 ?_
  refine g_lconst (pc := 3) C (v := 1) rfl dX8_image_3 ?_
  refine g_S3v (pc := 4) C ls8_37 dX8_image_4 (s8_inN i 0 1 (by decide) (by decide) (by omega) (by decide)) (by decide) (Nat.le_of_ble_eq_true rfl) ?_
  refine g_if_neN (pc := 7) C 13 dX8_image_7 (by decide) (by decide) (fun _ => ?_) (fun q => absurd q (by decide))
  refine g_aload_n (pc := 13) C (hl := rfl) dX8_image_13 ?_
  refine g_V0v (pc := 14) C lv8_177 dX8_image_14 (s8_isNoneZ h0 hW (by rw [wT0_n T]; exact hg)) h0 (by decide) (Nat.le_of_ble_eq_true rfl) ?_
  refine g_if_eqN (pc := 17) C 23 dX8_image_17 (by decide) (by decide) (fun q => absurd q (by decide)) (fun _ => ?_)
  refine g_ldc (pc := 20) C (v := -1000002) zk8_180 dX8_image_20 ?_
  exact g_iret (pc := 22) C F dX8_image_22 rfl rfl (rfl) (rfl)
set_option maxHeartbeats 2000000 in
set_option maxRecDepth 20000 in
theorem s8_imageT {n : Nat} {h : q_H} {un ta fl st sa ne so di pu at_ er en pa tr g : Nat} {W : Nat → Nat} {x : mX} (i : Nat) (h0 : h 87 = MO un ta fl st sa ne so di pu at_ er en pa tr) (hW : h 88 = WA W) (T : wT W 0 g x) {K : Nat → Nat} (hk_ : h 94 = .inl (1, 2, qN K)) (hi : i < 2) (hg : 0 < g ∧ g ≤ 6) : SP 3 yX8_image cX8_image 2 (some .int) [.ref 87, .int (nI i)] n h (some (.int (nI 1))) (q_up (q_up h 88 (WA (wPut W (39 + 39 * i) g x))) 94 (.inl (1, 2, qN (va_up K i 1)))) := by
  refine q_SPi RX8 rfl (by decide +kernel) (la := _) rfl rfl (fun Γ ad C F => ?_)
  refine g_iload_n (pc := 0) C (hl := rfl) dX8_image_0 ?_
  refine g_i2l (pc := 1) C rfl dX8_image_1 ?_
  refine g_lconst (pc := 2) C (v := 0) rfl dX8_image_2 ?_
  refine g_lconst (pc := 3) C (v := 1) rfl dX8_image_3 ?_
  refine g_S3v (pc := 4) C ls8_37 dX8_image_4 (s8_inN i 0 1 (by decide) (by decide) (by omega) (by decide)) (by decide) (Nat.le_of_ble_eq_true rfl) ?_
  refine g_if_neN (pc := 7) C 13 dX8_image_7 (by decide) (by decide) (fun _ => ?_) (fun q => absurd q (by decide))
  refine g_aload_n (pc := 13) C (hl := rfl) dX8_image_13 ?_
  refine g_V0v (pc := 14) C lv8_177 dX8_image_14 (s8_isNoneT h0 hW (by rw [wT0_n T]; omega)) h0 (by decide) (Nat.le_of_ble_eq_true rfl) ?_
  refine g_if_eqN (pc := 17) C 23 dX8_image_17 (by decide) (by decide) (fun _ => ?_) (fun q => absurd q (by decide))
  refine g_aload_n (pc := 23) C (hl := rfl) dX8_image_23 ?_
  refine g_iconst (pc := 24) C qk_iconst_0 dX8_image_24 ?_
  refine g_bipush (pc := 25) C qk_bipush_39 dX8_image_25 ?_
  refine g_bipush (pc := 27) C qk_bipush_39 dX8_image_27 ?_
  refine g_iload_n (pc := 29) C (hl := rfl) dX8_image_29 ?_
  refine g_imulN (pc := 30) C dX8_image_30 ?_
  refine g_iaddN (pc := 31) C dX8_image_31 ?_
  refine g_V2u (pc := 32) C lv8_142 dX8_image_32 (s8_copyRow (r := 39 + 39 * i) h0 hW T (by omega) (by omega)) h0 (by decide) (Nat.le_of_ble_eq_true rfl) ?_
  refine g_aload_n (pc := 35) C (hl := rfl) dX8_image_35 ?_
  refine g_get (pc := 36) C fl8_28 dX8_image_36 ((q_up_n _ _ (by decide)).trans h0) rfl ?_
  refine g_iload_n (pc := 39) C (hl := rfl) dX8_image_39 ?_
  refine g_iconst (pc := 40) C qk_iconst_1 dX8_image_40 ?_
  refine g_zastN (pc := 41) C dX8_image_41 ((q_up_n _ _ (by decide)).trans hk_) (by omega) rfl ?_
  refine g_iconst (pc := 42) C qk_iconst_1 dX8_image_42 ?_
  exact g_iret (pc := 43) C F dX8_image_43 rfl rfl (rfl) (rfl)
set_option maxHeartbeats 2000000 in
set_option maxRecDepth 20000 in
theorem s8_restoreN {n : Nat} {h : q_H} {un ta fl st sa ne so di pu at_ er en pa tr : Nat} {W : Nat → Nat} (i : Nat) (h0 : h 87 = MO un ta fl st sa ne so di pu at_ er en pa tr) (hW : h 88 = WA W) {K : Nat → Nat} (hk_ : h 94 = .inl (1, 2, qN K)) (hi : i < 2) (hK : K i = 0) : SP 3 yX8_restore cX8_restore 2 (some .int) [.ref 87, .int (nI i)] n h (some (.int (-1000002))) h := by
  refine q_SPi RX8 rfl (by decide +kernel) (la := _) rfl rfl (fun Γ ad C F => ?_)
  refine g_iload_n (pc := 0) C (hl := rfl) dX8_restore_0 ?_
  refine g_i2l (pc := 1) C rfl dX8_restore_1 ?_
  refine g_lconst (pc := 2) C (v := 0) rfl dX8_restore_2 ?_
  refine g_lconst (pc := 3) C (v := 1) rfl dX8_restore_3 ?_
  refine g_S3v (pc := 4) C ls8_37 dX8_restore_4 (s8_inN i 0 1 (by decide) (by decide) (by omega) (by decide)) (by decide) (Nat.le_of_ble_eq_true rfl) ?_
  refine g_if_neN (pc := 7) C 13 dX8_restore_7 (by decide) (by decide) (fun _ => ?_) (fun q => absurd q (by decide))
  refine g_aload_n (pc := 13) C (hl := rfl) dX8_restore_13 ?_
  refine g_get (pc := 14) C fl8_28 dX8_restore_14 h0 rfl ?_
  refine g_iload_n (pc := 17) C (hl := rfl) dX8_restore_17 ?_
  refine g_zaldN (pc := 18) C dX8_restore_18 hk_ (by omega) ?_
  refine g_if_neN (pc := 19) C 25 dX8_restore_19 (by decide) (by omega) (fun q => absurd q (fun z => z hK)) (fun _ => ?_)
  refine g_ldc (pc := 22) C (v := -1000002) zk8_180 dX8_restore_22 ?_
  exact g_iret (pc := 24) C F dX8_restore_24 rfl rfl (rfl) (rfl)
set_option maxHeartbeats 2000000 in
set_option maxRecDepth 20000 in
theorem s8_restoreT {n : Nat} {h : q_H} {un ta fl st sa ne so di pu at_ er en pa tr g : Nat} {W : Nat → Nat} {x : mX} (i : Nat) (h0 : h 87 = MO un ta fl st sa ne so di pu at_ er en pa tr) (hW : h 88 = WA W) (T : wT W (39 + 39 * i) g x) {K : Nat → Nat} (hk_ : h 94 = .inl (1, 2, qN K)) (hi : i < 2) (hK : K i = 1) : SP 3 yX8_restore cX8_restore 2 (some .int) [.ref 87, .int (nI i)] n h (some (.int (nI 1))) (q_up (q_up h 88 (WA (wPut W 0 g x))) 87 (MO 0 ta fl st sa ne so di pu at_ er en pa tr)) := by
  refine q_SPi RX8 rfl (by decide +kernel) (la := _) rfl rfl (fun Γ ad C F => ?_)
  refine g_iload_n (pc := 0) C (hl := rfl) dX8_restore_0 ?_
  refine g_i2l (pc := 1) C rfl dX8_restore_1 ?_
  refine g_lconst (pc := 2) C (v := 0) rfl dX8_restore_2 ?_
  refine g_lconst (pc := 3) C (v := 1) rfl dX8_restore_3 ?_
  refine g_S3v (pc := 4) C ls8_37 dX8_restore_4 (s8_inN i 0 1 (by decide) (by decide) (by omega) (by decide)) (by decide) (Nat.le_of_ble_eq_true rfl) ?_
  refine g_if_neN (pc := 7) C 13 dX8_restore_7 (by decide) (by decide) (fun _ => ?_) (fun q => absurd q (by decide))
  refine g_aload_n (pc := 13) C (hl := rfl) dX8_restore_13 ?_
  refine g_get (pc := 14) C fl8_28 dX8_restore_14 h0 rfl ?_
  refine g_iload_n (pc := 17) C (hl := rfl) dX8_restore_17 ?_
  refine g_zaldN (pc := 18) C dX8_restore_18 hk_ (by omega) ?_
  refine g_if_neN (pc := 19) C 25 dX8_restore_19 (by decide) (by omega) (fun _ => ?_) (fun q => absurd q (by omega))
  refine g_aload_n (pc := 25) C (hl := rfl) dX8_restore_25 ?_
  refine g_bipush (pc := 26) C qk_bipush_39 dX8_restore_26 ?_
  refine g_bipush (pc := 28) C qk_bipush_39 dX8_restore_28 ?_
  refine g_iload_n (pc := 30) C (hl := rfl) dX8_restore_30 ?_
  refine g_imulN (pc := 31) C dX8_restore_31 ?_
  refine g_iaddN (pc := 32) C dX8_restore_32 ?_
  refine g_iconst (pc := 33) C qk_iconst_0 dX8_restore_33 ?_
  refine g_V2u (pc := 34) C lv8_142 dX8_restore_34 (s8_copyRow (r := 0) h0 hW T (by omega) (by omega)) h0 (by decide) (Nat.le_of_ble_eq_true rfl) ?_
  refine g_aload_n (pc := 37) C (hl := rfl) dX8_restore_37 ?_
  refine g_iconst (pc := 38) C qk_iconst_0 dX8_restore_38 ?_
  refine g_put (pc := 39) C fp8_146 dX8_restore_39 ((q_up_n _ _ (by decide)).trans h0) (Nat.le_of_ble_eq_true rfl) ?_
  refine g_iconst (pc := 42) C qk_iconst_1 dX8_restore_42 ?_
  exact g_iret (pc := 43) C F dX8_restore_43 rfl rfl (rfl) (rfl)
