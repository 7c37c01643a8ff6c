def mG (x : mX) (er pu en ea : Nat) : mX := (x.1, x.2.1, x.2.2.1, er, pu, en, ea)
theorem mG_Q (x : mX) (er pu en ea : Nat) : wQ x (mG x er pu en ea) := ⟨rfl, rfl, rfl⟩
theorem q_or0 (x : Int32) : x ||| nI 0 = x := Int32.or_zero
theorem s8_laterF {n : Nat} {h : q_H} (x : Int32) (hq : x < nI 0 ∨ nI 99 < x) : SP 1 yX8_isLater cX8_isLater 1 (some .boolean) [.int x] n h (some (.int (nI 0))) h := by
  refine q_SPi RX8 rfl (by decide +kernel) (la := _) rfl rfl (fun Γ ad C F => ?_)
  refine g_iload_n (pc := 0) C (hl := rfl) dX8_isLater_0 ?_
  refine g_i2l (pc := 1) C rfl dX8_isLater_1 ?_
  refine g_lconst (pc := 2) C (v := 0) rfl dX8_isLater_2 ?_
  refine g_ldc2 (pc := 3) C zk8_208 dX8_isLater_3 ?_
  refine g_S3v (pc := 6) C ls8_37 dX8_isLater_6 (s8_inF x (nI 0) (nI 99) (by decide) (by decide) hq) (by decide) (Nat.le_of_ble_eq_true rfl) ?_
  exact g_iret (pc := 9) C F dX8_isLater_9 rfl rfl (rfl) (rfl)
theorem s8_laterU {n : Nat} {h : q_H} (x : Int32) (hq : ¬ (x < nI 0 ∨ nI 99 < x)) : SP 1 yX8_isLater cX8_isLater 1 (some .boolean) [.int x] n h (some (.int (nI 1))) h := by
  refine q_SPi RX8 rfl (by decide +kernel) (la := _) rfl rfl (fun Γ ad C F => ?_)
  refine g_iload_n (pc := 0) C (hl := rfl) dX8_isLater_0 ?_
  refine g_i2l (pc := 1) C rfl dX8_isLater_1 ?_
  refine g_lconst (pc := 2) C (v := 0) rfl dX8_isLater_2 ?_
  refine g_ldc2 (pc := 3) C zk8_208 dX8_isLater_3 ?_
  refine g_S3v (pc := 6) C ls8_37 dX8_isLater_6 (s8_inT x (nI 0) (nI 99) (by decide) (by decide) hq) (by decide) (Nat.le_of_ble_eq_true rfl) ?_
  exact g_iret (pc := 9) C F dX8_isLater_9 rfl rfl (rfl) (rfl)
theorem s8_laterN {n : Nat} {h : q_H} (x : Nat) (hq : x ≤ 99) : SP 1 yX8_isLater cX8_isLater 1 (some .boolean) [.int (nI x)] n h (some (.int (nI 1))) h := s8_laterU (nI x) (q_inN ⟨Nat.zero_le _, hq⟩ (by decide))
set_option maxHeartbeats 2000000 in
set_option maxRecDepth 20000 in
theorem s8_aheadN {n : Nat} {h : q_H} {un ta fl st sa ne so di pu at_ er en pa tr g : Nat} {W : Nat → Nat} {x : mX} (y z : Int32) (h0 : h 87 = MO un ta fl st sa ne so di pu at_ er en pa tr) (hW : h 88 = WA W) (T : wT W 0 g x) (hg : g = 0) : SP 5 yX8_ahead cX8_ahead 3 (some .int) [.ref 87, .int y, .int z] n h (some (.int (-1000002))) h := by
  refine q_SPi RX8 rfl (by decide +kernel) (la := _) rfl rfl (fun Γ ad C F => ?_)
  refine g_aload_n (pc := 0) C (hl := rfl) dX8_ahead_0 ?_
  refine g_V0v (pc := 1) C lv8_177 dX8_ahead_1 (s8_isNoneZ h0 hW (by rw [wT0_n T]; exact hg)) h0 (by decide) (Nat.le_of_ble_eq_true rfl) ?_
  refine g_if_eqN (pc := 4) C 10 dX8_ahead_4 (by decide) (by decide) (fun q => absurd q (by decide)) (fun _ => ?_)
  refine g_ldc (pc := 7) C (v := -1000002) zk8_180 dX8_ahead_7 ?_
  exact g_iret (pc := 9) C F dX8_ahead_9 rfl rfl (rfl) (rfl)
set_option maxHeartbeats 2000000 in
set_option maxRecDepth 20000 in
theorem s8_hungryN {n : Nat} {h : q_H} {un ta fl st sa ne so di pu at_ er en pa tr g : Nat} {W : Nat → Nat} {x : mX} (y : Int32) (h0 : h 87 = MO un ta fl st sa ne so di pu at_ er en pa tr) (hW : h 88 = WA W) (T : wT W 0 g x) (hg : g = 0) : SP 5 yX8_hungry cX8_hungry 4 (some .int) [.ref 87, .int y] n h (some (.int (-1000002))) h := by
  refine q_SPi RX8 rfl (by decide +kernel) (la := _) rfl rfl (fun Γ ad C F => ?_)
  refine g_aload_n (pc := 0) C (hl := rfl) dX8_hungry_0 ?_
  refine g_V0v (pc := 1) C lv8_177 dX8_hungry_1 (s8_isNoneZ h0 hW (by rw [wT0_n T]; exact hg)) h0 (by decide) (Nat.le_of_ble_eq_true rfl) ?_
  refine g_if_eqN (pc := 4) C 10 dX8_hungry_4 (by decide) (by decide) (fun q => absurd q (by decide)) (fun _ => ?_)
  refine g_ldc (pc := 7) C (v := -1000002) zk8_180 dX8_hungry_7 ?_
  exact g_iret (pc := 9) C F dX8_hungry_9 rfl rfl (rfl) (rfl)
set_option maxHeartbeats 2000000 in
set_option maxRecDepth 20000 in
theorem s8_restN {n : Nat} {h : q_H} {un ta fl st sa ne so di pu at_ er en pa tr g : Nat} {W : Nat → Nat} {x : mX} (h0 : h 87 = MO un ta fl st sa ne so di pu at_ er en pa tr) (hW : h 88 = WA W) (T : wT W 0 g x) (hg : g = 0) : SP 5 yX8_rest cX8_rest 3 (some .int) [.ref 87] n h (some (.int (-1000002))) h := by
  refine q_SPi RX8 rfl (by decide +kernel) (la := _) rfl rfl (fun Γ ad C F => ?_)
  refine g_aload_n (pc := 0) C (hl := rfl) dX8_rest_0 ?_
  refine g_V0v (pc := 1) C lv8_177 dX8_rest_1 (s8_isNoneZ h0 hW (by rw [wT0_n T]; exact hg)) h0 (by decide) (Nat.le_of_ble_eq_true rfl) ?_
  refine g_if_eqN (pc := 4) C 10 dX8_rest_4 (by decide) (by decide) (fun q => absurd q (by decide)) (fun _ => ?_)
  refine g_ldc (pc := 7) C (v := -1000002) zk8_180 dX8_rest_7 ?_
  exact g_iret (pc := 9) C F dX8_rest_9 rfl rfl (rfl) (rfl)
set_option maxHeartbeats 2000000 in
set_option maxRecDepth 20000 in
theorem s8_servedN {n : Nat} {h : q_H} {un ta fl st sa ne so di pu at_ er en pa tr g : Nat} {W : Nat → Nat} {x : mX} (h0 : h 87 = MO un ta fl st sa ne so di pu at_ er en pa tr) (hW : h 88 = WA W) (T : wT W 0 g x) (hg : g = 0) : SP 5 yX8_served cX8_served 8 (some .int) [.ref 87] n h (some (.int (-1000002))) h := by
  refine q_SPi RX8 rfl (by decide +kernel) (la := _) rfl rfl (fun Γ ad C F => ?_)
  refine g_aload_n (pc := 0) C (hl := rfl) dX8_served_0 ?_
  refine g_V0v (pc := 1) C lv8_177 dX8_served_1 (s8_isNoneZ h0 hW (by rw [wT0_n T]; exact hg)) h0 (by decide) (Nat.le_of_ble_eq_true rfl) ?_
  refine g_if_eqN (pc := 4) C 10 dX8_served_4 (by decide) (by decide) (fun q => absurd q (by decide)) (fun _ => ?_)
  refine g_ldc (pc := 7) C (v := -1000002) zk8_180 dX8_served_7 ?_
  exact g_iret (pc := 9) C F dX8_served_9 rfl rfl (rfl) (rfl)
set_option maxHeartbeats 2000000 in
set_option maxRecDepth 20000 in
theorem s8_laidN {n : Nat} {h : q_H} {un ta fl st sa ne so di pu at_ er en pa tr g : Nat} {W : Nat → Nat} {x : mX} (y z : Int32) (h0 : h 87 = MO un ta fl st sa ne so di pu at_ er en pa tr) (hW : h 88 = WA W) (T : wT W 0 g x) (hg : g = 0) : SP 5 yX8_laid cX8_laid 7 (some .int) [.ref 87, .int y, .int z] n h (some (.int (-1000002))) h := by
  refine q_SPi RX8 rfl (by decide +kernel) (la := _) rfl rfl (fun Γ ad C F => ?_)
  refine g_aload_n (pc := 0) C (hl := rfl) dX8_laid_0 ?_
  refine g_V0v (pc := 1) C lv8_177 dX8_laid_1 (s8_isNoneZ h0 hW (by rw [wT0_n T]; exact hg)) h0 (by decide) (Nat.le_of_ble_eq_true rfl) ?_
  refine g_if_eqN (pc := 4) C 10 dX8_laid_4 (by decide) (by decide) (fun q => absurd q (by decide)) (fun _ => ?_)
  refine g_ldc (pc := 7) C (v := -1000002) zk8_180 dX8_laid_7 ?_
  exact g_iret (pc := 9) C F dX8_laid_9 rfl rfl (rfl) (rfl)
set_option maxHeartbeats 2000000 in
set_option maxRecDepth 20000 in
theorem s8_aheadB {n : Nat} {h : q_H} {un ta fl st sa ne so di pu at_ er en pa tr g : Nat} {W : Nat → Nat} {x : mX} (y z : Int32) (h0 : h 87 = MO un ta fl st sa ne so di pu at_ er en pa tr) (hW : h 88 = WA W) (T : wT W 0 g x) (hg : 0 < g ∧ g ≤ 6) (hb : (y < nI 0 ∨ nI 99 < y) ∨ (z < nI 0 ∨ nI 1 < z)) : SP 5 yX8_ahead cX8_ahead 3 (some .int) [.ref 87, .int y, .int z] n h (some (.int (-1000001))) h := by
  refine q_SPi RX8 rfl (by decide +kernel) (la := _) rfl rfl (fun Γ ad C F => ?_)
  refine g_aload_n (pc := 0) C (hl := rfl) dX8_ahead_0 ?_
  refine g_V0v (pc := 1) C lv8_177 dX8_ahead_1 (s8_isNoneT h0 hW (by rw [wT0_n T]; omega)) h0 (by decide) (Nat.le_of_ble_eq_true rfl) ?_
  refine g_if_eqN (pc := 4) C 10 dX8_ahead_4 (by decide) (by decide) (fun _ => ?_) (fun q => absurd q (by decide))
  refine g_iload_n (pc := 10) C (hl := rfl) dX8_ahead_10 ?_
  by_cases cy : y < nI 0 ∨ nI 99 < y
  · refine g_S1v (pc := 11) C ls8_210 dX8_ahead_11 (s8_laterF y cy) (by decide) (Nat.le_of_ble_eq_true rfl) ?_
    refine g_if_eqN (pc := 14) C 27 dX8_ahead_14 (by decide) (by decide) (fun _ => ?_) (fun q => absurd q (by decide))
    refine g_ldc (pc := 27) C (v := -1000001) zk8_52 dX8_ahead_27 ?_
    exact g_iret (pc := 29) C F dX8_ahead_29 rfl rfl (rfl) (rfl)
  · refine g_S1v (pc := 11) C ls8_210 dX8_ahead_11 (s8_laterU y cy) (by decide) (Nat.le_of_ble_eq_true rfl) ?_
    refine g_if_eqN (pc := 14) C 27 dX8_ahead_14 (by decide) (by decide) (fun q => absurd q (by decide)) (fun _ => ?_)
    refine g_iload_n (pc := 17) C (hl := rfl) dX8_ahead_17 ?_
    refine g_i2l (pc := 18) C rfl dX8_ahead_18 ?_
    refine g_lconst (pc := 19) C (v := 0) rfl dX8_ahead_19 ?_
    refine g_lconst (pc := 20) C (v := 1) rfl dX8_ahead_20 ?_
    by_cases cz : z < (nI 0) ∨ (nI 1) < z
    · refine g_S3v (pc := 21) C ls8_37 dX8_ahead_21 (s8_inF z (nI 0) (nI 1) (by decide) (by decide) cz) (by decide) (Nat.le_of_ble_eq_true rfl) ?_
      refine g_if_neN (pc := 24) C 30 dX8_ahead_24 (by decide) (by decide) (fun q => absurd q (by decide)) (fun _ => ?_)
      refine g_ldc (pc := 27) C (v := -1000001) zk8_52 dX8_ahead_27 ?_
      exact g_iret (pc := 29) C F dX8_ahead_29 rfl rfl (rfl) (rfl)
    · refine g_S3v (pc := 21) C ls8_37 dX8_ahead_21 (s8_inT z (nI 0) (nI 1) (by decide) (by decide) cz) (by decide) (Nat.le_of_ble_eq_true rfl) ?_
      refine g_if_neN (pc := 24) C 30 dX8_ahead_24 (by decide) (by decide) (fun _ => ?_) (fun q => absurd q (by decide))
      exact absurd hb (fun q => q.elim cy cz)
set_option maxHeartbeats 2000000 in
set_option maxRecDepth 20000 in
theorem s8_ahead0 {n : Nat} {h : q_H} {un ta fl st sa ne so di pu at_ er en pa tr g : Nat} {W : Nat → Nat} {x : mX} (N : Nat) (h0 : h 87 = MO un ta fl st sa ne so di pu at_ er en pa tr) (hW : h 88 = WA W) (T : wT W 0 g x) (hv : mW g x) (hm : x.2.2.1 ≤ 999) (hg : 0 < g ∧ g ≤ 6) (hN : N ≤ 99) : SP 5 yX8_ahead cX8_ahead 3 (some .int) [.ref 87, .int (nI N), .int (nI 0)] n h (some (.int (nI (mPass g 1000000 N 0 (mG x er pu en at_)).2.2.1))) (q_up (q_up h 88 (WA (wPut W 1053 g (mPass g 1000000 N 0 (mG x er pu en at_)).2))) 87 (MX un ta fl st sa ne so di (mPass g 1000000 N 0 (mG x er pu en at_)).1 tr (mPass g 1000000 N 0 (mG x er pu en at_)).2)) := by
  refine q_SPi RX8 rfl (by decide +kernel) (la := _) rfl rfl (fun Γ ad C F => ?_)
  refine g_aload_n (pc := 0) C (hl := rfl) dX8_ahead_0 ?_
  refine g_V0v (pc := 1) C lv8_177 dX8_ahead_1 (s8_isNoneT h0 hW (by rw [wT0_n T]; omega)) h0 (by decide) (Nat.le_of_ble_eq_true rfl) ?_
  refine g_if_eqN (pc := 4) C 10 dX8_ahead_4 (by decide) (by decide) (fun _ => ?_) (fun q => absurd q (by decide))
  refine g_iload_n (pc := 10) C (hl := rfl) dX8_ahead_10 ?_
  refine g_S1v (pc := 11) C ls8_210 dX8_ahead_11 (s8_laterN N hN) (by decide) (Nat.le_of_ble_eq_true rfl) ?_
  refine g_if_eqN (pc := 14) C 27 dX8_ahead_14 (by decide) (by decide) (fun q => absurd q (by decide)) (fun _ => ?_)
  refine g_iload_n (pc := 17) C (hl := rfl) dX8_ahead_17 ?_
  refine g_i2l (pc := 18) C rfl dX8_ahead_18 ?_
  refine g_lconst (pc := 19) C (v := 0) rfl dX8_ahead_19 ?_
  refine g_lconst (pc := 20) C (v := 1) rfl dX8_ahead_20 ?_
  refine g_S3v (pc := 21) C ls8_37 dX8_ahead_21 (s8_inN 0 0 1 (by decide) (by decide) (by omega) (by decide)) (by decide) (Nat.le_of_ble_eq_true rfl) ?_
  refine g_if_neN (pc := 24) C 30 dX8_ahead_24 (by decide) (by decide) (fun _ => ?_) (fun q => absurd q (by decide))
  refine g_aload_n (pc := 30) C (hl := rfl) dX8_ahead_30 ?_
  refine g_iconst (pc := 31) C qk_iconst_0 dX8_ahead_31 ?_
  refine g_sipush (pc := 32) C qk_sipush_1053 dX8_ahead_32 ?_
  refine g_V2u (pc := 35) C lv8_142 dX8_ahead_35 (s8_copyRow (r := 1053) h0 hW T (by decide) (by decide)) h0 (by decide) (Nat.le_of_ble_eq_true rfl) ?_
  refine g_aload_n (pc := 38) C (hl := rfl) dX8_ahead_38 ?_
  refine g_iload_n (pc := 39) C (hl := rfl) dX8_ahead_39 ?_
  refine g_V1u (pc := 40) C lv8_213 dX8_ahead_40 (s8_goMinutes (x := (mG x er pu en at_)) N ((q_up_n _ _ (by decide)).trans h0) (q_up_s _ _ _) (wT_Q (mG_Q _ _ _ _ _) (wT_put _ _ _ _)) (mW_Q (mG_Q _ _ _ _ _) hv) (by omega) (by show x.2.2.1 + N < 1000000; omega)) ((q_up_n _ _ (by decide)).trans h0) (by decide) (Nat.le_of_ble_eq_true rfl) ?_
  refine g_iload_n (pc := 43) C (hl := rfl) dX8_ahead_43 ?_
  refine g_if_neN (pc := 44) C 58 dX8_ahead_44 (by decide) (by decide) (fun q => absurd q (by decide)) (fun _ => ?_)
  refine g_aload_n (pc := 47) C (hl := rfl) dX8_ahead_47 ?_
  refine g_get (pc := 48) C fl8_7 dX8_ahead_48 (q_up_s _ _ _) rfl ?_
  refine g_sipush (pc := 51) C qk_sipush_1054 dX8_ahead_51 ?_
  refine g_ialdV (pc := 54) C dX8_ahead_54 ((q_up_n _ _ (by decide)).trans (q_up_s _ _ _)) (by omega) (wT3_t (wT_put _ _ _ _)) ?_
  refine g_goto (pc := 55) C 62 dX8_ahead_55 (by decide) ?_
  exact g_iret (pc := 62) C F dX8_ahead_62 rfl rfl (rfl) (by first | (simp only [q_up_u, q_up_c _ (show (87 : Nat) ≠ 88 by decide), wPut_put]; done) | (simp only [q_up_u, q_up_c _ (show (87 : Nat) ≠ 88 by decide), wPut_put]; rfl))
set_option maxHeartbeats 2000000 in
set_option maxRecDepth 20000 in
theorem s8_ahead1 {n : Nat} {h : q_H} {un ta fl st sa ne so di pu at_ er en pa tr g : Nat} {W : Nat → Nat} {x : mX} (N : Nat) (h0 : h 87 = MO un ta fl st sa ne so di pu at_ er en pa tr) (hW : h 88 = WA W) (T : wT W 0 g x) (hv : mW g x) (hm : x.2.2.1 ≤ 999) (hg : 0 < g ∧ g ≤ 6) (hN : N ≤ 99) : SP 5 yX8_ahead cX8_ahead 3 (some .int) [.ref 87, .int (nI N), .int (nI 1)] n h (some (.int (nI (mPass g 1000000 N 0 (mG x er pu en at_)).1))) (q_up (q_up h 88 (WA (wPut W 1053 g (mPass g 1000000 N 0 (mG x er pu en at_)).2))) 87 (MX un ta fl st sa ne so di (mPass g 1000000 N 0 (mG x er pu en at_)).1 tr (mPass g 1000000 N 0 (mG x er pu en at_)).2)) := by
  refine q_SPi RX8 rfl (by decide +kernel) (la := _) rfl rfl (fun Γ ad C F => ?_)
  refine g_aload_n (pc := 0) C (hl := rfl) dX8_ahead_0 ?_
  refine g_V0v (pc := 1) C lv8_177 dX8_ahead_1 (s8_isNoneT h0 hW (by rw [wT0_n T]; omega)) h0 (by decide) (Nat.le_of_ble_eq_true rfl) ?_
  refine g_if_eqN (pc := 4) C 10 dX8_ahead_4 (by decide) (by decide) (fun _ => ?_) (fun q => absurd q (by decide))
  refine g_iload_n (pc := 10) C (hl := rfl) dX8_ahead_10 ?_
  refine g_S1v (pc := 11) C ls8_210 dX8_ahead_11 (s8_laterN N hN) (by decide) (Nat.le_of_ble_eq_true rfl) ?_
  refine g_if_eqN (pc := 14) C 27 dX8_ahead_14 (by decide) (by decide) (fun q => absurd q (by decide)) (fun _ => ?_)
  refine g_iload_n (pc := 17) C (hl := rfl) dX8_ahead_17 ?_
  refine g_i2l (pc := 18) C rfl dX8_ahead_18 ?_
  refine g_lconst (pc := 19) C (v := 0) rfl dX8_ahead_19 ?_
  refine g_lconst (pc := 20) C (v := 1) rfl dX8_ahead_20 ?_
  refine g_S3v (pc := 21) C ls8_37 dX8_ahead_21 (s8_inN 1 0 1 (by decide) (by decide) (by omega) (by decide)) (by decide) (Nat.le_of_ble_eq_true rfl) ?_
  refine g_if_neN (pc := 24) C 30 dX8_ahead_24 (by decide) (by decide) (fun _ => ?_) (fun q => absurd q (by decide))
  refine g_aload_n (pc := 30) C (hl := rfl) dX8_ahead_30 ?_
  refine g_iconst (pc := 31) C qk_iconst_0 dX8_ahead_31 ?_
  refine g_sipush (pc := 32) C qk_sipush_1053 dX8_ahead_32 ?_
  refine g_V2u (pc := 35) C lv8_142 dX8_ahead_35 (s8_copyRow (r := 1053) h0 hW T (by decide) (by decide)) h0 (by decide) (Nat.le_of_ble_eq_true rfl) ?_
  refine g_aload_n (pc := 38) C (hl := rfl) dX8_ahead_38 ?_
  refine g_iload_n (pc := 39) C (hl := rfl) dX8_ahead_39 ?_
  refine g_V1u (pc := 40) C lv8_213 dX8_ahead_40 (s8_goMinutes (x := (mG x er pu en at_)) N ((q_up_n _ _ (by decide)).trans h0) (q_up_s _ _ _) (wT_Q (mG_Q _ _ _ _ _) (wT_put _ _ _ _)) (mW_Q (mG_Q _ _ _ _ _) hv) (by omega) (by show x.2.2.1 + N < 1000000; omega)) ((q_up_n _ _ (by decide)).trans h0) (by decide) (Nat.le_of_ble_eq_true rfl) ?_
  refine g_iload_n (pc := 43) C (hl := rfl) dX8_ahead_43 ?_
  refine g_if_neN (pc := 44) C 58 dX8_ahead_44 (by decide) (by decide) (fun _ => ?_) (fun q => absurd q (by decide))
  refine g_aload_n (pc := 58) C (hl := rfl) dX8_ahead_58 ?_
  refine g_get (pc := 59) C fl8_205 dX8_ahead_59 (q_up_s _ _ _) rfl ?_
  exact g_iret (pc := 62) C F dX8_ahead_62 rfl rfl (rfl) (by first | (simp only [q_up_u, q_up_c _ (show (87 : Nat) ≠ 88 by decide), wPut_put]; done) | (simp only [q_up_u, q_up_c _ (show (87 : Nat) ≠ 88 by decide), wPut_put]; rfl))
set_option maxHeartbeats 2000000 in
set_option maxRecDepth 20000 in
theorem s8_dishAheadB {n : Nat} {h : q_H} {un ta fl st sa ne so di pu at_ er en pa tr g : Nat} {W : Nat → Nat} {x : mX} (y z : Int32) (h0 : h 87 = MO un ta fl st sa ne so di pu at_ er en pa tr) (hW : h 88 = WA W) (T : wT W 0 g x) (hg : g ≤ 6) (hb : (y < 0 ∨ nI g ≤ y) ∨ (z < nI 0 ∨ nI 99 < z)) : SP 5 yX8_dishAhead cX8_dishAhead 3 (some .int) [.ref 87, .int y, .int z] n h (some (.int (-1000001))) h := by
  refine q_SPi RX8 rfl (by decide +kernel) (la := _) rfl rfl (fun Γ ad C F => ?_)
  have hg0 : W 0 = g ∧ g ≤ 6 := ⟨wT0_n T, hg⟩
  refine g_aload_n (pc := 0) C (hl := rfl) dX8_dishAhead_0 ?_
  refine g_iload_n (pc := 1) C (hl := rfl) dX8_dishAhead_1 ?_
  by_cases cy : y < 0 ∨ nI g ≤ y
  · refine g_V1v (pc := 2) C lv8_194 dX8_dishAhead_2 (s8_oneF y h0 hW hg0 cy) h0 (by decide) (Nat.le_of_ble_eq_true rfl) ?_
    refine g_if_eqN (pc := 5) C 15 dX8_dishAhead_5 (by decide) (by decide) (fun _ => ?_) (fun q => absurd q (by decide))
    refine g_ldc (pc := 15) C (v := -1000001) zk8_52 dX8_dishAhead_15 ?_
    exact g_iret (pc := 17) C F dX8_dishAhead_17 rfl rfl (rfl) (rfl)
  · refine g_V1v (pc := 2) C lv8_194 dX8_dishAhead_2 (s8_oneU y h0 hW hg0 cy) h0 (by decide) (Nat.le_of_ble_eq_true rfl) ?_
    refine g_if_eqN (pc := 5) C 15 dX8_dishAhead_5 (by decide) (by decide) (fun q => absurd q (by decide)) (fun _ => ?_)
    refine g_iload_n (pc := 8) C (hl := rfl) dX8_dishAhead_8 ?_
    by_cases cz : z < nI 0 ∨ nI 99 < z
    · refine g_S1v (pc := 9) C ls8_210 dX8_dishAhead_9 (s8_laterF z cz) (by decide) (Nat.le_of_ble_eq_true rfl) ?_
      refine g_if_neN (pc := 12) C 18 dX8_dishAhead_12 (by decide) (by decide) (fun q => absurd q (by decide)) (fun _ => ?_)
      refine g_ldc (pc := 15) C (v := -1000001) zk8_52 dX8_dishAhead_15 ?_
      exact g_iret (pc := 17) C F dX8_dishAhead_17 rfl rfl (rfl) (rfl)
    · refine g_S1v (pc := 9) C ls8_210 dX8_dishAhead_9 (s8_laterU z cz) (by decide) (Nat.le_of_ble_eq_true rfl) ?_
      refine g_if_neN (pc := 12) C 18 dX8_dishAhead_12 (by decide) (by decide) (fun _ => ?_) (fun q => absurd q (by decide))
      exact absurd hb (fun q => q.elim cy cz)
set_option maxHeartbeats 2000000 in
set_option maxRecDepth 20000 in
theorem s8_guestAheadB {n : Nat} {h : q_H} {un ta fl st sa ne so di pu at_ er en pa tr g : Nat} {W : Nat → Nat} {x : mX} (y z : Int32) (h0 : h 87 = MO un ta fl st sa ne so di pu at_ er en pa tr) (hW : h 88 = WA W) (T : wT W 0 g x) (hg : g ≤ 6) (hb : (y < 0 ∨ nI g ≤ y) ∨ (z < nI 0 ∨ nI 99 < z)) : SP 5 yX8_guestAhead cX8_guestAhead 3 (some .int) [.ref 87, .int y, .int z] n h (some (.int (-1000001))) h := by
  refine q_SPi RX8 rfl (by decide +kernel) (la := _) rfl rfl (fun Γ ad C F => ?_)
  have hg0 : W 0 = g ∧ g ≤ 6 := ⟨wT0_n T, hg⟩
  refine g_aload_n (pc := 0) C (hl := rfl) dX8_guestAhead_0 ?_
  refine g_iload_n (pc := 1) C (hl := rfl) dX8_guestAhead_1 ?_
  by_cases cy : y < 0 ∨ nI g ≤ y
  · refine g_V1v (pc := 2) C lv8_194 dX8_guestAhead_2 (s8_oneF y h0 hW hg0 cy) h0 (by decide) (Nat.le_of_ble_eq_true rfl) ?_
    refine g_if_eqN (pc := 5) C 15 dX8_guestAhead_5 (by decide) (by decide) (fun _ => ?_) (fun q => absurd q (by decide))
    refine g_ldc (pc := 15) C (v := -1000001) zk8_52 dX8_guestAhead_15 ?_
    exact g_iret (pc := 17) C F dX8_guestAhead_17 rfl rfl (rfl) (rfl)
  · refine g_V1v (pc := 2) C lv8_194 dX8_guestAhead_2 (s8_oneU y h0 hW hg0 cy) h0 (by decide) (Nat.le_of_ble_eq_true rfl) ?_
    refine g_if_eqN (pc := 5) C 15 dX8_guestAhead_5 (by decide) (by decide) (fun q => absurd q (by decide)) (fun _ => ?_)
    refine g_iload_n (pc := 8) C (hl := rfl) dX8_guestAhead_8 ?_
    by_cases cz : z < nI 0 ∨ nI 99 < z
    · refine g_S1v (pc := 9) C ls8_210 dX8_guestAhead_9 (s8_laterF z cz) (by decide) (Nat.le_of_ble_eq_true rfl) ?_
      refine g_if_neN (pc := 12) C 18 dX8_guestAhead_12 (by decide) (by decide) (fun q => absurd q (by decide)) (fun _ => ?_)
      refine g_ldc (pc := 15) C (v := -1000001) zk8_52 dX8_guestAhead_15 ?_
      exact g_iret (pc := 17) C F dX8_guestAhead_17 rfl rfl (rfl) (rfl)
    · refine g_S1v (pc := 9) C ls8_210 dX8_guestAhead_9 (s8_laterU z cz) (by decide) (Nat.le_of_ble_eq_true rfl) ?_
      refine g_if_neN (pc := 12) C 18 dX8_guestAhead_12 (by decide) (by decide) (fun _ => ?_) (fun q => absurd q (by decide))
      exact absurd hb (fun q => q.elim cy cz)
set_option maxHeartbeats 2000000 in
set_option maxRecDepth 20000 in
theorem s8_dishAheadT {n : Nat} {h : q_H} {un ta fl st sa ne so di pu at_ er en pa tr g : Nat} {W : Nat → Nat} {x : mX} (y N : Nat) (h0 : h 87 = MO un ta fl st sa ne so di pu at_ er en pa tr) (hW : h 88 = WA W) (T : wT W 0 g x) (hv : mW g x) (hm : x.2.2.1 ≤ 999) (hg : 0 < g ∧ g ≤ 6) (hy : y < g) (hN : N ≤ 99) : SP 5 yX8_dishAhead cX8_dishAhead 3 (some .int) [.ref 87, .int (nI y), .int (nI N)] n h (some (.int (nI ((mPass g 1000000 N 0 (mG x er pu en at_)).2.1 (24 + y))))) (q_up (q_up h 88 (WA (wPut W 1053 g (mPass g 1000000 N 0 (mG x er pu en at_)).2))) 87 (MX un ta fl st sa ne so di (mPass g 1000000 N 0 (mG x er pu en at_)).1 tr (mPass g 1000000 N 0 (mG x er pu en at_)).2)) := by
  refine q_SPi RX8 rfl (by decide +kernel) (la := _) rfl rfl (fun Γ ad C F => ?_)
  have hg0 : W 0 = g ∧ g ≤ 6 := ⟨wT0_n T, hg.2⟩
  refine g_aload_n (pc := 0) C (hl := rfl) dX8_dishAhead_0 ?_
  refine g_iload_n (pc := 1) C (hl := rfl) dX8_dishAhead_1 ?_
  refine g_V1v (pc := 2) C lv8_194 dX8_dishAhead_2 (s8_oneN y h0 hW hg0 hy) h0 (by decide) (Nat.le_of_ble_eq_true rfl) ?_
  refine g_if_eqN (pc := 5) C 15 dX8_dishAhead_5 (by decide) (by decide) (fun q => absurd q (by decide)) (fun _ => ?_)
  refine g_iload_n (pc := 8) C (hl := rfl) dX8_dishAhead_8 ?_
  refine g_S1v (pc := 9) C ls8_210 dX8_dishAhead_9 (s8_laterN N hN) (by decide) (Nat.le_of_ble_eq_true rfl) ?_
  refine g_if_neN (pc := 12) C 18 dX8_dishAhead_12 (by decide) (by decide) (fun _ => ?_) (fun q => absurd q (by decide))
  refine g_aload_n (pc := 18) C (hl := rfl) dX8_dishAhead_18 ?_
  refine g_iconst (pc := 19) C qk_iconst_0 dX8_dishAhead_19 ?_
  refine g_sipush (pc := 20) C qk_sipush_1053 dX8_dishAhead_20 ?_
  refine g_V2u (pc := 23) C lv8_142 dX8_dishAhead_23 (s8_copyRow (r := 1053) h0 hW T (by decide) (by decide)) h0 (by decide) (Nat.le_of_ble_eq_true rfl) ?_
  refine g_aload_n (pc := 26) C (hl := rfl) dX8_dishAhead_26 ?_
  refine g_iload_n (pc := 27) C (hl := rfl) dX8_dishAhead_27 ?_
  refine g_V1u (pc := 28) C lv8_213 dX8_dishAhead_28 (s8_goMinutes (x := (mG x er pu en at_)) N ((q_up_n _ _ (by decide)).trans h0) (q_up_s _ _ _) (wT_Q (mG_Q _ _ _ _ _) (wT_put _ _ _ _)) (mW_Q (mG_Q _ _ _ _ _) hv) (by omega) (by show x.2.2.1 + N < 1000000; omega)) ((q_up_n _ _ (by decide)).trans h0) (by decide) (Nat.le_of_ble_eq_true rfl) ?_
  refine g_aload_n (pc := 31) C (hl := rfl) dX8_dishAhead_31 ?_
  refine g_get (pc := 32) C fl8_7 dX8_dishAhead_32 (q_up_s _ _ _) rfl ?_
  refine g_sipush (pc := 35) C qk_sipush_1080 dX8_dishAhead_35 ?_
  refine g_iload_n (pc := 38) C (hl := rfl) dX8_dishAhead_38 ?_
  refine g_iaddN (pc := 39) C dX8_dishAhead_39 ?_
  refine g_ialdV (pc := 40) C dX8_dishAhead_40 ((q_up_n _ _ (by decide)).trans (q_up_s _ _ _)) (by omega) (wT3_po (wT_put _ _ _ _) (by omega)) ?_
  exact g_iret (pc := 41) C F dX8_dishAhead_41 rfl rfl (rfl) (by first | (simp only [q_up_u, q_up_c _ (show (87 : Nat) ≠ 88 by decide), wPut_put]; done) | (simp only [q_up_u, q_up_c _ (show (87 : Nat) ≠ 88 by decide), wPut_put]; rfl))
set_option maxHeartbeats 2000000 in
set_option maxRecDepth 20000 in
theorem s8_guestAheadT {n : Nat} {h : q_H} {un ta fl st sa ne so di pu at_ er en pa tr g : Nat} {W : Nat → Nat} {x : mX} (y N : Nat) (h0 : h 87 = MO un ta fl st sa ne so di pu at_ er en pa tr) (hW : h 88 = WA W) (T : wT W 0 g x) (hv : mW g x) (hm : x.2.2.1 ≤ 999) (hg : 0 < g ∧ g ≤ 6) (hy : y < g) (hN : N ≤ 99) : SP 5 yX8_guestAhead cX8_guestAhead 3 (some .int) [.ref 87, .int (nI y), .int (nI N)] n h (some (.int (qI (((mPass g 1000000 N 0 (mG x er pu en at_)).2.1 (18 + y) : Int) - (x.1 (18 + y) : Int))))) (q_up (q_up h 88 (WA (wPut W 1053 g (mPass g 1000000 N 0 (mG x er pu en at_)).2))) 87 (MX un ta fl st sa ne so di (mPass g 1000000 N 0 (mG x er pu en at_)).1 tr (mPass g 1000000 N 0 (mG x er pu en at_)).2)) := by
  refine q_SPi RX8 rfl (by decide +kernel) (la := _) rfl rfl (fun Γ ad C F => ?_)
  have hg0 : W 0 = g ∧ g ≤ 6 := ⟨wT0_n T, hg.2⟩
  refine g_aload_n (pc := 0) C (hl := rfl) dX8_guestAhead_0 ?_
  refine g_iload_n (pc := 1) C (hl := rfl) dX8_guestAhead_1 ?_
  refine g_V1v (pc := 2) C lv8_194 dX8_guestAhead_2 (s8_oneN y h0 hW hg0 hy) h0 (by decide) (Nat.le_of_ble_eq_true rfl) ?_
  refine g_if_eqN (pc := 5) C 15 dX8_guestAhead_5 (by decide) (by decide) (fun q => absurd q (by decide)) (fun _ => ?_)
  refine g_iload_n (pc := 8) C (hl := rfl) dX8_guestAhead_8 ?_
  refine g_S1v (pc := 9) C ls8_210 dX8_guestAhead_9 (s8_laterN N hN) (by decide) (Nat.le_of_ble_eq_true rfl) ?_
  refine g_if_neN (pc := 12) C 18 dX8_guestAhead_12 (by decide) (by decide) (fun _ => ?_) (fun q => absurd q (by decide))
  refine g_aload_n (pc := 18) C (hl := rfl) dX8_guestAhead_18 ?_
  refine g_iconst (pc := 19) C qk_iconst_0 dX8_guestAhead_19 ?_
  refine g_sipush (pc := 20) C qk_sipush_1053 dX8_guestAhead_20 ?_
  refine g_V2u (pc := 23) C lv8_142 dX8_guestAhead_23 (s8_copyRow (r := 1053) h0 hW T (by decide) (by decide)) h0 (by decide) (Nat.le_of_ble_eq_true rfl) ?_
  refine g_aload_n (pc := 26) C (hl := rfl) dX8_guestAhead_26 ?_
  refine g_iload_n (pc := 27) C (hl := rfl) dX8_guestAhead_27 ?_
  refine g_V1u (pc := 28) C lv8_213 dX8_guestAhead_28 (s8_goMinutes (x := (mG x er pu en at_)) N ((q_up_n _ _ (by decide)).trans h0) (q_up_s _ _ _) (wT_Q (mG_Q _ _ _ _ _) (wT_put _ _ _ _)) (mW_Q (mG_Q _ _ _ _ _) hv) (by omega) (by show x.2.2.1 + N < 1000000; omega)) ((q_up_n _ _ (by decide)).trans h0) (by decide) (Nat.le_of_ble_eq_true rfl) ?_
  refine g_aload_n (pc := 31) C (hl := rfl) dX8_guestAhead_31 ?_
  refine g_get (pc := 32) C fl8_7 dX8_guestAhead_32 (q_up_s _ _ _) rfl ?_
  refine g_sipush (pc := 35) C qk_sipush_1068 dX8_guestAhead_35 ?_
  refine g_iload_n (pc := 38) C (hl := rfl) dX8_guestAhead_38 ?_
  refine g_iaddN (pc := 39) C dX8_guestAhead_39 ?_
  refine g_ialdV (pc := 40) C dX8_guestAhead_40 ((q_up_n _ _ (by decide)).trans (q_up_s _ _ _)) (by omega) (wT3_ea (wT_put _ _ _ _) (by omega)) ?_
  refine g_aload_n (pc := 41) C (hl := rfl) dX8_guestAhead_41 ?_
  refine g_get (pc := 42) C fl8_7 dX8_guestAhead_42 (q_up_s _ _ _) rfl ?_
  refine g_bipush (pc := 45) C qk_bipush_15 dX8_guestAhead_45 ?_
  refine g_iload_n (pc := 47) C (hl := rfl) dX8_guestAhead_47 ?_
  refine g_iaddN (pc := 48) C dX8_guestAhead_48 ?_
  refine g_ialdV (pc := 49) C dX8_guestAhead_49 ((q_up_n _ _ (by decide)).trans (q_up_s _ _ _)) (by omega) (wT0_ea (wT_o (by decide) (wT_o (by decide) T)) (by omega)) ?_
  refine g_isubE (pc := 50) C (w := qI (((mPass g 1000000 N 0 (mG x er pu en at_)).2.1 (18 + y) : Int) - (x.1 (18 + y) : Int))) (by rw [qI_N, qI_N, qI_sub]) dX8_guestAhead_50 ?_
  exact g_iret (pc := 51) C F dX8_guestAhead_51 rfl rfl (rfl) (by first | (simp only [q_up_u, q_up_c _ (show (87 : Nat) ≠ 88 by decide), wPut_put]; done) | (simp only [q_up_u, q_up_c _ (show (87 : Nat) ≠ 88 by decide), wPut_put]; rfl))
set_option maxHeartbeats 2000000 in
set_option maxRecDepth 20000 in
theorem s8_hungryB {n : Nat} {h : q_H} {un ta fl st sa ne so di pu at_ er en pa tr g : Nat} {W : Nat → Nat} {x : mX} (z : Int32) (h0 : h 87 = MO un ta fl st sa ne so di pu at_ er en pa tr) (hW : h 88 = WA W) (T : wT W 0 g x) (hg : 0 < g ∧ g ≤ 6) (hz : z < nI 0 ∨ nI 99 < z) : SP 5 yX8_hungry cX8_hungry 4 (some .int) [.ref 87, .int z] n h (some (.int (-1000001))) h := by
  refine q_SPi RX8 rfl (by decide +kernel) (la := _) rfl rfl (fun Γ ad C F => ?_)
  refine g_aload_n (pc := 0) C (hl := rfl) dX8_hungry_0 ?_
  refine g_V0v (pc := 1) C lv8_177 dX8_hungry_1 (s8_isNoneT h0 hW (by rw [wT0_n T]; omega)) h0 (by decide) (Nat.le_of_ble_eq_true rfl) ?_
  refine g_if_eqN (pc := 4) C 10 dX8_hungry_4 (by decide) (by decide) (fun _ => ?_) (fun q => absurd q (by decide))
  refine g_iload_n (pc := 10) C (hl := rfl) dX8_hungry_10 ?_
  refine g_S1v (pc := 11) C ls8_210 dX8_hungry_11 (s8_laterF z hz) (by decide) (Nat.le_of_ble_eq_true rfl) ?_
  refine g_if_neN (pc := 14) C 20 dX8_hungry_14 (by decide) (by decide) (fun q => absurd q (by decide)) (fun _ => ?_)
  refine g_ldc (pc := 17) C (v := -1000001) zk8_52 dX8_hungry_17 ?_
  exact g_iret (pc := 19) C F dX8_hungry_19 rfl rfl (rfl) (rfl)
set_option maxHeartbeats 2000000 in
set_option maxRecDepth 20000 in
theorem l8_hu {Γ : q_X} {ad : Nat → Nat} {n : Nat} {h : q_H} {un ta fl st sa ne so di pu at_ er en pa tr g N : Nat} {W : Nat → Nat} {x y : mX} (h0 : h 87 = MO un ta fl st sa ne so di pu at_ er en pa tr) (hW : h 88 = WA W) (T0 : wT W 0 g x) (T3 : wT W 1053 g y) (hg : g ≤ 6) (hb : ∀ k, k < 6 → y.1 (18 + k) < 2 ^ 31) (C : q_C Γ ad 5 0 0 RX8 yX8_hungry cX8_hungry 4 (some .int)) (F : q_N Γ ad n (some (.int (nI (mBits (fun k => y.1 (18 + k) = 0) g)))) h) : ∀ (m i S : Nat), i + m = g + 1 → i ≤ g → S = (mBits (fun k => y.1 (18 + k) = 0) i) → q_G Γ ad 4 37 [some (.ref 87), some (.int (nI N)), some (.int (nI S)), some (.int (nI i))] [] n h 0 0 := by
  intro m
  induction m with
  | zero => intro i S hm hi; omega
  | succ m ih =>
    intro i S hm hi hS
    refine g_iload_n (pc := 37) C (hl := rfl) dX8_hungry_37 ?_
    refine g_aload_n (pc := 38) C (hl := rfl) dX8_hungry_38 ?_
    refine g_get (pc := 39) C fl8_7 dX8_hungry_39 h0 rfl ?_
    refine g_iconst (pc := 42) C qk_iconst_0 dX8_hungry_42 ?_
    refine g_ialdV (pc := 43) C dX8_hungry_43 hW (by omega) (wT0_n T0) ?_
    refine g_ic_geN (pc := 44) C 76 dX8_hungry_44 (by decide) (by omega) (fun c44 => ?_) (fun c44 => ?_)
    · refine g_iload_n (pc := 76) C (hl := rfl) dX8_hungry_76 ?_
      obtain rfl : i = g := by omega
      subst hS
      exact g_iret (pc := 77) C F dX8_hungry_77 rfl rfl rfl rfl
    · refine g_iload_n (pc := 47) C (hl := rfl) dX8_hungry_47 ?_
      refine g_aload_n (pc := 48) C (hl := rfl) dX8_hungry_48 ?_
      refine g_get (pc := 49) C fl8_7 dX8_hungry_49 h0 rfl ?_
      refine g_sipush (pc := 52) C qk_sipush_1068 dX8_hungry_52 ?_
      refine g_iload_n (pc := 55) C (hl := rfl) dX8_hungry_55 ?_
      refine g_iaddN (pc := 56) C dX8_hungry_56 ?_
      refine g_ialdV (pc := 57) C dX8_hungry_57 hW (by omega) (wT3_ea T3 (by omega)) ?_
      refine g_if_neN (pc := 58) C 67 dX8_hungry_58 (by decide) (by exact hb _ (by omega)) (fun c58 => ?_) (fun c58 => ?_)
      · refine g_iconst (pc := 67) C qk_iconst_0 dX8_hungry_67 ?_
        refine g_iorE (pc := 68) C (w := nI (mBits (fun k => y.1 (18 + k) = 0) i)) (by rw [hS]; exact q_or0 _) dX8_hungry_68 ?_
        refine g_istore_n (pc := 69) C rfl dX8_hungry_69 ?_
        refine g_iincN (pc := 70) C (hl := rfl) (q_inc1 _) rfl dX8_hungry_70 ?_
        refine g_goto (pc := 73) C 37 dX8_hungry_73 (by decide) ?_
        exact ih (i + 1) _ (by omega) (by omega) ((mBits_n (p := fun k => y.1 (18 + k) = 0) c58).symm)
      · refine g_iconst (pc := 61) C qk_iconst_1 dX8_hungry_61 ?_
        refine g_iload_n (pc := 62) C (hl := rfl) dX8_hungry_62 ?_
        refine g_ishl (pc := 63) C dX8_hungry_63 ?_
        refine g_goto (pc := 64) C 68 dX8_hungry_64 (by decide) ?_
        refine g_iorE (pc := 68) C (w := nI (mBits (fun k => y.1 (18 + k) = 0) (i + 1))) (by rw [hS]; exact q_bitE (p := fun k => y.1 (18 + k) = 0) (by omega) c58) dX8_hungry_68 ?_
        refine g_istore_n (pc := 69) C rfl dX8_hungry_69 ?_
        refine g_iincN (pc := 70) C (hl := rfl) (q_inc1 _) rfl dX8_hungry_70 ?_
        refine g_goto (pc := 73) C 37 dX8_hungry_73 (by decide) ?_
        exact ih (i + 1) _ (by omega) (by omega) (rfl)
set_option maxHeartbeats 2000000 in
set_option maxRecDepth 20000 in
theorem s8_hungryT {n : Nat} {h : q_H} {un ta fl st sa ne so di pu at_ er en pa tr g : Nat} {W : Nat → Nat} {x : mX} (N : Nat) (h0 : h 87 = MO un ta fl st sa ne so di pu at_ er en pa tr) (hW : h 88 = WA W) (T : wT W 0 g x) (hv : mW g x) (hm : x.2.2.1 ≤ 999) (hg : 0 < g ∧ g ≤ 6) (hN : N ≤ 99) (hb : ∀ k, k < 6 → (mPass g 1000000 N 0 (mG x er pu en at_)).2.1 (18 + k) < 2 ^ 31) : SP 5 yX8_hungry cX8_hungry 4 (some .int) [.ref 87, .int (nI N)] n h (some (.int (nI (mBits (fun k => (mPass g 1000000 N 0 (mG x er pu en at_)).2.1 (18 + k) = 0) g)))) (q_up (q_up h 88 (WA (wPut W 1053 g (mPass g 1000000 N 0 (mG x er pu en at_)).2))) 87 (MX un ta fl st sa ne so di (mPass g 1000000 N 0 (mG x er pu en at_)).1 tr (mPass g 1000000 N 0 (mG x er pu en at_)).2)) := by
  refine q_SPi RX8 rfl (by decide +kernel) (la := _) rfl rfl (fun Γ ad C F => ?_)
  refine g_aload_n (pc := 0) C (hl := rfl) dX8_hungry_0 ?_
  refine g_V0v (pc := 1) C lv8_177 dX8_hungry_1 (s8_isNoneT h0 hW (by rw [wT0_n T]; omega)) h0 (by decide) (Nat.le_of_ble_eq_true rfl) ?_
  refine g_if_eqN (pc := 4) C 10 dX8_hungry_4 (by decide) (by decide) (fun _ => ?_) (fun q => absurd q (by decide))
  refine g_iload_n (pc := 10) C (hl := rfl) dX8_hungry_10 ?_
  refine g_S1v (pc := 11) C ls8_210 dX8_hungry_11 (s8_laterN N hN) (by decide) (Nat.le_of_ble_eq_true rfl) ?_
  refine g_if_neN (pc := 14) C 20 dX8_hungry_14 (by decide) (by decide) (fun _ => ?_) (fun q => absurd q (by decide))
  refine g_aload_n (pc := 20) C (hl := rfl) dX8_hungry_20 ?_
  refine g_iconst (pc := 21) C qk_iconst_0 dX8_hungry_21 ?_
  refine g_sipush (pc := 22) C qk_sipush_1053 dX8_hungry_22 ?_
  refine g_V2u (pc := 25) C lv8_142 dX8_hungry_25 (s8_copyRow (r := 1053) h0 hW T (by decide) (by decide)) h0 (by decide) (Nat.le_of_ble_eq_true rfl) ?_
  refine g_aload_n (pc := 28) C (hl := rfl) dX8_hungry_28 ?_
  refine g_iload_n (pc := 29) C (hl := rfl) dX8_hungry_29 ?_
  refine g_V1u (pc := 30) C lv8_213 dX8_hungry_30 (s8_goMinutes (x := (mG x er pu en at_)) N ((q_up_n _ _ (by decide)).trans h0) (q_up_s _ _ _) (wT_Q (mG_Q _ _ _ _ _) (wT_put _ _ _ _)) (mW_Q (mG_Q _ _ _ _ _) hv) (by omega) (by show x.2.2.1 + N < 1000000; omega)) ((q_up_n _ _ (by decide)).trans h0) (by decide) (Nat.le_of_ble_eq_true rfl) ?_
  refine g_iconst (pc := 33) C qk_iconst_0 dX8_hungry_33 ?_
  refine g_istore_n (pc := 34) C rfl dX8_hungry_34 ?_
  refine g_iconst (pc := 35) C qk_iconst_0 dX8_hungry_35 ?_
  refine g_istore_n (pc := 36) C rfl dX8_hungry_36 ?_
  refine l8_hu (y := (mPass g 1000000 N 0 (mG x er pu en at_)).2) (q_up_s _ _ _) ((q_up_n _ _ (by decide)).trans (q_up_s _ _ _)) (wT_o (by decide) (wT_o (by decide) T)) (wT_put _ _ _ _) hg.2 hb C ?_ (g + 1) 0 0 (by omega) (by omega) rfl
  rw [show q_up (q_up (q_up h 88 _) 88 _) 87 _ = (q_up (q_up h 88 (WA (wPut W 1053 g (mPass g 1000000 N 0 (mG x er pu en at_)).2))) 87 (MX un ta fl st sa ne so di (mPass g 1000000 N 0 (mG x er pu en at_)).1 tr (mPass g 1000000 N 0 (mG x er pu en at_)).2)) from by first | (simp only [q_up_u, q_up_c _ (show (87 : Nat) ≠ 88 by decide), wPut_put]; done) | (simp only [q_up_u, q_up_c _ (show (87 : Nat) ≠ 88 by decide), wPut_put]; rfl)]
  exact F
set_option maxHeartbeats 2000000 in
set_option maxRecDepth 20000 in
theorem s8_lastB {n : Nat} {h : q_H} {un ta fl st sa ne so di pu at_ er en pa tr g : Nat} {W : Nat → Nat} {x : mX} (y z : Int32) (h0 : h 87 = MO un ta fl st sa ne so di pu at_ er en pa tr) (hW : h 88 = WA W) (T : wT W 0 g x) (hg : g ≤ 6) (hb : (y < 0 ∨ nI g ≤ y) ∨ (z < nI 0 ∨ nI 1 < z)) : SP 5 yX8_last cX8_last 4 (some .int) [.ref 87, .int y, .int z] n h (some (.int (-1000001))) h := by
  refine q_SPi RX8 rfl (by decide +kernel) (la := _) rfl rfl (fun Γ ad C F => ?_)
  have hg0 : W 0 = g ∧ g ≤ 6 := ⟨wT0_n T, hg⟩
  refine g_aload_n (pc := 0) C (hl := rfl) dX8_last_0 ?_
  refine g_iload_n (pc := 1) C (hl := rfl) dX8_last_1 ?_
  by_cases cy : y < 0 ∨ nI g ≤ y
  · refine g_V1v (pc := 2) C lv8_194 dX8_last_2 (s8_oneF y h0 hW hg0 cy) h0 (by decide) (Nat.le_of_ble_eq_true rfl) ?_
    refine g_if_eqN (pc := 5) C 18 dX8_last_5 (by decide) (by decide) (fun _ => ?_) (fun q => absurd q (by decide))
    refine g_ldc (pc := 18) C (v := -1000001) zk8_52 dX8_last_18 ?_
    exact g_iret (pc := 20) C F dX8_last_20 rfl rfl (rfl) (rfl)
  · refine g_V1v (pc := 2) C lv8_194 dX8_last_2 (s8_oneU y h0 hW hg0 cy) h0 (by decide) (Nat.le_of_ble_eq_true rfl) ?_
    refine g_if_eqN (pc := 5) C 18 dX8_last_5 (by decide) (by decide) (fun q => absurd q (by decide)) (fun _ => ?_)
    refine g_iload_n (pc := 8) C (hl := rfl) dX8_last_8 ?_
    refine g_i2l (pc := 9) C rfl dX8_last_9 ?_
    refine g_lconst (pc := 10) C (v := 0) rfl dX8_last_10 ?_
    refine g_lconst (pc := 11) C (v := 1) rfl dX8_last_11 ?_
    by_cases cz : z < (nI 0) ∨ (nI 1) < z
    · refine g_S3v (pc := 12) C ls8_37 dX8_last_12 (s8_inF z (nI 0) (nI 1) (by decide) (by decide) cz) (by decide) (Nat.le_of_ble_eq_true rfl) ?_
      refine g_if_neN (pc := 15) C 21 dX8_last_15 (by decide) (by decide) (fun q => absurd q (by decide)) (fun _ => ?_)
      refine g_ldc (pc := 18) C (v := -1000001) zk8_52 dX8_last_18 ?_
      exact g_iret (pc := 20) C F dX8_last_20 rfl rfl (rfl) (rfl)
    · refine g_S3v (pc := 12) C ls8_37 dX8_last_12 (s8_inT z (nI 0) (nI 1) (by decide) (by decide) cz) (by decide) (Nat.le_of_ble_eq_true rfl) ?_
      refine g_if_neN (pc := 15) C 21 dX8_last_15 (by decide) (by decide) (fun _ => ?_) (fun q => absurd q (by decide))
      exact absurd hb (fun q => q.elim cy cz)
theorem q_nnone {i : Nat} (h : i < 1000000) : ¬ nI i = -1000000 := fun q => by
  have e := congrArg Int32.toInt q
  rw [nI_toInt (by omega)] at e
  have : (-1000000 : Int32).toInt = -1000000 := by decide
  omega
set_option maxHeartbeats 2000000 in
set_option maxRecDepth 20000 in
theorem l8_last0 {Γ : q_X} {ad : Nat → Nat} {n un ta fl st sa ne so di pa tr g dish : Nat} {rz : Int32} {hF : q_H} (hd : dish < 6) (C : q_C Γ ad 5 0 0 RX8 yX8_last cX8_last 4 (some .int)) (F : q_N Γ ad n (some (.int rz)) hF) : ∀ (k m i : Nat) (W : Nat → Nat) (x : mX) (H : q_H), m < k → i + m = 201 → H 87 = MX un ta fl st sa ne so di pa tr x → H 88 = WA W → wT W 1053 g x → mW g x → x.2.2.1 + m < 1000000 → rz = (if ¬ (mLast g dish m i x).1 = -1000000 then nI (mLast g dish m i x).2.2.2.2.1 else (mLast g dish m i x).1) → hF = q_up (q_up H 88 (WA (wPut W 1053 g (mLast g dish m i x).2))) 87 (MX un ta fl st sa ne so di pa tr (mLast g dish m i x).2) → q_G Γ ad 4 31 [some (.ref 87), some (.int (nI dish)), some (.int (nI 0)), some (.int (nI i))] [] n H 0 0 := by
  intro k
  induction k with
  | zero => intro m i W x H hm; omega
  | succ k ih =>
    intro m i W x H hk hi h0 hW T hv hm hz hH
    refine g_iload_n (pc := 31) C (hl := rfl) dX8_last_31 ?_
    refine g_sipush (pc := 32) C qk_sipush_200 dX8_last_32 ?_
    refine g_ic_gtN (pc := 35) C 92 dX8_last_35 (by decide) (by omega) (fun c35 => ?_) (fun c35 => ?_)
    · refine g_ldc (pc := 92) C (v := -1000000) zk8_216 dX8_last_92 ?_
      obtain rfl : m = 0 := by omega
      exact g_iret (pc := 94) C F dX8_last_94 rfl rfl (by rw [hz]; rfl) (by rw [hH]; show H = q_up (q_up H 88 (WA (wPut W 1053 g x))) 87 (MX un ta fl st sa ne so di pa tr x); rw [wPut_self T, q_upI hW, q_upI h0])
    · obtain ⟨m2, rfl⟩ : ∃ m2, m = m2 + 1 := ⟨m - 1, by omega⟩
      have hn := mNext_V hv
      have hn1 := hn.2.2 dish hd
      have hb1 : (mNext g x).2.2.2.2.2.2 ≤ 2 := (mBite_le _ _ _).2
      have hb2 : (mNext g x).2.2.2.2.2.1 < 6 := Nat.lt_of_lt_of_le (mE_lt hv) hv.1.2.1
      refine g_aload_n (pc := 38) C (hl := rfl) dX8_last_38 ?_
      refine g_sipush (pc := 39) C qk_sipush_1053 dX8_last_39 ?_
      refine g_V1u (pc := 42) C lv8_186 dX8_last_42 (s8_goMinute (r := 1053) h0 hW T (by decide) hv (by omega)) h0 (by decide) (Nat.le_of_ble_eq_true rfl) ?_
      refine g_aload_n (pc := 45) C (hl := rfl) dX8_last_45 ?_
      refine g_get (pc := 46) C fl8_168 dX8_last_46 (q_up_s _ _ _) rfl ?_
      refine g_if_leN (pc := 49) C 86 dX8_last_49 (by decide) (by exact Nat.lt_of_le_of_lt hb1 (by decide)) (fun c49 => ?_) (fun c49 => ?_)
      · refine g_iincN (pc := 86) C (hl := rfl) (q_inc1 _) rfl dX8_last_86 ?_
        refine g_goto (pc := 89) C 31 dX8_last_89 (by decide) ?_
        have e : mLast g dish (m2 + 1) i x = mLast g dish m2 (i + 1) (mNext g x) := if_neg (fun q => absurd q.1 (by omega))
        rw [e] at hz hH
        exact ih m2 (i + 1) _ (mNext g x) _ (by omega) (by omega) (q_up_s _ _ _) ((q_up_n _ _ (by decide)).trans (q_up_s _ _ _)) (wT_put _ _ _ _) hn (by show x.2.2.1 + 1 + m2 < 1000000; omega) hz (by rw [hH]; simp only [q_up_u, q_up_c _ (show (87 : Nat) ≠ 88 by decide), wPut_put])
      · refine g_aload_n (pc := 52) C (hl := rfl) dX8_last_52 ?_
        refine g_get (pc := 53) C fl8_174 dX8_last_53 (q_up_s _ _ _) rfl ?_
        refine g_iload_n (pc := 56) C (hl := rfl) dX8_last_56 ?_
        refine g_ic_neN (pc := 57) C 86 dX8_last_57 (by decide) (by exact ⟨Nat.lt_trans hb2 (by decide), by omega⟩) (fun c57 => ?_) (fun c57 => ?_)
        · refine g_iincN (pc := 86) C (hl := rfl) (q_inc1 _) rfl dX8_last_86 ?_
          refine g_goto (pc := 89) C 31 dX8_last_89 (by decide) ?_
          have e : mLast g dish (m2 + 1) i x = mLast g dish m2 (i + 1) (mNext g x) := if_neg (fun q => absurd q.2.1 c57)
          rw [e] at hz hH
          exact ih m2 (i + 1) _ (mNext g x) _ (by omega) (by omega) (q_up_s _ _ _) ((q_up_n _ _ (by decide)).trans (q_up_s _ _ _)) (wT_put _ _ _ _) hn (by show x.2.2.1 + 1 + m2 < 1000000; omega) hz (by rw [hH]; simp only [q_up_u, q_up_c _ (show (87 : Nat) ≠ 88 by decide), wPut_put])
        · refine g_aload_n (pc := 60) C (hl := rfl) dX8_last_60 ?_
          refine g_get (pc := 61) C fl8_7 dX8_last_61 (q_up_s _ _ _) rfl ?_
          refine g_sipush (pc := 64) C qk_sipush_1080 dX8_last_64 ?_
          refine g_iload_n (pc := 67) C (hl := rfl) dX8_last_67 ?_
          refine g_iaddN (pc := 68) C dX8_last_68 ?_
          refine g_ialdV (pc := 69) C dX8_last_69 ((q_up_n _ _ (by decide)).trans (q_up_s _ _ _)) (by omega) (wT3_po (wT_put _ _ _ _) (by omega)) ?_
          refine g_if_neN (pc := 70) C 86 dX8_last_70 (by decide) (by exact Nat.lt_of_le_of_lt hn1.2.2.2.1 (by decide)) (fun c70 => ?_) (fun c70 => ?_)
          · refine g_iincN (pc := 86) C (hl := rfl) (q_inc1 _) rfl dX8_last_86 ?_
            refine g_goto (pc := 89) C 31 dX8_last_89 (by decide) ?_
            have e : mLast g dish (m2 + 1) i x = mLast g dish m2 (i + 1) (mNext g x) := if_neg (fun q => absurd q.2.2 c70)
            rw [e] at hz hH
            exact ih m2 (i + 1) _ (mNext g x) _ (by omega) (by omega) (q_up_s _ _ _) ((q_up_n _ _ (by decide)).trans (q_up_s _ _ _)) (wT_put _ _ _ _) hn (by show x.2.2.1 + 1 + m2 < 1000000; omega) hz (by rw [hH]; simp only [q_up_u, q_up_c _ (show (87 : Nat) ≠ 88 by decide), wPut_put])
          · refine g_iload_n (pc := 73) C (hl := rfl) dX8_last_73 ?_
            refine g_if_neN (pc := 74) C 84 dX8_last_74 (by decide) (by decide) (fun q => absurd q (by decide)) (fun _ => ?_)
            refine g_aload_n (pc := 77) C (hl := rfl) dX8_last_77 ?_
            refine g_get (pc := 78) C fl8_171 dX8_last_78 (q_up_s _ _ _) rfl ?_
            refine g_goto (pc := 81) C 85 dX8_last_81 (by decide) ?_
            have e : mLast g dish (m2 + 1) i x = (nI i, mNext g x) := if_pos ⟨Nat.not_le.mp c49, c57, c70⟩
            rw [e] at hz hH
            exact g_iret (pc := 85) C F dX8_last_85 rfl rfl (by rw [hz]; exact congrArg some (congrArg Value.int (if_pos (q_nnone (by omega))).symm)) (by rw [hH])
set_option maxHeartbeats 2000000 in
set_option maxRecDepth 20000 in
theorem s8_last0 {n : Nat} {h : q_H} {un ta fl st sa ne so di pu at_ er en pa tr g : Nat} {W : Nat → Nat} {x : mX} (y : Nat) (h0 : h 87 = MO un ta fl st sa ne so di pu at_ er en pa tr) (hW : h 88 = WA W) (T : wT W 0 g x) (hv : mW g x) (hm : x.2.2.1 ≤ 999) (hg : 0 < g ∧ g ≤ 6) (hy : y < g) : SP 5 yX8_last cX8_last 4 (some .int) [.ref 87, .int (nI y), .int (nI 0)] n h (some (.int (if ¬ (mLast g y 200 1 (mG x er pu en at_)).1 = -1000000 then nI (mLast g y 200 1 (mG x er pu en at_)).2.2.2.2.1 else (mLast g y 200 1 (mG x er pu en at_)).1))) (q_up (q_up h 88 (WA (wPut W 1053 g (mLast g y 200 1 (mG x er pu en at_)).2))) 87 (MX un ta fl st sa ne so di pa tr (mLast g y 200 1 (mG x er pu en at_)).2)) := by
  refine q_SPi RX8 rfl (by decide +kernel) (la := _) rfl rfl (fun Γ ad C F => ?_)
  have hg0 : W 0 = g ∧ g ≤ 6 := ⟨wT0_n T, hg.2⟩
  refine g_aload_n (pc := 0) C (hl := rfl) dX8_last_0 ?_
  refine g_iload_n (pc := 1) C (hl := rfl) dX8_last_1 ?_
  refine g_V1v (pc := 2) C lv8_194 dX8_last_2 (s8_oneN y h0 hW hg0 hy) h0 (by decide) (Nat.le_of_ble_eq_true rfl) ?_
  refine g_if_eqN (pc := 5) C 18 dX8_last_5 (by decide) (by decide) (fun q => absurd q (by decide)) (fun _ => ?_)
  refine g_iload_n (pc := 8) C (hl := rfl) dX8_last_8 ?_
  refine g_i2l (pc := 9) C rfl dX8_last_9 ?_
  refine g_lconst (pc := 10) C (v := 0) rfl dX8_last_10 ?_
  refine g_lconst (pc := 11) C (v := 1) rfl dX8_last_11 ?_
  refine g_S3v (pc := 12) C ls8_37 dX8_last_12 (s8_inN 0 0 1 (by decide) (by decide) (by omega) (by decide)) (by decide) (Nat.le_of_ble_eq_true rfl) ?_
  refine g_if_neN (pc := 15) C 21 dX8_last_15 (by decide) (by decide) (fun _ => ?_) (fun q => absurd q (by decide))
  refine g_aload_n (pc := 21) C (hl := rfl) dX8_last_21 ?_
  refine g_iconst (pc := 22) C qk_iconst_0 dX8_last_22 ?_
  refine g_sipush (pc := 23) C qk_sipush_1053 dX8_last_23 ?_
  refine g_V2u (pc := 26) C lv8_142 dX8_last_26 (s8_copyRow (r := 1053) h0 hW T (by decide) (by decide)) h0 (by decide) (Nat.le_of_ble_eq_true rfl) ?_
  refine g_iconst (pc := 29) C qk_iconst_1 dX8_last_29 ?_
  refine g_istore_n (pc := 30) C rfl dX8_last_30 ?_
  exact l8_last0 (by omega) C F 201 200 1 _ (mG x er pu en at_) _ (by decide) (by decide) (((q_up_n _ _ (by decide)).trans h0)) ((q_up_s _ _ _)) (wT_Q (mG_Q _ _ _ _ _) (wT_put _ _ _ _)) (mW_Q (mG_Q _ _ _ _ _) hv) (by show x.2.2.1 + 200 < 1000000; omega) rfl (by simp only [q_up_u, q_up_c _ (show (87 : Nat) ≠ 88 by decide), wPut_put])
set_option maxHeartbeats 2000000 in
set_option maxRecDepth 20000 in
theorem l8_last1 {Γ : q_X} {ad : Nat → Nat} {n un ta fl st sa ne so di pa tr g dish : Nat} {rz : Int32} {hF : q_H} (hd : dish < 6) (C : q_C Γ ad 5 0 0 RX8 yX8_last cX8_last 4 (some .int)) (F : q_N Γ ad n (some (.int rz)) hF) : ∀ (k m i : Nat) (W : Nat → Nat) (x : mX) (H : q_H), m < k → i + m = 201 → H 87 = MX un ta fl st sa ne so di pa tr x → H 88 = WA W → wT W 1053 g x → mW g x → x.2.2.1 + m < 1000000 → rz = (mLast g dish m i x).1 → hF = q_up (q_up H 88 (WA (wPut W 1053 g (mLast g dish m i x).2))) 87 (MX un ta fl st sa ne so di pa tr (mLast g dish m i x).2) → q_G Γ ad 4 31 [some (.ref 87), some (.int (nI dish)), some (.int (nI 1)), some (.int (nI i))] [] n H 0 0 := by
  intro k
  induction k with
  | zero => intro m i W x H hm; omega
  | succ k ih =>
    intro m i W x H hk hi h0 hW T hv hm hz hH
    refine g_iload_n (pc := 31) C (hl := rfl) dX8_last_31 ?_
    refine g_sipush (pc := 32) C qk_sipush_200 dX8_last_32 ?_
    refine g_ic_gtN (pc := 35) C 92 dX8_last_35 (by decide) (by omega) (fun c35 => ?_) (fun c35 => ?_)
    · refine g_ldc (pc := 92) C (v := -1000000) zk8_216 dX8_last_92 ?_
      obtain rfl : m = 0 := by omega
      exact g_iret (pc := 94) C F dX8_last_94 rfl rfl (by rw [hz]; rfl) (by rw [hH]; show H = q_up (q_up H 88 (WA (wPut W 1053 g x))) 87 (MX un ta fl st sa ne so di pa tr x); rw [wPut_self T, q_upI hW, q_upI h0])
    · obtain ⟨m2, rfl⟩ : ∃ m2, m = m2 + 1 := ⟨m - 1, by omega⟩
      have hn := mNext_V hv
      have hn1 := hn.2.2 dish hd
      have hb1 : (mNext g x).2.2.2.2.2.2 ≤ 2 := (mBite_le _ _ _).2
      have hb2 : (mNext g x).2.2.2.2.2.1 < 6 := Nat.lt_of_lt_of_le (mE_lt hv) hv.1.2.1
      refine g_aload_n (pc := 38) C (hl := rfl) dX8_last_38 ?_
      refine g_sipush (pc := 39) C qk_sipush_1053 dX8_last_39 ?_
      refine g_V1u (pc := 42) C lv8_186 dX8_last_42 (s8_goMinute (r := 1053) h0 hW T (by decide) hv (by omega)) h0 (by decide) (Nat.le_of_ble_eq_true rfl) ?_
      refine g_aload_n (pc := 45) C (hl := rfl) dX8_last_45 ?_
      refine g_get (pc := 46) C fl8_168 dX8_last_46 (q_up_s _ _ _) rfl ?_
      refine g_if_leN (pc := 49) C 86 dX8_last_49 (by decide) (by exact Nat.lt_of_le_of_lt hb1 (by decide)) (fun c49 => ?_) (fun c49 => ?_)
      · refine g_iincN (pc := 86) C (hl := rfl) (q_inc1 _) rfl dX8_last_86 ?_
        refine g_goto (pc := 89) C 31 dX8_last_89 (by decide) ?_
        have e : mLast g dish (m2 + 1) i x = mLast g dish m2 (i + 1) (mNext g x) := if_neg (fun q => absurd q.1 (by omega))
        rw [e] at hz hH
        exact ih m2 (i + 1) _ (mNext g x) _ (by omega) (by omega) (q_up_s _ _ _) ((q_up_n _ _ (by decide)).trans (q_up_s _ _ _)) (wT_put _ _ _ _) hn (by show x.2.2.1 + 1 + m2 < 1000000; omega) hz (by rw [hH]; simp only [q_up_u, q_up_c _ (show (87 : Nat) ≠ 88 by decide), wPut_put])
      · refine g_aload_n (pc := 52) C (hl := rfl) dX8_last_52 ?_
        refine g_get (pc := 53) C fl8_174 dX8_last_53 (q_up_s _ _ _) rfl ?_
        refine g_iload_n (pc := 56) C (hl := rfl) dX8_last_56 ?_
        refine g_ic_neN (pc := 57) C 86 dX8_last_57 (by decide) (by exact ⟨Nat.lt_trans hb2 (by decide), by omega⟩) (fun c57 => ?_) (fun c57 => ?_)
        · refine g_iincN (pc := 86) C (hl := rfl) (q_inc1 _) rfl dX8_last_86 ?_
          refine g_goto (pc := 89) C 31 dX8_last_89 (by decide) ?_
          have e : mLast g dish (m2 + 1) i x = mLast g dish m2 (i + 1) (mNext g x) := if_neg (fun q => absurd q.2.1 c57)
          rw [e] at hz hH
          exact ih m2 (i + 1) _ (mNext g x) _ (by omega) (by omega) (q_up_s _ _ _) ((q_up_n _ _ (by decide)).trans (q_up_s _ _ _)) (wT_put _ _ _ _) hn (by show x.2.2.1 + 1 + m2 < 1000000; omega) hz (by rw [hH]; simp only [q_up_u, q_up_c _ (show (87 : Nat) ≠ 88 by decide), wPut_put])
        · refine g_aload_n (pc := 60) C (hl := rfl) dX8_last_60 ?_
          refine g_get (pc := 61) C fl8_7 dX8_last_61 (q_up_s _ _ _) rfl ?_
          refine g_sipush (pc := 64) C qk_sipush_1080 dX8_last_64 ?_
          refine g_iload_n (pc := 67) C (hl := rfl) dX8_last_67 ?_
          refine g_iaddN (pc := 68) C dX8_last_68 ?_
          refine g_ialdV (pc := 69) C dX8_last_69 ((q_up_n _ _ (by decide)).trans (q_up_s _ _ _)) (by omega) (wT3_po (wT_put _ _ _ _) (by omega)) ?_
          refine g_if_neN (pc := 70) C 86 dX8_last_70 (by decide) (by exact Nat.lt_of_le_of_lt hn1.2.2.2.1 (by decide)) (fun c70 => ?_) (fun c70 => ?_)
          · refine g_iincN (pc := 86) C (hl := rfl) (q_inc1 _) rfl dX8_last_86 ?_
            refine g_goto (pc := 89) C 31 dX8_last_89 (by decide) ?_
            have e : mLast g dish (m2 + 1) i x = mLast g dish m2 (i + 1) (mNext g x) := if_neg (fun q => absurd q.2.2 c70)
            rw [e] at hz hH
            exact ih m2 (i + 1) _ (mNext g x) _ (by omega) (by omega) (q_up_s _ _ _) ((q_up_n _ _ (by decide)).trans (q_up_s _ _ _)) (wT_put _ _ _ _) hn (by show x.2.2.1 + 1 + m2 < 1000000; omega) hz (by rw [hH]; simp only [q_up_u, q_up_c _ (show (87 : Nat) ≠ 88 by decide), wPut_put])
          · refine g_iload_n (pc := 73) C (hl := rfl) dX8_last_73 ?_
            refine g_if_neN (pc := 74) C 84 dX8_last_74 (by decide) (by decide) (fun _ => ?_) (fun q => absurd q (by decide))
            refine g_iload_n (pc := 84) C (hl := rfl) dX8_last_84 ?_
            have e : mLast g dish (m2 + 1) i x = (nI i, mNext g x) := if_pos ⟨Nat.not_le.mp c49, c57, c70⟩
            rw [e] at hz hH
            exact g_iret (pc := 85) C F dX8_last_85 rfl rfl (by rw [hz]) (by rw [hH])
set_option maxHeartbeats 2000000 in
set_option maxRecDepth 20000 in
theorem s8_last1 {n : Nat} {h : q_H} {un ta fl st sa ne so di pu at_ er en pa tr g : Nat} {W : Nat → Nat} {x : mX} (y : Nat) (h0 : h 87 = MO un ta fl st sa ne so di pu at_ er en pa tr) (hW : h 88 = WA W) (T : wT W 0 g x) (hv : mW g x) (hm : x.2.2.1 ≤ 999) (hg : 0 < g ∧ g ≤ 6) (hy : y < g) : SP 5 yX8_last cX8_last 4 (some .int) [.ref 87, .int (nI y), .int (nI 1)] n h (some (.int (mLast g y 200 1 (mG x er pu en at_)).1)) (q_up (q_up h 88 (WA (wPut W 1053 g (mLast g y 200 1 (mG x er pu en at_)).2))) 87 (MX un ta fl st sa ne so di pa tr (mLast g y 200 1 (mG x er pu en at_)).2)) := by
  refine q_SPi RX8 rfl (by decide +kernel) (la := _) rfl rfl (fun Γ ad C F => ?_)
  have hg0 : W 0 = g ∧ g ≤ 6 := ⟨wT0_n T, hg.2⟩
  refine g_aload_n (pc := 0) C (hl := rfl) dX8_last_0 ?_
  refine g_iload_n (pc := 1) C (hl := rfl) dX8_last_1 ?_
  refine g_V1v (pc := 2) C lv8_194 dX8_last_2 (s8_oneN y h0 hW hg0 hy) h0 (by decide) (Nat.le_of_ble_eq_true rfl) ?_
  refine g_if_eqN (pc := 5) C 18 dX8_last_5 (by decide) (by decide) (fun q => absurd q (by decide)) (fun _ => ?_)
  refine g_iload_n (pc := 8) C (hl := rfl) dX8_last_8 ?_
  refine g_i2l (pc := 9) C rfl dX8_last_9 ?_
  refine g_lconst (pc := 10) C (v := 0) rfl dX8_last_10 ?_
  refine g_lconst (pc := 11) C (v := 1) rfl dX8_last_11 ?_
  refine g_S3v (pc := 12) C ls8_37 dX8_last_12 (s8_inN 1 0 1 (by decide) (by decide) (by omega) (by decide)) (by decide) (Nat.le_of_ble_eq_true rfl) ?_
  refine g_if_neN (pc := 15) C 21 dX8_last_15 (by decide) (by decide) (fun _ => ?_) (fun q => absurd q (by decide))
  refine g_aload_n (pc := 21) C (hl := rfl) dX8_last_21 ?_
  refine g_iconst (pc := 22) C qk_iconst_0 dX8_last_22 ?_
  refine g_sipush (pc := 23) C qk_sipush_1053 dX8_last_23 ?_
  refine g_V2u (pc := 26) C lv8_142 dX8_last_26 (s8_copyRow (r := 1053) h0 hW T (by decide) (by decide)) h0 (by decide) (Nat.le_of_ble_eq_true rfl) ?_
  refine g_iconst (pc := 29) C qk_iconst_1 dX8_last_29 ?_
  refine g_istore_n (pc := 30) C rfl dX8_last_30 ?_
  exact l8_last1 (by omega) C F 201 200 1 _ (mG x er pu en at_) _ (by decide) (by decide) (((q_up_n _ _ (by decide)).trans h0)) ((q_up_s _ _ _)) (wT_Q (mG_Q _ _ _ _ _) (wT_put _ _ _ _)) (mW_Q (mG_Q _ _ _ _ _) hv) (by show x.2.2.1 + 200 < 1000000; omega) rfl (by simp only [q_up_u, q_up_c _ (show (87 : Nat) ≠ 88 by decide), wPut_put])
set_option maxHeartbeats 2000000 in
set_option maxRecDepth 20000 in
theorem l8_rest {Γ : q_X} {ad : Nat → Nat} {n un ta fl st sa ne so di pa tr g : Nat} {x0 : mX} {rz : Int32} {hF : q_H} (hg : 0 < g ∧ g ≤ 6) (C : q_C Γ ad 5 0 0 RX8 yX8_rest cX8_rest 3 (some .int)) (F : q_N Γ ad n (some (.int rz)) hF) : ∀ (k m i q : Nat) (W : Nat → Nat) (x : mX) (H : q_H), m < k → i + m = 201 + g → q < i → H 87 = MX un ta fl st sa ne so di pa tr x → H 88 = WA W → wT W 0 g x0 → wT W 1053 g x → mW g x → x.2.2.1 + m < 1000000 → rz = (mRest g m i q x).1 → hF = q_up (q_up H 88 (WA (wPut W 1053 g (mRest g m i q x).2))) 87 (MX un ta fl st sa ne so di pa tr (mRest g m i q x).2) → q_G Γ ad 3 22 [some (.ref 87), some (.int (nI q)), some (.int (nI i))] [] n H 0 0 := by
  intro k
  induction k with
  | zero => intro m i q W x H hm; omega
  | succ k ih =>
    intro m i q W x H hk hi hqi h0 hW T0 T hv hm hz hH
    refine g_iload_n (pc := 22) C (hl := rfl) dX8_rest_22 ?_
    refine g_sipush (pc := 23) C qk_sipush_200 dX8_rest_23 ?_
    refine g_aload_n (pc := 26) C (hl := rfl) dX8_rest_26 ?_
    refine g_get (pc := 27) C fl8_7 dX8_rest_27 h0 rfl ?_
    refine g_iconst (pc := 30) C qk_iconst_0 dX8_rest_30 ?_
    refine g_ialdV (pc := 31) C dX8_rest_31 hW (by omega) (wT0_n T0) ?_
    refine g_iaddN (pc := 32) C dX8_rest_32 ?_
    refine g_ic_gtN (pc := 33) C 90 dX8_rest_33 (by decide) (by omega) (fun c33 => ?_) (fun c33 => ?_)
    · refine g_ldc (pc := 90) C (v := -1000000) zk8_216 dX8_rest_90 ?_
      obtain rfl : m = 0 := by omega
      exact g_iret (pc := 92) C F dX8_rest_92 rfl rfl (by rw [hz]; rfl) (by rw [hH]; show H = q_up (q_up H 88 (WA (wPut W 1053 g x))) 87 (MX un ta fl st sa ne so di pa tr x); rw [wPut_self T, q_upI hW, q_upI h0])
    · obtain ⟨m2, rfl⟩ : ∃ m2, m = m2 + 1 := ⟨m - 1, by omega⟩
      have hn := mNext_V hv
      have hp := mNext_p hv
      have hb1 : (mNext g x).2.2.2.2.2.2 ≤ 2 := (mBite_le _ _ _).2
      refine g_aload_n (pc := 36) C (hl := rfl) dX8_rest_36 ?_
      refine g_sipush (pc := 37) C qk_sipush_1053 dX8_rest_37 ?_
      refine g_V1u (pc := 40) C lv8_186 dX8_rest_40 (s8_goMinute (r := 1053) h0 hW T (by decide) hv (by omega)) h0 (by decide) (Nat.le_of_ble_eq_true rfl) ?_
      refine g_aload_n (pc := 43) C (hl := rfl) dX8_rest_43 ?_
      refine g_get (pc := 44) C fl8_149 dX8_rest_44 (q_up_s _ _ _) rfl ?_
      refine g_if_neN (pc := 47) C 63 dX8_rest_47 (by decide) (by omega) (fun c47 => ?_) (fun c47 => ?_)
      · refine g_iconst (pc := 63) C qk_iconst_0 dX8_rest_63 ?_
        refine g_istore_n (pc := 64) C rfl dX8_rest_64 ?_
        have e1 : (if (mNext g x).2.2.2.2.1 = 0 ∧ (mNext g x).2.2.2.2.2.2 = 0 then q + 1 else 0) = 0 := if_neg (fun z => absurd z.1 c47)
        refine g_iload_n (pc := 65) C (hl := rfl) dX8_rest_65 ?_
        refine g_aload_n (pc := 66) C (hl := rfl) dX8_rest_66 ?_
        refine g_get (pc := 67) C fl8_7 dX8_rest_67 (q_up_s _ _ _) rfl ?_
        refine g_iconst (pc := 70) C qk_iconst_0 dX8_rest_70 ?_
        refine g_ialdV (pc := 71) C dX8_rest_71 ((q_up_n _ _ (by decide)).trans (q_up_s _ _ _)) (by omega) (wT0_n (wT_o (by decide) T0)) ?_
        refine g_ic_neN (pc := 72) C 84 dX8_rest_72 (by decide) (by omega) (fun c72 => ?_) (fun c72 => ?_)
        · refine g_iincN (pc := 84) C (hl := rfl) (q_inc1 _) rfl dX8_rest_84 ?_
          refine g_goto (pc := 87) C 22 dX8_rest_87 (by decide) ?_
          have e : mRest g (m2 + 1) i q x = mRest g m2 (i + 1) (if (mNext g x).2.2.2.2.1 = 0 ∧ (mNext g x).2.2.2.2.2.2 = 0 then q + 1 else 0) (mNext g x) := if_neg (by rw [e1]; exact c72)
          rw [e, e1] at hz hH
          exact ih m2 (i + 1) 0 _ (mNext g x) _ (by omega) (by omega) (by omega) (q_up_s _ _ _) ((q_up_n _ _ (by decide)).trans (q_up_s _ _ _)) (wT_o (by decide) T0) (wT_put _ _ _ _) hn (by show x.2.2.1 + 1 + m2 < 1000000; omega) hz (by rw [hH]; simp only [q_up_u, q_up_c _ (show (87 : Nat) ≠ 88 by decide), wPut_put])
        · refine g_iload_n (pc := 75) C (hl := rfl) dX8_rest_75 ?_
          refine g_aload_n (pc := 76) C (hl := rfl) dX8_rest_76 ?_
          refine g_get (pc := 77) C fl8_7 dX8_rest_77 (q_up_s _ _ _) rfl ?_
          refine g_iconst (pc := 80) C qk_iconst_0 dX8_rest_80 ?_
          refine g_ialdV (pc := 81) C dX8_rest_81 ((q_up_n _ _ (by decide)).trans (q_up_s _ _ _)) (by omega) (wT0_n (wT_o (by decide) T0)) ?_
          refine g_isubN (pc := 82) C dX8_rest_82 (by omega) ?_
          have e : mRest g (m2 + 1) i q x = (nI (i - (if (mNext g x).2.2.2.2.1 = 0 ∧ (mNext g x).2.2.2.2.2.2 = 0 then q + 1 else 0)), mNext g x) := if_pos (by rw [e1]; exact c72)
          rw [e, e1] at hz hH
          exact g_iret (pc := 83) C F dX8_rest_83 rfl rfl (by rw [hz, c72]) (by rw [hH])
      · refine g_aload_n (pc := 50) C (hl := rfl) dX8_rest_50 ?_
        refine g_get (pc := 51) C fl8_168 dX8_rest_51 (q_up_s _ _ _) rfl ?_
        refine g_if_neN (pc := 54) C 63 dX8_rest_54 (by decide) (by omega) (fun c54 => ?_) (fun c54 => ?_)
        · refine g_iconst (pc := 63) C qk_iconst_0 dX8_rest_63 ?_
          refine g_istore_n (pc := 64) C rfl dX8_rest_64 ?_
          have e1 : (if (mNext g x).2.2.2.2.1 = 0 ∧ (mNext g x).2.2.2.2.2.2 = 0 then q + 1 else 0) = 0 := if_neg (fun z => absurd z.2 c54)
          refine g_iload_n (pc := 65) C (hl := rfl) dX8_rest_65 ?_
          refine g_aload_n (pc := 66) C (hl := rfl) dX8_rest_66 ?_
          refine g_get (pc := 67) C fl8_7 dX8_rest_67 (q_up_s _ _ _) rfl ?_
          refine g_iconst (pc := 70) C qk_iconst_0 dX8_rest_70 ?_
          refine g_ialdV (pc := 71) C dX8_rest_71 ((q_up_n _ _ (by decide)).trans (q_up_s _ _ _)) (by omega) (wT0_n (wT_o (by decide) T0)) ?_
          refine g_ic_neN (pc := 72) C 84 dX8_rest_72 (by decide) (by omega) (fun c72 => ?_) (fun c72 => ?_)
          · refine g_iincN (pc := 84) C (hl := rfl) (q_inc1 _) rfl dX8_rest_84 ?_
            refine g_goto (pc := 87) C 22 dX8_rest_87 (by decide) ?_
            have e : mRest g (m2 + 1) i q x = mRest g m2 (i + 1) (if (mNext g x).2.2.2.2.1 = 0 ∧ (mNext g x).2.2.2.2.2.2 = 0 then q + 1 else 0) (mNext g x) := if_neg (by rw [e1]; exact c72)
            rw [e, e1] at hz hH
            exact ih m2 (i + 1) 0 _ (mNext g x) _ (by omega) (by omega) (by omega) (q_up_s _ _ _) ((q_up_n _ _ (by decide)).trans (q_up_s _ _ _)) (wT_o (by decide) T0) (wT_put _ _ _ _) hn (by show x.2.2.1 + 1 + m2 < 1000000; omega) hz (by rw [hH]; simp only [q_up_u, q_up_c _ (show (87 : Nat) ≠ 88 by decide), wPut_put])
          · refine g_iload_n (pc := 75) C (hl := rfl) dX8_rest_75 ?_
            refine g_aload_n (pc := 76) C (hl := rfl) dX8_rest_76 ?_
            refine g_get (pc := 77) C fl8_7 dX8_rest_77 (q_up_s _ _ _) rfl ?_
            refine g_iconst (pc := 80) C qk_iconst_0 dX8_rest_80 ?_
            refine g_ialdV (pc := 81) C dX8_rest_81 ((q_up_n _ _ (by decide)).trans (q_up_s _ _ _)) (by omega) (wT0_n (wT_o (by decide) T0)) ?_
            refine g_isubN (pc := 82) C dX8_rest_82 (by omega) ?_
            have e : mRest g (m2 + 1) i q x = (nI (i - (if (mNext g x).2.2.2.2.1 = 0 ∧ (mNext g x).2.2.2.2.2.2 = 0 then q + 1 else 0)), mNext g x) := if_pos (by rw [e1]; exact c72)
            rw [e, e1] at hz hH
            exact g_iret (pc := 83) C F dX8_rest_83 rfl rfl (by rw [hz, c72]) (by rw [hH])
        · refine g_iload_n (pc := 57) C (hl := rfl) dX8_rest_57 ?_
          refine g_iconst (pc := 58) C qk_iconst_1 dX8_rest_58 ?_
          refine g_iaddN (pc := 59) C dX8_rest_59 ?_
          refine g_goto (pc := 60) C 64 dX8_rest_60 (by decide) ?_
          refine g_istore_n (pc := 64) C rfl dX8_rest_64 ?_
          have e1 : (if (mNext g x).2.2.2.2.1 = 0 ∧ (mNext g x).2.2.2.2.2.2 = 0 then q + 1 else 0) = (q + 1) := if_pos ⟨c47, c54⟩
          refine g_iload_n (pc := 65) C (hl := rfl) dX8_rest_65 ?_
          refine g_aload_n (pc := 66) C (hl := rfl) dX8_rest_66 ?_
          refine g_get (pc := 67) C fl8_7 dX8_rest_67 (q_up_s _ _ _) rfl ?_
          refine g_iconst (pc := 70) C qk_iconst_0 dX8_rest_70 ?_
          refine g_ialdV (pc := 71) C dX8_rest_71 ((q_up_n _ _ (by decide)).trans (q_up_s _ _ _)) (by omega) (wT0_n (wT_o (by decide) T0)) ?_
          refine g_ic_neN (pc := 72) C 84 dX8_rest_72 (by decide) (by omega) (fun c72 => ?_) (fun c72 => ?_)
          · refine g_iincN (pc := 84) C (hl := rfl) (q_inc1 _) rfl dX8_rest_84 ?_
            refine g_goto (pc := 87) C 22 dX8_rest_87 (by decide) ?_
            have e : mRest g (m2 + 1) i q x = mRest g m2 (i + 1) (if (mNext g x).2.2.2.2.1 = 0 ∧ (mNext g x).2.2.2.2.2.2 = 0 then q + 1 else 0) (mNext g x) := if_neg (by rw [e1]; exact c72)
            rw [e, e1] at hz hH
            exact ih m2 (i + 1) (q + 1) _ (mNext g x) _ (by omega) (by omega) (by omega) (q_up_s _ _ _) ((q_up_n _ _ (by decide)).trans (q_up_s _ _ _)) (wT_o (by decide) T0) (wT_put _ _ _ _) hn (by show x.2.2.1 + 1 + m2 < 1000000; omega) hz (by rw [hH]; simp only [q_up_u, q_up_c _ (show (87 : Nat) ≠ 88 by decide), wPut_put])
          · refine g_iload_n (pc := 75) C (hl := rfl) dX8_rest_75 ?_
            refine g_aload_n (pc := 76) C (hl := rfl) dX8_rest_76 ?_
            refine g_get (pc := 77) C fl8_7 dX8_rest_77 (q_up_s _ _ _) rfl ?_
            refine g_iconst (pc := 80) C qk_iconst_0 dX8_rest_80 ?_
            refine g_ialdV (pc := 81) C dX8_rest_81 ((q_up_n _ _ (by decide)).trans (q_up_s _ _ _)) (by omega) (wT0_n (wT_o (by decide) T0)) ?_
            refine g_isubN (pc := 82) C dX8_rest_82 (by omega) ?_
            have e : mRest g (m2 + 1) i q x = (nI (i - (if (mNext g x).2.2.2.2.1 = 0 ∧ (mNext g x).2.2.2.2.2.2 = 0 then q + 1 else 0)), mNext g x) := if_pos (by rw [e1]; exact c72)
            rw [e, e1] at hz hH
            exact g_iret (pc := 83) C F dX8_rest_83 rfl rfl (by rw [hz, c72]) (by rw [hH])
set_option maxHeartbeats 2000000 in
set_option maxRecDepth 20000 in
theorem s8_restT {n : Nat} {h : q_H} {un ta fl st sa ne so di pu at_ er en pa tr g : Nat} {W : Nat → Nat} {x : mX} (h0 : h 87 = MO un ta fl st sa ne so di pu at_ er en pa tr) (hW : h 88 = WA W) (T : wT W 0 g x) (hv : mW g x) (hm : x.2.2.1 ≤ 999) (hg : 0 < g ∧ g ≤ 6) : SP 5 yX8_rest cX8_rest 3 (some .int) [.ref 87] n h (some (.int (mRest g (200 + g) 1 0 (mG x er pu en at_)).1)) (q_up (q_up h 88 (WA (wPut W 1053 g (mRest g (200 + g) 1 0 (mG x er pu en at_)).2))) 87 (MX un ta fl st sa ne so di pa tr (mRest g (200 + g) 1 0 (mG x er pu en at_)).2)) := by
  refine q_SPi RX8 rfl (by decide +kernel) (la := _) rfl rfl (fun Γ ad C F => ?_)
  refine g_aload_n (pc := 0) C (hl := rfl) dX8_rest_0 ?_
  refine g_V0v (pc := 1) C lv8_177 dX8_rest_1 (s8_isNoneT h0 hW (by rw [wT0_n T]; omega)) h0 (by decide) (Nat.le_of_ble_eq_true rfl) ?_
  refine g_if_eqN (pc := 4) C 10 dX8_rest_4 (by decide) (by decide) (fun _ => ?_) (fun q => absurd q (by decide))
  refine g_aload_n (pc := 10) C (hl := rfl) dX8_rest_10 ?_
  refine g_iconst (pc := 11) C qk_iconst_0 dX8_rest_11 ?_
  refine g_sipush (pc := 12) C qk_sipush_1053 dX8_rest_12 ?_
  refine g_V2u (pc := 15) C lv8_142 dX8_rest_15 (s8_copyRow (r := 1053) h0 hW T (by decide) (by decide)) h0 (by decide) (Nat.le_of_ble_eq_true rfl) ?_
  refine g_iconst (pc := 18) C qk_iconst_0 dX8_rest_18 ?_
  refine g_istore_n (pc := 19) C rfl dX8_rest_19 ?_
  refine g_iconst (pc := 20) C qk_iconst_1 dX8_rest_20 ?_
  refine g_istore_n (pc := 21) C rfl dX8_rest_21 ?_
  exact l8_rest hg C F (201 + g) (200 + g) 1 0 _ (mG x er pu en at_) _ (by omega) (by omega) (by decide) (((q_up_n _ _ (by decide)).trans h0)) ((q_up_s _ _ _)) (wT_o (by decide) T) (wT_Q (mG_Q _ _ _ _ _) (wT_put _ _ _ _)) (mW_Q (mG_Q _ _ _ _ _) hv) (by show x.2.2.1 + (200 + g) < 1000000; omega) rfl (by simp only [q_up_u, q_up_c _ (show (87 : Nat) ≠ 88 by decide), wPut_put])
