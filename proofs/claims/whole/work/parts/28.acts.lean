theorem s4_standsT {n : Nat} {h : q_H} {t c g : Nat} {x : mX} (ht : h t = TX c g x) (hg : 0 < g ∧ g ≤ 6) : SP 0 yX4_stands cX4_stands 1 (some .boolean) [.ref t] n h (some (.int (nI 1))) h := by
  have q := s4_stands (n := n) ht (by omega)
  rw [if_pos hg.1] at q
  exact q
theorem s4_standsZ {n : Nat} {h : q_H} {t c g : Nat} {x : mX} (ht : h t = TX c g x) (hg : g = 0) : SP 0 yX4_stands cX4_stands 1 (some .boolean) [.ref t] n h (some (.int (nI 0))) h := by
  have q := s4_stands (n := n) ht (by omega)
  rw [if_neg (by omega)] at q
  exact q
theorem s4_hasT {n : Nat} {h : q_H} {t c g : Nat} {x : mX} (j : Nat) (ht : h t = TX c g x) (hg : g ≤ 6) (hj : j < g) : SP 0 yX4_has cX4_has 2 (some .boolean) [.ref t, .int (nI j)] n h (some (.int (nI 1))) h := by
  have q := s4_hasN (n := n) j ht (by omega) (by omega)
  rw [if_pos hj] at q
  exact q
theorem s4_hasF {n : Nat} {h : q_H} {t c g : Nat} {x : mX} (z : Int32) (ht : h t = TX c g x) (hz : z < 0 ∨ nI g ≤ z) : SP 0 yX4_has cX4_has 2 (some .boolean) [.ref t, .int z] n h (some (.int (nI 0))) h := by
  have q := s4_has (n := n) z ht
  rw [if_pos hz] at q
  exact q
theorem s4_hasU {n : Nat} {h : q_H} {t c g : Nat} {x : mX} (z : Int32) (ht : h t = TX c g x) (hz : ¬ (z < 0 ∨ nI g ≤ z)) : SP 0 yX4_has cX4_has 2 (some .boolean) [.ref t, .int z] n h (some (.int (nI 1))) h := by
  have q := s4_has (n := n) z ht
  rw [if_neg hz] at q
  exact q
set_option maxHeartbeats 2000000 in
set_option maxRecDepth 20000 in
theorem s7_turnN {n : Nat} {h : q_H} {lf ld : Nat} {g : Nat} {x : mX} (h0 : h 0 = DO lf ld) (ht : h 28 = TX 29 g x) (hc : h 29 = TA x.1) (z : Int32) (hg : g = 0) : SP 1 yX7_turn cX7_turn 2 (some .int) [.ref 0, .int z] n h (some (.int (-1000002))) h := by
  refine q_SPi RX7 rfl (by decide +kernel) (la := _) rfl rfl (fun Γ ad C F => ?_)
  refine g_aload_n (pc := 0) C (hl := rfl) dX7_turn_0 ?_
  refine g_get (pc := 1) C fl7_30 dX7_turn_1 h0 rfl ?_
  refine g_V0v (pc := 4) C lv7_144 dX7_turn_4 (s4_standsZ (ht) hg) ht (by decide) (Nat.le_of_ble_eq_true rfl) ?_
  refine g_if_neN (pc := 7) C 13 dX7_turn_7 (by decide) (by decide) (fun q => absurd q (by decide)) (fun _ => ?_)
  refine g_ldc (pc := 10) C (v := -1000002) zk7_147 dX7_turn_10 ?_
  exact g_iret (pc := 12) C F dX7_turn_12 rfl rfl (rfl) (rfl)
set_option maxHeartbeats 2000000 in
set_option maxRecDepth 20000 in
theorem s7_turnB {n : Nat} {h : q_H} {lf ld : Nat} {g : Nat} {x : mX} (h0 : h 0 = DO lf ld) (ht : h 28 = TX 29 g x) (hc : h 29 = TA x.1) (z : Int32) (hg : 0 < g ∧ g ≤ 6) (hz : z < -9 ∨ nI 9 < z) : SP 1 yX7_turn cX7_turn 2 (some .int) [.ref 0, .int z] n h (some (.int (-1000001))) h := by
  refine q_SPi RX7 rfl (by decide +kernel) (la := _) rfl rfl (fun Γ ad C F => ?_)
  refine g_aload_n (pc := 0) C (hl := rfl) dX7_turn_0 ?_
  refine g_get (pc := 1) C fl7_30 dX7_turn_1 h0 rfl ?_
  refine g_V0v (pc := 4) C lv7_144 dX7_turn_4 (s4_standsT (ht) hg) ht (by decide) (Nat.le_of_ble_eq_true rfl) ?_
  refine g_if_neN (pc := 7) C 13 dX7_turn_7 (by decide) (by decide) (fun _ => ?_) (fun q => absurd q (by decide))
  refine g_iload_n (pc := 13) C (hl := rfl) dX7_turn_13 ?_
  refine g_bipush (pc := 14) C qk_bipush_m9 dX7_turn_14 ?_
  refine g_bipush (pc := 16) C qk_bipush_9 dX7_turn_16 ?_
  refine g_S3v (pc := 18) C ls7_59 dX7_turn_18 (s7_withinF _ _ _ hz) (by decide) (Nat.le_of_ble_eq_true rfl) ?_
  refine g_if_neN (pc := 21) C 27 dX7_turn_21 (by decide) (by decide) (fun q => absurd q (by decide)) (fun _ => ?_)
  refine g_ldc (pc := 24) C (v := -1000001) zk7_63 dX7_turn_24 ?_
  exact g_iret (pc := 26) C F dX7_turn_26 rfl rfl (rfl) (rfl)
set_option maxHeartbeats 2000000 in
set_option maxRecDepth 20000 in
theorem s7_turnT {n : Nat} {h : q_H} {lf ld : Nat} {g : Nat} {x : mX} (h0 : h 0 = DO lf ld) (ht : h 28 = TX 29 g x) (hc : h 29 = TA x.1) (z : Int) (hg : 0 < g ∧ g ≤ 6) (hz : ¬ (qI z < -9 ∨ nI 9 < qI z)) (hz2 : -9 ≤ z ∧ z ≤ 9) (htu : x.2.1 < 6) {nx k v vc g2 : Nat} {fa : Nat → Option Nat} {x2 : mX} (hA : h 30 = AO 31 nx k) (hB : h 31 = TLs 24 fa) (hnx : nx < 24 ∧ k ≤ 24) (hfv : fa nx = some v) (hv : h v = TX vc g2 x2) (hvc : h vc = TA x2.1) (hvn : 31 < v ∧ v < 80 ∧ 31 < vc ∧ vc < 80 ∧ v ≠ vc) : SP 3 yX7_turn cX7_turn 2 (some .int) [.ref 0, .int (qI z)] n h (some (.int (nI (mTurn g x.2.1 z)))) (q_up (q_up (q_up (q_up h vc (TA x.1)) v (TO vc g x.2.1 x.2.2.1 x2.2.2.2.1 x2.2.2.2.2.1 x2.2.2.2.2.2.1 x2.2.2.2.2.2.2)) 30 (AO 31 ((nx + 1) % 24) (min (k + 1) 24))) 28 (TO 29 g (mTurn g x.2.1 z) x.2.2.1 x.2.2.2.1 x.2.2.2.2.1 x.2.2.2.2.2.1 x.2.2.2.2.2.2)) := by
  refine q_SPi RX7 rfl (by decide +kernel) (la := _) rfl rfl (fun Γ ad C F => ?_)
  refine g_aload_n (pc := 0) C (hl := rfl) dX7_turn_0 ?_
  refine g_get (pc := 1) C fl7_30 dX7_turn_1 h0 rfl ?_
  refine g_V0v (pc := 4) C lv7_144 dX7_turn_4 (s4_standsT (ht) hg) ht (by decide) (Nat.le_of_ble_eq_true rfl) ?_
  refine g_if_neN (pc := 7) C 13 dX7_turn_7 (by decide) (by decide) (fun _ => ?_) (fun q => absurd q (by decide))
  refine g_iload_n (pc := 13) C (hl := rfl) dX7_turn_13 ?_
  refine g_bipush (pc := 14) C qk_bipush_m9 dX7_turn_14 ?_
  refine g_bipush (pc := 16) C qk_bipush_9 dX7_turn_16 ?_
  refine g_S3v (pc := 18) C ls7_59 dX7_turn_18 (s7_withinT _ _ _ hz) (by decide) (Nat.le_of_ble_eq_true rfl) ?_
  refine g_if_neN (pc := 21) C 27 dX7_turn_21 (by decide) (by decide) (fun _ => ?_) (fun q => absurd q (by decide))
  refine g_aload_n (pc := 27) C (hl := rfl) dX7_turn_27 ?_
  refine g_get (pc := 28) C fl7_37 dX7_turn_28 h0 rfl ?_
  refine g_aload_n (pc := 31) C (hl := rfl) dX7_turn_31 ?_
  refine g_get (pc := 32) C fl7_30 dX7_turn_32 h0 rfl ?_
  refine g_V1u (pc := 35) C lv7_151 dX7_turn_35 (s0_keep (hA) (hB) hnx hfv (ht) (hc) (hv) (hvc) (by omega)) hA (by decide) (Nat.le_of_ble_eq_true rfl) ?_
  refine g_aload_n (pc := 38) C (hl := rfl) dX7_turn_38 ?_
  refine g_get (pc := 39) C fl7_30 dX7_turn_39 ((q_up_n _ _ (by omega)).trans ((q_up_n _ _ (by omega)).trans ((q_up_n _ _ (by omega)).trans h0))) rfl ?_
  refine g_iload_n (pc := 42) C (hl := rfl) dX7_turn_42 ?_
  refine g_V1u (pc := 43) C lv7_160 dX7_turn_43 (s4_turnLeft z (((q_up_n _ _ (by omega)).trans ((q_up_n _ _ (by omega)).trans ((q_up_n _ _ (by omega)).trans ht)))) (by omega)) ((q_up_n _ _ (by omega)).trans ((q_up_n _ _ (by omega)).trans ((q_up_n _ _ (by omega)).trans ht))) (by decide) (Nat.le_of_ble_eq_true rfl) ?_
  refine g_aload_n (pc := 46) C (hl := rfl) dX7_turn_46 ?_
  refine g_get (pc := 47) C fl7_30 dX7_turn_47 ((q_up_n _ _ (by omega)).trans ((q_up_n _ _ (by omega)).trans ((q_up_n _ _ (by omega)).trans ((q_up_n _ _ (by omega)).trans h0)))) rfl ?_
  refine g_get (pc := 50) C fl7_157 dX7_turn_50 (q_up_s _ _ _) rfl ?_
  exact g_iret (pc := 53) C F dX7_turn_53 rfl rfl (rfl) (rfl)
set_option maxHeartbeats 2000000 in
set_option maxRecDepth 20000 in
theorem s7_fillB {n : Nat} {h : q_H} {lf ld : Nat} {g : Nat} {x : mX} (h0 : h 0 = DO lf ld) (ht : h 28 = TX 29 g x) (hc : h 29 = TA x.1) (z k : Int32) (hb : (z < 0 ∨ nI g ≤ z) ∨ (k < nI 1 ∨ nI 30 < k)) : SP 1 yX7_fill cX7_fill 3 (some .int) [.ref 0, .int z, .int k] n h (some (.int (-1000001))) h := by
  refine q_SPi RX7 rfl (by decide +kernel) (la := _) rfl rfl (fun Γ ad C F => ?_)
  refine g_aload_n (pc := 0) C (hl := rfl) dX7_fill_0 ?_
  refine g_get (pc := 1) C fl7_30 dX7_fill_1 h0 rfl ?_
  refine g_iload_n (pc := 4) C (hl := rfl) dX7_fill_4 ?_
  by_cases cz : z < 0 ∨ nI g ≤ z
  · refine g_V1v (pc := 5) C lv7_163 dX7_fill_5 (s4_hasF z (ht) cz) ht (by decide) (Nat.le_of_ble_eq_true rfl) ?_
    refine g_if_eqN (pc := 8) C 21 dX7_fill_8 (by decide) (by decide) (fun _ => ?_) (fun q => absurd q (by decide))
    refine g_ldc (pc := 21) C (v := -1000001) zk7_63 dX7_fill_21 ?_
    exact g_iret (pc := 23) C F dX7_fill_23 rfl rfl (rfl) (rfl)
  · refine g_V1v (pc := 5) C lv7_163 dX7_fill_5 (s4_hasU z (ht) cz) ht (by decide) (Nat.le_of_ble_eq_true rfl) ?_
    refine g_if_eqN (pc := 8) C 21 dX7_fill_8 (by decide) (by decide) (fun q => absurd q (by decide)) (fun _ => ?_)
    refine g_iload_n (pc := 11) C (hl := rfl) dX7_fill_11 ?_
    refine g_iconst (pc := 12) C qk_iconst_1 dX7_fill_12 ?_
    refine g_bipush (pc := 13) C qk_bipush_30 dX7_fill_13 ?_
    by_cases ck : k < (nI 1) ∨ (nI 30) < k
    · refine g_S3v (pc := 15) C ls7_59 dX7_fill_15 (s7_withinF k (nI 1) (nI 30) ck) (by decide) (Nat.le_of_ble_eq_true rfl) ?_
      refine g_if_neN (pc := 18) C 24 dX7_fill_18 (by decide) (by decide) (fun q => absurd q (by decide)) (fun _ => ?_)
      refine g_ldc (pc := 21) C (v := -1000001) zk7_63 dX7_fill_21 ?_
      exact g_iret (pc := 23) C F dX7_fill_23 rfl rfl (rfl) (rfl)
    · refine g_S3v (pc := 15) C ls7_59 dX7_fill_15 (s7_withinT k (nI 1) (nI 30) ck) (by decide) (Nat.le_of_ble_eq_true rfl) ?_
      refine g_if_neN (pc := 18) C 24 dX7_fill_18 (by decide) (by decide) (fun _ => ?_) (fun q => absurd q (by decide))
      exact absurd hb (fun q => q.elim cz ck)
set_option maxHeartbeats 2000000 in
set_option maxRecDepth 20000 in
theorem s7_fillM {n : Nat} {h : q_H} {lf ld : Nat} {g : Nat} {x : mX} (h0 : h 0 = DO lf ld) (ht : h 28 = TX 29 g x) (hc : h 29 = TA x.1) (z q : Nat) (hg : 0 < g ∧ g ≤ 6) (hz : z < g) (hq : 1 ≤ q ∧ q ≤ 30) (hf : x.1 (24 + z) ≤ 99) (hs : 99 < x.1 (24 + z) + q) : SP 1 yX7_fill cX7_fill 3 (some .int) [.ref 0, .int (nI z), .int (nI q)] n h (some (.int (-1000003))) h := by
  refine q_SPi RX7 rfl (by decide +kernel) (la := _) rfl rfl (fun Γ ad C F => ?_)
  refine g_aload_n (pc := 0) C (hl := rfl) dX7_fill_0 ?_
  refine g_get (pc := 1) C fl7_30 dX7_fill_1 h0 rfl ?_
  refine g_iload_n (pc := 4) C (hl := rfl) dX7_fill_4 ?_
  refine g_V1v (pc := 5) C lv7_163 dX7_fill_5 (s4_hasT z (ht) hg.2 hz) ht (by decide) (Nat.le_of_ble_eq_true rfl) ?_
  refine g_if_eqN (pc := 8) C 21 dX7_fill_8 (by decide) (by decide) (fun q => absurd q (by decide)) (fun _ => ?_)
  refine g_iload_n (pc := 11) C (hl := rfl) dX7_fill_11 ?_
  refine g_iconst (pc := 12) C qk_iconst_1 dX7_fill_12 ?_
  refine g_bipush (pc := 13) C qk_bipush_30 dX7_fill_13 ?_
  refine g_S3v (pc := 15) C ls7_59 dX7_fill_15 (s7_withinN q 1 30 (by omega)) (by decide) (Nat.le_of_ble_eq_true rfl) ?_
  refine g_if_neN (pc := 18) C 24 dX7_fill_18 (by decide) (by decide) (fun _ => ?_) (fun q => absurd q (by decide))
  refine g_aload_n (pc := 24) C (hl := rfl) dX7_fill_24 ?_
  refine g_get (pc := 25) C fl7_30 dX7_fill_25 h0 rfl ?_
  refine g_iconst (pc := 28) C qk_iconst_4 dX7_fill_28 ?_
  refine g_iload_n (pc := 29) C (hl := rfl) dX7_fill_29 ?_
  refine g_V2v (pc := 30) C lv7_167 dX7_fill_30 (s4_of4 z (ht) (hc) (by omega)) ht (by decide) (Nat.le_of_ble_eq_true rfl) ?_
  refine g_iload_n (pc := 33) C (hl := rfl) dX7_fill_33 ?_
  refine g_iaddN (pc := 34) C dX7_fill_34 ?_
  refine g_bipush (pc := 35) C qk_bipush_99 dX7_fill_35 ?_
  refine g_ic_leN (pc := 37) C 43 dX7_fill_37 (by decide) (by omega) (fun q => absurd q (by omega)) (fun _ => ?_)
  refine g_ldc (pc := 40) C (v := -1000003) zk7_110 dX7_fill_40 ?_
  exact g_iret (pc := 42) C F dX7_fill_42 rfl rfl (rfl) (rfl)
set_option maxHeartbeats 2000000 in
set_option maxRecDepth 20000 in
theorem s7_fillT {n : Nat} {h : q_H} {lf ld : Nat} {g : Nat} {x : mX} (h0 : h 0 = DO lf ld) (ht : h 28 = TX 29 g x) (hc : h 29 = TA x.1) (z q : Nat) (hg : 0 < g ∧ g ≤ 6) (hz : z < g) (hq : 1 ≤ q ∧ q ≤ 30) (hf : x.1 (24 + z) ≤ 99) (hs : x.1 (24 + z) + q ≤ 99) {nx k v vc g2 : Nat} {fa : Nat → Option Nat} {x2 : mX} (hA : h 30 = AO 31 nx k) (hB : h 31 = TLs 24 fa) (hnx : nx < 24 ∧ k ≤ 24) (hfv : fa nx = some v) (hv : h v = TX vc g2 x2) (hvc : h vc = TA x2.1) (hvn : 31 < v ∧ v < 80 ∧ 31 < vc ∧ vc < 80 ∧ v ≠ vc) : SP 3 yX7_fill cX7_fill 3 (some .int) [.ref 0, .int (nI z), .int (nI q)] n h (some (.int (nI (x.1 (24 + z) + q)))) (q_up (q_up (q_up (q_up h vc (TA x.1)) v (TO vc g x.2.1 x.2.2.1 x2.2.2.2.1 x2.2.2.2.2.1 x2.2.2.2.2.2.1 x2.2.2.2.2.2.2)) 30 (AO 31 ((nx + 1) % 24) (min (k + 1) 24))) 29 (TA (va_up x.1 (24 + z) (x.1 (24 + z) + q)))) := by
  refine q_SPi RX7 rfl (by decide +kernel) (la := _) rfl rfl (fun Γ ad C F => ?_)
  refine g_aload_n (pc := 0) C (hl := rfl) dX7_fill_0 ?_
  refine g_get (pc := 1) C fl7_30 dX7_fill_1 h0 rfl ?_
  refine g_iload_n (pc := 4) C (hl := rfl) dX7_fill_4 ?_
  refine g_V1v (pc := 5) C lv7_163 dX7_fill_5 (s4_hasT z (ht) hg.2 hz) ht (by decide) (Nat.le_of_ble_eq_true rfl) ?_
  refine g_if_eqN (pc := 8) C 21 dX7_fill_8 (by decide) (by decide) (fun q => absurd q (by decide)) (fun _ => ?_)
  refine g_iload_n (pc := 11) C (hl := rfl) dX7_fill_11 ?_
  refine g_iconst (pc := 12) C qk_iconst_1 dX7_fill_12 ?_
  refine g_bipush (pc := 13) C qk_bipush_30 dX7_fill_13 ?_
  refine g_S3v (pc := 15) C ls7_59 dX7_fill_15 (s7_withinN q 1 30 (by omega)) (by decide) (Nat.le_of_ble_eq_true rfl) ?_
  refine g_if_neN (pc := 18) C 24 dX7_fill_18 (by decide) (by decide) (fun _ => ?_) (fun q => absurd q (by decide))
  refine g_aload_n (pc := 24) C (hl := rfl) dX7_fill_24 ?_
  refine g_get (pc := 25) C fl7_30 dX7_fill_25 h0 rfl ?_
  refine g_iconst (pc := 28) C qk_iconst_4 dX7_fill_28 ?_
  refine g_iload_n (pc := 29) C (hl := rfl) dX7_fill_29 ?_
  refine g_V2v (pc := 30) C lv7_167 dX7_fill_30 (s4_of4 z (ht) (hc) (by omega)) ht (by decide) (Nat.le_of_ble_eq_true rfl) ?_
  refine g_iload_n (pc := 33) C (hl := rfl) dX7_fill_33 ?_
  refine g_iaddN (pc := 34) C dX7_fill_34 ?_
  refine g_bipush (pc := 35) C qk_bipush_99 dX7_fill_35 ?_
  refine g_ic_leN (pc := 37) C 43 dX7_fill_37 (by decide) (by omega) (fun _ => ?_) (fun q => absurd (by omega) q)
  refine g_aload_n (pc := 43) C (hl := rfl) dX7_fill_43 ?_
  refine g_get (pc := 44) C fl7_37 dX7_fill_44 h0 rfl ?_
  refine g_aload_n (pc := 47) C (hl := rfl) dX7_fill_47 ?_
  refine g_get (pc := 48) C fl7_30 dX7_fill_48 h0 rfl ?_
  refine g_V1u (pc := 51) C lv7_151 dX7_fill_51 (s0_keep (hA) (hB) hnx hfv (ht) (hc) (hv) (hvc) (by omega)) hA (by decide) (Nat.le_of_ble_eq_true rfl) ?_
  refine g_aload_n (pc := 54) C (hl := rfl) dX7_fill_54 ?_
  refine g_get (pc := 55) C fl7_30 dX7_fill_55 ((q_up_n _ _ (by omega)).trans ((q_up_n _ _ (by omega)).trans ((q_up_n _ _ (by omega)).trans h0))) rfl ?_
  refine g_iconst (pc := 58) C qk_iconst_4 dX7_fill_58 ?_
  refine g_iload_n (pc := 59) C (hl := rfl) dX7_fill_59 ?_
  refine g_iload_n (pc := 60) C (hl := rfl) dX7_fill_60 ?_
  refine g_V3u (pc := 61) C lv7_171 dX7_fill_61 (s4_add4 z (x.1 (24 + z) + q) (nI q) (((q_up_n _ _ (by omega)).trans ((q_up_n _ _ (by omega)).trans ((q_up_n _ _ (by omega)).trans ht)))) (((q_up_n _ _ (by omega)).trans ((q_up_n _ _ (by omega)).trans ((q_up_n _ _ (by omega)).trans hc)))) (by omega) (nI_add _ _)) ((q_up_n _ _ (by omega)).trans ((q_up_n _ _ (by omega)).trans ((q_up_n _ _ (by omega)).trans ht))) (by decide) (Nat.le_of_ble_eq_true rfl) ?_
  refine g_aload_n (pc := 64) C (hl := rfl) dX7_fill_64 ?_
  refine g_get (pc := 65) C fl7_30 dX7_fill_65 ((q_up_n _ _ (by omega)).trans ((q_up_n _ _ (by omega)).trans ((q_up_n _ _ (by omega)).trans ((q_up_n _ _ (by omega)).trans h0)))) rfl ?_
  refine g_iconst (pc := 68) C qk_iconst_4 dX7_fill_68 ?_
  refine g_iload_n (pc := 69) C (hl := rfl) dX7_fill_69 ?_
  refine g_V2v (pc := 70) C lv7_167 dX7_fill_70 (s4_of4 z (((q_up_n _ _ (by omega)).trans ((q_up_n _ _ (by omega)).trans ((q_up_n _ _ (by omega)).trans ((q_up_n _ _ (by omega)).trans ht))))) ((q_up_s _ _ _)) (by omega)) ((q_up_n _ _ (by omega)).trans ((q_up_n _ _ (by omega)).trans ((q_up_n _ _ (by omega)).trans ((q_up_n _ _ (by omega)).trans ht)))) (by decide) (Nat.le_of_ble_eq_true rfl) ?_
  exact g_iret (pc := 73) C F dX7_fill_73 rfl rfl (by unfold va_up; rw [if_pos rfl]) (rfl)
set_option maxHeartbeats 2000000 in
set_option maxRecDepth 20000 in
theorem s7_changeB {n : Nat} {h : q_H} {lf ld : Nat} {g : Nat} {x : mX} (h0 : h 0 = DO lf ld) (ht : h 28 = TX 29 g x) (hc : h 29 = TA x.1) (y z : Int32) (hb : (y < 0 ∨ nI g ≤ y) ∨ (z < 0 ∨ nI g ≤ z) ∨ y = z) : SP 1 yX7_change cX7_change 3 (some .int) [.ref 0, .int y, .int z] n h (some (.int (-1000001))) h := by
  refine q_SPi RX7 rfl (by decide +kernel) (la := _) rfl rfl (fun Γ ad C F => ?_)
  refine g_aload_n (pc := 0) C (hl := rfl) dX7_change_0 ?_
  refine g_get (pc := 1) C fl7_30 dX7_change_1 h0 rfl ?_
  refine g_iload_n (pc := 4) C (hl := rfl) dX7_change_4 ?_
  by_cases cy : y < 0 ∨ nI g ≤ y
  · refine g_V1v (pc := 5) C lv7_163 dX7_change_5 (s4_hasF y (ht) cy) ht (by decide) (Nat.le_of_ble_eq_true rfl) ?_
    refine g_if_eqN (pc := 8) C 27 dX7_change_8 (by decide) (by decide) (fun _ => ?_) (fun q => absurd q (by decide))
    refine g_ldc (pc := 27) C (v := -1000001) zk7_63 dX7_change_27 ?_
    exact g_iret (pc := 29) C F dX7_change_29 rfl rfl (rfl) (rfl)
  · refine g_V1v (pc := 5) C lv7_163 dX7_change_5 (s4_hasU y (ht) cy) ht (by decide) (Nat.le_of_ble_eq_true rfl) ?_
    refine g_if_eqN (pc := 8) C 27 dX7_change_8 (by decide) (by decide) (fun q => absurd q (by decide)) (fun _ => ?_)
    refine g_aload_n (pc := 11) C (hl := rfl) dX7_change_11 ?_
    refine g_get (pc := 12) C fl7_30 dX7_change_12 h0 rfl ?_
    refine g_iload_n (pc := 15) C (hl := rfl) dX7_change_15 ?_
    by_cases cz : z < 0 ∨ nI g ≤ z
    · refine g_V1v (pc := 16) C lv7_163 dX7_change_16 (s4_hasF z (ht) cz) ht (by decide) (Nat.le_of_ble_eq_true rfl) ?_
      refine g_if_eqN (pc := 19) C 27 dX7_change_19 (by decide) (by decide) (fun _ => ?_) (fun q => absurd q (by decide))
      refine g_ldc (pc := 27) C (v := -1000001) zk7_63 dX7_change_27 ?_
      exact g_iret (pc := 29) C F dX7_change_29 rfl rfl (rfl) (rfl)
    · refine g_V1v (pc := 16) C lv7_163 dX7_change_16 (s4_hasU z (ht) cz) ht (by decide) (Nat.le_of_ble_eq_true rfl) ?_
      refine g_if_eqN (pc := 19) C 27 dX7_change_19 (by decide) (by decide) (fun q => absurd q (by decide)) (fun _ => ?_)
      refine g_iload_n (pc := 22) C (hl := rfl) dX7_change_22 ?_
      refine g_iload_n (pc := 23) C (hl := rfl) dX7_change_23 ?_
      refine g_ic_ne (pc := 24) C 30 dX7_change_24 (by decide) (fun c24 => ?_) (fun c24 => ?_)
      · exact absurd hb (fun q => q.elim cy (fun q => q.elim cz c24))
      · refine g_ldc (pc := 27) C (v := -1000001) zk7_63 dX7_change_27 ?_
        exact g_iret (pc := 29) C F dX7_change_29 rfl rfl (rfl) (rfl)
set_option maxHeartbeats 2000000 in
set_option maxRecDepth 20000 in
theorem s7_changeT {n : Nat} {h : q_H} {lf ld : Nat} {g : Nat} {x : mX} (h0 : h 0 = DO lf ld) (ht : h 28 = TX 29 g x) (hc : h 29 = TA x.1) (y z : Nat) (hg : 0 < g ∧ g ≤ 6) (hy : y < g) (hz : z < g) (hne : ¬ y = z) (hyz : y < 6 ∧ z < 6 ∧ x.1 (12 + y) < 6 ∧ x.1 (12 + z) < 6) {nx k v vc g2 : Nat} {fa : Nat → Option Nat} {x2 : mX} (hA : h 30 = AO 31 nx k) (hB : h 31 = TLs 24 fa) (hnx : nx < 24 ∧ k ≤ 24) (hfv : fa nx = some v) (hv : h v = TX vc g2 x2) (hvc : h vc = TA x2.1) (hvn : 31 < v ∧ v < 80 ∧ 31 < vc ∧ vc < 80 ∧ v ≠ vc) : SP 3 yX7_change cX7_change 3 (some .int) [.ref 0, .int (nI y), .int (nI z)] n h (some (.int (nI ((mSwS x.1 y z) (12 + y))))) (q_up (q_up (q_up (q_up h vc (TA x.1)) v (TO vc g x.2.1 x.2.2.1 x2.2.2.2.1 x2.2.2.2.2.1 x2.2.2.2.2.2.1 x2.2.2.2.2.2.2)) 30 (AO 31 ((nx + 1) % 24) (min (k + 1) 24))) 29 (TA (mSwS x.1 y z))) := by
  refine q_SPi RX7 rfl (by decide +kernel) (la := _) rfl rfl (fun Γ ad C F => ?_)
  refine g_aload_n (pc := 0) C (hl := rfl) dX7_change_0 ?_
  refine g_get (pc := 1) C fl7_30 dX7_change_1 h0 rfl ?_
  refine g_iload_n (pc := 4) C (hl := rfl) dX7_change_4 ?_
  refine g_V1v (pc := 5) C lv7_163 dX7_change_5 (s4_hasT y (ht) hg.2 hy) ht (by decide) (Nat.le_of_ble_eq_true rfl) ?_
  refine g_if_eqN (pc := 8) C 27 dX7_change_8 (by decide) (by decide) (fun q => absurd q (by decide)) (fun _ => ?_)
  refine g_aload_n (pc := 11) C (hl := rfl) dX7_change_11 ?_
  refine g_get (pc := 12) C fl7_30 dX7_change_12 h0 rfl ?_
  refine g_iload_n (pc := 15) C (hl := rfl) dX7_change_15 ?_
  refine g_V1v (pc := 16) C lv7_163 dX7_change_16 (s4_hasT z (ht) hg.2 hz) ht (by decide) (Nat.le_of_ble_eq_true rfl) ?_
  refine g_if_eqN (pc := 19) C 27 dX7_change_19 (by decide) (by decide) (fun q => absurd q (by decide)) (fun _ => ?_)
  refine g_iload_n (pc := 22) C (hl := rfl) dX7_change_22 ?_
  refine g_iload_n (pc := 23) C (hl := rfl) dX7_change_23 ?_
  refine g_ic_neN (pc := 24) C 30 dX7_change_24 (by decide) (by omega) (fun _ => ?_) (fun q => absurd q (hne))
  refine g_aload_n (pc := 30) C (hl := rfl) dX7_change_30 ?_
  refine g_get (pc := 31) C fl7_37 dX7_change_31 h0 rfl ?_
  refine g_aload_n (pc := 34) C (hl := rfl) dX7_change_34 ?_
  refine g_get (pc := 35) C fl7_30 dX7_change_35 h0 rfl ?_
  refine g_V1u (pc := 38) C lv7_151 dX7_change_38 (s0_keep (hA) (hB) hnx hfv (ht) (hc) (hv) (hvc) (by omega)) hA (by decide) (Nat.le_of_ble_eq_true rfl) ?_
  refine g_aload_n (pc := 41) C (hl := rfl) dX7_change_41 ?_
  refine g_get (pc := 42) C fl7_30 dX7_change_42 ((q_up_n _ _ (by omega)).trans ((q_up_n _ _ (by omega)).trans ((q_up_n _ _ (by omega)).trans h0))) rfl ?_
  refine g_iload_n (pc := 45) C (hl := rfl) dX7_change_45 ?_
  refine g_iload_n (pc := 46) C (hl := rfl) dX7_change_46 ?_
  refine g_V2u (pc := 47) C lv7_174 dX7_change_47 (s4_swapSeats y z (((q_up_n _ _ (by omega)).trans ((q_up_n _ _ (by omega)).trans ((q_up_n _ _ (by omega)).trans ht)))) (((q_up_n _ _ (by omega)).trans ((q_up_n _ _ (by omega)).trans ((q_up_n _ _ (by omega)).trans hc)))) hyz) ((q_up_n _ _ (by omega)).trans ((q_up_n _ _ (by omega)).trans ((q_up_n _ _ (by omega)).trans ht))) (by decide) (Nat.le_of_ble_eq_true rfl) ?_
  refine g_aload_n (pc := 50) C (hl := rfl) dX7_change_50 ?_
  refine g_get (pc := 51) C fl7_30 dX7_change_51 ((q_up_n _ _ (by omega)).trans ((q_up_n _ _ (by omega)).trans ((q_up_n _ _ (by omega)).trans ((q_up_n _ _ (by omega)).trans h0)))) rfl ?_
  refine g_iconst (pc := 54) C qk_iconst_2 dX7_change_54 ?_
  refine g_iload_n (pc := 55) C (hl := rfl) dX7_change_55 ?_
  refine g_V2v (pc := 56) C lv7_167 dX7_change_56 (s4_of2 y (((q_up_n _ _ (by omega)).trans ((q_up_n _ _ (by omega)).trans ((q_up_n _ _ (by omega)).trans ((q_up_n _ _ (by omega)).trans ht))))) ((q_up_s _ _ _)) (by omega)) ((q_up_n _ _ (by omega)).trans ((q_up_n _ _ (by omega)).trans ((q_up_n _ _ (by omega)).trans ((q_up_n _ _ (by omega)).trans ht)))) (by decide) (Nat.le_of_ble_eq_true rfl) ?_
  exact g_iret (pc := 59) C F dX7_change_59 rfl rfl (rfl) (rfl)
set_option maxHeartbeats 2000000 in
set_option maxRecDepth 20000 in
theorem s7_layB {n : Nat} {h : q_H} {lf ld : Nat} {g : Nat} {x : mX} (h0 : h 0 = DO lf ld) (ht : h 28 = TX 29 g x) (hc : h 29 = TA x.1) (y z : Int32) (hb : (y < 0 ∨ nI g ≤ y) ∨ (z < 0 ∨ nI g ≤ z) ∨ y = z) : SP 1 yX7_lay cX7_lay 3 (some .int) [.ref 0, .int y, .int z] n h (some (.int (-1000001))) h := by
  refine q_SPi RX7 rfl (by decide +kernel) (la := _) rfl rfl (fun Γ ad C F => ?_)
  refine g_aload_n (pc := 0) C (hl := rfl) dX7_lay_0 ?_
  refine g_get (pc := 1) C fl7_30 dX7_lay_1 h0 rfl ?_
  refine g_iload_n (pc := 4) C (hl := rfl) dX7_lay_4 ?_
  by_cases cy : y < 0 ∨ nI g ≤ y
  · refine g_V1v (pc := 5) C lv7_163 dX7_lay_5 (s4_hasF y (ht) cy) ht (by decide) (Nat.le_of_ble_eq_true rfl) ?_
    refine g_if_eqN (pc := 8) C 27 dX7_lay_8 (by decide) (by decide) (fun _ => ?_) (fun q => absurd q (by decide))
    refine g_ldc (pc := 27) C (v := -1000001) zk7_63 dX7_lay_27 ?_
    exact g_iret (pc := 29) C F dX7_lay_29 rfl rfl (rfl) (rfl)
  · refine g_V1v (pc := 5) C lv7_163 dX7_lay_5 (s4_hasU y (ht) cy) ht (by decide) (Nat.le_of_ble_eq_true rfl) ?_
    refine g_if_eqN (pc := 8) C 27 dX7_lay_8 (by decide) (by decide) (fun q => absurd q (by decide)) (fun _ => ?_)
    refine g_aload_n (pc := 11) C (hl := rfl) dX7_lay_11 ?_
    refine g_get (pc := 12) C fl7_30 dX7_lay_12 h0 rfl ?_
    refine g_iload_n (pc := 15) C (hl := rfl) dX7_lay_15 ?_
    by_cases cz : z < 0 ∨ nI g ≤ z
    · refine g_V1v (pc := 16) C lv7_163 dX7_lay_16 (s4_hasF z (ht) cz) ht (by decide) (Nat.le_of_ble_eq_true rfl) ?_
      refine g_if_eqN (pc := 19) C 27 dX7_lay_19 (by decide) (by decide) (fun _ => ?_) (fun q => absurd q (by decide))
      refine g_ldc (pc := 27) C (v := -1000001) zk7_63 dX7_lay_27 ?_
      exact g_iret (pc := 29) C F dX7_lay_29 rfl rfl (rfl) (rfl)
    · refine g_V1v (pc := 16) C lv7_163 dX7_lay_16 (s4_hasU z (ht) cz) ht (by decide) (Nat.le_of_ble_eq_true rfl) ?_
      refine g_if_eqN (pc := 19) C 27 dX7_lay_19 (by decide) (by decide) (fun q => absurd q (by decide)) (fun _ => ?_)
      refine g_iload_n (pc := 22) C (hl := rfl) dX7_lay_22 ?_
      refine g_iload_n (pc := 23) C (hl := rfl) dX7_lay_23 ?_
      refine g_ic_ne (pc := 24) C 30 dX7_lay_24 (by decide) (fun c24 => ?_) (fun c24 => ?_)
      · exact absurd hb (fun q => q.elim cy (fun q => q.elim cz c24))
      · refine g_ldc (pc := 27) C (v := -1000001) zk7_63 dX7_lay_27 ?_
        exact g_iret (pc := 29) C F dX7_lay_29 rfl rfl (rfl) (rfl)
set_option maxHeartbeats 2000000 in
set_option maxRecDepth 20000 in
theorem s7_layT {n : Nat} {h : q_H} {lf ld : Nat} {g : Nat} {x : mX} (h0 : h 0 = DO lf ld) (ht : h 28 = TX 29 g x) (hc : h 29 = TA x.1) (y z : Nat) (hg : 0 < g ∧ g ≤ 6) (hy : y < g) (hz : z < g) (hne : ¬ y = z) (hyz : y < 6 ∧ z < 6 ∧ x.1 (30 + y) < 6 ∧ x.1 (30 + z) < 6) {nx k v vc g2 : Nat} {fa : Nat → Option Nat} {x2 : mX} (hA : h 30 = AO 31 nx k) (hB : h 31 = TLs 24 fa) (hnx : nx < 24 ∧ k ≤ 24) (hfv : fa nx = some v) (hv : h v = TX vc g2 x2) (hvc : h vc = TA x2.1) (hvn : 31 < v ∧ v < 80 ∧ 31 < vc ∧ vc < 80 ∧ v ≠ vc) : SP 3 yX7_lay cX7_lay 3 (some .int) [.ref 0, .int (nI y), .int (nI z)] n h (some (.int (nI ((va_up (va_up (va_up (va_up x.1 (30 + y) (x.1 (30 + z))) (42 + x.1 (30 + z)) y) (30 + z) (x.1 (30 + y))) (42 + x.1 (30 + y)) z) (30 + y))))) (q_up (q_up (q_up (q_up h vc (TA x.1)) v (TO vc g x.2.1 x.2.2.1 x2.2.2.2.1 x2.2.2.2.2.1 x2.2.2.2.2.2.1 x2.2.2.2.2.2.2)) 30 (AO 31 ((nx + 1) % 24) (min (k + 1) 24))) 29 (TA (va_up (va_up (va_up (va_up x.1 (30 + y) (x.1 (30 + z))) (42 + x.1 (30 + z)) y) (30 + z) (x.1 (30 + y))) (42 + x.1 (30 + y)) z))) := by
  refine q_SPi RX7 rfl (by decide +kernel) (la := _) rfl rfl (fun Γ ad C F => ?_)
  refine g_aload_n (pc := 0) C (hl := rfl) dX7_lay_0 ?_
  refine g_get (pc := 1) C fl7_30 dX7_lay_1 h0 rfl ?_
  refine g_iload_n (pc := 4) C (hl := rfl) dX7_lay_4 ?_
  refine g_V1v (pc := 5) C lv7_163 dX7_lay_5 (s4_hasT y (ht) hg.2 hy) ht (by decide) (Nat.le_of_ble_eq_true rfl) ?_
  refine g_if_eqN (pc := 8) C 27 dX7_lay_8 (by decide) (by decide) (fun q => absurd q (by decide)) (fun _ => ?_)
  refine g_aload_n (pc := 11) C (hl := rfl) dX7_lay_11 ?_
  refine g_get (pc := 12) C fl7_30 dX7_lay_12 h0 rfl ?_
  refine g_iload_n (pc := 15) C (hl := rfl) dX7_lay_15 ?_
  refine g_V1v (pc := 16) C lv7_163 dX7_lay_16 (s4_hasT z (ht) hg.2 hz) ht (by decide) (Nat.le_of_ble_eq_true rfl) ?_
  refine g_if_eqN (pc := 19) C 27 dX7_lay_19 (by decide) (by decide) (fun q => absurd q (by decide)) (fun _ => ?_)
  refine g_iload_n (pc := 22) C (hl := rfl) dX7_lay_22 ?_
  refine g_iload_n (pc := 23) C (hl := rfl) dX7_lay_23 ?_
  refine g_ic_neN (pc := 24) C 30 dX7_lay_24 (by decide) (by omega) (fun _ => ?_) (fun q => absurd q (hne))
  refine g_aload_n (pc := 30) C (hl := rfl) dX7_lay_30 ?_
  refine g_get (pc := 31) C fl7_37 dX7_lay_31 h0 rfl ?_
  refine g_aload_n (pc := 34) C (hl := rfl) dX7_lay_34 ?_
  refine g_get (pc := 35) C fl7_30 dX7_lay_35 h0 rfl ?_
  refine g_V1u (pc := 38) C lv7_151 dX7_lay_38 (s0_keep (hA) (hB) hnx hfv (ht) (hc) (hv) (hvc) (by omega)) hA (by decide) (Nat.le_of_ble_eq_true rfl) ?_
  refine g_aload_n (pc := 41) C (hl := rfl) dX7_lay_41 ?_
  refine g_get (pc := 42) C fl7_30 dX7_lay_42 ((q_up_n _ _ (by omega)).trans ((q_up_n _ _ (by omega)).trans ((q_up_n _ _ (by omega)).trans h0))) rfl ?_
  refine g_iload_n (pc := 45) C (hl := rfl) dX7_lay_45 ?_
  refine g_iload_n (pc := 46) C (hl := rfl) dX7_lay_46 ?_
  refine g_V2u (pc := 47) C lv7_177 dX7_lay_47 (s4_swapSlots y z (((q_up_n _ _ (by omega)).trans ((q_up_n _ _ (by omega)).trans ((q_up_n _ _ (by omega)).trans ht)))) (((q_up_n _ _ (by omega)).trans ((q_up_n _ _ (by omega)).trans ((q_up_n _ _ (by omega)).trans hc)))) hyz) ((q_up_n _ _ (by omega)).trans ((q_up_n _ _ (by omega)).trans ((q_up_n _ _ (by omega)).trans ht))) (by decide) (Nat.le_of_ble_eq_true rfl) ?_
  refine g_aload_n (pc := 50) C (hl := rfl) dX7_lay_50 ?_
  refine g_get (pc := 51) C fl7_30 dX7_lay_51 ((q_up_n _ _ (by omega)).trans ((q_up_n _ _ (by omega)).trans ((q_up_n _ _ (by omega)).trans ((q_up_n _ _ (by omega)).trans h0)))) rfl ?_
  refine g_iconst (pc := 54) C qk_iconst_5 dX7_lay_54 ?_
  refine g_iload_n (pc := 55) C (hl := rfl) dX7_lay_55 ?_
  refine g_V2v (pc := 56) C lv7_167 dX7_lay_56 (s4_of5 y (((q_up_n _ _ (by omega)).trans ((q_up_n _ _ (by omega)).trans ((q_up_n _ _ (by omega)).trans ((q_up_n _ _ (by omega)).trans ht))))) ((q_up_s _ _ _)) (by omega)) ((q_up_n _ _ (by omega)).trans ((q_up_n _ _ (by omega)).trans ((q_up_n _ _ (by omega)).trans ((q_up_n _ _ (by omega)).trans ht)))) (by decide) (Nat.le_of_ble_eq_true rfl) ?_
  exact g_iret (pc := 59) C F dX7_lay_59 rfl rfl (rfl) (rfl)
set_option maxHeartbeats 2000000 in
set_option maxRecDepth 20000 in
theorem s7_undoN {n : Nat} {h : q_H} {lf ld : Nat} {nx k : Nat} (h0 : h 0 = DO lf ld) (hA : h 30 = AO 31 nx k) (hk : k = 0) : SP 1 yX7_undo cX7_undo 1 (some .int) [.ref 0] n h (some (.int (-1000002))) h := by
  refine q_SPi RX7 rfl (by decide +kernel) (la := _) rfl rfl (fun Γ ad C F => ?_)
  refine g_aload_n (pc := 0) C (hl := rfl) dX7_undo_0 ?_
  refine g_get (pc := 1) C fl7_37 dX7_undo_1 h0 rfl ?_
  refine g_get (pc := 4) C fl7_180 dX7_undo_4 hA rfl ?_
  refine g_if_neN (pc := 7) C 13 dX7_undo_7 (by decide) (by omega) (fun q => absurd q (fun z => z hk)) (fun _ => ?_)
  refine g_ldc (pc := 10) C (v := -1000002) zk7_147 dX7_undo_10 ?_
  exact g_iret (pc := 12) C F dX7_undo_12 rfl rfl (rfl) (rfl)
set_option maxHeartbeats 2000000 in
set_option maxRecDepth 20000 in
theorem s7_undoT {n : Nat} {h : q_H} {lf ld : Nat} {g : Nat} {x : mX} (h0 : h 0 = DO lf ld) (ht : h 28 = TX 29 g x) (hc : h 29 = TA x.1) {nx k v vc g2 : Nat} {fa : Nat → Option Nat} {x2 : mX} (hA : h 30 = AO 31 nx k) (hB : h 31 = TLs 24 fa) (hnx : nx < 24 ∧ k ≤ 24 ∧ 0 < k) (hfv : fa (((nx : Int) - 1) % ((24 : Nat) : Int)).toNat = some v) (hv : h v = TX vc g2 x2) (hvc : h vc = TA x2.1) (hvn : 31 < v ∧ v < 80 ∧ 31 < vc ∧ vc < 80 ∧ v ≠ vc) : SP 3 yX7_undo cX7_undo 1 (some .int) [.ref 0] n h (some (.int (nI (k - 1)))) (q_up (q_up (q_up h 29 (TA x2.1)) 28 (TO 29 g2 x2.2.1 x2.2.2.1 x.2.2.2.1 x.2.2.2.2.1 x.2.2.2.2.2.1 x.2.2.2.2.2.2)) 30 (AO 31 (((nx : Int) - 1) % ((24 : Nat) : Int)).toNat (k - 1))) := by
  refine q_SPi RX7 rfl (by decide +kernel) (la := _) rfl rfl (fun Γ ad C F => ?_)
  refine g_aload_n (pc := 0) C (hl := rfl) dX7_undo_0 ?_
  refine g_get (pc := 1) C fl7_37 dX7_undo_1 h0 rfl ?_
  refine g_get (pc := 4) C fl7_180 dX7_undo_4 hA rfl ?_
  refine g_if_neN (pc := 7) C 13 dX7_undo_7 (by decide) (by omega) (fun _ => ?_) (fun q => absurd q (Nat.ne_of_gt hnx.2.2))
  refine g_aload_n (pc := 13) C (hl := rfl) dX7_undo_13 ?_
  refine g_get (pc := 14) C fl7_37 dX7_undo_14 h0 rfl ?_
  refine g_aload_n (pc := 17) C (hl := rfl) dX7_undo_17 ?_
  refine g_get (pc := 18) C fl7_30 dX7_undo_18 h0 rfl ?_
  refine g_V1u (pc := 21) C lv7_183 dX7_undo_21 (s0_giveBack (hA) (hB) hnx hfv (ht) (hc) (hv) (hvc) (by omega)) hA (by decide) (Nat.le_of_ble_eq_true rfl) ?_
  refine g_aload_n (pc := 24) C (hl := rfl) dX7_undo_24 ?_
  refine g_get (pc := 25) C fl7_37 dX7_undo_25 ((q_up_n _ _ (by omega)).trans ((q_up_n _ _ (by omega)).trans ((q_up_n _ _ (by omega)).trans h0))) rfl ?_
  refine g_get (pc := 28) C fl7_180 dX7_undo_28 (q_up_s _ _ _) rfl ?_
  exact g_iret (pc := 31) C F dX7_undo_31 rfl rfl (rfl) (rfl)
set_option maxHeartbeats 2000000 in
set_option maxRecDepth 20000 in
theorem s7_guestB {n : Nat} {h : q_H} {lf ld : Nat} {g : Nat} {x : mX} (h0 : h 0 = DO lf ld) (ht : h 28 = TX 29 g x) (hc : h 29 = TA x.1) (z k : Int32) (hz : z < 0 ∨ nI g ≤ z) : SP 1 yX7_guest cX7_guest 3 (some .int) [.ref 0, .int z, .int k] n h (some (.int (-1000001))) h := by
  refine q_SPi RX7 rfl (by decide +kernel) (la := _) rfl rfl (fun Γ ad C F => ?_)
  refine g_aload_n (pc := 0) C (hl := rfl) dX7_guest_0 ?_
  refine g_get (pc := 1) C fl7_30 dX7_guest_1 h0 rfl ?_
  refine g_iload_n (pc := 4) C (hl := rfl) dX7_guest_4 ?_
  refine g_V1v (pc := 5) C lv7_163 dX7_guest_5 (s4_hasF z (ht) hz) ht (by decide) (Nat.le_of_ble_eq_true rfl) ?_
  refine g_if_neN (pc := 8) C 14 dX7_guest_8 (by decide) (by decide) (fun q => absurd q (by decide)) (fun _ => ?_)
  refine g_ldc (pc := 11) C (v := -1000001) zk7_63 dX7_guest_11 ?_
  exact g_iret (pc := 13) C F dX7_guest_13 rfl rfl (rfl) (rfl)
set_option maxHeartbeats 2000000 in
set_option maxRecDepth 20000 in
theorem s7_dishB {n : Nat} {h : q_H} {lf ld : Nat} {g : Nat} {x : mX} (h0 : h 0 = DO lf ld) (ht : h 28 = TX 29 g x) (hc : h 29 = TA x.1) (z k : Int32) (hz : z < 0 ∨ nI g ≤ z) : SP 1 yX7_dish cX7_dish 3 (some .int) [.ref 0, .int z, .int k] n h (some (.int (-1000001))) h := by
  refine q_SPi RX7 rfl (by decide +kernel) (la := _) rfl rfl (fun Γ ad C F => ?_)
  refine g_aload_n (pc := 0) C (hl := rfl) dX7_dish_0 ?_
  refine g_get (pc := 1) C fl7_30 dX7_dish_1 h0 rfl ?_
  refine g_iload_n (pc := 4) C (hl := rfl) dX7_dish_4 ?_
  refine g_V1v (pc := 5) C lv7_163 dX7_dish_5 (s4_hasF z (ht) hz) ht (by decide) (Nat.le_of_ble_eq_true rfl) ?_
  refine g_if_neN (pc := 8) C 14 dX7_dish_8 (by decide) (by decide) (fun q => absurd q (by decide)) (fun _ => ?_)
  refine g_ldc (pc := 11) C (v := -1000001) zk7_63 dX7_dish_11 ?_
  exact g_iret (pc := 13) C F dX7_dish_13 rfl rfl (rfl) (rfl)
set_option maxHeartbeats 2000000 in
set_option maxRecDepth 20000 in
theorem s7_guestO {n : Nat} {h : q_H} {lf ld : Nat} {g : Nat} {x : mX} (h0 : h 0 = DO lf ld) (ht : h 28 = TX 29 g x) (hc : h 29 = TA x.1) (z : Nat) (hg : 0 < g ∧ g ≤ 6) (hz : z < g) (k : Int32) (hk : k.toInt < 0 ∨ 3 < k.toInt) : SP 1 yX7_guest cX7_guest 3 (some .int) [.ref 0, .int (nI z), .int k] n h (some (.int (-1000001))) h := by
  refine q_SPi RX7 rfl (by decide +kernel) (la := _) rfl rfl (fun Γ ad C F => ?_)
  refine g_aload_n (pc := 0) C (hl := rfl) dX7_guest_0 ?_
  refine g_get (pc := 1) C fl7_30 dX7_guest_1 h0 rfl ?_
  refine g_iload_n (pc := 4) C (hl := rfl) dX7_guest_4 ?_
  refine g_V1v (pc := 5) C lv7_163 dX7_guest_5 (s4_hasT z (ht) hg.2 hz) ht (by decide) (Nat.le_of_ble_eq_true rfl) ?_
  refine g_if_neN (pc := 8) C 14 dX7_guest_8 (by decide) (by decide) (fun _ => ?_) (fun q => absurd q (by decide))
  refine g_iload_n (pc := 14) C (hl := rfl) dX7_guest_14 ?_
  refine g_tsO (pc := 15) C 83 dX7_guest_15 hk (by decide) ?_
  refine g_ldc (pc := 83) C (v := -1000001) zk7_63 dX7_guest_83 ?_
  exact g_iret (pc := 85) C F dX7_guest_85 rfl rfl (rfl) (rfl)
set_option maxHeartbeats 2000000 in
set_option maxRecDepth 20000 in
theorem s7_guest0 {n : Nat} {h : q_H} {lf ld : Nat} {g : Nat} {x : mX} (h0 : h 0 = DO lf ld) (ht : h 28 = TX 29 g x) (hc : h 29 = TA x.1) (z : Nat) (hg : 0 < g ∧ g ≤ 6) (hz : z < g) : SP 1 yX7_guest cX7_guest 3 (some .int) [.ref 0, .int (nI z), .int (nI 0)] n h (some (.int (nI (x.1 (12 + z))))) h := by
  refine q_SPi RX7 rfl (by decide +kernel) (la := _) rfl rfl (fun Γ ad C F => ?_)
  refine g_aload_n (pc := 0) C (hl := rfl) dX7_guest_0 ?_
  refine g_get (pc := 1) C fl7_30 dX7_guest_1 h0 rfl ?_
  refine g_iload_n (pc := 4) C (hl := rfl) dX7_guest_4 ?_
  refine g_V1v (pc := 5) C lv7_163 dX7_guest_5 (s4_hasT z (ht) hg.2 hz) ht (by decide) (Nat.le_of_ble_eq_true rfl) ?_
  refine g_if_neN (pc := 8) C 14 dX7_guest_8 (by decide) (by decide) (fun _ => ?_) (fun q => absurd q (by decide))
  refine g_iload_n (pc := 14) C (hl := rfl) dX7_guest_14 ?_
  refine g_tsI (pc := 15) C (off := 29) 44 dX7_guest_15 (by decide +kernel) (by decide +kernel) (by decide +kernel) (by decide) ?_
  refine g_aload_n (pc := 44) C (hl := rfl) dX7_guest_44 ?_
  refine g_get (pc := 45) C fl7_30 dX7_guest_45 h0 rfl ?_
  refine g_iconst (pc := 48) C qk_iconst_2 dX7_guest_48 ?_
  refine g_iload_n (pc := 49) C (hl := rfl) dX7_guest_49 ?_
  refine g_V2v (pc := 50) C lv7_167 dX7_guest_50 (s4_of2 z (ht) (hc) (by omega)) ht (by decide) (Nat.le_of_ble_eq_true rfl) ?_
  exact g_iret (pc := 53) C F dX7_guest_53 rfl rfl (rfl) (rfl)
set_option maxHeartbeats 2000000 in
set_option maxRecDepth 20000 in
theorem s7_guest1 {n : Nat} {h : q_H} {lf ld : Nat} {g : Nat} {x : mX} (h0 : h 0 = DO lf ld) (ht : h 28 = TX 29 g x) (hc : h 29 = TA x.1) (z : Nat) (hg : 0 < g ∧ g ≤ 6) (hz : z < g) : SP 1 yX7_guest cX7_guest 3 (some .int) [.ref 0, .int (nI z), .int (nI 1)] n h (some (.int (nI (x.1 (6 + z))))) h := by
  refine q_SPi RX7 rfl (by decide +kernel) (la := _) rfl rfl (fun Γ ad C F => ?_)
  refine g_aload_n (pc := 0) C (hl := rfl) dX7_guest_0 ?_
  refine g_get (pc := 1) C fl7_30 dX7_guest_1 h0 rfl ?_
  refine g_iload_n (pc := 4) C (hl := rfl) dX7_guest_4 ?_
  refine g_V1v (pc := 5) C lv7_163 dX7_guest_5 (s4_hasT z (ht) hg.2 hz) ht (by decide) (Nat.le_of_ble_eq_true rfl) ?_
  refine g_if_neN (pc := 8) C 14 dX7_guest_8 (by decide) (by decide) (fun _ => ?_) (fun q => absurd q (by decide))
  refine g_iload_n (pc := 14) C (hl := rfl) dX7_guest_14 ?_
  refine g_tsI (pc := 15) C (off := 39) 54 dX7_guest_15 (by decide +kernel) (by decide +kernel) (by decide +kernel) (by decide) ?_
  refine g_aload_n (pc := 54) C (hl := rfl) dX7_guest_54 ?_
  refine g_get (pc := 55) C fl7_30 dX7_guest_55 h0 rfl ?_
  refine g_iconst (pc := 58) C qk_iconst_1 dX7_guest_58 ?_
  refine g_iload_n (pc := 59) C (hl := rfl) dX7_guest_59 ?_
  refine g_V2v (pc := 60) C lv7_167 dX7_guest_60 (s4_of1 z (ht) (hc) (by omega)) ht (by decide) (Nat.le_of_ble_eq_true rfl) ?_
  exact g_iret (pc := 63) C F dX7_guest_63 rfl rfl (rfl) (rfl)
set_option maxHeartbeats 2000000 in
set_option maxRecDepth 20000 in
theorem s7_guest2 {n : Nat} {h : q_H} {lf ld : Nat} {g : Nat} {x : mX} (h0 : h 0 = DO lf ld) (ht : h 28 = TX 29 g x) (hc : h 29 = TA x.1) (z : Nat) (hg : 0 < g ∧ g ≤ 6) (hz : z < g) : SP 1 yX7_guest cX7_guest 3 (some .int) [.ref 0, .int (nI z), .int (nI 2)] n h (some (.int (nI (x.1 (18 + z))))) h := by
  refine q_SPi RX7 rfl (by decide +kernel) (la := _) rfl rfl (fun Γ ad C F => ?_)
  refine g_aload_n (pc := 0) C (hl := rfl) dX7_guest_0 ?_
  refine g_get (pc := 1) C fl7_30 dX7_guest_1 h0 rfl ?_
  refine g_iload_n (pc := 4) C (hl := rfl) dX7_guest_4 ?_
  refine g_V1v (pc := 5) C lv7_163 dX7_guest_5 (s4_hasT z (ht) hg.2 hz) ht (by decide) (Nat.le_of_ble_eq_true rfl) ?_
  refine g_if_neN (pc := 8) C 14 dX7_guest_8 (by decide) (by decide) (fun _ => ?_) (fun q => absurd q (by decide))
  refine g_iload_n (pc := 14) C (hl := rfl) dX7_guest_14 ?_
  refine g_tsI (pc := 15) C (off := 49) 64 dX7_guest_15 (by decide +kernel) (by decide +kernel) (by decide +kernel) (by decide) ?_
  refine g_aload_n (pc := 64) C (hl := rfl) dX7_guest_64 ?_
  refine g_get (pc := 65) C fl7_30 dX7_guest_65 h0 rfl ?_
  refine g_iconst (pc := 68) C qk_iconst_3 dX7_guest_68 ?_
  refine g_iload_n (pc := 69) C (hl := rfl) dX7_guest_69 ?_
  refine g_V2v (pc := 70) C lv7_167 dX7_guest_70 (s4_of3 z (ht) (hc) (by omega)) ht (by decide) (Nat.le_of_ble_eq_true rfl) ?_
  exact g_iret (pc := 73) C F dX7_guest_73 rfl rfl (rfl) (rfl)
set_option maxHeartbeats 2000000 in
set_option maxRecDepth 20000 in
theorem s7_guest3 {n : Nat} {h : q_H} {lf ld : Nat} {g : Nat} {x : mX} (h0 : h 0 = DO lf ld) (ht : h 28 = TX 29 g x) (hc : h 29 = TA x.1) (z : Nat) (hg : 0 < g ∧ g ≤ 6) (hz : z < g) (htu : x.2.1 < 6 ∧ x.1 (12 + z) < 6) (hd : (x.1 (12 + z) + x.2.1) % g < 6) : SP 2 yX7_guest cX7_guest 3 (some .int) [.ref 0, .int (nI z), .int (nI 3)] n h (some (.int (nI (mDish x.1 g x.2.1 z)))) h := by
  refine q_SPi RX7 rfl (by decide +kernel) (la := _) rfl rfl (fun Γ ad C F => ?_)
  refine g_aload_n (pc := 0) C (hl := rfl) dX7_guest_0 ?_
  refine g_get (pc := 1) C fl7_30 dX7_guest_1 h0 rfl ?_
  refine g_iload_n (pc := 4) C (hl := rfl) dX7_guest_4 ?_
  refine g_V1v (pc := 5) C lv7_163 dX7_guest_5 (s4_hasT z (ht) hg.2 hz) ht (by decide) (Nat.le_of_ble_eq_true rfl) ?_
  refine g_if_neN (pc := 8) C 14 dX7_guest_8 (by decide) (by decide) (fun _ => ?_) (fun q => absurd q (by decide))
  refine g_iload_n (pc := 14) C (hl := rfl) dX7_guest_14 ?_
  refine g_tsI (pc := 15) C (off := 59) 74 dX7_guest_15 (by decide +kernel) (by decide +kernel) (by decide +kernel) (by decide) ?_
  refine g_aload_n (pc := 74) C (hl := rfl) dX7_guest_74 ?_
  refine g_get (pc := 75) C fl7_30 dX7_guest_75 h0 rfl ?_
  refine g_iload_n (pc := 78) C (hl := rfl) dX7_guest_78 ?_
  refine g_V1v (pc := 79) C lv7_186 dX7_guest_79 (s4_dishBefore z (ht) (hc) (by omega) hd) ht (by decide) (Nat.le_of_ble_eq_true rfl) ?_
  exact g_iret (pc := 82) C F dX7_guest_82 rfl rfl (rfl) (rfl)
set_option maxHeartbeats 2000000 in
set_option maxRecDepth 20000 in
theorem s7_dishO {n : Nat} {h : q_H} {lf ld : Nat} {g : Nat} {x : mX} (h0 : h 0 = DO lf ld) (ht : h 28 = TX 29 g x) (hc : h 29 = TA x.1) (z : Nat) (hg : 0 < g ∧ g ≤ 6) (hz : z < g) (k : Int32) (hk : Op.lookupswitch.offset (#[((0 : Int), (25 : Int)), (1, 35)] : Array (Int × Int)).toList 45 k.toInt = 45) : SP 1 yX7_dish cX7_dish 3 (some .int) [.ref 0, .int (nI z), .int k] n h (some (.int (-1000001))) h := by
  refine q_SPi RX7 rfl (by decide +kernel) (la := _) rfl rfl (fun Γ ad C F => ?_)
  refine g_aload_n (pc := 0) C (hl := rfl) dX7_dish_0 ?_
  refine g_get (pc := 1) C fl7_30 dX7_dish_1 h0 rfl ?_
  refine g_iload_n (pc := 4) C (hl := rfl) dX7_dish_4 ?_
  refine g_V1v (pc := 5) C lv7_163 dX7_dish_5 (s4_hasT z (ht) hg.2 hz) ht (by decide) (Nat.le_of_ble_eq_true rfl) ?_
  refine g_if_neN (pc := 8) C 14 dX7_dish_8 (by decide) (by decide) (fun _ => ?_) (fun q => absurd q (by decide))
  refine g_iload_n (pc := 14) C (hl := rfl) dX7_dish_14 ?_
  refine g_lsw (pc := 15) C (off := 45) 60 dX7_dish_15 (by decide) hk (by decide) ?_
  refine g_ldc (pc := 60) C (v := -1000001) zk7_63 dX7_dish_60 ?_
  exact g_iret (pc := 62) C F dX7_dish_62 rfl rfl (rfl) (rfl)
set_option maxHeartbeats 2000000 in
set_option maxRecDepth 20000 in
theorem s7_dish0 {n : Nat} {h : q_H} {lf ld : Nat} {g : Nat} {x : mX} (h0 : h 0 = DO lf ld) (ht : h 28 = TX 29 g x) (hc : h 29 = TA x.1) (z : Nat) (hg : 0 < g ∧ g ≤ 6) (hz : z < g) : SP 1 yX7_dish cX7_dish 3 (some .int) [.ref 0, .int (nI z), .int (nI 0)] n h (some (.int (nI (x.1 (24 + z))))) h := by
  refine q_SPi RX7 rfl (by decide +kernel) (la := _) rfl rfl (fun Γ ad C F => ?_)
  refine g_aload_n (pc := 0) C (hl := rfl) dX7_dish_0 ?_
  refine g_get (pc := 1) C fl7_30 dX7_dish_1 h0 rfl ?_
  refine g_iload_n (pc := 4) C (hl := rfl) dX7_dish_4 ?_
  refine g_V1v (pc := 5) C lv7_163 dX7_dish_5 (s4_hasT z (ht) hg.2 hz) ht (by decide) (Nat.le_of_ble_eq_true rfl) ?_
  refine g_if_neN (pc := 8) C 14 dX7_dish_8 (by decide) (by decide) (fun _ => ?_) (fun q => absurd q (by decide))
  refine g_iload_n (pc := 14) C (hl := rfl) dX7_dish_14 ?_
  refine g_lsw (pc := 15) C (off := 25) 40 dX7_dish_15 (by decide) (by decide +kernel) (by decide) ?_
  refine g_aload_n (pc := 40) C (hl := rfl) dX7_dish_40 ?_
  refine g_get (pc := 41) C fl7_30 dX7_dish_41 h0 rfl ?_
  refine g_iconst (pc := 44) C qk_iconst_4 dX7_dish_44 ?_
  refine g_iload_n (pc := 45) C (hl := rfl) dX7_dish_45 ?_
  refine g_V2v (pc := 46) C lv7_167 dX7_dish_46 (s4_of4 z (ht) (hc) (by omega)) ht (by decide) (Nat.le_of_ble_eq_true rfl) ?_
  exact g_iret (pc := 49) C F dX7_dish_49 rfl rfl (rfl) (rfl)
set_option maxHeartbeats 2000000 in
set_option maxRecDepth 20000 in
theorem s7_dish1 {n : Nat} {h : q_H} {lf ld : Nat} {g : Nat} {x : mX} (h0 : h 0 = DO lf ld) (ht : h 28 = TX 29 g x) (hc : h 29 = TA x.1) (z : Nat) (hg : 0 < g ∧ g ≤ 6) (hz : z < g) : SP 1 yX7_dish cX7_dish 3 (some .int) [.ref 0, .int (nI z), .int (nI 1)] n h (some (.int (nI (x.1 (30 + z))))) h := by
  refine q_SPi RX7 rfl (by decide +kernel) (la := _) rfl rfl (fun Γ ad C F => ?_)
  refine g_aload_n (pc := 0) C (hl := rfl) dX7_dish_0 ?_
  refine g_get (pc := 1) C fl7_30 dX7_dish_1 h0 rfl ?_
  refine g_iload_n (pc := 4) C (hl := rfl) dX7_dish_4 ?_
  refine g_V1v (pc := 5) C lv7_163 dX7_dish_5 (s4_hasT z (ht) hg.2 hz) ht (by decide) (Nat.le_of_ble_eq_true rfl) ?_
  refine g_if_neN (pc := 8) C 14 dX7_dish_8 (by decide) (by decide) (fun _ => ?_) (fun q => absurd q (by decide))
  refine g_iload_n (pc := 14) C (hl := rfl) dX7_dish_14 ?_
  refine g_lsw (pc := 15) C (off := 35) 50 dX7_dish_15 (by decide) (by decide +kernel) (by decide) ?_
  refine g_aload_n (pc := 50) C (hl := rfl) dX7_dish_50 ?_
  refine g_get (pc := 51) C fl7_30 dX7_dish_51 h0 rfl ?_
  refine g_iconst (pc := 54) C qk_iconst_5 dX7_dish_54 ?_
  refine g_iload_n (pc := 55) C (hl := rfl) dX7_dish_55 ?_
  refine g_V2v (pc := 56) C lv7_167 dX7_dish_56 (s4_of5 z (ht) (hc) (by omega)) ht (by decide) (Nat.le_of_ble_eq_true rfl) ?_
  exact g_iret (pc := 59) C F dX7_dish_59 rfl rfl (rfl) (rfl)
set_option maxHeartbeats 2000000 in
set_option maxRecDepth 20000 in
theorem s7_kindB {n : Nat} {h : q_H} {lf ld : Nat} {g : Nat} {x : mX} (h0 : h 0 = DO lf ld) (ht : h 28 = TX 29 g x) (hc : h 29 = TA x.1) (z : Int32) (hz : z < 0 ∨ nI g ≤ z) : SP 1 yX7_kind cX7_kind 2 (some .int) [.ref 0, .int z] n h (some (.int (-1000001))) h := by
  refine q_SPi RX7 rfl (by decide +kernel) (la := _) rfl rfl (fun Γ ad C F => ?_)
  refine g_aload_n (pc := 0) C (hl := rfl) dX7_kind_0 ?_
  refine g_get (pc := 1) C fl7_30 dX7_kind_1 h0 rfl ?_
  refine g_iload_n (pc := 4) C (hl := rfl) dX7_kind_4 ?_
  refine g_V1v (pc := 5) C lv7_163 dX7_kind_5 (s4_hasF z (ht) hz) ht (by decide) (Nat.le_of_ble_eq_true rfl) ?_
  refine g_if_eqN (pc := 8) C 23 dX7_kind_8 (by decide) (by decide) (fun _ => ?_) (fun q => absurd q (by decide))
  refine g_ldc (pc := 23) C (v := -1000001) zk7_63 dX7_kind_23 ?_
  exact g_iret (pc := 25) C F dX7_kind_25 rfl rfl (rfl) (rfl)
set_option maxHeartbeats 2000000 in
set_option maxRecDepth 20000 in
theorem s7_kindT {n : Nat} {h : q_H} {lf ld : Nat} {g : Nat} {x : mX} (h0 : h 0 = DO lf ld) (ht : h 28 = TX 29 g x) (hc : h 29 = TA x.1) (z : Nat) (hg : 0 < g ∧ g ≤ 6) (hz : z < g) : SP 1 yX7_kind cX7_kind 2 (some .int) [.ref 0, .int (nI z)] n h (some (.int (nI (x.1 (0 + z))))) h := by
  refine q_SPi RX7 rfl (by decide +kernel) (la := _) rfl rfl (fun Γ ad C F => ?_)
  refine g_aload_n (pc := 0) C (hl := rfl) dX7_kind_0 ?_
  refine g_get (pc := 1) C fl7_30 dX7_kind_1 h0 rfl ?_
  refine g_iload_n (pc := 4) C (hl := rfl) dX7_kind_4 ?_
  refine g_V1v (pc := 5) C lv7_163 dX7_kind_5 (s4_hasT z (ht) hg.2 hz) ht (by decide) (Nat.le_of_ble_eq_true rfl) ?_
  refine g_if_eqN (pc := 8) C 23 dX7_kind_8 (by decide) (by decide) (fun q => absurd q (by decide)) (fun _ => ?_)
  refine g_aload_n (pc := 11) C (hl := rfl) dX7_kind_11 ?_
  refine g_get (pc := 12) C fl7_30 dX7_kind_12 h0 rfl ?_
  refine g_iconst (pc := 15) C qk_iconst_0 dX7_kind_15 ?_
  refine g_iload_n (pc := 16) C (hl := rfl) dX7_kind_16 ?_
  refine g_V2v (pc := 17) C lv7_167 dX7_kind_17 (s4_of0 z (ht) (hc) (by omega)) ht (by decide) (Nat.le_of_ble_eq_true rfl) ?_
  refine g_goto (pc := 20) C 25 dX7_kind_20 (by decide) ?_
  exact g_iret (pc := 25) C F dX7_kind_25 rfl rfl (rfl) (rfl)
