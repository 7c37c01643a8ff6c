set_option maxHeartbeats 2000000 in
set_option maxRecDepth 20000 in
theorem s7_aheadN {n : Nat} {h : q_H} {lf ld : Nat} {g : Nat} {x : mX} (h0 : h 0 = DO lf ld) (ht : h 28 = TX 29 g x) (hc : h 29 = TA x.1) (y z : Int32) (hg : g = 0) : SP 1 yX7_ahead cX7_ahead 4 (some .int) [.ref 0, .int y, .int z] n h (some (.int (-1000002))) h := by
  refine q_SPi RX7 rfl (by decide +kernel) (la := _) rfl rfl (fun Γ ad C F => ?_)
  refine g_aload_n (pc := 0) C (hl := rfl) dX7_ahead_0 ?_
  refine g_get (pc := 1) C fl7_30 dX7_ahead_1 h0 rfl ?_
  refine g_V0v (pc := 4) C lv7_144 dX7_ahead_4 (s4_standsZ (ht) hg) ht (by decide) (Nat.le_of_ble_eq_true rfl) ?_
  refine g_if_neN (pc := 7) C 13 dX7_ahead_7 (by decide) (by decide) (fun q => absurd q (by decide)) (fun _ => ?_)
  refine g_ldc (pc := 10) C (v := -1000002) zk7_147 dX7_ahead_10 ?_
  exact g_iret (pc := 12) C F dX7_ahead_12 rfl rfl (rfl) (rfl)
set_option maxHeartbeats 2000000 in
set_option maxRecDepth 20000 in
theorem s7_hungryN {n : Nat} {h : q_H} {lf ld : Nat} {g : Nat} {x : mX} (h0 : h 0 = DO lf ld) (ht : h 28 = TX 29 g x) (hc : h 29 = TA x.1) (z : Int32) (hg : g = 0) : SP 1 yX7_hungry cX7_hungry 2 (some .int) [.ref 0, .int z] n h (some (.int (-1000002))) h := by
  refine q_SPi RX7 rfl (by decide +kernel) (la := _) rfl rfl (fun Γ ad C F => ?_)
  refine g_aload_n (pc := 0) C (hl := rfl) dX7_hungry_0 ?_
  refine g_get (pc := 1) C fl7_30 dX7_hungry_1 h0 rfl ?_
  refine g_V0v (pc := 4) C lv7_144 dX7_hungry_4 (s4_standsZ (ht) hg) ht (by decide) (Nat.le_of_ble_eq_true rfl) ?_
  refine g_if_neN (pc := 7) C 13 dX7_hungry_7 (by decide) (by decide) (fun q => absurd q (by decide)) (fun _ => ?_)
  refine g_ldc (pc := 10) C (v := -1000002) zk7_147 dX7_hungry_10 ?_
  exact g_iret (pc := 12) C F dX7_hungry_12 rfl rfl (rfl) (rfl)
set_option maxHeartbeats 2000000 in
set_option maxRecDepth 20000 in
theorem s7_restN {n : Nat} {h : q_H} {lf ld : Nat} {g : Nat} {x : mX} (h0 : h 0 = DO lf ld) (ht : h 28 = TX 29 g x) (hc : h 29 = TA x.1) (hg : g = 0) : SP 1 yX7_rest cX7_rest 1 (some .int) [.ref 0] n h (some (.int (-1000002))) h := by
  refine q_SPi RX7 rfl (by decide +kernel) (la := _) rfl rfl (fun Γ ad C F => ?_)
  refine g_aload_n (pc := 0) C (hl := rfl) dX7_rest_0 ?_
  refine g_get (pc := 1) C fl7_30 dX7_rest_1 h0 rfl ?_
  refine g_V0v (pc := 4) C lv7_144 dX7_rest_4 (s4_standsZ (ht) hg) ht (by decide) (Nat.le_of_ble_eq_true rfl) ?_
  refine g_if_eqN (pc := 7) C 24 dX7_rest_7 (by decide) (by decide) (fun _ => ?_) (fun q => absurd q (by decide))
  refine g_ldc (pc := 24) C (v := -1000002) zk7_147 dX7_rest_24 ?_
  exact g_iret (pc := 26) C F dX7_rest_26 rfl rfl (rfl) (rfl)
set_option maxHeartbeats 2000000 in
set_option maxRecDepth 20000 in
theorem s7_servedN {n : Nat} {h : q_H} {lf ld : Nat} {g : Nat} {x : mX} (h0 : h 0 = DO lf ld) (ht : h 28 = TX 29 g x) (hc : h 29 = TA x.1) (hg : g = 0) : SP 1 yX7_served cX7_served 1 (some .int) [.ref 0] n h (some (.int (-1000002))) h := by
  refine q_SPi RX7 rfl (by decide +kernel) (la := _) rfl rfl (fun Γ ad C F => ?_)
  refine g_aload_n (pc := 0) C (hl := rfl) dX7_served_0 ?_
  refine g_get (pc := 1) C fl7_30 dX7_served_1 h0 rfl ?_
  refine g_V0v (pc := 4) C lv7_144 dX7_served_4 (s4_standsZ (ht) hg) ht (by decide) (Nat.le_of_ble_eq_true rfl) ?_
  refine g_if_eqN (pc := 7) C 24 dX7_served_7 (by decide) (by decide) (fun _ => ?_) (fun q => absurd q (by decide))
  refine g_ldc (pc := 24) C (v := -1000002) zk7_147 dX7_served_24 ?_
  exact g_iret (pc := 26) C F dX7_served_26 rfl rfl (rfl) (rfl)
set_option maxHeartbeats 2000000 in
set_option maxRecDepth 20000 in
theorem s7_laidN {n : Nat} {h : q_H} {lf ld : Nat} {g : Nat} {x : mX} (h0 : h 0 = DO lf ld) (ht : h 28 = TX 29 g x) (hc : h 29 = TA x.1) (y z : Int32) (hg : g = 0) : SP 1 yX7_laid cX7_laid 4 (some .int) [.ref 0, .int y, .int z] n h (some (.int (-1000002))) h := by
  refine q_SPi RX7 rfl (by decide +kernel) (la := _) rfl rfl (fun Γ ad C F => ?_)
  refine g_aload_n (pc := 0) C (hl := rfl) dX7_laid_0 ?_
  refine g_get (pc := 1) C fl7_30 dX7_laid_1 h0 rfl ?_
  refine g_V0v (pc := 4) C lv7_144 dX7_laid_4 (s4_standsZ (ht) hg) ht (by decide) (Nat.le_of_ble_eq_true rfl) ?_
  refine g_if_neN (pc := 7) C 13 dX7_laid_7 (by decide) (by decide) (fun q => absurd q (by decide)) (fun _ => ?_)
  refine g_ldc (pc := 10) C (v := -1000002) zk7_147 dX7_laid_10 ?_
  exact g_iret (pc := 12) C F dX7_laid_12 rfl rfl (rfl) (rfl)
set_option maxHeartbeats 2000000 in
set_option maxRecDepth 20000 in
theorem s7_aheadB {n : Nat} {h : q_H} {lf ld : Nat} {g : Nat} {x : mX} (h0 : h 0 = DO lf ld) (ht : h 28 = TX 29 g x) (hc : h 29 = TA x.1) (y z : Int32) (hg : 0 < g ∧ g ≤ 6) (hb : (y < nI 0 ∨ nI 99 < y) ∨ (z < nI 0 ∨ nI 1 < z)) : SP 1 yX7_ahead cX7_ahead 4 (some .int) [.ref 0, .int y, .int z] n h (some (.int (-1000001))) h := by
  refine q_SPi RX7 rfl (by decide +kernel) (la := _) rfl rfl (fun Γ ad C F => ?_)
  refine g_aload_n (pc := 0) C (hl := rfl) dX7_ahead_0 ?_
  refine g_get (pc := 1) C fl7_30 dX7_ahead_1 h0 rfl ?_
  refine g_V0v (pc := 4) C lv7_144 dX7_ahead_4 (s4_standsT (ht) hg) ht (by decide) (Nat.le_of_ble_eq_true rfl) ?_
  refine g_if_neN (pc := 7) C 13 dX7_ahead_7 (by decide) (by decide) (fun _ => ?_) (fun q => absurd q (by decide))
  refine g_iload_n (pc := 13) C (hl := rfl) dX7_ahead_13 ?_
  refine g_iconst (pc := 14) C qk_iconst_0 dX7_ahead_14 ?_
  refine g_bipush (pc := 15) C qk_bipush_99 dX7_ahead_15 ?_
  by_cases cy : y < (nI 0) ∨ (nI 99) < y
  · refine g_S3v (pc := 17) C ls7_59 dX7_ahead_17 (s7_withinF y (nI 0) (nI 99) cy) (by decide) (Nat.le_of_ble_eq_true rfl) ?_
    refine g_if_eqN (pc := 20) C 32 dX7_ahead_20 (by decide) (by decide) (fun _ => ?_) (fun q => absurd q (by decide))
    refine g_ldc (pc := 32) C (v := -1000001) zk7_63 dX7_ahead_32 ?_
    exact g_iret (pc := 34) C F dX7_ahead_34 rfl rfl (rfl) (rfl)
  · refine g_S3v (pc := 17) C ls7_59 dX7_ahead_17 (s7_withinT y (nI 0) (nI 99) cy) (by decide) (Nat.le_of_ble_eq_true rfl) ?_
    refine g_if_eqN (pc := 20) C 32 dX7_ahead_20 (by decide) (by decide) (fun q => absurd q (by decide)) (fun _ => ?_)
    refine g_iload_n (pc := 23) C (hl := rfl) dX7_ahead_23 ?_
    refine g_iconst (pc := 24) C qk_iconst_0 dX7_ahead_24 ?_
    refine g_iconst (pc := 25) C qk_iconst_1 dX7_ahead_25 ?_
    by_cases cz : z < (nI 0) ∨ (nI 1) < z
    · refine g_S3v (pc := 26) C ls7_59 dX7_ahead_26 (s7_withinF z (nI 0) (nI 1) cz) (by decide) (Nat.le_of_ble_eq_true rfl) ?_
      refine g_if_neN (pc := 29) C 35 dX7_ahead_29 (by decide) (by decide) (fun q => absurd q (by decide)) (fun _ => ?_)
      refine g_ldc (pc := 32) C (v := -1000001) zk7_63 dX7_ahead_32 ?_
      exact g_iret (pc := 34) C F dX7_ahead_34 rfl rfl (rfl) (rfl)
    · refine g_S3v (pc := 26) C ls7_59 dX7_ahead_26 (s7_withinT z (nI 0) (nI 1) cz) (by decide) (Nat.le_of_ble_eq_true rfl) ?_
      refine g_if_neN (pc := 29) C 35 dX7_ahead_29 (by decide) (by decide) (fun _ => ?_) (fun q => absurd q (by decide))
      exact absurd hb (fun q => q.elim cy cz)
set_option maxHeartbeats 2000000 in
set_option maxRecDepth 20000 in
theorem s7_ahead0 {n : Nat} {h : q_H} {lf ld : Nat} {g : Nat} {x : mX} (h0 : h 0 = DO lf ld) (ht : h 28 = TX 29 g x) (hc : h 29 = TA x.1) (N : Nat) {g2 : Nat} {x2 : mX} (hw : h 80 = FO 81 83 84) (hl : h 81 = TX 82 g2 x2) (hlc : h 82 = TA x2.1) (hv : mW g x) (hm : x.2.2.1 ≤ 999) (hg : 0 < g ∧ g ≤ 6) (hN : N ≤ 99) : SP 6 yX7_ahead cX7_ahead 4 (some .int) [.ref 0, .int (nI N), .int (nI 0)] n h (some (.int (nI (mPass g 1000000 N 0 (mCopy x x2)).2.2.1))) (q_up (q_up h 82 (TA (mPass g 1000000 N 0 (mCopy x x2)).2.1)) 81 (TX 82 g (mPass g 1000000 N 0 (mCopy x x2)).2)) := by
  refine q_SPi RX7 rfl (by decide +kernel) (la := _) rfl rfl (fun Γ ad C F => ?_)
  refine g_aload_n (pc := 0) C (hl := rfl) dX7_ahead_0 ?_
  refine g_get (pc := 1) C fl7_30 dX7_ahead_1 h0 rfl ?_
  refine g_V0v (pc := 4) C lv7_144 dX7_ahead_4 (s4_standsT (ht) hg) ht (by decide) (Nat.le_of_ble_eq_true rfl) ?_
  refine g_if_neN (pc := 7) C 13 dX7_ahead_7 (by decide) (by decide) (fun _ => ?_) (fun q => absurd q (by decide))
  refine g_iload_n (pc := 13) C (hl := rfl) dX7_ahead_13 ?_
  refine g_iconst (pc := 14) C qk_iconst_0 dX7_ahead_14 ?_
  refine g_bipush (pc := 15) C qk_bipush_99 dX7_ahead_15 ?_
  refine g_S3v (pc := 17) C ls7_59 dX7_ahead_17 (s7_withinN N 0 99 (by omega)) (by decide) (Nat.le_of_ble_eq_true rfl) ?_
  refine g_if_eqN (pc := 20) C 32 dX7_ahead_20 (by decide) (by decide) (fun q => absurd q (by decide)) (fun _ => ?_)
  refine g_iload_n (pc := 23) C (hl := rfl) dX7_ahead_23 ?_
  refine g_iconst (pc := 24) C qk_iconst_0 dX7_ahead_24 ?_
  refine g_iconst (pc := 25) C qk_iconst_1 dX7_ahead_25 ?_
  refine g_S3v (pc := 26) C ls7_59 dX7_ahead_26 (s7_withinN 0 0 1 (by omega)) (by decide) (Nat.le_of_ble_eq_true rfl) ?_
  refine g_if_neN (pc := 29) C 35 dX7_ahead_29 (by decide) (by decide) (fun _ => ?_) (fun q => absurd q (by decide))
  refine g_aload_n (pc := 35) C (hl := rfl) dX7_ahead_35 ?_
  refine g_get (pc := 36) C fl7_44 dX7_ahead_36 h0 rfl ?_
  refine g_aload_n (pc := 39) C (hl := rfl) dX7_ahead_39 ?_
  refine g_get (pc := 40) C fl7_30 dX7_ahead_40 h0 rfl ?_
  refine g_iload_n (pc := 43) C (hl := rfl) dX7_ahead_43 ?_
  refine g_V2v (pc := 44) C lv7_189 dX7_ahead_44 (s2_look (x := x2) (xu := x) N (hw) (hl) (hlc) (ht) (hc) (by decide) hv (by omega) (by show x.2.2.1 + N < 1000000; omega)) hw (by decide) (Nat.le_of_ble_eq_true rfl) ?_
  refine g_istore_n (pc := 47) C rfl dX7_ahead_47 ?_
  refine g_iload_n (pc := 48) C (hl := rfl) dX7_ahead_48 ?_
  refine g_if_neN (pc := 49) C 65 dX7_ahead_49 (by decide) (by decide) (fun q => absurd q (by decide)) (fun _ => ?_)
  refine g_aload_n (pc := 52) C (hl := rfl) dX7_ahead_52 ?_
  refine g_get (pc := 53) C fl7_44 dX7_ahead_53 ((q_up_n _ _ (by omega)).trans ((q_up_n _ _ (by omega)).trans h0)) rfl ?_
  refine g_get (pc := 56) C fl7_193 dX7_ahead_56 ((q_up_n _ _ (by omega)).trans ((q_up_n _ _ (by omega)).trans hw)) rfl ?_
  refine g_get (pc := 59) C fl7_157 dX7_ahead_59 (q_up_s _ _ _) rfl ?_
  refine g_goto (pc := 62) C 66 dX7_ahead_62 (by decide) ?_
  exact g_iret (pc := 66) C F dX7_ahead_66 rfl rfl (rfl) (rfl)
set_option maxHeartbeats 2000000 in
set_option maxRecDepth 20000 in
theorem s7_ahead1 {n : Nat} {h : q_H} {lf ld : Nat} {g : Nat} {x : mX} (h0 : h 0 = DO lf ld) (ht : h 28 = TX 29 g x) (hc : h 29 = TA x.1) (N : Nat) {g2 : Nat} {x2 : mX} (hw : h 80 = FO 81 83 84) (hl : h 81 = TX 82 g2 x2) (hlc : h 82 = TA x2.1) (hv : mW g x) (hm : x.2.2.1 ≤ 999) (hg : 0 < g ∧ g ≤ 6) (hN : N ≤ 99) : SP 6 yX7_ahead cX7_ahead 4 (some .int) [.ref 0, .int (nI N), .int (nI 1)] n h (some (.int (nI (mPass g 1000000 N 0 (mCopy x x2)).1))) (q_up (q_up h 82 (TA (mPass g 1000000 N 0 (mCopy x x2)).2.1)) 81 (TX 82 g (mPass g 1000000 N 0 (mCopy x x2)).2)) := by
  refine q_SPi RX7 rfl (by decide +kernel) (la := _) rfl rfl (fun Γ ad C F => ?_)
  refine g_aload_n (pc := 0) C (hl := rfl) dX7_ahead_0 ?_
  refine g_get (pc := 1) C fl7_30 dX7_ahead_1 h0 rfl ?_
  refine g_V0v (pc := 4) C lv7_144 dX7_ahead_4 (s4_standsT (ht) hg) ht (by decide) (Nat.le_of_ble_eq_true rfl) ?_
  refine g_if_neN (pc := 7) C 13 dX7_ahead_7 (by decide) (by decide) (fun _ => ?_) (fun q => absurd q (by decide))
  refine g_iload_n (pc := 13) C (hl := rfl) dX7_ahead_13 ?_
  refine g_iconst (pc := 14) C qk_iconst_0 dX7_ahead_14 ?_
  refine g_bipush (pc := 15) C qk_bipush_99 dX7_ahead_15 ?_
  refine g_S3v (pc := 17) C ls7_59 dX7_ahead_17 (s7_withinN N 0 99 (by omega)) (by decide) (Nat.le_of_ble_eq_true rfl) ?_
  refine g_if_eqN (pc := 20) C 32 dX7_ahead_20 (by decide) (by decide) (fun q => absurd q (by decide)) (fun _ => ?_)
  refine g_iload_n (pc := 23) C (hl := rfl) dX7_ahead_23 ?_
  refine g_iconst (pc := 24) C qk_iconst_0 dX7_ahead_24 ?_
  refine g_iconst (pc := 25) C qk_iconst_1 dX7_ahead_25 ?_
  refine g_S3v (pc := 26) C ls7_59 dX7_ahead_26 (s7_withinN 1 0 1 (by omega)) (by decide) (Nat.le_of_ble_eq_true rfl) ?_
  refine g_if_neN (pc := 29) C 35 dX7_ahead_29 (by decide) (by decide) (fun _ => ?_) (fun q => absurd q (by decide))
  refine g_aload_n (pc := 35) C (hl := rfl) dX7_ahead_35 ?_
  refine g_get (pc := 36) C fl7_44 dX7_ahead_36 h0 rfl ?_
  refine g_aload_n (pc := 39) C (hl := rfl) dX7_ahead_39 ?_
  refine g_get (pc := 40) C fl7_30 dX7_ahead_40 h0 rfl ?_
  refine g_iload_n (pc := 43) C (hl := rfl) dX7_ahead_43 ?_
  refine g_V2v (pc := 44) C lv7_189 dX7_ahead_44 (s2_look (x := x2) (xu := x) N (hw) (hl) (hlc) (ht) (hc) (by decide) hv (by omega) (by show x.2.2.1 + N < 1000000; omega)) hw (by decide) (Nat.le_of_ble_eq_true rfl) ?_
  refine g_istore_n (pc := 47) C rfl dX7_ahead_47 ?_
  refine g_iload_n (pc := 48) C (hl := rfl) dX7_ahead_48 ?_
  refine g_if_neN (pc := 49) C 65 dX7_ahead_49 (by decide) (by decide) (fun _ => ?_) (fun q => absurd q (by decide))
  refine g_iload_n (pc := 65) C (hl := rfl) dX7_ahead_65 ?_
  exact g_iret (pc := 66) C F dX7_ahead_66 rfl rfl (rfl) (rfl)
set_option maxHeartbeats 2000000 in
set_option maxRecDepth 20000 in
theorem s7_dishAheadB {n : Nat} {h : q_H} {lf ld : Nat} {g : Nat} {x : mX} (h0 : h 0 = DO lf ld) (ht : h 28 = TX 29 g x) (hc : h 29 = TA x.1) (y z : Int32) (hb : (y < 0 ∨ nI g ≤ y) ∨ (z < nI 0 ∨ nI 99 < z)) : SP 1 yX7_dishAhead cX7_dishAhead 3 (some .int) [.ref 0, .int y, .int z] n h (some (.int (-1000001))) h := by
  refine q_SPi RX7 rfl (by decide +kernel) (la := _) rfl rfl (fun Γ ad C F => ?_)
  refine g_aload_n (pc := 0) C (hl := rfl) dX7_dishAhead_0 ?_
  refine g_get (pc := 1) C fl7_30 dX7_dishAhead_1 h0 rfl ?_
  refine g_iload_n (pc := 4) C (hl := rfl) dX7_dishAhead_4 ?_
  by_cases cy : y < 0 ∨ nI g ≤ y
  · refine g_V1v (pc := 5) C lv7_163 dX7_dishAhead_5 (s4_hasF y (ht) cy) ht (by decide) (Nat.le_of_ble_eq_true rfl) ?_
    refine g_if_eqN (pc := 8) C 21 dX7_dishAhead_8 (by decide) (by decide) (fun _ => ?_) (fun q => absurd q (by decide))
    refine g_ldc (pc := 21) C (v := -1000001) zk7_63 dX7_dishAhead_21 ?_
    exact g_iret (pc := 23) C F dX7_dishAhead_23 rfl rfl (rfl) (rfl)
  · refine g_V1v (pc := 5) C lv7_163 dX7_dishAhead_5 (s4_hasU y (ht) cy) ht (by decide) (Nat.le_of_ble_eq_true rfl) ?_
    refine g_if_eqN (pc := 8) C 21 dX7_dishAhead_8 (by decide) (by decide) (fun q => absurd q (by decide)) (fun _ => ?_)
    refine g_iload_n (pc := 11) C (hl := rfl) dX7_dishAhead_11 ?_
    refine g_iconst (pc := 12) C qk_iconst_0 dX7_dishAhead_12 ?_
    refine g_bipush (pc := 13) C qk_bipush_99 dX7_dishAhead_13 ?_
    by_cases cz : z < (nI 0) ∨ (nI 99) < z
    · refine g_S3v (pc := 15) C ls7_59 dX7_dishAhead_15 (s7_withinF z (nI 0) (nI 99) cz) (by decide) (Nat.le_of_ble_eq_true rfl) ?_
      refine g_if_neN (pc := 18) C 24 dX7_dishAhead_18 (by decide) (by decide) (fun q => absurd q (by decide)) (fun _ => ?_)
      refine g_ldc (pc := 21) C (v := -1000001) zk7_63 dX7_dishAhead_21 ?_
      exact g_iret (pc := 23) C F dX7_dishAhead_23 rfl rfl (rfl) (rfl)
    · refine g_S3v (pc := 15) C ls7_59 dX7_dishAhead_15 (s7_withinT z (nI 0) (nI 99) cz) (by decide) (Nat.le_of_ble_eq_true rfl) ?_
      refine g_if_neN (pc := 18) C 24 dX7_dishAhead_18 (by decide) (by decide) (fun _ => ?_) (fun q => absurd q (by decide))
      exact absurd hb (fun q => q.elim cy cz)
set_option maxHeartbeats 2000000 in
set_option maxRecDepth 20000 in
theorem s7_guestAheadB {n : Nat} {h : q_H} {lf ld : Nat} {g : Nat} {x : mX} (h0 : h 0 = DO lf ld) (ht : h 28 = TX 29 g x) (hc : h 29 = TA x.1) (y z : Int32) (hb : (y < 0 ∨ nI g ≤ y) ∨ (z < nI 0 ∨ nI 99 < z)) : SP 1 yX7_guestAhead cX7_guestAhead 3 (some .int) [.ref 0, .int y, .int z] n h (some (.int (-1000001))) h := by
  refine q_SPi RX7 rfl (by decide +kernel) (la := _) rfl rfl (fun Γ ad C F => ?_)
  refine g_aload_n (pc := 0) C (hl := rfl) dX7_guestAhead_0 ?_
  refine g_get (pc := 1) C fl7_30 dX7_guestAhead_1 h0 rfl ?_
  refine g_iload_n (pc := 4) C (hl := rfl) dX7_guestAhead_4 ?_
  by_cases cy : y < 0 ∨ nI g ≤ y
  · refine g_V1v (pc := 5) C lv7_163 dX7_guestAhead_5 (s4_hasF y (ht) cy) ht (by decide) (Nat.le_of_ble_eq_true rfl) ?_
    refine g_if_eqN (pc := 8) C 21 dX7_guestAhead_8 (by decide) (by decide) (fun _ => ?_) (fun q => absurd q (by decide))
    refine g_ldc (pc := 21) C (v := -1000001) zk7_63 dX7_guestAhead_21 ?_
    exact g_iret (pc := 23) C F dX7_guestAhead_23 rfl rfl (rfl) (rfl)
  · refine g_V1v (pc := 5) C lv7_163 dX7_guestAhead_5 (s4_hasU y (ht) cy) ht (by decide) (Nat.le_of_ble_eq_true rfl) ?_
    refine g_if_eqN (pc := 8) C 21 dX7_guestAhead_8 (by decide) (by decide) (fun q => absurd q (by decide)) (fun _ => ?_)
    refine g_iload_n (pc := 11) C (hl := rfl) dX7_guestAhead_11 ?_
    refine g_iconst (pc := 12) C qk_iconst_0 dX7_guestAhead_12 ?_
    refine g_bipush (pc := 13) C qk_bipush_99 dX7_guestAhead_13 ?_
    by_cases cz : z < (nI 0) ∨ (nI 99) < z
    · refine g_S3v (pc := 15) C ls7_59 dX7_guestAhead_15 (s7_withinF z (nI 0) (nI 99) cz) (by decide) (Nat.le_of_ble_eq_true rfl) ?_
      refine g_if_neN (pc := 18) C 24 dX7_guestAhead_18 (by decide) (by decide) (fun q => absurd q (by decide)) (fun _ => ?_)
      refine g_ldc (pc := 21) C (v := -1000001) zk7_63 dX7_guestAhead_21 ?_
      exact g_iret (pc := 23) C F dX7_guestAhead_23 rfl rfl (rfl) (rfl)
    · refine g_S3v (pc := 15) C ls7_59 dX7_guestAhead_15 (s7_withinT z (nI 0) (nI 99) cz) (by decide) (Nat.le_of_ble_eq_true rfl) ?_
      refine g_if_neN (pc := 18) C 24 dX7_guestAhead_18 (by decide) (by decide) (fun _ => ?_) (fun q => absurd q (by decide))
      exact absurd hb (fun q => q.elim cy cz)
set_option maxHeartbeats 2000000 in
set_option maxRecDepth 20000 in
theorem s7_dishAheadT {n : Nat} {h : q_H} {lf ld : Nat} {g : Nat} {x : mX} (h0 : h 0 = DO lf ld) (ht : h 28 = TX 29 g x) (hc : h 29 = TA x.1) (y N : Nat) {g2 : Nat} {x2 : mX} (hw : h 80 = FO 81 83 84) (hl : h 81 = TX 82 g2 x2) (hlc : h 82 = TA x2.1) (hv : mW g x) (hm : x.2.2.1 ≤ 999) (hg : 0 < g ∧ g ≤ 6) (hy : y < g) (hN : N ≤ 99) : SP 6 yX7_dishAhead cX7_dishAhead 3 (some .int) [.ref 0, .int (nI y), .int (nI N)] n h (some (.int (nI ((mPass g 1000000 N 0 (mCopy x x2)).2.1 (24 + y))))) (q_up (q_up h 82 (TA (mPass g 1000000 N 0 (mCopy x x2)).2.1)) 81 (TX 82 g (mPass g 1000000 N 0 (mCopy x x2)).2)) := by
  refine q_SPi RX7 rfl (by decide +kernel) (la := _) rfl rfl (fun Γ ad C F => ?_)
  refine g_aload_n (pc := 0) C (hl := rfl) dX7_dishAhead_0 ?_
  refine g_get (pc := 1) C fl7_30 dX7_dishAhead_1 h0 rfl ?_
  refine g_iload_n (pc := 4) C (hl := rfl) dX7_dishAhead_4 ?_
  refine g_V1v (pc := 5) C lv7_163 dX7_dishAhead_5 (s4_hasT y (ht) hg.2 hy) ht (by decide) (Nat.le_of_ble_eq_true rfl) ?_
  refine g_if_eqN (pc := 8) C 21 dX7_dishAhead_8 (by decide) (by decide) (fun q => absurd q (by decide)) (fun _ => ?_)
  refine g_iload_n (pc := 11) C (hl := rfl) dX7_dishAhead_11 ?_
  refine g_iconst (pc := 12) C qk_iconst_0 dX7_dishAhead_12 ?_
  refine g_bipush (pc := 13) C qk_bipush_99 dX7_dishAhead_13 ?_
  refine g_S3v (pc := 15) C ls7_59 dX7_dishAhead_15 (s7_withinN N 0 99 (by omega)) (by decide) (Nat.le_of_ble_eq_true rfl) ?_
  refine g_if_neN (pc := 18) C 24 dX7_dishAhead_18 (by decide) (by decide) (fun _ => ?_) (fun q => absurd q (by decide))
  refine g_aload_n (pc := 24) C (hl := rfl) dX7_dishAhead_24 ?_
  refine g_get (pc := 25) C fl7_44 dX7_dishAhead_25 h0 rfl ?_
  refine g_aload_n (pc := 28) C (hl := rfl) dX7_dishAhead_28 ?_
  refine g_get (pc := 29) C fl7_30 dX7_dishAhead_29 h0 rfl ?_
  refine g_iload_n (pc := 32) C (hl := rfl) dX7_dishAhead_32 ?_
  refine g_V2v (pc := 33) C lv7_189 dX7_dishAhead_33 (s2_look (x := x2) (xu := x) N (hw) (hl) (hlc) (ht) (hc) (by decide) hv (by omega) (by show x.2.2.1 + N < 1000000; omega)) hw (by decide) (Nat.le_of_ble_eq_true rfl) ?_
  refine g_pop (pc := 36) C rfl dX7_dishAhead_36 ?_
  refine g_aload_n (pc := 37) C (hl := rfl) dX7_dishAhead_37 ?_
  refine g_get (pc := 38) C fl7_44 dX7_dishAhead_38 ((q_up_n _ _ (by omega)).trans ((q_up_n _ _ (by omega)).trans h0)) rfl ?_
  refine g_get (pc := 41) C fl7_193 dX7_dishAhead_41 ((q_up_n _ _ (by omega)).trans ((q_up_n _ _ (by omega)).trans hw)) rfl ?_
  refine g_iconst (pc := 44) C qk_iconst_4 dX7_dishAhead_44 ?_
  refine g_iload_n (pc := 45) C (hl := rfl) dX7_dishAhead_45 ?_
  refine g_V2v (pc := 46) C lv7_167 dX7_dishAhead_46 (s4_of4 y ((q_up_s _ _ _)) (((q_up_n _ _ (by omega)).trans (q_up_s _ _ _))) (by omega)) (q_up_s _ _ _) (by decide) (Nat.le_of_ble_eq_true rfl) ?_
  exact g_iret (pc := 49) C F dX7_dishAhead_49 rfl rfl (rfl) (rfl)
set_option maxHeartbeats 2000000 in
set_option maxRecDepth 20000 in
theorem s7_guestAheadT {n : Nat} {h : q_H} {lf ld : Nat} {g : Nat} {x : mX} (h0 : h 0 = DO lf ld) (ht : h 28 = TX 29 g x) (hc : h 29 = TA x.1) (y N : Nat) {g2 : Nat} {x2 : mX} (hw : h 80 = FO 81 83 84) (hl : h 81 = TX 82 g2 x2) (hlc : h 82 = TA x2.1) (hv : mW g x) (hm : x.2.2.1 ≤ 999) (hg : 0 < g ∧ g ≤ 6) (hy : y < g) (hN : N ≤ 99) : SP 6 yX7_guestAhead cX7_guestAhead 3 (some .int) [.ref 0, .int (nI y), .int (nI N)] n h (some (.int (qI (mEat g N y y x x2)))) (q_up (q_up h 82 (TA (mSat g N y y x x2).1)) 81 (TX 82 g (mSat g N y y x x2))) := by
  refine q_SPi RX7 rfl (by decide +kernel) (la := _) rfl rfl (fun Γ ad C F => ?_)
  refine g_aload_n (pc := 0) C (hl := rfl) dX7_guestAhead_0 ?_
  refine g_get (pc := 1) C fl7_30 dX7_guestAhead_1 h0 rfl ?_
  refine g_iload_n (pc := 4) C (hl := rfl) dX7_guestAhead_4 ?_
  refine g_V1v (pc := 5) C lv7_163 dX7_guestAhead_5 (s4_hasT y (ht) hg.2 hy) ht (by decide) (Nat.le_of_ble_eq_true rfl) ?_
  refine g_if_eqN (pc := 8) C 21 dX7_guestAhead_8 (by decide) (by decide) (fun q => absurd q (by decide)) (fun _ => ?_)
  refine g_iload_n (pc := 11) C (hl := rfl) dX7_guestAhead_11 ?_
  refine g_iconst (pc := 12) C qk_iconst_0 dX7_guestAhead_12 ?_
  refine g_bipush (pc := 13) C qk_bipush_99 dX7_guestAhead_13 ?_
  refine g_S3v (pc := 15) C ls7_59 dX7_guestAhead_15 (s7_withinN N 0 99 (by omega)) (by decide) (Nat.le_of_ble_eq_true rfl) ?_
  refine g_if_neN (pc := 18) C 24 dX7_guestAhead_18 (by decide) (by decide) (fun _ => ?_) (fun q => absurd q (by decide))
  refine g_aload_n (pc := 24) C (hl := rfl) dX7_guestAhead_24 ?_
  refine g_get (pc := 25) C fl7_44 dX7_guestAhead_25 h0 rfl ?_
  refine g_aload_n (pc := 28) C (hl := rfl) dX7_guestAhead_28 ?_
  refine g_get (pc := 29) C fl7_30 dX7_guestAhead_29 h0 rfl ?_
  refine g_iload_n (pc := 32) C (hl := rfl) dX7_guestAhead_32 ?_
  refine g_iload_n (pc := 33) C (hl := rfl) dX7_guestAhead_33 ?_
  refine g_iload_n (pc := 34) C (hl := rfl) dX7_guestAhead_34 ?_
  refine g_V4v (pc := 35) C lv7_196 dX7_guestAhead_35 (s2_seatZ (x := x2) (xu := x) y y N (hw) (hl) (hlc) (ht) (hc) (by decide) hv ⟨hy, hy⟩ (by omega) (by omega) (by decide)) hw (by decide) (Nat.le_of_ble_eq_true rfl) ?_
  exact g_iret (pc := 38) C F dX7_guestAhead_38 rfl rfl (rfl) (rfl)
set_option maxHeartbeats 2000000 in
set_option maxRecDepth 20000 in
theorem s7_lastB {n : Nat} {h : q_H} {lf ld : Nat} {g : Nat} {x : mX} (h0 : h 0 = DO lf ld) (ht : h 28 = TX 29 g x) (hc : h 29 = TA x.1) (y z : Int32) (hb : (y < 0 ∨ nI g ≤ y) ∨ (z < nI 0 ∨ nI 1 < z)) : SP 1 yX7_last cX7_last 4 (some .int) [.ref 0, .int y, .int z] n h (some (.int (-1000001))) h := by
  refine q_SPi RX7 rfl (by decide +kernel) (la := _) rfl rfl (fun Γ ad C F => ?_)
  refine g_aload_n (pc := 0) C (hl := rfl) dX7_last_0 ?_
  refine g_get (pc := 1) C fl7_30 dX7_last_1 h0 rfl ?_
  refine g_iload_n (pc := 4) C (hl := rfl) dX7_last_4 ?_
  by_cases cy : y < 0 ∨ nI g ≤ y
  · refine g_V1v (pc := 5) C lv7_163 dX7_last_5 (s4_hasF y (ht) cy) ht (by decide) (Nat.le_of_ble_eq_true rfl) ?_
    refine g_if_eqN (pc := 8) C 20 dX7_last_8 (by decide) (by decide) (fun _ => ?_) (fun q => absurd q (by decide))
    refine g_ldc (pc := 20) C (v := -1000001) zk7_63 dX7_last_20 ?_
    exact g_iret (pc := 22) C F dX7_last_22 rfl rfl (rfl) (rfl)
  · refine g_V1v (pc := 5) C lv7_163 dX7_last_5 (s4_hasU y (ht) cy) ht (by decide) (Nat.le_of_ble_eq_true rfl) ?_
    refine g_if_eqN (pc := 8) C 20 dX7_last_8 (by decide) (by decide) (fun q => absurd q (by decide)) (fun _ => ?_)
    refine g_iload_n (pc := 11) C (hl := rfl) dX7_last_11 ?_
    refine g_iconst (pc := 12) C qk_iconst_0 dX7_last_12 ?_
    refine g_iconst (pc := 13) C qk_iconst_1 dX7_last_13 ?_
    by_cases cz : z < (nI 0) ∨ (nI 1) < z
    · refine g_S3v (pc := 14) C ls7_59 dX7_last_14 (s7_withinF z (nI 0) (nI 1) cz) (by decide) (Nat.le_of_ble_eq_true rfl) ?_
      refine g_if_neN (pc := 17) C 23 dX7_last_17 (by decide) (by decide) (fun q => absurd q (by decide)) (fun _ => ?_)
      refine g_ldc (pc := 20) C (v := -1000001) zk7_63 dX7_last_20 ?_
      exact g_iret (pc := 22) C F dX7_last_22 rfl rfl (rfl) (rfl)
    · refine g_S3v (pc := 14) C ls7_59 dX7_last_14 (s7_withinT z (nI 0) (nI 1) cz) (by decide) (Nat.le_of_ble_eq_true rfl) ?_
      refine g_if_neN (pc := 17) C 23 dX7_last_17 (by decide) (by decide) (fun _ => ?_) (fun q => absurd q (by decide))
      exact absurd hb (fun q => q.elim cy cz)
set_option maxHeartbeats 2000000 in
set_option maxRecDepth 20000 in
theorem s7_last1 {n : Nat} {h : q_H} {lf ld : Nat} {g : Nat} {x : mX} (h0 : h 0 = DO lf ld) (ht : h 28 = TX 29 g x) (hc : h 29 = TA x.1) (y : Nat) {g2 : Nat} {x2 : mX} (hw : h 80 = FO 81 83 84) (hl : h 81 = TX 82 g2 x2) (hlc : h 82 = TA x2.1) (hv : mW g x) (hm : x.2.2.1 ≤ 999) (hg : 0 < g ∧ g ≤ 6) (hy : y < g) : SP 5 yX7_last cX7_last 4 (some .int) [.ref 0, .int (nI y), .int (nI 1)] n h (some (.int (mLast g y 200 1 (mCopy x x2)).1)) (q_up (q_up h 82 (TA (mLast g y 200 1 (mCopy x x2)).2.1)) 81 (TX 82 g (mLast g y 200 1 (mCopy x x2)).2)) := by
  refine q_SPi RX7 rfl (by decide +kernel) (la := _) rfl rfl (fun Γ ad C F => ?_)
  refine g_aload_n (pc := 0) C (hl := rfl) dX7_last_0 ?_
  refine g_get (pc := 1) C fl7_30 dX7_last_1 h0 rfl ?_
  refine g_iload_n (pc := 4) C (hl := rfl) dX7_last_4 ?_
  refine g_V1v (pc := 5) C lv7_163 dX7_last_5 (s4_hasT y (ht) hg.2 hy) ht (by decide) (Nat.le_of_ble_eq_true rfl) ?_
  refine g_if_eqN (pc := 8) C 20 dX7_last_8 (by decide) (by decide) (fun q => absurd q (by decide)) (fun _ => ?_)
  refine g_iload_n (pc := 11) C (hl := rfl) dX7_last_11 ?_
  refine g_iconst (pc := 12) C qk_iconst_0 dX7_last_12 ?_
  refine g_iconst (pc := 13) C qk_iconst_1 dX7_last_13 ?_
  refine g_S3v (pc := 14) C ls7_59 dX7_last_14 (s7_withinN 1 0 1 (by omega)) (by decide) (Nat.le_of_ble_eq_true rfl) ?_
  refine g_if_neN (pc := 17) C 23 dX7_last_17 (by decide) (by decide) (fun _ => ?_) (fun q => absurd q (by decide))
  refine g_aload_n (pc := 23) C (hl := rfl) dX7_last_23 ?_
  refine g_get (pc := 24) C fl7_44 dX7_last_24 h0 rfl ?_
  refine g_aload_n (pc := 27) C (hl := rfl) dX7_last_27 ?_
  refine g_get (pc := 28) C fl7_30 dX7_last_28 h0 rfl ?_
  refine g_iload_n (pc := 31) C (hl := rfl) dX7_last_31 ?_
  refine g_V2v (pc := 32) C lv7_200 dX7_last_32 (s2_last (x := x2) (xu := x) y (hw) (hl) (hlc) (ht) (hc) (by decide) hv (by omega) (by omega)) hw (by decide) (Nat.le_of_ble_eq_true rfl) ?_
  refine g_istore_n (pc := 35) C rfl dX7_last_35 ?_
  refine g_iload_n (pc := 36) C (hl := rfl) dX7_last_36 ?_
  refine g_iconst (pc := 37) C qk_iconst_1 dX7_last_37 ?_
  refine g_ic_eqN (pc := 38) C 47 dX7_last_38 (by decide) (by decide) (fun _ => ?_) (fun q => absurd q (by decide))
  refine g_iload_n (pc := 47) C (hl := rfl) dX7_last_47 ?_
  refine g_goto (pc := 48) C 61 dX7_last_48 (by decide) ?_
  exact g_iret (pc := 61) C F dX7_last_61 rfl rfl (rfl) (rfl)
set_option maxHeartbeats 2000000 in
set_option maxRecDepth 20000 in
theorem s7_last0 {n : Nat} {h : q_H} {lf ld : Nat} {g : Nat} {x : mX} (h0 : h 0 = DO lf ld) (ht : h 28 = TX 29 g x) (hc : h 29 = TA x.1) (y : Nat) {g2 : Nat} {x2 : mX} (hw : h 80 = FO 81 83 84) (hl : h 81 = TX 82 g2 x2) (hlc : h 82 = TA x2.1) (hv : mW g x) (hm : x.2.2.1 ≤ 999) (hg : 0 < g ∧ g ≤ 6) (hy : y < g) : SP 5 yX7_last cX7_last 4 (some .int) [.ref 0, .int (nI y), .int (nI 0)] n h (some (.int (if ¬ (mLast g y 200 1 (mCopy x x2)).1 = -1000000 then nI (mLast g y 200 1 (mCopy x x2)).2.2.2.2.1 else (mLast g y 200 1 (mCopy x x2)).1))) (q_up (q_up h 82 (TA (mLast g y 200 1 (mCopy x x2)).2.1)) 81 (TX 82 g (mLast g y 200 1 (mCopy x x2)).2)) := by
  refine q_SPi RX7 rfl (by decide +kernel) (la := _) rfl rfl (fun Γ ad C F => ?_)
  refine g_aload_n (pc := 0) C (hl := rfl) dX7_last_0 ?_
  refine g_get (pc := 1) C fl7_30 dX7_last_1 h0 rfl ?_
  refine g_iload_n (pc := 4) C (hl := rfl) dX7_last_4 ?_
  refine g_V1v (pc := 5) C lv7_163 dX7_last_5 (s4_hasT y (ht) hg.2 hy) ht (by decide) (Nat.le_of_ble_eq_true rfl) ?_
  refine g_if_eqN (pc := 8) C 20 dX7_last_8 (by decide) (by decide) (fun q => absurd q (by decide)) (fun _ => ?_)
  refine g_iload_n (pc := 11) C (hl := rfl) dX7_last_11 ?_
  refine g_iconst (pc := 12) C qk_iconst_0 dX7_last_12 ?_
  refine g_iconst (pc := 13) C qk_iconst_1 dX7_last_13 ?_
  refine g_S3v (pc := 14) C ls7_59 dX7_last_14 (s7_withinN 0 0 1 (by omega)) (by decide) (Nat.le_of_ble_eq_true rfl) ?_
  refine g_if_neN (pc := 17) C 23 dX7_last_17 (by decide) (by decide) (fun _ => ?_) (fun q => absurd q (by decide))
  refine g_aload_n (pc := 23) C (hl := rfl) dX7_last_23 ?_
  refine g_get (pc := 24) C fl7_44 dX7_last_24 h0 rfl ?_
  refine g_aload_n (pc := 27) C (hl := rfl) dX7_last_27 ?_
  refine g_get (pc := 28) C fl7_30 dX7_last_28 h0 rfl ?_
  refine g_iload_n (pc := 31) C (hl := rfl) dX7_last_31 ?_
  refine g_V2v (pc := 32) C lv7_200 dX7_last_32 (s2_last (x := x2) (xu := x) y (hw) (hl) (hlc) (ht) (hc) (by decide) hv (by omega) (by omega)) hw (by decide) (Nat.le_of_ble_eq_true rfl) ?_
  refine g_istore_n (pc := 35) C rfl dX7_last_35 ?_
  refine g_iload_n (pc := 36) C (hl := rfl) dX7_last_36 ?_
  refine g_iconst (pc := 37) C qk_iconst_1 dX7_last_37 ?_
  refine g_ic_eqN (pc := 38) C 47 dX7_last_38 (by decide) (by decide) (fun q => absurd q (by decide)) (fun _ => ?_)
  refine g_iload_n (pc := 41) C (hl := rfl) dX7_last_41 ?_
  refine g_ldc (pc := 42) C (v := -1000000) zk7_203 dX7_last_42 ?_
  refine g_ic_ne (pc := 44) C 51 dX7_last_44 (by decide) (fun c44 => ?_) (fun c44 => ?_)
  · refine g_aload_n (pc := 51) C (hl := rfl) dX7_last_51 ?_
    refine g_get (pc := 52) C fl7_44 dX7_last_52 ((q_up_n _ _ (by omega)).trans ((q_up_n _ _ (by omega)).trans h0)) rfl ?_
    refine g_get (pc := 55) C fl7_193 dX7_last_55 ((q_up_n _ _ (by omega)).trans ((q_up_n _ _ (by omega)).trans hw)) rfl ?_
    refine g_get (pc := 58) C fl7_204 dX7_last_58 (q_up_s _ _ _) rfl ?_
    exact g_iret (pc := 61) C F dX7_last_61 rfl rfl (by first | rw [if_pos (by assumption)] | rw [if_neg (fun z => z (by assumption))]) (rfl)
  · refine g_iload_n (pc := 47) C (hl := rfl) dX7_last_47 ?_
    refine g_goto (pc := 48) C 61 dX7_last_48 (by decide) ?_
    exact g_iret (pc := 61) C F dX7_last_61 rfl rfl (by first | rw [if_pos (by assumption)] | rw [if_neg (fun z => z (by assumption))]) (rfl)
set_option maxHeartbeats 2000000 in
set_option maxRecDepth 20000 in
theorem s7_hungryB {n : Nat} {h : q_H} {lf ld : Nat} {g : Nat} {x : mX} (h0 : h 0 = DO lf ld) (ht : h 28 = TX 29 g x) (hc : h 29 = TA x.1) (z : Int32) (hg : 0 < g ∧ g ≤ 6) (hz : z < nI 0 ∨ nI 99 < z) : SP 1 yX7_hungry cX7_hungry 2 (some .int) [.ref 0, .int z] n h (some (.int (-1000001))) h := by
  refine q_SPi RX7 rfl (by decide +kernel) (la := _) rfl rfl (fun Γ ad C F => ?_)
  refine g_aload_n (pc := 0) C (hl := rfl) dX7_hungry_0 ?_
  refine g_get (pc := 1) C fl7_30 dX7_hungry_1 h0 rfl ?_
  refine g_V0v (pc := 4) C lv7_144 dX7_hungry_4 (s4_standsT (ht) hg) ht (by decide) (Nat.le_of_ble_eq_true rfl) ?_
  refine g_if_neN (pc := 7) C 13 dX7_hungry_7 (by decide) (by decide) (fun _ => ?_) (fun q => absurd q (by decide))
  refine g_iload_n (pc := 13) C (hl := rfl) dX7_hungry_13 ?_
  refine g_iconst (pc := 14) C qk_iconst_0 dX7_hungry_14 ?_
  refine g_bipush (pc := 15) C qk_bipush_99 dX7_hungry_15 ?_
  refine g_S3v (pc := 17) C ls7_59 dX7_hungry_17 (s7_withinF _ _ _ hz) (by decide) (Nat.le_of_ble_eq_true rfl) ?_
  refine g_if_neN (pc := 20) C 26 dX7_hungry_20 (by decide) (by decide) (fun q => absurd q (by decide)) (fun _ => ?_)
  refine g_ldc (pc := 23) C (v := -1000001) zk7_63 dX7_hungry_23 ?_
  exact g_iret (pc := 25) C F dX7_hungry_25 rfl rfl (rfl) (rfl)
set_option maxHeartbeats 2000000 in
set_option maxRecDepth 20000 in
theorem s7_hungryT {n : Nat} {h : q_H} {lf ld : Nat} {g : Nat} {x : mX} (h0 : h 0 = DO lf ld) (ht : h 28 = TX 29 g x) (hc : h 29 = TA x.1) (N : Nat) {g2 : Nat} {x2 : mX} (hw : h 80 = FO 81 83 84) (hl : h 81 = TX 82 g2 x2) (hlc : h 82 = TA x2.1) (hv : mW g x) (hm : x.2.2.1 ≤ 999) (hg : 0 < g ∧ g ≤ 6) (hN : N ≤ 99) (hbd : ∀ k, k < 6 → (mPass g 1000000 N 0 (mCopy x x2)).2.1 (18 + k) < 1000000000) : SP 6 yX7_hungry cX7_hungry 2 (some .int) [.ref 0, .int (nI N)] n h (some (.int (nI (mBits (fun k => (mPass g 1000000 N 0 (mCopy x x2)).2.1 (18 + k) = 0) g)))) (q_up (q_up h 82 (TA (mPass g 1000000 N 0 (mCopy x x2)).2.1)) 81 (TX 82 g (mPass g 1000000 N 0 (mCopy x x2)).2)) := by
  refine q_SPi RX7 rfl (by decide +kernel) (la := _) rfl rfl (fun Γ ad C F => ?_)
  refine g_aload_n (pc := 0) C (hl := rfl) dX7_hungry_0 ?_
  refine g_get (pc := 1) C fl7_30 dX7_hungry_1 h0 rfl ?_
  refine g_V0v (pc := 4) C lv7_144 dX7_hungry_4 (s4_standsT (ht) hg) ht (by decide) (Nat.le_of_ble_eq_true rfl) ?_
  refine g_if_neN (pc := 7) C 13 dX7_hungry_7 (by decide) (by decide) (fun _ => ?_) (fun q => absurd q (by decide))
  refine g_iload_n (pc := 13) C (hl := rfl) dX7_hungry_13 ?_
  refine g_iconst (pc := 14) C qk_iconst_0 dX7_hungry_14 ?_
  refine g_bipush (pc := 15) C qk_bipush_99 dX7_hungry_15 ?_
  refine g_S3v (pc := 17) C ls7_59 dX7_hungry_17 (s7_withinN N 0 99 (by omega)) (by decide) (Nat.le_of_ble_eq_true rfl) ?_
  refine g_if_neN (pc := 20) C 26 dX7_hungry_20 (by decide) (by decide) (fun _ => ?_) (fun q => absurd q (by decide))
  refine g_aload_n (pc := 26) C (hl := rfl) dX7_hungry_26 ?_
  refine g_get (pc := 27) C fl7_44 dX7_hungry_27 h0 rfl ?_
  refine g_aload_n (pc := 30) C (hl := rfl) dX7_hungry_30 ?_
  refine g_get (pc := 31) C fl7_30 dX7_hungry_31 h0 rfl ?_
  refine g_iload_n (pc := 34) C (hl := rfl) dX7_hungry_34 ?_
  refine g_V2v (pc := 35) C lv7_189 dX7_hungry_35 (s2_look (x := x2) (xu := x) N (hw) (hl) (hlc) (ht) (hc) (by decide) hv (by omega) (by show x.2.2.1 + N < 1000000; omega)) hw (by decide) (Nat.le_of_ble_eq_true rfl) ?_
  refine g_pop (pc := 38) C rfl dX7_hungry_38 ?_
  refine g_aload_n (pc := 39) C (hl := rfl) dX7_hungry_39 ?_
  refine g_get (pc := 40) C fl7_44 dX7_hungry_40 ((q_up_n _ _ (by omega)).trans ((q_up_n _ _ (by omega)).trans h0)) rfl ?_
  refine g_get (pc := 43) C fl7_193 dX7_hungry_43 ((q_up_n _ _ (by omega)).trans ((q_up_n _ _ (by omega)).trans hw)) rfl ?_
  refine g_V0v (pc := 46) C lv7_207 dX7_hungry_46 (s4_hun ((q_up_s _ _ _)) (((q_up_n _ _ (by omega)).trans (q_up_s _ _ _))) hg.2 hbd) (q_up_s _ _ _) (by decide) (Nat.le_of_ble_eq_true rfl) ?_
  exact g_iret (pc := 49) C F dX7_hungry_49 rfl rfl (rfl) (rfl)
set_option maxHeartbeats 2000000 in
set_option maxRecDepth 20000 in
theorem s7_restT {n : Nat} {h : q_H} {lf ld : Nat} {g : Nat} {x : mX} (h0 : h 0 = DO lf ld) (ht : h 28 = TX 29 g x) (hc : h 29 = TA x.1) {g2 : Nat} {x2 : mX} (hw : h 80 = FO 81 83 84) (hl : h 81 = TX 82 g2 x2) (hlc : h 82 = TA x2.1) (hv : mW g x) (hm : x.2.2.1 ≤ 999) (hg : 0 < g ∧ g ≤ 6) : SP 5 yX7_rest cX7_rest 1 (some .int) [.ref 0] n h (some (.int (mRest g (200 + g) 1 0 (mCopy x x2)).1)) (q_up (q_up h 82 (TA (mRest g (200 + g) 1 0 (mCopy x x2)).2.1)) 81 (TX 82 g (mRest g (200 + g) 1 0 (mCopy x x2)).2)) := by
  refine q_SPi RX7 rfl (by decide +kernel) (la := _) rfl rfl (fun Γ ad C F => ?_)
  refine g_aload_n (pc := 0) C (hl := rfl) dX7_rest_0 ?_
  refine g_get (pc := 1) C fl7_30 dX7_rest_1 h0 rfl ?_
  refine g_V0v (pc := 4) C lv7_144 dX7_rest_4 (s4_standsT (ht) hg) ht (by decide) (Nat.le_of_ble_eq_true rfl) ?_
  refine g_if_eqN (pc := 7) C 24 dX7_rest_7 (by decide) (by decide) (fun q => absurd q (by decide)) (fun _ => ?_)
  refine g_aload_n (pc := 10) C (hl := rfl) dX7_rest_10 ?_
  refine g_get (pc := 11) C fl7_44 dX7_rest_11 h0 rfl ?_
  refine g_aload_n (pc := 14) C (hl := rfl) dX7_rest_14 ?_
  refine g_get (pc := 15) C fl7_30 dX7_rest_15 h0 rfl ?_
  refine g_V1v (pc := 18) C lv7_211 dX7_rest_18 (s2_rest (x := x2) (xu := x) (hw) (hl) (hlc) (ht) (hc) (by decide) hv (by omega)) hw (by decide) (Nat.le_of_ble_eq_true rfl) ?_
  refine g_goto (pc := 21) C 26 dX7_rest_21 (by decide) ?_
  exact g_iret (pc := 26) C F dX7_rest_26 rfl rfl (rfl) (rfl)
set_option maxHeartbeats 2000000 in
set_option maxRecDepth 20000 in
theorem s7_servedT {n : Nat} {h : q_H} {lf ld : Nat} {g : Nat} {x : mX} (h0 : h 0 = DO lf ld) (ht : h 28 = TX 29 g x) (hc : h 29 = TA x.1) {g2 : Nat} {x2 : mX} (hw : h 80 = FO 81 83 84) (hl : h 81 = TX 82 g2 x2) (hlc : h 82 = TA x2.1) (hv : mW g x) (hm : x.2.2.1 ≤ 999) (hg : 0 < g ∧ g ≤ 6) : SP 5 yX7_served cX7_served 1 (some .int) [.ref 0] n h (some (.int (nI (mSv x.1 g x.2.1 g)))) h := by
  refine q_SPi RX7 rfl (by decide +kernel) (la := _) rfl rfl (fun Γ ad C F => ?_)
  refine g_aload_n (pc := 0) C (hl := rfl) dX7_served_0 ?_
  refine g_get (pc := 1) C fl7_30 dX7_served_1 h0 rfl ?_
  refine g_V0v (pc := 4) C lv7_144 dX7_served_4 (s4_standsT (ht) hg) ht (by decide) (Nat.le_of_ble_eq_true rfl) ?_
  refine g_if_eqN (pc := 7) C 24 dX7_served_7 (by decide) (by decide) (fun q => absurd q (by decide)) (fun _ => ?_)
  refine g_aload_n (pc := 10) C (hl := rfl) dX7_served_10 ?_
  refine g_get (pc := 11) C fl7_44 dX7_served_11 h0 rfl ?_
  refine g_aload_n (pc := 14) C (hl := rfl) dX7_served_14 ?_
  refine g_get (pc := 15) C fl7_30 dX7_served_15 h0 rfl ?_
  refine g_V1v (pc := 18) C lv7_215 dX7_served_18 (s2_serve (ht) (hc) hv) hw (by decide) (Nat.le_of_ble_eq_true rfl) ?_
  refine g_goto (pc := 21) C 26 dX7_served_21 (by decide) ?_
  exact g_iret (pc := 26) C F dX7_served_26 rfl rfl (rfl) (rfl)
set_option maxHeartbeats 2000000 in
set_option maxRecDepth 20000 in
theorem s7_seatedB {n : Nat} {h : q_H} {lf ld : Nat} {g : Nat} {x : mX} (h0 : h 0 = DO lf ld) (ht : h 28 = TX 29 g x) (hc : h 29 = TA x.1) (y z q : Int32) (hb : (y < 0 ∨ nI g ≤ y) ∨ (z < nI 0 ∨ nI 99 < z) ∨ (q < nI 0 ∨ nI 1 < q)) : SP 1 yX7_seated cX7_seated 5 (some .int) [.ref 0, .int y, .int z, .int q] n h (some (.int (-1000001))) h := by
  refine q_SPi RX7 rfl (by decide +kernel) (la := _) rfl rfl (fun Γ ad C F => ?_)
  refine g_aload_n (pc := 0) C (hl := rfl) dX7_seated_0 ?_
  refine g_get (pc := 1) C fl7_30 dX7_seated_1 h0 rfl ?_
  refine g_iload_n (pc := 4) C (hl := rfl) dX7_seated_4 ?_
  by_cases cy : y < 0 ∨ nI g ≤ y
  · refine g_V1v (pc := 5) C lv7_163 dX7_seated_5 (s4_hasF y (ht) cy) ht (by decide) (Nat.le_of_ble_eq_true rfl) ?_
    refine g_if_eqN (pc := 8) C 30 dX7_seated_8 (by decide) (by decide) (fun _ => ?_) (fun q => absurd q (by decide))
    refine g_ldc (pc := 30) C (v := -1000001) zk7_63 dX7_seated_30 ?_
    exact g_iret (pc := 32) C F dX7_seated_32 rfl rfl (rfl) (rfl)
  · refine g_V1v (pc := 5) C lv7_163 dX7_seated_5 (s4_hasU y (ht) cy) ht (by decide) (Nat.le_of_ble_eq_true rfl) ?_
    refine g_if_eqN (pc := 8) C 30 dX7_seated_8 (by decide) (by decide) (fun q => absurd q (by decide)) (fun _ => ?_)
    refine g_iload_n (pc := 11) C (hl := rfl) dX7_seated_11 ?_
    refine g_iconst (pc := 12) C qk_iconst_0 dX7_seated_12 ?_
    refine g_bipush (pc := 13) C qk_bipush_99 dX7_seated_13 ?_
    by_cases cz : z < (nI 0) ∨ (nI 99) < z
    · refine g_S3v (pc := 15) C ls7_59 dX7_seated_15 (s7_withinF z (nI 0) (nI 99) cz) (by decide) (Nat.le_of_ble_eq_true rfl) ?_
      refine g_if_eqN (pc := 18) C 30 dX7_seated_18 (by decide) (by decide) (fun _ => ?_) (fun q => absurd q (by decide))
      refine g_ldc (pc := 30) C (v := -1000001) zk7_63 dX7_seated_30 ?_
      exact g_iret (pc := 32) C F dX7_seated_32 rfl rfl (rfl) (rfl)
    · refine g_S3v (pc := 15) C ls7_59 dX7_seated_15 (s7_withinT z (nI 0) (nI 99) cz) (by decide) (Nat.le_of_ble_eq_true rfl) ?_
      refine g_if_eqN (pc := 18) C 30 dX7_seated_18 (by decide) (by decide) (fun q => absurd q (by decide)) (fun _ => ?_)
      refine g_iload_n (pc := 21) C (hl := rfl) dX7_seated_21 ?_
      refine g_iconst (pc := 22) C qk_iconst_0 dX7_seated_22 ?_
      refine g_iconst (pc := 23) C qk_iconst_1 dX7_seated_23 ?_
      by_cases cq : q < (nI 0) ∨ (nI 1) < q
      · refine g_S3v (pc := 24) C ls7_59 dX7_seated_24 (s7_withinF q (nI 0) (nI 1) cq) (by decide) (Nat.le_of_ble_eq_true rfl) ?_
        refine g_if_neN (pc := 27) C 33 dX7_seated_27 (by decide) (by decide) (fun q => absurd q (by decide)) (fun _ => ?_)
        refine g_ldc (pc := 30) C (v := -1000001) zk7_63 dX7_seated_30 ?_
        exact g_iret (pc := 32) C F dX7_seated_32 rfl rfl (rfl) (rfl)
      · refine g_S3v (pc := 24) C ls7_59 dX7_seated_24 (s7_withinT q (nI 0) (nI 1) cq) (by decide) (Nat.le_of_ble_eq_true rfl) ?_
        refine g_if_neN (pc := 27) C 33 dX7_seated_27 (by decide) (by decide) (fun _ => ?_) (fun q => absurd q (by decide))
        exact absurd hb (fun t => t.elim cy (fun t => t.elim cz cq))
set_option maxHeartbeats 2000000 in
set_option maxRecDepth 20000 in
theorem s7_seated0 {n : Nat} {h : q_H} {lf ld : Nat} {g : Nat} {x : mX} (h0 : h 0 = DO lf ld) (ht : h 28 = TX 29 g x) (hc : h 29 = TA x.1) (y N : Nat) {g2 : Nat} {x2 : mX} (hw : h 80 = FO 81 83 84) (hl : h 81 = TX 82 g2 x2) (hlc : h 82 = TA x2.1) (hv : mW g x) (hm : x.2.2.1 ≤ 999) (hg : 0 < g ∧ g ≤ 6) (hy : y < g) (hN : N ≤ 99) : SP 7 yX7_seated cX7_seated 5 (some .int) [.ref 0, .int (nI y), .int (nI N), .int (nI 0)] n h (some (.int (nI (mSit g N y x x2 g).2.1))) (q_up (q_up h 82 (TA (mSit g N y x x2 g).1.1)) 81 (TX 82 g (mSit g N y x x2 g).1)) := by
  refine q_SPi RX7 rfl (by decide +kernel) (la := _) rfl rfl (fun Γ ad C F => ?_)
  refine g_aload_n (pc := 0) C (hl := rfl) dX7_seated_0 ?_
  refine g_get (pc := 1) C fl7_30 dX7_seated_1 h0 rfl ?_
  refine g_iload_n (pc := 4) C (hl := rfl) dX7_seated_4 ?_
  refine g_V1v (pc := 5) C lv7_163 dX7_seated_5 (s4_hasT y (ht) hg.2 hy) ht (by decide) (Nat.le_of_ble_eq_true rfl) ?_
  refine g_if_eqN (pc := 8) C 30 dX7_seated_8 (by decide) (by decide) (fun q => absurd q (by decide)) (fun _ => ?_)
  refine g_iload_n (pc := 11) C (hl := rfl) dX7_seated_11 ?_
  refine g_iconst (pc := 12) C qk_iconst_0 dX7_seated_12 ?_
  refine g_bipush (pc := 13) C qk_bipush_99 dX7_seated_13 ?_
  refine g_S3v (pc := 15) C ls7_59 dX7_seated_15 (s7_withinN N 0 99 (by omega)) (by decide) (Nat.le_of_ble_eq_true rfl) ?_
  refine g_if_eqN (pc := 18) C 30 dX7_seated_18 (by decide) (by decide) (fun q => absurd q (by decide)) (fun _ => ?_)
  refine g_iload_n (pc := 21) C (hl := rfl) dX7_seated_21 ?_
  refine g_iconst (pc := 22) C qk_iconst_0 dX7_seated_22 ?_
  refine g_iconst (pc := 23) C qk_iconst_1 dX7_seated_23 ?_
  refine g_S3v (pc := 24) C ls7_59 dX7_seated_24 (s7_withinN 0 0 1 (by omega)) (by decide) (Nat.le_of_ble_eq_true rfl) ?_
  refine g_if_neN (pc := 27) C 33 dX7_seated_27 (by decide) (by decide) (fun _ => ?_) (fun q => absurd q (by decide))
  refine g_aload_n (pc := 33) C (hl := rfl) dX7_seated_33 ?_
  refine g_get (pc := 34) C fl7_44 dX7_seated_34 h0 rfl ?_
  refine g_aload_n (pc := 37) C (hl := rfl) dX7_seated_37 ?_
  refine g_get (pc := 38) C fl7_30 dX7_seated_38 h0 rfl ?_
  refine g_iload_n (pc := 41) C (hl := rfl) dX7_seated_41 ?_
  refine g_iload_n (pc := 42) C (hl := rfl) dX7_seated_42 ?_
  refine g_V3v (pc := 43) C lv7_228 dX7_seated_43 (s2_best (x := x2) (xu := x) y N (hw) (hl) (hlc) (ht) (hc) (by decide) hv hy (by omega) (by omega) (by decide)) hw (by decide) (Nat.le_of_ble_eq_true rfl) ?_
  refine g_istore (pc := 46) C rfl dX7_seated_46 ?_
  refine g_iload_n (pc := 48) C (hl := rfl) dX7_seated_48 ?_
  refine g_if_neN (pc := 49) C 57 dX7_seated_49 (by decide) (by decide) (fun q => absurd q (by decide)) (fun _ => ?_)
  refine g_iload (pc := 52) C (hl := rfl) dX7_seated_52 ?_
  refine g_goto (pc := 54) C 72 dX7_seated_54 (by decide) ?_
  exact g_iret (pc := 72) C F dX7_seated_72 rfl rfl (rfl) (rfl)
set_option maxHeartbeats 2000000 in
set_option maxRecDepth 20000 in
theorem s7_seated1 {n : Nat} {h : q_H} {lf ld : Nat} {g : Nat} {x : mX} (h0 : h 0 = DO lf ld) (ht : h 28 = TX 29 g x) (hc : h 29 = TA x.1) (y N : Nat) {g2 : Nat} {x2 : mX} (hw : h 80 = FO 81 83 84) (hl : h 81 = TX 82 g2 x2) (hlc : h 82 = TA x2.1) (hv : mW g x) (hm : x.2.2.1 ≤ 999) (hg : 0 < g ∧ g ≤ 6) (hy : y < g) (hN : N ≤ 99) (hk : (mSit g N y x x2 g).2.1 < g) : SP 7 yX7_seated cX7_seated 5 (some .int) [.ref 0, .int (nI y), .int (nI N), .int (nI 1)] n h (some (.int (qI (mEat g N y (mSit g N y x x2 g).2.1 x (mSit g N y x x2 g).1)))) (q_up (q_up h 82 (TA (mSat g N y (mSit g N y x x2 g).2.1 x (mSit g N y x x2 g).1).1)) 81 (TX 82 g (mSat g N y (mSit g N y x x2 g).2.1 x (mSit g N y x x2 g).1))) := by
  have n812 : (81 : Nat) ≠ 82 := by decide
  refine q_SPi RX7 rfl (by decide +kernel) (la := _) rfl rfl (fun Γ ad C F => ?_)
  refine g_aload_n (pc := 0) C (hl := rfl) dX7_seated_0 ?_
  refine g_get (pc := 1) C fl7_30 dX7_seated_1 h0 rfl ?_
  refine g_iload_n (pc := 4) C (hl := rfl) dX7_seated_4 ?_
  refine g_V1v (pc := 5) C lv7_163 dX7_seated_5 (s4_hasT y (ht) hg.2 hy) ht (by decide) (Nat.le_of_ble_eq_true rfl) ?_
  refine g_if_eqN (pc := 8) C 30 dX7_seated_8 (by decide) (by decide) (fun q => absurd q (by decide)) (fun _ => ?_)
  refine g_iload_n (pc := 11) C (hl := rfl) dX7_seated_11 ?_
  refine g_iconst (pc := 12) C qk_iconst_0 dX7_seated_12 ?_
  refine g_bipush (pc := 13) C qk_bipush_99 dX7_seated_13 ?_
  refine g_S3v (pc := 15) C ls7_59 dX7_seated_15 (s7_withinN N 0 99 (by omega)) (by decide) (Nat.le_of_ble_eq_true rfl) ?_
  refine g_if_eqN (pc := 18) C 30 dX7_seated_18 (by decide) (by decide) (fun q => absurd q (by decide)) (fun _ => ?_)
  refine g_iload_n (pc := 21) C (hl := rfl) dX7_seated_21 ?_
  refine g_iconst (pc := 22) C qk_iconst_0 dX7_seated_22 ?_
  refine g_iconst (pc := 23) C qk_iconst_1 dX7_seated_23 ?_
  refine g_S3v (pc := 24) C ls7_59 dX7_seated_24 (s7_withinN 1 0 1 (by omega)) (by decide) (Nat.le_of_ble_eq_true rfl) ?_
  refine g_if_neN (pc := 27) C 33 dX7_seated_27 (by decide) (by decide) (fun _ => ?_) (fun q => absurd q (by decide))
  refine g_aload_n (pc := 33) C (hl := rfl) dX7_seated_33 ?_
  refine g_get (pc := 34) C fl7_44 dX7_seated_34 h0 rfl ?_
  refine g_aload_n (pc := 37) C (hl := rfl) dX7_seated_37 ?_
  refine g_get (pc := 38) C fl7_30 dX7_seated_38 h0 rfl ?_
  refine g_iload_n (pc := 41) C (hl := rfl) dX7_seated_41 ?_
  refine g_iload_n (pc := 42) C (hl := rfl) dX7_seated_42 ?_
  refine g_V3v (pc := 43) C lv7_228 dX7_seated_43 (s2_best (x := x2) (xu := x) y N (hw) (hl) (hlc) (ht) (hc) (by decide) hv hy (by omega) (by omega) (by decide)) hw (by decide) (Nat.le_of_ble_eq_true rfl) ?_
  refine g_istore (pc := 46) C rfl dX7_seated_46 ?_
  refine g_iload_n (pc := 48) C (hl := rfl) dX7_seated_48 ?_
  refine g_if_neN (pc := 49) C 57 dX7_seated_49 (by decide) (by decide) (fun _ => ?_) (fun q => absurd q (by decide))
  refine g_aload_n (pc := 57) C (hl := rfl) dX7_seated_57 ?_
  refine g_get (pc := 58) C fl7_44 dX7_seated_58 ((q_up_n _ _ (by omega)).trans ((q_up_n _ _ (by omega)).trans h0)) rfl ?_
  refine g_aload_n (pc := 61) C (hl := rfl) dX7_seated_61 ?_
  refine g_get (pc := 62) C fl7_30 dX7_seated_62 ((q_up_n _ _ (by omega)).trans ((q_up_n _ _ (by omega)).trans h0)) rfl ?_
  refine g_iload_n (pc := 65) C (hl := rfl) dX7_seated_65 ?_
  refine g_iload (pc := 66) C (hl := rfl) dX7_seated_66 ?_
  refine g_iload_n (pc := 68) C (hl := rfl) dX7_seated_68 ?_
  refine g_V4v (pc := 69) C lv7_196 dX7_seated_69 (s2_seatZ (x := (mSit g N y x x2 g).1) (xu := x) y (mSit g N y x x2 g).2.1 N (((q_up_n _ _ (by omega)).trans ((q_up_n _ _ (by omega)).trans hw))) ((q_up_s _ _ _)) (((q_up_n _ _ (by omega)).trans (q_up_s _ _ _))) (((q_up_n _ _ (by omega)).trans ((q_up_n _ _ (by omega)).trans ht))) (((q_up_n _ _ (by omega)).trans ((q_up_n _ _ (by omega)).trans hc))) (by decide) hv ⟨hy, hk⟩ (by omega) (by omega) (by decide)) ((q_up_n _ _ (by omega)).trans ((q_up_n _ _ (by omega)).trans hw)) (by decide) (Nat.le_of_ble_eq_true rfl) ?_
  exact g_iret (pc := 72) C F dX7_seated_72 rfl rfl (rfl) (by simp only [q_up_u, q_up_c _ n812])
