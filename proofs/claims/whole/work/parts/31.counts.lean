def mIs (so k : Nat) : Bool := decide (k = 0 ∨ so = k ∨ (k = 1 ∧ (so = 2 ∨ so = 3)) ∨ (k = 4 ∧ so = 5))
set_option maxHeartbeats 2000000 in
set_option maxRecDepth 20000 in
theorem s7_isOne0 {n : Nat} {h : q_H} (so : Nat) (hs : so < 6) : SP 0 yX7_isOne cX7_isOne 2 (some .boolean) [.int (nI so), .int (nI 0)] n h (some (.int (if mIs so 0 = true then nI 1 else nI 0))) h := by
  refine q_SPi RX7 rfl (by decide +kernel) (la := _) rfl rfl (fun Γ ad C F => ?_)
  refine g_iload_n (pc := 0) C (hl := rfl) dX7_isOne_0 ?_
  refine g_tsI (pc := 1) C (off := 35) 36 dX7_isOne_1 (by decide +kernel) (by decide +kernel) (by decide +kernel) (by decide) ?_
  refine g_iconst (pc := 36) C qk_iconst_1 dX7_isOne_36 ?_
  exact g_iret (pc := 37) C F dX7_isOne_37 rfl rfl (by unfold mIs; first | rw [if_pos (decide_eq_true (by omega))] | rw [if_neg (fun q => absurd (of_decide_eq_true q) (by omega))]) (rfl)
set_option maxHeartbeats 2000000 in
set_option maxRecDepth 20000 in
theorem s7_isOne1 {n : Nat} {h : q_H} (so : Nat) (hs : so < 6) : SP 0 yX7_isOne cX7_isOne 2 (some .boolean) [.int (nI so), .int (nI 1)] n h (some (.int (if mIs so 1 = true then nI 1 else nI 0))) h := by
  refine q_SPi RX7 rfl (by decide +kernel) (la := _) rfl rfl (fun Γ ad C F => ?_)
  refine g_iload_n (pc := 0) C (hl := rfl) dX7_isOne_0 ?_
  refine g_tsI (pc := 1) C (off := 37) 38 dX7_isOne_1 (by decide +kernel) (by decide +kernel) (by decide +kernel) (by decide) ?_
  refine g_iload_n (pc := 38) C (hl := rfl) dX7_isOne_38 ?_
  refine g_iconst (pc := 39) C qk_iconst_1 dX7_isOne_39 ?_
  refine g_ic_eqN (pc := 40) C 53 dX7_isOne_40 (by decide) (by omega) (fun c40 => ?_) (fun c40 => ?_)
  · refine g_iconst (pc := 53) C qk_iconst_1 dX7_isOne_53 ?_
    refine g_goto (pc := 54) C 58 dX7_isOne_54 (by decide) ?_
    exact g_iret (pc := 58) C F dX7_isOne_58 rfl rfl (by unfold mIs; first | rw [if_pos (decide_eq_true (by omega))] | rw [if_neg (fun q => absurd (of_decide_eq_true q) (by omega))]) (rfl)
  · refine g_iload_n (pc := 43) C (hl := rfl) dX7_isOne_43 ?_
    refine g_iconst (pc := 44) C qk_iconst_2 dX7_isOne_44 ?_
    refine g_ic_eqN (pc := 45) C 53 dX7_isOne_45 (by decide) (by omega) (fun c45 => ?_) (fun c45 => ?_)
    · refine g_iconst (pc := 53) C qk_iconst_1 dX7_isOne_53 ?_
      refine g_goto (pc := 54) C 58 dX7_isOne_54 (by decide) ?_
      exact g_iret (pc := 58) C F dX7_isOne_58 rfl rfl (by unfold mIs; first | rw [if_pos (decide_eq_true (by omega))] | rw [if_neg (fun q => absurd (of_decide_eq_true q) (by omega))]) (rfl)
    · refine g_iload_n (pc := 48) C (hl := rfl) dX7_isOne_48 ?_
      refine g_iconst (pc := 49) C qk_iconst_3 dX7_isOne_49 ?_
      refine g_ic_neN (pc := 50) C 57 dX7_isOne_50 (by decide) (by omega) (fun c50 => ?_) (fun c50 => ?_)
      · refine g_iconst (pc := 57) C qk_iconst_0 dX7_isOne_57 ?_
        exact g_iret (pc := 58) C F dX7_isOne_58 rfl rfl (by unfold mIs; first | rw [if_pos (decide_eq_true (by omega))] | rw [if_neg (fun q => absurd (of_decide_eq_true q) (by omega))]) (rfl)
      · refine g_iconst (pc := 53) C qk_iconst_1 dX7_isOne_53 ?_
        refine g_goto (pc := 54) C 58 dX7_isOne_54 (by decide) ?_
        exact g_iret (pc := 58) C F dX7_isOne_58 rfl rfl (by unfold mIs; first | rw [if_pos (decide_eq_true (by omega))] | rw [if_neg (fun q => absurd (of_decide_eq_true q) (by omega))]) (rfl)
set_option maxHeartbeats 2000000 in
set_option maxRecDepth 20000 in
theorem s7_isOne2 {n : Nat} {h : q_H} (so : Nat) (hs : so < 6) : SP 0 yX7_isOne cX7_isOne 2 (some .boolean) [.int (nI so), .int (nI 2)] n h (some (.int (if mIs so 2 = true then nI 1 else nI 0))) h := by
  refine q_SPi RX7 rfl (by decide +kernel) (la := _) rfl rfl (fun Γ ad C F => ?_)
  refine g_iload_n (pc := 0) C (hl := rfl) dX7_isOne_0 ?_
  refine g_tsI (pc := 1) C (off := 74) 75 dX7_isOne_1 (by decide +kernel) (by decide +kernel) (by decide +kernel) (by decide) ?_
  refine g_iload_n (pc := 75) C (hl := rfl) dX7_isOne_75 ?_
  refine g_iload_n (pc := 76) C (hl := rfl) dX7_isOne_76 ?_
  refine g_ic_neN (pc := 77) C 84 dX7_isOne_77 (by decide) (by omega) (fun c77 => ?_) (fun c77 => ?_)
  · refine g_iconst (pc := 84) C qk_iconst_0 dX7_isOne_84 ?_
    exact g_iret (pc := 85) C F dX7_isOne_85 rfl rfl (by unfold mIs; first | rw [if_pos (decide_eq_true (by omega))] | rw [if_neg (fun q => absurd (of_decide_eq_true q) (by omega))]) (rfl)
  · refine g_iconst (pc := 80) C qk_iconst_1 dX7_isOne_80 ?_
    refine g_goto (pc := 81) C 85 dX7_isOne_81 (by decide) ?_
    exact g_iret (pc := 85) C F dX7_isOne_85 rfl rfl (by unfold mIs; first | rw [if_pos (decide_eq_true (by omega))] | rw [if_neg (fun q => absurd (of_decide_eq_true q) (by omega))]) (rfl)
set_option maxHeartbeats 2000000 in
set_option maxRecDepth 20000 in
theorem s7_isOne3 {n : Nat} {h : q_H} (so : Nat) (hs : so < 6) : SP 0 yX7_isOne cX7_isOne 2 (some .boolean) [.int (nI so), .int (nI 3)] n h (some (.int (if mIs so 3 = true then nI 1 else nI 0))) h := by
  refine q_SPi RX7 rfl (by decide +kernel) (la := _) rfl rfl (fun Γ ad C F => ?_)
  refine g_iload_n (pc := 0) C (hl := rfl) dX7_isOne_0 ?_
  refine g_tsI (pc := 1) C (off := 74) 75 dX7_isOne_1 (by decide +kernel) (by decide +kernel) (by decide +kernel) (by decide) ?_
  refine g_iload_n (pc := 75) C (hl := rfl) dX7_isOne_75 ?_
  refine g_iload_n (pc := 76) C (hl := rfl) dX7_isOne_76 ?_
  refine g_ic_neN (pc := 77) C 84 dX7_isOne_77 (by decide) (by omega) (fun c77 => ?_) (fun c77 => ?_)
  · refine g_iconst (pc := 84) C qk_iconst_0 dX7_isOne_84 ?_
    exact g_iret (pc := 85) C F dX7_isOne_85 rfl rfl (by unfold mIs; first | rw [if_pos (decide_eq_true (by omega))] | rw [if_neg (fun q => absurd (of_decide_eq_true q) (by omega))]) (rfl)
  · refine g_iconst (pc := 80) C qk_iconst_1 dX7_isOne_80 ?_
    refine g_goto (pc := 81) C 85 dX7_isOne_81 (by decide) ?_
    exact g_iret (pc := 85) C F dX7_isOne_85 rfl rfl (by unfold mIs; first | rw [if_pos (decide_eq_true (by omega))] | rw [if_neg (fun q => absurd (of_decide_eq_true q) (by omega))]) (rfl)
set_option maxHeartbeats 2000000 in
set_option maxRecDepth 20000 in
theorem s7_isOne4 {n : Nat} {h : q_H} (so : Nat) (hs : so < 6) : SP 0 yX7_isOne cX7_isOne 2 (some .boolean) [.int (nI so), .int (nI 4)] n h (some (.int (if mIs so 4 = true then nI 1 else nI 0))) h := by
  refine q_SPi RX7 rfl (by decide +kernel) (la := _) rfl rfl (fun Γ ad C F => ?_)
  refine g_iload_n (pc := 0) C (hl := rfl) dX7_isOne_0 ?_
  refine g_tsI (pc := 1) C (off := 58) 59 dX7_isOne_1 (by decide +kernel) (by decide +kernel) (by decide +kernel) (by decide) ?_
  refine g_iload_n (pc := 59) C (hl := rfl) dX7_isOne_59 ?_
  refine g_iconst (pc := 60) C qk_iconst_4 dX7_isOne_60 ?_
  refine g_ic_eqN (pc := 61) C 69 dX7_isOne_61 (by decide) (by omega) (fun c61 => ?_) (fun c61 => ?_)
  · refine g_iconst (pc := 69) C qk_iconst_1 dX7_isOne_69 ?_
    refine g_goto (pc := 70) C 74 dX7_isOne_70 (by decide) ?_
    exact g_iret (pc := 74) C F dX7_isOne_74 rfl rfl (by unfold mIs; first | rw [if_pos (decide_eq_true (by omega))] | rw [if_neg (fun q => absurd (of_decide_eq_true q) (by omega))]) (rfl)
  · refine g_iload_n (pc := 64) C (hl := rfl) dX7_isOne_64 ?_
    refine g_iconst (pc := 65) C qk_iconst_5 dX7_isOne_65 ?_
    refine g_ic_neN (pc := 66) C 73 dX7_isOne_66 (by decide) (by omega) (fun c66 => ?_) (fun c66 => ?_)
    · refine g_iconst (pc := 73) C qk_iconst_0 dX7_isOne_73 ?_
      exact g_iret (pc := 74) C F dX7_isOne_74 rfl rfl (by unfold mIs; first | rw [if_pos (decide_eq_true (by omega))] | rw [if_neg (fun q => absurd (of_decide_eq_true q) (by omega))]) (rfl)
    · refine g_iconst (pc := 69) C qk_iconst_1 dX7_isOne_69 ?_
      refine g_goto (pc := 70) C 74 dX7_isOne_70 (by decide) ?_
      exact g_iret (pc := 74) C F dX7_isOne_74 rfl rfl (by unfold mIs; first | rw [if_pos (decide_eq_true (by omega))] | rw [if_neg (fun q => absurd (of_decide_eq_true q) (by omega))]) (rfl)
set_option maxHeartbeats 2000000 in
set_option maxRecDepth 20000 in
theorem s7_isOne5 {n : Nat} {h : q_H} (so : Nat) (hs : so < 6) : SP 0 yX7_isOne cX7_isOne 2 (some .boolean) [.int (nI so), .int (nI 5)] n h (some (.int (if mIs so 5 = true then nI 1 else nI 0))) h := by
  refine q_SPi RX7 rfl (by decide +kernel) (la := _) rfl rfl (fun Γ ad C F => ?_)
  refine g_iload_n (pc := 0) C (hl := rfl) dX7_isOne_0 ?_
  refine g_tsO (pc := 1) C 75 dX7_isOne_1 (by decide +kernel) (by decide) ?_
  refine g_iload_n (pc := 75) C (hl := rfl) dX7_isOne_75 ?_
  refine g_iload_n (pc := 76) C (hl := rfl) dX7_isOne_76 ?_
  refine g_ic_neN (pc := 77) C 84 dX7_isOne_77 (by decide) (by omega) (fun c77 => ?_) (fun c77 => ?_)
  · refine g_iconst (pc := 84) C qk_iconst_0 dX7_isOne_84 ?_
    exact g_iret (pc := 85) C F dX7_isOne_85 rfl rfl (by unfold mIs; first | rw [if_pos (decide_eq_true (by omega))] | rw [if_neg (fun q => absurd (of_decide_eq_true q) (by omega))]) (rfl)
  · refine g_iconst (pc := 80) C qk_iconst_1 dX7_isOne_80 ?_
    refine g_goto (pc := 81) C 85 dX7_isOne_81 (by decide) ?_
    exact g_iret (pc := 85) C F dX7_isOne_85 rfl rfl (by unfold mIs; first | rw [if_pos (decide_eq_true (by omega))] | rw [if_neg (fun q => absurd (of_decide_eq_true q) (by omega))]) (rfl)
theorem s7_isOne {n : Nat} {h : q_H} (so k : Nat) (hs : so < 6) (hk : k < 6) : SP 0 yX7_isOne cX7_isOne 2 (some .boolean) [.int (nI so), .int (nI k)] n h (some (.int (if mIs so k = true then nI 1 else nI 0))) h := by
  rcases (by omega : k = 0 ∨ k = 1 ∨ k = 2 ∨ k = 3 ∨ k = 4 ∨ k = 5) with rfl | rfl | rfl | rfl | rfl | rfl
  · exact s7_isOne0 so hs
  · exact s7_isOne1 so hs
  · exact s7_isOne2 so hs
  · exact s7_isOne3 so hs
  · exact s7_isOne4 so hs
  · exact s7_isOne5 so hs
theorem s7_isOneT {n : Nat} {h : q_H} (so k : Nat) (hs : so < 6) (hk : k < 6) (e : mIs so k = true) : SP 0 yX7_isOne cX7_isOne 2 (some .boolean) [.int (nI so), .int (nI k)] n h (some (.int (nI 1))) h := by
  have q := s7_isOne (n := n) (h := h) so k hs hk
  rw [if_pos e] at q
  exact q
theorem s7_isOneF {n : Nat} {h : q_H} (so k : Nat) (hs : so < 6) (hk : k < 6) (e : ¬ mIs so k = true) : SP 0 yX7_isOne cX7_isOne 2 (some .boolean) [.int (nI so), .int (nI k)] n h (some (.int (nI 0))) h := by
  have q := s7_isOne (n := n) (h := h) so k hs hk
  rw [if_neg e] at q
  exact q
set_option maxHeartbeats 2000000 in
set_option maxRecDepth 20000 in
theorem s7_asB {n : Nat} {h : q_H} {lf ld : Nat} {g : Nat} {x : mX} (h0 : h 0 = DO lf ld) (ht : h 28 = TX 29 g x) (hc : h 29 = TA x.1) (z k : Int32) (hb : (z < 0 ∨ nI g ≤ z) ∨ (k < nI 0 ∨ nI 5 < k)) : SP 1 yX7_as cX7_as 3 (some .int) [.ref 0, .int z, .int k] n h (some (.int (-1000001))) h := by
  refine q_SPi RX7 rfl (by decide +kernel) (la := _) rfl rfl (fun Γ ad C F => ?_)
  refine g_aload_n (pc := 0) C (hl := rfl) dX7_as_0 ?_
  refine g_get (pc := 1) C fl7_30 dX7_as_1 h0 rfl ?_
  refine g_iload_n (pc := 4) C (hl := rfl) dX7_as_4 ?_
  by_cases cz : z < 0 ∨ nI g ≤ z
  · refine g_V1v (pc := 5) C lv7_163 dX7_as_5 (s4_hasF z (ht) cz) ht (by decide) (Nat.le_of_ble_eq_true rfl) ?_
    refine g_if_eqN (pc := 8) C 20 dX7_as_8 (by decide) (by decide) (fun _ => ?_) (fun q => absurd q (by decide))
    refine g_ldc (pc := 20) C (v := -1000001) zk7_63 dX7_as_20 ?_
    exact g_iret (pc := 22) C F dX7_as_22 rfl rfl (rfl) (rfl)
  · refine g_V1v (pc := 5) C lv7_163 dX7_as_5 (s4_hasU z (ht) cz) ht (by decide) (Nat.le_of_ble_eq_true rfl) ?_
    refine g_if_eqN (pc := 8) C 20 dX7_as_8 (by decide) (by decide) (fun q => absurd q (by decide)) (fun _ => ?_)
    refine g_iload_n (pc := 11) C (hl := rfl) dX7_as_11 ?_
    refine g_iconst (pc := 12) C qk_iconst_0 dX7_as_12 ?_
    refine g_iconst (pc := 13) C qk_iconst_5 dX7_as_13 ?_
    by_cases ck : k < (nI 0) ∨ (nI 5) < k
    · refine g_S3v (pc := 14) C ls7_59 dX7_as_14 (s7_withinF k (nI 0) (nI 5) ck) (by decide) (Nat.le_of_ble_eq_true rfl) ?_
      refine g_if_neN (pc := 17) C 23 dX7_as_17 (by decide) (by decide) (fun q => absurd q (by decide)) (fun _ => ?_)
      refine g_ldc (pc := 20) C (v := -1000001) zk7_63 dX7_as_20 ?_
      exact g_iret (pc := 22) C F dX7_as_22 rfl rfl (rfl) (rfl)
    · refine g_S3v (pc := 14) C ls7_59 dX7_as_14 (s7_withinT k (nI 0) (nI 5) ck) (by decide) (Nat.le_of_ble_eq_true rfl) ?_
      refine g_if_neN (pc := 17) C 23 dX7_as_17 (by decide) (by decide) (fun _ => ?_) (fun q => absurd q (by decide))
      exact absurd hb (fun q => q.elim cz ck)
set_option maxHeartbeats 2000000 in
set_option maxRecDepth 20000 in
theorem s7_asT {n : Nat} {h : q_H} {lf ld : Nat} {g : Nat} {x : mX} (h0 : h 0 = DO lf ld) (ht : h 28 = TX 29 g x) (hc : h 29 = TA x.1) (z : Nat) (hg : 0 < g ∧ g ≤ 6) (hz : z < g) (k : Nat) (hk : k ≤ 5) (hso : x.1 (0 + z) < 6) (he : mIs (x.1 (0 + z)) k = true) : SP 1 yX7_as cX7_as 3 (some .int) [.ref 0, .int (nI z), .int (nI k)] n h (some (.int (nI z))) (q_up h 0 (DO lf 0)) := by
  refine q_SPi RX7 rfl (by decide +kernel) (la := _) rfl rfl (fun Γ ad C F => ?_)
  refine g_aload_n (pc := 0) C (hl := rfl) dX7_as_0 ?_
  refine g_get (pc := 1) C fl7_30 dX7_as_1 h0 rfl ?_
  refine g_iload_n (pc := 4) C (hl := rfl) dX7_as_4 ?_
  refine g_V1v (pc := 5) C lv7_163 dX7_as_5 (s4_hasT z (ht) hg.2 hz) ht (by decide) (Nat.le_of_ble_eq_true rfl) ?_
  refine g_if_eqN (pc := 8) C 20 dX7_as_8 (by decide) (by decide) (fun q => absurd q (by decide)) (fun _ => ?_)
  refine g_iload_n (pc := 11) C (hl := rfl) dX7_as_11 ?_
  refine g_iconst (pc := 12) C qk_iconst_0 dX7_as_12 ?_
  refine g_iconst (pc := 13) C qk_iconst_5 dX7_as_13 ?_
  refine g_S3v (pc := 14) C ls7_59 dX7_as_14 (s7_withinN k 0 5 (by omega)) (by decide) (Nat.le_of_ble_eq_true rfl) ?_
  refine g_if_neN (pc := 17) C 23 dX7_as_17 (by decide) (by decide) (fun _ => ?_) (fun q => absurd q (by decide))
  refine g_aload_n (pc := 23) C (hl := rfl) dX7_as_23 ?_
  refine g_get (pc := 24) C fl7_30 dX7_as_24 h0 rfl ?_
  refine g_iconst (pc := 27) C qk_iconst_0 dX7_as_27 ?_
  refine g_iload_n (pc := 28) C (hl := rfl) dX7_as_28 ?_
  refine g_V2v (pc := 29) C lv7_167 dX7_as_29 (s4_of0 z (ht) (hc) (by omega)) ht (by decide) (Nat.le_of_ble_eq_true rfl) ?_
  refine g_iload_n (pc := 32) C (hl := rfl) dX7_as_32 ?_
  refine g_S2v (pc := 33) C ls7_236 dX7_as_33 (s7_isOneT _ k hso (by omega) he) (by decide) (Nat.le_of_ble_eq_true rfl) ?_
  refine g_if_eqN (pc := 36) C 47 dX7_as_36 (by decide) (by decide) (fun q => absurd q (by decide)) (fun _ => ?_)
  refine g_aload_n (pc := 39) C (hl := rfl) dX7_as_39 ?_
  refine g_iload_n (pc := 40) C (hl := rfl) dX7_as_40 ?_
  refine g_V1v (pc := 41) C lv7_72 dX7_as_41 (s7_fine _ (h0)) h0 (by decide) (Nat.le_of_ble_eq_true rfl) ?_
  refine g_goto (pc := 44) C 52 dX7_as_44 (by decide) ?_
  exact g_iret (pc := 52) C F dX7_as_52 rfl rfl (rfl) (rfl)
set_option maxHeartbeats 2000000 in
set_option maxRecDepth 20000 in
theorem s7_asF {n : Nat} {h : q_H} {lf ld : Nat} {g : Nat} {x : mX} (h0 : h 0 = DO lf ld) (ht : h 28 = TX 29 g x) (hc : h 29 = TA x.1) (z : Nat) (hg : 0 < g ∧ g ≤ 6) (hz : z < g) (k : Nat) (hk : k ≤ 5) (hso : x.1 (0 + z) < 6) (he : ¬ mIs (x.1 (0 + z)) k = true) : SP 1 yX7_as cX7_as 3 (some .int) [.ref 0, .int (nI z), .int (nI k)] n h (some (.int (-1000010 - nI 3))) (q_up h 0 (DO lf 3)) := by
  refine q_SPi RX7 rfl (by decide +kernel) (la := _) rfl rfl (fun Γ ad C F => ?_)
  refine g_aload_n (pc := 0) C (hl := rfl) dX7_as_0 ?_
  refine g_get (pc := 1) C fl7_30 dX7_as_1 h0 rfl ?_
  refine g_iload_n (pc := 4) C (hl := rfl) dX7_as_4 ?_
  refine g_V1v (pc := 5) C lv7_163 dX7_as_5 (s4_hasT z (ht) hg.2 hz) ht (by decide) (Nat.le_of_ble_eq_true rfl) ?_
  refine g_if_eqN (pc := 8) C 20 dX7_as_8 (by decide) (by decide) (fun q => absurd q (by decide)) (fun _ => ?_)
  refine g_iload_n (pc := 11) C (hl := rfl) dX7_as_11 ?_
  refine g_iconst (pc := 12) C qk_iconst_0 dX7_as_12 ?_
  refine g_iconst (pc := 13) C qk_iconst_5 dX7_as_13 ?_
  refine g_S3v (pc := 14) C ls7_59 dX7_as_14 (s7_withinN k 0 5 (by omega)) (by decide) (Nat.le_of_ble_eq_true rfl) ?_
  refine g_if_neN (pc := 17) C 23 dX7_as_17 (by decide) (by decide) (fun _ => ?_) (fun q => absurd q (by decide))
  refine g_aload_n (pc := 23) C (hl := rfl) dX7_as_23 ?_
  refine g_get (pc := 24) C fl7_30 dX7_as_24 h0 rfl ?_
  refine g_iconst (pc := 27) C qk_iconst_0 dX7_as_27 ?_
  refine g_iload_n (pc := 28) C (hl := rfl) dX7_as_28 ?_
  refine g_V2v (pc := 29) C lv7_167 dX7_as_29 (s4_of0 z (ht) (hc) (by omega)) ht (by decide) (Nat.le_of_ble_eq_true rfl) ?_
  refine g_iload_n (pc := 32) C (hl := rfl) dX7_as_32 ?_
  refine g_S2v (pc := 33) C ls7_236 dX7_as_33 (s7_isOneF _ k hso (by omega) he) (by decide) (Nat.le_of_ble_eq_true rfl) ?_
  refine g_if_eqN (pc := 36) C 47 dX7_as_36 (by decide) (by decide) (fun _ => ?_) (fun q => absurd q (by decide))
  refine g_aload_n (pc := 47) C (hl := rfl) dX7_as_47 ?_
  refine g_iconst (pc := 48) C qk_iconst_3 dX7_as_48 ?_
  refine g_V1v (pc := 49) C lv7_64 dX7_as_49 (s7_found _ (h0)) h0 (by decide) (Nat.le_of_ble_eq_true rfl) ?_
  exact g_iret (pc := 52) C F dX7_as_52 rfl rfl (rfl) (rfl)
def mThere (v : aR) : Nat := match v with
  | none => 0
  | some _ => 1
def mCnt (R : Nat → aR) : Nat → Nat
  | 0 => 0
  | k + 1 => mCnt R k + mThere (R k)
theorem cR_t {h : q_H} {i : Nat} {v : aR} (q : cR h i v) : ∃ lane len, h (2 + 2 * i) = RO (3 + 2 * i) lane len ∧ (lane = -1 → mThere v = 0) ∧ (¬ lane = -1 → mThere v = 1) := by
  obtain ⟨lane, len, f, h1, h2, h3⟩ := q
  refine ⟨lane, len, h1, ?_, ?_⟩
  · cases v with
    | none => intro _; rfl
    | some w =>
      obtain ⟨l, k, g⟩ := w
      intro e
      exact absurd (h3.1 ▸ e) (nI_m1 (by have := h3.2.1; omega))
  · cases v with
    | none => intro e; exact absurd h3 e
    | some w => intro _; rfl
set_option maxHeartbeats 2000000 in
set_option maxRecDepth 20000 in
theorem l7_rt {Γ : q_X} {ad : Nat → Nat} {n lf ld : Nat} {h : q_H} {fr : Nat → Option Nat} {R : Nat → aR} {rz : Int32} (h0 : h 0 = DO lf ld) (ha : h 1 = RLs 8 fr) (hfr : ∀ i, i < 8 → fr i = some (2 + 2 * i)) (hR : cRs h R) (hz : rz = nI (mCnt R 8)) (C : q_C Γ ad 1 0 0 RX7 yX7_rowsThere cX7_rowsThere 4 (some .int)) (F : q_N Γ ad n (some (.int rz)) h) : ∀ (m i c : Nat) (v3 : Option Value), i + m = 8 → i ≤ 8 → c = mCnt R i → q_G Γ ad 4 4 [some (.ref 0), some (.int (nI c)), some (.int (nI i)), v3] [] n h 0 0 := by
  intro m
  induction m with
  | zero =>
    intro i c v3 hm hi hc
    refine g_iload_n (pc := 4) C (hl := rfl) dX7_rowsThere_4 ?_
    refine g_aload_n (pc := 5) C (hl := rfl) dX7_rowsThere_5 ?_
    refine g_get (pc := 6) C fl7_11 dX7_rowsThere_6 h0 rfl ?_
    refine g_alenrN (pc := 9) C dX7_rowsThere_9 ha ?_
    refine g_ic_geN (pc := 10) C 40 dX7_rowsThere_10 (by decide) (by omega) (fun _ => ?_) (fun q => absurd (by omega) q)
    refine g_iload_n (pc := 40) C (hl := rfl) dX7_rowsThere_40 ?_
    exact g_iret (pc := 41) C F dX7_rowsThere_41 rfl rfl (by rw [hz, hc, show i = 8 by omega]) (rfl)
  | succ m ih =>
    intro i c v3 hm hi hc
    obtain ⟨lane, len, hr, q0, q1⟩ := cR_t (hR i (by omega))
    refine g_iload_n (pc := 4) C (hl := rfl) dX7_rowsThere_4 ?_
    refine g_aload_n (pc := 5) C (hl := rfl) dX7_rowsThere_5 ?_
    refine g_get (pc := 6) C fl7_11 dX7_rowsThere_6 h0 rfl ?_
    refine g_alenrN (pc := 9) C dX7_rowsThere_9 ha ?_
    refine g_ic_geN (pc := 10) C 40 dX7_rowsThere_10 (by decide) (by omega) (fun q => absurd q (by omega)) (fun _ => ?_)
    refine g_aload_n (pc := 13) C (hl := rfl) dX7_rowsThere_13 ?_
    refine g_get (pc := 14) C fl7_11 dX7_rowsThere_14 h0 rfl ?_
    refine g_iload_n (pc := 17) C (hl := rfl) dX7_rowsThere_17 ?_
    refine g_aaldN (pc := 18) C dX7_rowsThere_18 ha (by omega) (hfr i (by omega)) ?_
    refine g_astore_n (pc := 19) C rfl dX7_rowsThere_19 ?_
    refine g_aload_n (pc := 20) C (hl := rfl) dX7_rowsThere_20 ?_
    refine g_ifnull (pc := 21) C dX7_rowsThere_21 ?_
    refine g_aload_n (pc := 24) C (hl := rfl) dX7_rowsThere_24 ?_
    by_cases cm : lane = -1
    · refine g_V0v (pc := 25) C lv7_75 dX7_rowsThere_25 (s3_isMissing_t hr cm) hr (by decide) (Nat.le_of_ble_eq_true rfl) ?_
      refine g_if_neN (pc := 28) C 34 dX7_rowsThere_28 (by decide) (by decide) (fun _ => ?_) (fun q => absurd q (by decide))
      refine g_iincN (pc := 34) C (hl := rfl) (q_inc1 _) rfl dX7_rowsThere_34 ?_
      refine g_goto (pc := 37) C 4 dX7_rowsThere_37 (by decide) ?_
      first
        | exact ih (i + 1) _ (some (.ref (2 + 2 * i))) (by omega) (by omega) (by have q := q0 (by assumption); show _ = mCnt R i + mThere (R i); omega) 
        | exact ih (i + 1) _ (some (.ref (2 + 2 * i))) (by omega) (by omega) (by have q := q1 (by assumption); show _ = mCnt R i + mThere (R i); omega)
    · refine g_V0v (pc := 25) C lv7_75 dX7_rowsThere_25 (s3_isMissing_f hr cm) hr (by decide) (Nat.le_of_ble_eq_true rfl) ?_
      refine g_if_neN (pc := 28) C 34 dX7_rowsThere_28 (by decide) (by decide) (fun q => absurd q (by decide)) (fun _ => ?_)
      refine g_iincN (pc := 31) C (hl := rfl) (q_inc1 _) rfl dX7_rowsThere_31 ?_
      refine g_iincN (pc := 34) C (hl := rfl) (q_inc1 _) rfl dX7_rowsThere_34 ?_
      refine g_goto (pc := 37) C 4 dX7_rowsThere_37 (by decide) ?_
      first
        | exact ih (i + 1) _ (some (.ref (2 + 2 * i))) (by omega) (by omega) (by have q := q0 (by assumption); show _ = mCnt R i + mThere (R i); omega) 
        | exact ih (i + 1) _ (some (.ref (2 + 2 * i))) (by omega) (by omega) (by have q := q1 (by assumption); show _ = mCnt R i + mThere (R i); omega)
set_option maxHeartbeats 2000000 in
set_option maxRecDepth 20000 in
theorem s7_rowsThere {n : Nat} {h : q_H} {lf ld : Nat} {fr : Nat → Option Nat} {R : Nat → aR} (h0 : h 0 = DO lf ld) (ha : h 1 = RLs 8 fr) (hfr : ∀ i, i < 8 → fr i = some (2 + 2 * i)) (hR : cRs h R) : SP 1 yX7_rowsThere cX7_rowsThere 4 (some .int) [.ref 0] n h (some (.int (nI (mCnt R 8)))) h := by
  refine q_SPi RX7 rfl (by decide +kernel) (la := _) rfl rfl (fun Γ ad C F => ?_)
  refine g_iconst (pc := 0) C qk_iconst_0 dX7_rowsThere_0 ?_
  refine g_istore_n (pc := 1) C rfl dX7_rowsThere_1 ?_
  refine g_iconst (pc := 2) C qk_iconst_0 dX7_rowsThere_2 ?_
  refine g_istore_n (pc := 3) C rfl dX7_rowsThere_3 ?_
  exact l7_rt h0 ha hfr hR rfl C F 8 0 0 _ (by omega) (by omega) rfl
set_option maxHeartbeats 2000000 in
set_option maxRecDepth 20000 in
theorem s7_countO {n : Nat} {h : q_H} {lf ld : Nat} (k : Int32) (h0 : h 0 = DO lf ld) (hk : k.toInt < 0 ∨ 6 < k.toInt) : SP 1 yX7_count cX7_count 2 (some .int) [.ref 0, .int k] n h (some (.int (-1000001))) h := by
  refine q_SPi RX7 rfl (by decide +kernel) (la := _) rfl rfl (fun Γ ad C F => ?_)
  refine g_iload_n (pc := 0) C (hl := rfl) dX7_count_0 ?_
  refine g_tsO (pc := 1) C 100 dX7_count_1 hk (by decide) ?_
  refine g_ldc (pc := 100) C (v := -1000001) zk7_63 dX7_count_100 ?_
  exact g_iret (pc := 102) C F dX7_count_102 rfl rfl (rfl) (rfl)
set_option maxHeartbeats 2000000 in
set_option maxRecDepth 20000 in
theorem s7_count0 {n : Nat} {h : q_H} {lf ld : Nat} {fr : Nat → Option Nat} {R : Nat → aR} (h0 : h 0 = DO lf ld) (ha : h 1 = RLs 8 fr) (hfr : ∀ i, i < 8 → fr i = some (2 + 2 * i)) (hR : cRs h R) : SP 2 yX7_count cX7_count 2 (some .int) [.ref 0, .int (nI 0)] n h (some (.int (nI (mCnt R 8)))) h := by
  refine q_SPi RX7 rfl (by decide +kernel) (la := _) rfl rfl (fun Γ ad C F => ?_)
  refine g_iload_n (pc := 0) C (hl := rfl) dX7_count_0 ?_
  refine g_tsI (pc := 1) C (off := 43) 44 dX7_count_1 (by decide +kernel) (by decide +kernel) (by decide +kernel) (by decide) ?_
  refine g_aload_n (pc := 44) C (hl := rfl) dX7_count_44 ?_
  refine g_V0v (pc := 45) C lv7_251 dX7_count_45 (s7_rowsThere h0 ha hfr hR) h0 (by decide) (Nat.le_of_ble_eq_true rfl) ?_
  exact g_iret (pc := 48) C F dX7_count_48 rfl rfl (rfl) (rfl)
set_option maxHeartbeats 2000000 in
set_option maxRecDepth 20000 in
theorem s7_count1 {n : Nat} {h : q_H} {lf ld : Nat} {g : Nat} {x : mX} (h0 : h 0 = DO lf ld) (ht : h 28 = TX 29 g x) (hc : h 29 = TA x.1) : SP 1 yX7_count cX7_count 2 (some .int) [.ref 0, .int (nI 1)] n h (some (.int (nI g))) h := by
  refine q_SPi RX7 rfl (by decide +kernel) (la := _) rfl rfl (fun Γ ad C F => ?_)
  refine g_iload_n (pc := 0) C (hl := rfl) dX7_count_0 ?_
  refine g_tsI (pc := 1) C (off := 48) 49 dX7_count_1 (by decide +kernel) (by decide +kernel) (by decide +kernel) (by decide) ?_
  refine g_aload_n (pc := 49) C (hl := rfl) dX7_count_49 ?_
  refine g_get (pc := 50) C fl7_30 dX7_count_50 h0 rfl ?_
  refine g_get (pc := 53) C fl7_141 dX7_count_53 ht rfl ?_
  exact g_iret (pc := 56) C F dX7_count_56 rfl rfl (rfl) (rfl)
set_option maxHeartbeats 2000000 in
set_option maxRecDepth 20000 in
theorem s7_count2 {n : Nat} {h : q_H} {lf ld : Nat} {g : Nat} {x : mX} (h0 : h 0 = DO lf ld) (ht : h 28 = TX 29 g x) (hc : h 29 = TA x.1) : SP 1 yX7_count cX7_count 2 (some .int) [.ref 0, .int (nI 2)] n h (some (.int (nI x.2.2.1))) h := by
  refine q_SPi RX7 rfl (by decide +kernel) (la := _) rfl rfl (fun Γ ad C F => ?_)
  refine g_iload_n (pc := 0) C (hl := rfl) dX7_count_0 ?_
  refine g_tsI (pc := 1) C (off := 56) 57 dX7_count_1 (by decide +kernel) (by decide +kernel) (by decide +kernel) (by decide) ?_
  refine g_aload_n (pc := 57) C (hl := rfl) dX7_count_57 ?_
  refine g_get (pc := 58) C fl7_30 dX7_count_58 h0 rfl ?_
  refine g_get (pc := 61) C fl7_148 dX7_count_61 ht rfl ?_
  exact g_iret (pc := 64) C F dX7_count_64 rfl rfl (rfl) (rfl)
set_option maxHeartbeats 2000000 in
set_option maxRecDepth 20000 in
theorem s7_count3 {n : Nat} {h : q_H} {lf ld : Nat} {g : Nat} {x : mX} (h0 : h 0 = DO lf ld) (ht : h 28 = TX 29 g x) (hc : h 29 = TA x.1) : SP 1 yX7_count cX7_count 2 (some .int) [.ref 0, .int (nI 3)] n h (some (.int (nI x.2.1))) h := by
  refine q_SPi RX7 rfl (by decide +kernel) (la := _) rfl rfl (fun Γ ad C F => ?_)
  refine g_iload_n (pc := 0) C (hl := rfl) dX7_count_0 ?_
  refine g_tsI (pc := 1) C (off := 64) 65 dX7_count_1 (by decide +kernel) (by decide +kernel) (by decide +kernel) (by decide) ?_
  refine g_aload_n (pc := 65) C (hl := rfl) dX7_count_65 ?_
  refine g_get (pc := 66) C fl7_30 dX7_count_66 h0 rfl ?_
  refine g_get (pc := 69) C fl7_157 dX7_count_69 ht rfl ?_
  exact g_iret (pc := 72) C F dX7_count_72 rfl rfl (rfl) (rfl)
set_option maxHeartbeats 2000000 in
set_option maxRecDepth 20000 in
theorem s7_count4 {n : Nat} {h : q_H} {lf ld : Nat} {g : Nat} {x : mX} (h0 : h 0 = DO lf ld) (ht : h 28 = TX 29 g x) (hc : h 29 = TA x.1) (hg : g ≤ 6) : SP 2 yX7_count cX7_count 2 (some .int) [.ref 0, .int (nI 4)] n h (some (.int (nI (mSumP x.1 g)))) h := by
  refine q_SPi RX7 rfl (by decide +kernel) (la := _) rfl rfl (fun Γ ad C F => ?_)
  refine g_iload_n (pc := 0) C (hl := rfl) dX7_count_0 ?_
  refine g_tsI (pc := 1) C (off := 72) 73 dX7_count_1 (by decide +kernel) (by decide +kernel) (by decide +kernel) (by decide) ?_
  refine g_aload_n (pc := 73) C (hl := rfl) dX7_count_73 ?_
  refine g_get (pc := 74) C fl7_30 dX7_count_74 h0 rfl ?_
  refine g_V0v (pc := 77) C lv7_254 dX7_count_77 (s4_sum (ht) (hc) hg) ht (by decide) (Nat.le_of_ble_eq_true rfl) ?_
  exact g_iret (pc := 80) C F dX7_count_80 rfl rfl (rfl) (rfl)
set_option maxHeartbeats 2000000 in
set_option maxRecDepth 20000 in
theorem s7_count5 {n : Nat} {h : q_H} {lf ld : Nat} {nx k : Nat} (h0 : h 0 = DO lf ld) (hA : h 30 = AO 31 nx k) : SP 1 yX7_count cX7_count 2 (some .int) [.ref 0, .int (nI 5)] n h (some (.int (nI k))) h := by
  refine q_SPi RX7 rfl (by decide +kernel) (la := _) rfl rfl (fun Γ ad C F => ?_)
  refine g_iload_n (pc := 0) C (hl := rfl) dX7_count_0 ?_
  refine g_tsI (pc := 1) C (off := 80) 81 dX7_count_1 (by decide +kernel) (by decide +kernel) (by decide +kernel) (by decide) ?_
  refine g_aload_n (pc := 81) C (hl := rfl) dX7_count_81 ?_
  refine g_get (pc := 82) C fl7_37 dX7_count_82 h0 rfl ?_
  refine g_get (pc := 85) C fl7_180 dX7_count_85 hA rfl ?_
  exact g_iret (pc := 88) C F dX7_count_88 rfl rfl (rfl) (rfl)
set_option maxHeartbeats 2000000 in
set_option maxRecDepth 20000 in
theorem s7_count6 {n : Nat} {h : q_H} {lf ld : Nat} {di fa len : Nat} {K : mK} (h0 : h 0 = DO lf ld) (hrd : h 23 = XK 24 26 K di fa) (htp : h 24 = PO 25 len) : SP 1 yX7_count cX7_count 2 (some .int) [.ref 0, .int (nI 6)] n h (some (.int (nI len))) h := by
  refine q_SPi RX7 rfl (by decide +kernel) (la := _) rfl rfl (fun Γ ad C F => ?_)
  refine g_iload_n (pc := 0) C (hl := rfl) dX7_count_0 ?_
  refine g_tsI (pc := 1) C (off := 88) 89 dX7_count_1 (by decide +kernel) (by decide +kernel) (by decide +kernel) (by decide) ?_
  refine g_aload_n (pc := 89) C (hl := rfl) dX7_count_89 ?_
  refine g_get (pc := 90) C fl7_26 dX7_count_90 h0 rfl ?_
  refine g_get (pc := 93) C fl7_103 dX7_count_93 hrd rfl ?_
  refine g_get (pc := 96) C fl7_107 dX7_count_96 htp rfl ?_
  exact g_iret (pc := 99) C F dX7_count_99 rfl rfl (rfl) (rfl)
set_option maxHeartbeats 2000000 in
set_option maxRecDepth 20000 in
theorem s7_traceN {n : Nat} {h : q_H} {lf ld : Nat} (k : Nat) (h0 : h 0 = DO lf ld) {left gu so wa ea : Nat} {fk : Nat → Nat} (hK : h 85 = KO 86 left gu so wa ea) (hKb : h 86 = KA fk) (hl : left ≤ 16) (hk : k < 2147483648) : SP 1 yX7_trace cX7_trace 2 (some .int) [.ref 0, .int (nI k)] n h (some (.int (if k < left then nI (fk k) else -1000000))) h := by
  refine q_SPi RX7 rfl (by decide +kernel) (la := _) rfl rfl (fun Γ ad C F => ?_)
  refine g_aload_n (pc := 0) C (hl := rfl) dX7_trace_0 ?_
  refine g_get (pc := 1) C fl7_51 dX7_trace_1 h0 rfl ?_
  refine g_iload_n (pc := 4) C (hl := rfl) dX7_trace_4 ?_
  refine g_V1v (pc := 5) C lv7_248 dX7_trace_5 (s1_traced k hK hKb hl hk) hK (by decide) (Nat.le_of_ble_eq_true rfl) ?_
  exact g_iret (pc := 8) C F dX7_trace_8 rfl rfl (rfl) (rfl)
set_option maxHeartbeats 2000000 in
set_option maxRecDepth 20000 in
theorem s7_traceM {n : Nat} {h : q_H} {lf ld : Nat} (k : Int32) (h0 : h 0 = DO lf ld) {left gu so wa ea : Nat} {fk : Nat → Nat} (hK : h 85 = KO 86 left gu so wa ea) (hKb : h 86 = KA fk) (hk : k < 0) : SP 1 yX7_trace cX7_trace 2 (some .int) [.ref 0, .int k] n h (some (.int (-1000000))) h := by
  refine q_SPi RX7 rfl (by decide +kernel) (la := _) rfl rfl (fun Γ ad C F => ?_)
  refine g_aload_n (pc := 0) C (hl := rfl) dX7_trace_0 ?_
  refine g_get (pc := 1) C fl7_51 dX7_trace_1 h0 rfl ?_
  refine g_iload_n (pc := 4) C (hl := rfl) dX7_trace_4 ?_
  refine g_V1v (pc := 5) C lv7_248 dX7_trace_5 (s1_tracedM k hk) hK (by decide) (Nat.le_of_ble_eq_true rfl) ?_
  exact g_iret (pc := 8) C F dX7_trace_8 rfl rfl (rfl) (rfl)
def mSz (so : Nat) (gu wa ea : Int) : Int := if so = 1 then ea + (gu + wa) else if so = 2 then -(ea + 2 * (gu + wa)) else if so = 3 then ea + (gu + wa - 1000) else if so = 4 then ea - 100 else 2 * (ea - 100)
def mSzL (so : Nat) : List Nat := if so = 1 then [11, 10, 21, 20] else if so = 2 then [12, 11, 10, 24, 21, 20] else if so = 3 then [11, 10, 22, 21, 20] else if so = 4 then [13, 10] else [14, 13, 10]
def mMk (so : Nat) (gu wa ea : Int) : Int := if so = 1 then gu + wa else if so = 2 then 2 * (gu + wa) else if so = 3 then gu + wa - 1000 else if so = 4 then gu - (ea - 100) else gu - 2 * (ea - 100)
def mMkL (so : Nat) : List Nat := if so = 1 then [21, 20] else if so = 2 then [24, 21, 20] else if so = 3 then [22, 21, 20] else if so = 4 then [23, 20, 13, 10] else [23, 20, 14, 13, 10]
theorem nI_qI (k : Nat) : nI k = qI (k : Int) := qI_N k
theorem s1_sizeU {n : Nat} {h : q_H} {r nb gu so wa ea : Nat} {f : Nat → Nat} (hr : h r = KO nb 0 gu so wa ea) (hb : h nb = KA f) (hso : 1 ≤ so ∧ so ≤ 5) : SP 6 yX1_size cX1_size 1 (some .int) [.ref r] n h (some (.int (qI (mSz so gu wa ea)))) (q_up (q_up h nb (KA (mTr f 0 (mSzL so)))) r (KO nb (mSzL so).length gu so wa ea)) := by
  rcases (by omega : so = 1 ∨ so = 2 ∨ so = 3 ∨ so = 4 ∨ so = 5) with rfl | rfl | rfl | rfl | rfl
  · have q := s1_size_1 (n := n) hr hb (by decide)
    have e : mSz 1 (gu : Int) wa ea = ea + (gu + wa) := rfl
    rw [e]
    first
      | exact q
      | (rw [nI_qI] at q; exact q)
  · have q := s1_size_2 (n := n) hr hb (by decide)
    have e : mSz 2 (gu : Int) wa ea = -(ea + 2 * (gu + wa)) := rfl
    rw [e]
    first
      | exact q
      | (rw [nI_qI] at q; exact q)
  · have q := s1_size_3 (n := n) hr hb (by decide)
    have e : mSz 3 (gu : Int) wa ea = ea + (gu + wa - 1000) := rfl
    rw [e]
    first
      | exact q
      | (rw [nI_qI] at q; exact q)
  · have q := s1_size_4 (n := n) hr hb (by decide)
    have e : mSz 4 (gu : Int) wa ea = ea - 100 := rfl
    rw [e]
    first
      | exact q
      | (rw [nI_qI] at q; exact q)
  · have q := s1_size_5 (n := n) hr hb (by decide)
    have e : mSz 5 (gu : Int) wa ea = 2 * (ea - 100) := rfl
    rw [e]
    first
      | exact q
      | (rw [nI_qI] at q; exact q)
theorem s1_markU {n : Nat} {h : q_H} {r nb gu so wa ea : Nat} {f : Nat → Nat} (hr : h r = KO nb 0 gu so wa ea) (hb : h nb = KA f) (hso : 1 ≤ so ∧ so ≤ 5) : SP 6 yX1_mark cX1_mark 1 (some .int) [.ref r] n h (some (.int (qI (mMk so gu wa ea)))) (q_up (q_up h nb (KA (mTr f 0 (mMkL so)))) r (KO nb (mMkL so).length gu so wa ea)) := by
  rcases (by omega : so = 1 ∨ so = 2 ∨ so = 3 ∨ so = 4 ∨ so = 5) with rfl | rfl | rfl | rfl | rfl
  · have q := s1_mark_1 (n := n) hr hb (by decide)
    have e : mMk 1 (gu : Int) wa ea = gu + wa := rfl
    rw [e]
    first
      | exact q
      | (rw [nI_qI] at q; exact q)
  · have q := s1_mark_2 (n := n) hr hb (by decide)
    have e : mMk 2 (gu : Int) wa ea = 2 * (gu + wa) := rfl
    rw [e]
    first
      | exact q
      | (rw [nI_qI] at q; exact q)
  · have q := s1_mark_3 (n := n) hr hb (by decide)
    have e : mMk 3 (gu : Int) wa ea = gu + wa - 1000 := rfl
    rw [e]
    first
      | exact q
      | (rw [nI_qI] at q; exact q)
  · have q := s1_mark_4 (n := n) hr hb (by decide)
    have e : mMk 4 (gu : Int) wa ea = gu - (ea - 100) := rfl
    rw [e]
    first
      | exact q
      | (rw [nI_qI] at q; exact q)
  · have q := s1_mark_5 (n := n) hr hb (by decide)
    have e : mMk 5 (gu : Int) wa ea = gu - 2 * (ea - 100) := rfl
    rw [e]
    first
      | exact q
      | (rw [nI_qI] at q; exact q)
set_option maxHeartbeats 2000000 in
set_option maxRecDepth 20000 in
theorem s7_askB {n : Nat} {h : q_H} {lf ld : Nat} {g : Nat} {x : mX} (h0 : h 0 = DO lf ld) (ht : h 28 = TX 29 g x) (hc : h 29 = TA x.1) (z k : Int32) (hb : (z < 0 ∨ nI g ≤ z) ∨ (k < nI 0 ∨ nI 1 < k)) : SP 1 yX7_ask cX7_ask 3 (some .int) [.ref 0, .int z, .int k] n h (some (.int (-1000001))) h := by
  refine q_SPi RX7 rfl (by decide +kernel) (la := _) rfl rfl (fun Γ ad C F => ?_)
  refine g_aload_n (pc := 0) C (hl := rfl) dX7_ask_0 ?_
  refine g_get (pc := 1) C fl7_30 dX7_ask_1 h0 rfl ?_
  refine g_iload_n (pc := 4) C (hl := rfl) dX7_ask_4 ?_
  by_cases cz : z < 0 ∨ nI g ≤ z
  · refine g_V1v (pc := 5) C lv7_163 dX7_ask_5 (s4_hasF z (ht) cz) ht (by decide) (Nat.le_of_ble_eq_true rfl) ?_
    refine g_if_eqN (pc := 8) C 20 dX7_ask_8 (by decide) (by decide) (fun _ => ?_) (fun q => absurd q (by decide))
    refine g_ldc (pc := 20) C (v := -1000001) zk7_63 dX7_ask_20 ?_
    exact g_iret (pc := 22) C F dX7_ask_22 rfl rfl (rfl) (rfl)
  · refine g_V1v (pc := 5) C lv7_163 dX7_ask_5 (s4_hasU z (ht) cz) ht (by decide) (Nat.le_of_ble_eq_true rfl) ?_
    refine g_if_eqN (pc := 8) C 20 dX7_ask_8 (by decide) (by decide) (fun q => absurd q (by decide)) (fun _ => ?_)
    refine g_iload_n (pc := 11) C (hl := rfl) dX7_ask_11 ?_
    refine g_iconst (pc := 12) C qk_iconst_0 dX7_ask_12 ?_
    refine g_iconst (pc := 13) C qk_iconst_1 dX7_ask_13 ?_
    by_cases ck : k < (nI 0) ∨ (nI 1) < k
    · refine g_S3v (pc := 14) C ls7_59 dX7_ask_14 (s7_withinF k (nI 0) (nI 1) ck) (by decide) (Nat.le_of_ble_eq_true rfl) ?_
      refine g_if_neN (pc := 17) C 23 dX7_ask_17 (by decide) (by decide) (fun q => absurd q (by decide)) (fun _ => ?_)
      refine g_ldc (pc := 20) C (v := -1000001) zk7_63 dX7_ask_20 ?_
      exact g_iret (pc := 22) C F dX7_ask_22 rfl rfl (rfl) (rfl)
    · refine g_S3v (pc := 14) C ls7_59 dX7_ask_14 (s7_withinT k (nI 0) (nI 1) ck) (by decide) (Nat.le_of_ble_eq_true rfl) ?_
      refine g_if_neN (pc := 17) C 23 dX7_ask_17 (by decide) (by decide) (fun _ => ?_) (fun q => absurd q (by decide))
      exact absurd hb (fun q => q.elim cz ck)
set_option maxHeartbeats 2000000 in
set_option maxRecDepth 20000 in
theorem s7_ask0 {n : Nat} {h : q_H} {lf ld : Nat} {g : Nat} {x : mX} (h0 : h 0 = DO lf ld) (ht : h 28 = TX 29 g x) (hc : h 29 = TA x.1) {left gu so wa ea : Nat} {fk : Nat → Nat} (hK : h 85 = KO 86 left gu so wa ea) (hKb : h 86 = KA fk) (z : Nat) (hg : 0 < g ∧ g ≤ 6) (hz : z < g) (hso : 1 ≤ x.1 (0 + z) ∧ x.1 (0 + z) ≤ 5) : SP 7 yX7_ask cX7_ask 3 (some .int) [.ref 0, .int (nI z), .int (nI 0)] n h (some (.int (qI (mSz (x.1 (0 + z)) z (x.1 (6 + z)) (x.1 (18 + z)))))) (q_up (q_up (q_up h 85 (KO 86 0 z (x.1 (0 + z)) (x.1 (6 + z)) (x.1 (18 + z)))) 86 (KA (mTr fk 0 (mSzL (x.1 (0 + z)))))) 85 (KO 86 (mSzL (x.1 (0 + z))).length z (x.1 (0 + z)) (x.1 (6 + z)) (x.1 (18 + z)))) := by
  refine q_SPi RX7 rfl (by decide +kernel) (la := _) rfl rfl (fun Γ ad C F => ?_)
  refine g_aload_n (pc := 0) C (hl := rfl) dX7_ask_0 ?_
  refine g_get (pc := 1) C fl7_30 dX7_ask_1 h0 rfl ?_
  refine g_iload_n (pc := 4) C (hl := rfl) dX7_ask_4 ?_
  refine g_V1v (pc := 5) C lv7_163 dX7_ask_5 (s4_hasT z (ht) hg.2 hz) ht (by decide) (Nat.le_of_ble_eq_true rfl) ?_
  refine g_if_eqN (pc := 8) C 20 dX7_ask_8 (by decide) (by decide) (fun q => absurd q (by decide)) (fun _ => ?_)
  refine g_iload_n (pc := 11) C (hl := rfl) dX7_ask_11 ?_
  refine g_iconst (pc := 12) C qk_iconst_0 dX7_ask_12 ?_
  refine g_iconst (pc := 13) C qk_iconst_1 dX7_ask_13 ?_
  refine g_S3v (pc := 14) C ls7_59 dX7_ask_14 (s7_withinN 0 0 1 (by omega)) (by decide) (Nat.le_of_ble_eq_true rfl) ?_
  refine g_if_neN (pc := 17) C 23 dX7_ask_17 (by decide) (by decide) (fun _ => ?_) (fun q => absurd q (by decide))
  refine g_aload_n (pc := 23) C (hl := rfl) dX7_ask_23 ?_
  refine g_get (pc := 24) C fl7_51 dX7_ask_24 h0 rfl ?_
  refine g_aload_n (pc := 27) C (hl := rfl) dX7_ask_27 ?_
  refine g_get (pc := 28) C fl7_30 dX7_ask_28 h0 rfl ?_
  refine g_iload_n (pc := 31) C (hl := rfl) dX7_ask_31 ?_
  refine g_V2u (pc := 32) C lv7_239 dX7_ask_32 (s1_begin z (hK) (ht) (hc) (by omega)) hK (by decide) (Nat.le_of_ble_eq_true rfl) ?_
  refine g_iload_n (pc := 35) C (hl := rfl) dX7_ask_35 ?_
  refine g_if_neN (pc := 36) C 49 dX7_ask_36 (by decide) (by decide) (fun q => absurd q (by decide)) (fun _ => ?_)
  refine g_aload_n (pc := 39) C (hl := rfl) dX7_ask_39 ?_
  refine g_get (pc := 40) C fl7_51 dX7_ask_40 ((q_up_n _ _ (by omega)).trans h0) rfl ?_
  refine g_V0v (pc := 43) C lv7_242 dX7_ask_43 (s1_sizeU ((q_up_s _ _ _)) (((q_up_n _ _ (by omega)).trans hKb)) hso) (q_up_s _ _ _) (by decide) (Nat.le_of_ble_eq_true rfl) ?_
  refine g_goto (pc := 46) C 56 dX7_ask_46 (by decide) ?_
  exact g_iret (pc := 56) C F dX7_ask_56 rfl rfl (rfl) (rfl)
set_option maxHeartbeats 2000000 in
set_option maxRecDepth 20000 in
theorem s7_ask1 {n : Nat} {h : q_H} {lf ld : Nat} {g : Nat} {x : mX} (h0 : h 0 = DO lf ld) (ht : h 28 = TX 29 g x) (hc : h 29 = TA x.1) {left gu so wa ea : Nat} {fk : Nat → Nat} (hK : h 85 = KO 86 left gu so wa ea) (hKb : h 86 = KA fk) (z : Nat) (hg : 0 < g ∧ g ≤ 6) (hz : z < g) (hso : 1 ≤ x.1 (0 + z) ∧ x.1 (0 + z) ≤ 5) : SP 7 yX7_ask cX7_ask 3 (some .int) [.ref 0, .int (nI z), .int (nI 1)] n h (some (.int (qI (mMk (x.1 (0 + z)) z (x.1 (6 + z)) (x.1 (18 + z)))))) (q_up (q_up (q_up h 85 (KO 86 0 z (x.1 (0 + z)) (x.1 (6 + z)) (x.1 (18 + z)))) 86 (KA (mTr fk 0 (mMkL (x.1 (0 + z)))))) 85 (KO 86 (mMkL (x.1 (0 + z))).length z (x.1 (0 + z)) (x.1 (6 + z)) (x.1 (18 + z)))) := by
  refine q_SPi RX7 rfl (by decide +kernel) (la := _) rfl rfl (fun Γ ad C F => ?_)
  refine g_aload_n (pc := 0) C (hl := rfl) dX7_ask_0 ?_
  refine g_get (pc := 1) C fl7_30 dX7_ask_1 h0 rfl ?_
  refine g_iload_n (pc := 4) C (hl := rfl) dX7_ask_4 ?_
  refine g_V1v (pc := 5) C lv7_163 dX7_ask_5 (s4_hasT z (ht) hg.2 hz) ht (by decide) (Nat.le_of_ble_eq_true rfl) ?_
  refine g_if_eqN (pc := 8) C 20 dX7_ask_8 (by decide) (by decide) (fun q => absurd q (by decide)) (fun _ => ?_)
  refine g_iload_n (pc := 11) C (hl := rfl) dX7_ask_11 ?_
  refine g_iconst (pc := 12) C qk_iconst_0 dX7_ask_12 ?_
  refine g_iconst (pc := 13) C qk_iconst_1 dX7_ask_13 ?_
  refine g_S3v (pc := 14) C ls7_59 dX7_ask_14 (s7_withinN 1 0 1 (by omega)) (by decide) (Nat.le_of_ble_eq_true rfl) ?_
  refine g_if_neN (pc := 17) C 23 dX7_ask_17 (by decide) (by decide) (fun _ => ?_) (fun q => absurd q (by decide))
  refine g_aload_n (pc := 23) C (hl := rfl) dX7_ask_23 ?_
  refine g_get (pc := 24) C fl7_51 dX7_ask_24 h0 rfl ?_
  refine g_aload_n (pc := 27) C (hl := rfl) dX7_ask_27 ?_
  refine g_get (pc := 28) C fl7_30 dX7_ask_28 h0 rfl ?_
  refine g_iload_n (pc := 31) C (hl := rfl) dX7_ask_31 ?_
  refine g_V2u (pc := 32) C lv7_239 dX7_ask_32 (s1_begin z (hK) (ht) (hc) (by omega)) hK (by decide) (Nat.le_of_ble_eq_true rfl) ?_
  refine g_iload_n (pc := 35) C (hl := rfl) dX7_ask_35 ?_
  refine g_if_neN (pc := 36) C 49 dX7_ask_36 (by decide) (by decide) (fun _ => ?_) (fun q => absurd q (by decide))
  refine g_aload_n (pc := 49) C (hl := rfl) dX7_ask_49 ?_
  refine g_get (pc := 50) C fl7_51 dX7_ask_50 ((q_up_n _ _ (by omega)).trans h0) rfl ?_
  refine g_V0v (pc := 53) C lv7_245 dX7_ask_53 (s1_markU ((q_up_s _ _ _)) (((q_up_n _ _ (by omega)).trans hKb)) hso) (q_up_s _ _ _) (by decide) (Nat.le_of_ble_eq_true rfl) ?_
  exact g_iret (pc := 56) C F dX7_ask_56 rfl rfl (rfl) (rfl)
