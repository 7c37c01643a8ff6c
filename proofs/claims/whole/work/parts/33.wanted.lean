set_option maxHeartbeats 2000000 in
set_option maxRecDepth 20000 in
theorem s7_laidB {n : Nat} {h : q_H} {lf ld : Nat} {g : Nat} {x : mX} (h0 : h 0 = DO lf ld) (ht : h 28 = TX 29 g x) (hc : h 29 = TA x.1) (y z : Int32) (hg : 0 < g ∧ g ≤ 6) (hb : (y < nI 1 ∨ nI 20 < y) ∨ (¬ z = -1 ∧ (z < 0 ∨ nI g ≤ z))) : SP 1 yX7_laid cX7_laid 4 (some .int) [.ref 0, .int y, .int z] n h (some (.int (-1000001))) h := by
  refine q_SPi RX7 rfl (by decide +kernel) (la := _) rfl rfl (fun Γ ad C F => ?_)
  refine g_aload_n (pc := 0) C (hl := rfl) dX7_laid_0 ?_
  refine g_get (pc := 1) C fl7_30 dX7_laid_1 h0 rfl ?_
  refine g_V0v (pc := 4) C lv7_144 dX7_laid_4 (s4_standsT (ht) hg) ht (by decide) (Nat.le_of_ble_eq_true rfl) ?_
  refine g_if_neN (pc := 7) C 13 dX7_laid_7 (by decide) (by decide) (fun _ => ?_) (fun q => absurd q (by decide))
  refine g_iload_n (pc := 13) C (hl := rfl) dX7_laid_13 ?_
  refine g_iconst (pc := 14) C qk_iconst_1 dX7_laid_14 ?_
  refine g_bipush (pc := 15) C qk_bipush_20 dX7_laid_15 ?_
  by_cases cy : y < (nI 1) ∨ (nI 20) < y
  · refine g_S3v (pc := 17) C ls7_59 dX7_laid_17 (s7_withinF y (nI 1) (nI 20) cy) (by decide) (Nat.le_of_ble_eq_true rfl) ?_
    refine g_if_eqN (pc := 20) C 39 dX7_laid_20 (by decide) (by decide) (fun _ => ?_) (fun q => absurd q (by decide))
    refine g_ldc (pc := 39) C (v := -1000001) zk7_63 dX7_laid_39 ?_
    exact g_iret (pc := 41) C F dX7_laid_41 rfl rfl (rfl) (rfl)
  · refine g_S3v (pc := 17) C ls7_59 dX7_laid_17 (s7_withinT y (nI 1) (nI 20) cy) (by decide) (Nat.le_of_ble_eq_true rfl) ?_
    refine g_if_eqN (pc := 20) C 39 dX7_laid_20 (by decide) (by decide) (fun q => absurd q (by decide)) (fun _ => ?_)
    refine g_iload_n (pc := 23) C (hl := rfl) dX7_laid_23 ?_
    refine g_iconst (pc := 24) C qk_iconst_m1 dX7_laid_24 ?_
    refine g_ic_eq (pc := 25) C 42 dX7_laid_25 (by decide) (fun c25 => ?_) (fun c25 => ?_)
    · exact absurd hb (fun t => t.elim cy (fun t => t.2.elim (fun e => by first | exact t.1 c25 | exact cz (Or.inl e)) (fun e => by first | exact t.1 c25 | exact cz (Or.inr e))))
    · refine g_aload_n (pc := 28) C (hl := rfl) dX7_laid_28 ?_
      refine g_get (pc := 29) C fl7_30 dX7_laid_29 h0 rfl ?_
      refine g_iload_n (pc := 32) C (hl := rfl) dX7_laid_32 ?_
      by_cases cz : z < 0 ∨ nI g ≤ z
      · refine g_V1v (pc := 33) C lv7_163 dX7_laid_33 (s4_hasF z (ht) cz) ht (by decide) (Nat.le_of_ble_eq_true rfl) ?_
        refine g_if_neN (pc := 36) C 42 dX7_laid_36 (by decide) (by decide) (fun q => absurd q (by decide)) (fun _ => ?_)
        refine g_ldc (pc := 39) C (v := -1000001) zk7_63 dX7_laid_39 ?_
        exact g_iret (pc := 41) C F dX7_laid_41 rfl rfl (rfl) (rfl)
      · refine g_V1v (pc := 33) C lv7_163 dX7_laid_33 (s4_hasU z (ht) cz) ht (by decide) (Nat.le_of_ble_eq_true rfl) ?_
        refine g_if_neN (pc := 36) C 42 dX7_laid_36 (by decide) (by decide) (fun _ => ?_) (fun q => absurd q (by decide))
        exact absurd hb (fun t => t.elim cy (fun t => t.2.elim (fun e => by first | exact t.1 c25 | exact cz (Or.inl e)) (fun e => by first | exact t.1 c25 | exact cz (Or.inr e))))
set_option maxHeartbeats 2000000 in
set_option maxRecDepth 20000 in
theorem s7_laidA {n : Nat} {h : q_H} {lf ld : Nat} {g : Nat} {x : mX} (h0 : h 0 = DO lf ld) (ht : h 28 = TX 29 g x) (hc : h 29 = TA x.1) (M : Nat) (z : Int32) {g2 : Nat} {x2 : mX} (hw : h 80 = FO 81 83 84) (hl : h 81 = TX 82 g2 x2) (hlc : h 82 = TA x2.1) {f0 : Nat → Nat} {b : List Nat} {PP : List Nat → Prop} (hs : h 83 = SA f0) (hbs : h 84 = SA (mOf b)) (hP : ∀ l, PP l → (∀ k, k < 6 → mOf l k < 6) ∧ mPm g (mOf l)) (hS : ∀ l l', PP l → mNl g l = some l' → PP l') (hl0 : PP [0, 1, 2, 3, 4, 5]) (hv : mW g x) (hm : x.2.2.1 ≤ 999) (hg : 0 < g ∧ g ≤ 6) (hM : 1 ≤ M ∧ M ≤ 20) (hz : z = -1) : SP 6 yX7_laid cX7_laid 4 (some .int) [.ref 0, .int (nI M), .int z] n h (some (.int (nI (mFb g M x 1000000 1000000 [0, 1, 2, 3, 4, 5] b x2).1))) (q_up (q_up (q_up (q_up h 83 (SA (mOf (mFb g M x 1000000 1000000 [0, 1, 2, 3, 4, 5] b x2).2.1))) 84 (SA (mOf (mFb g M x 1000000 1000000 [0, 1, 2, 3, 4, 5] b x2).2.2.1))) 82 (TA (mFb g M x 1000000 1000000 [0, 1, 2, 3, 4, 5] b x2).2.2.2.1)) 81 (TX 82 g (mFb g M x 1000000 1000000 [0, 1, 2, 3, 4, 5] b x2).2.2.2)) := by
  refine q_SPi RX7 rfl (by decide +kernel) (la := _) rfl rfl (fun Γ ad C F => ?_)
  refine g_aload_n (pc := 0) C (hl := rfl) dX7_laid_0 ?_
  refine g_get (pc := 1) C fl7_30 dX7_laid_1 h0 rfl ?_
  refine g_V0v (pc := 4) C lv7_144 dX7_laid_4 (s4_standsT (ht) hg) ht (by decide) (Nat.le_of_ble_eq_true rfl) ?_
  refine g_if_neN (pc := 7) C 13 dX7_laid_7 (by decide) (by decide) (fun _ => ?_) (fun q => absurd q (by decide))
  refine g_iload_n (pc := 13) C (hl := rfl) dX7_laid_13 ?_
  refine g_iconst (pc := 14) C qk_iconst_1 dX7_laid_14 ?_
  refine g_bipush (pc := 15) C qk_bipush_20 dX7_laid_15 ?_
  refine g_S3v (pc := 17) C ls7_59 dX7_laid_17 (s7_withinN M 1 20 (by omega)) (by decide) (Nat.le_of_ble_eq_true rfl) ?_
  refine g_if_eqN (pc := 20) C 39 dX7_laid_20 (by decide) (by decide) (fun q => absurd q (by decide)) (fun _ => ?_)
  refine g_iload_n (pc := 23) C (hl := rfl) dX7_laid_23 ?_
  refine g_iconst (pc := 24) C qk_iconst_m1 dX7_laid_24 ?_
  refine g_ic_eq (pc := 25) C 42 dX7_laid_25 (by decide) (fun _ => ?_) (fun q => absurd (hz) q)
  refine g_aload_n (pc := 42) C (hl := rfl) dX7_laid_42 ?_
  refine g_get (pc := 43) C fl7_44 dX7_laid_43 h0 rfl ?_
  refine g_aload_n (pc := 46) C (hl := rfl) dX7_laid_46 ?_
  refine g_get (pc := 47) C fl7_30 dX7_laid_47 h0 rfl ?_
  refine g_iload_n (pc := 50) C (hl := rfl) dX7_laid_50 ?_
  refine g_V2v (pc := 51) C lv7_218 dX7_laid_51 (s2_fb (x := x2) (xu := x) (PP := PP) M b (hw) (hl) (hlc) (hs) (hbs) (ht) (hc) (by decide) (by decide) (by decide) (by decide) (by decide) (by decide) (by decide) hv (by omega) (by omega) hP hS hl0) hw (by decide) (Nat.le_of_ble_eq_true rfl) ?_
  refine g_istore_n (pc := 54) C rfl dX7_laid_54 ?_
  refine g_iload_n (pc := 55) C (hl := rfl) dX7_laid_55 ?_
  refine g_iconst (pc := 56) C qk_iconst_m1 dX7_laid_56 ?_
  refine g_ic_ne (pc := 57) C 64 dX7_laid_57 (by decide) (fun q => absurd q (fun e => e hz)) (fun _ => ?_)
  refine g_iload_n (pc := 60) C (hl := rfl) dX7_laid_60 ?_
  refine g_goto (pc := 61) C 72 dX7_laid_61 (by decide) ?_
  exact g_iret (pc := 72) C F dX7_laid_72 rfl rfl (rfl) (rfl)
set_option maxHeartbeats 2000000 in
set_option maxRecDepth 20000 in
theorem s7_laidS {n : Nat} {h : q_H} {lf ld : Nat} {g : Nat} {x : mX} (h0 : h 0 = DO lf ld) (ht : h 28 = TX 29 g x) (hc : h 29 = TA x.1) (M z : Nat) {g2 : Nat} {x2 : mX} (hw : h 80 = FO 81 83 84) (hl : h 81 = TX 82 g2 x2) (hlc : h 82 = TA x2.1) {f0 : Nat → Nat} {b : List Nat} {PP : List Nat → Prop} (hs : h 83 = SA f0) (hbs : h 84 = SA (mOf b)) (hP : ∀ l, PP l → (∀ k, k < 6 → mOf l k < 6) ∧ mPm g (mOf l)) (hS : ∀ l l', PP l → mNl g l = some l' → PP l') (hl0 : PP [0, 1, 2, 3, 4, 5]) (hv : mW g x) (hm : x.2.2.1 ≤ 999) (hg : 0 < g ∧ g ≤ 6) (hM : 1 ≤ M ∧ M ≤ 20) (hz : z < g) : SP 6 yX7_laid cX7_laid 4 (some .int) [.ref 0, .int (nI M), .int (nI z)] n h (some (.int (nI (mOf (mFb g M x 1000000 1000000 [0, 1, 2, 3, 4, 5] b x2).2.2.1 z)))) (q_up (q_up (q_up (q_up h 83 (SA (mOf (mFb g M x 1000000 1000000 [0, 1, 2, 3, 4, 5] b x2).2.1))) 84 (SA (mOf (mFb g M x 1000000 1000000 [0, 1, 2, 3, 4, 5] b x2).2.2.1))) 82 (TA (mFb g M x 1000000 1000000 [0, 1, 2, 3, 4, 5] b x2).2.2.2.1)) 81 (TX 82 g (mFb g M x 1000000 1000000 [0, 1, 2, 3, 4, 5] b x2).2.2.2)) := by
  refine q_SPi RX7 rfl (by decide +kernel) (la := _) rfl rfl (fun Γ ad C F => ?_)
  refine g_aload_n (pc := 0) C (hl := rfl) dX7_laid_0 ?_
  refine g_get (pc := 1) C fl7_30 dX7_laid_1 h0 rfl ?_
  refine g_V0v (pc := 4) C lv7_144 dX7_laid_4 (s4_standsT (ht) hg) ht (by decide) (Nat.le_of_ble_eq_true rfl) ?_
  refine g_if_neN (pc := 7) C 13 dX7_laid_7 (by decide) (by decide) (fun _ => ?_) (fun q => absurd q (by decide))
  refine g_iload_n (pc := 13) C (hl := rfl) dX7_laid_13 ?_
  refine g_iconst (pc := 14) C qk_iconst_1 dX7_laid_14 ?_
  refine g_bipush (pc := 15) C qk_bipush_20 dX7_laid_15 ?_
  refine g_S3v (pc := 17) C ls7_59 dX7_laid_17 (s7_withinN M 1 20 (by omega)) (by decide) (Nat.le_of_ble_eq_true rfl) ?_
  refine g_if_eqN (pc := 20) C 39 dX7_laid_20 (by decide) (by decide) (fun q => absurd q (by decide)) (fun _ => ?_)
  refine g_iload_n (pc := 23) C (hl := rfl) dX7_laid_23 ?_
  refine g_iconst (pc := 24) C qk_iconst_m1 dX7_laid_24 ?_
  refine g_ic_eq (pc := 25) C 42 dX7_laid_25 (by decide) (fun q => absurd q (q_nm1 (by omega))) (fun _ => ?_)
  refine g_aload_n (pc := 28) C (hl := rfl) dX7_laid_28 ?_
  refine g_get (pc := 29) C fl7_30 dX7_laid_29 h0 rfl ?_
  refine g_iload_n (pc := 32) C (hl := rfl) dX7_laid_32 ?_
  refine g_V1v (pc := 33) C lv7_163 dX7_laid_33 (s4_hasT z (ht) hg.2 hz) ht (by decide) (Nat.le_of_ble_eq_true rfl) ?_
  refine g_if_neN (pc := 36) C 42 dX7_laid_36 (by decide) (by decide) (fun _ => ?_) (fun q => absurd q (by decide))
  refine g_aload_n (pc := 42) C (hl := rfl) dX7_laid_42 ?_
  refine g_get (pc := 43) C fl7_44 dX7_laid_43 h0 rfl ?_
  refine g_aload_n (pc := 46) C (hl := rfl) dX7_laid_46 ?_
  refine g_get (pc := 47) C fl7_30 dX7_laid_47 h0 rfl ?_
  refine g_iload_n (pc := 50) C (hl := rfl) dX7_laid_50 ?_
  refine g_V2v (pc := 51) C lv7_218 dX7_laid_51 (s2_fb (x := x2) (xu := x) (PP := PP) M b (hw) (hl) (hlc) (hs) (hbs) (ht) (hc) (by decide) (by decide) (by decide) (by decide) (by decide) (by decide) (by decide) hv (by omega) (by omega) hP hS hl0) hw (by decide) (Nat.le_of_ble_eq_true rfl) ?_
  refine g_istore_n (pc := 54) C rfl dX7_laid_54 ?_
  refine g_iload_n (pc := 55) C (hl := rfl) dX7_laid_55 ?_
  refine g_iconst (pc := 56) C qk_iconst_m1 dX7_laid_56 ?_
  refine g_ic_ne (pc := 57) C 64 dX7_laid_57 (by decide) (fun _ => ?_) (fun q => absurd q (q_nm1 (by omega)))
  refine g_aload_n (pc := 64) C (hl := rfl) dX7_laid_64 ?_
  refine g_get (pc := 65) C fl7_44 dX7_laid_65 ((q_up_n _ _ (by omega)).trans ((q_up_n _ _ (by omega)).trans ((q_up_n _ _ (by omega)).trans ((q_up_n _ _ (by omega)).trans h0)))) rfl ?_
  refine g_iload_n (pc := 68) C (hl := rfl) dX7_laid_68 ?_
  refine g_V1v (pc := 69) C lv7_221 dX7_laid_69 (s2_bs z (((q_up_n _ _ (by omega)).trans ((q_up_n _ _ (by omega)).trans ((q_up_n _ _ (by omega)).trans ((q_up_n _ _ (by omega)).trans hw))))) (((q_up_n _ _ (by omega)).trans ((q_up_n _ _ (by omega)).trans (q_up_s _ _ _)))) (by omega)) ((q_up_n _ _ (by omega)).trans ((q_up_n _ _ (by omega)).trans ((q_up_n _ _ (by omega)).trans ((q_up_n _ _ (by omega)).trans hw)))) (by decide) (Nat.le_of_ble_eq_true rfl) ?_
  exact g_iret (pc := 72) C F dX7_laid_72 rfl rfl (rfl) (rfl)
set_option maxHeartbeats 2000000 in
set_option maxRecDepth 20000 in
theorem s7_wantedB {n : Nat} {h : q_H} {lf ld : Nat} {fr : Nat → Option Nat} {g : Nat} {x : mX} (y z q p : Int32) (h0 : h 0 = DO lf ld) (ha : h 1 = RLs 8 fr) (hfr : ∀ i, i < 8 → fr i = some (2 + 2 * i)) (ht : h 28 = TX 29 g x) (hc : h 29 = TA x.1) (hb : (q < 0 ∨ nI 8 ≤ q) ∨ (y < 0 ∨ nI g ≤ y) ∨ (z < nI 0 ∨ nI 99 < z)) : SP 1 yX7_wanted cX7_wanted 6 (some .int) [.ref 0, .int y, .int z, .int q, .int p] n h (some (.int (-1000001))) h := by
  refine q_SPi RX7 rfl (by decide +kernel) (la := _) rfl rfl (fun Γ ad C F => ?_)
  refine g_aload_n (pc := 0) C (hl := rfl) dX7_wanted_0 ?_
  refine g_iload_n (pc := 1) C (hl := rfl) dX7_wanted_1 ?_
  by_cases cq : q < 0 ∨ nI 8 ≤ q
  · refine g_V1v (pc := 2) C lv7_55 dX7_wanted_2 (s7_rowAtO q (h0) (ha) cq) h0 (by decide) (Nat.le_of_ble_eq_true rfl) ?_
    refine g_astoreN (pc := 5) C rfl dX7_wanted_5 ?_
    refine g_aloadN (pc := 7) C (hl := rfl) dX7_wanted_7 ?_
    refine g_ifnullN (pc := 9) C 33 dX7_wanted_9 (by decide) ?_
    refine g_ldc (pc := 33) C (v := -1000001) zk7_63 dX7_wanted_33 ?_
    exact g_iret (pc := 35) C F dX7_wanted_35 rfl rfl (rfl) (rfl)
  · obtain ⟨jq, hjq, rfl⟩ := pk_inN (by decide) cq
    refine g_V1v (pc := 2) C lv7_55 dX7_wanted_2 (s7_rowAtI jq (h0) (ha) hfr hjq) h0 (by decide) (Nat.le_of_ble_eq_true rfl) ?_
    refine g_astore (pc := 5) C rfl dX7_wanted_5 ?_
    refine g_aload (pc := 7) C (hl := rfl) dX7_wanted_7 ?_
    refine g_ifnull (pc := 9) C dX7_wanted_9 ?_
    refine g_aload_n (pc := 12) C (hl := rfl) dX7_wanted_12 ?_
    refine g_get (pc := 13) C fl7_30 dX7_wanted_13 h0 rfl ?_
    refine g_iload_n (pc := 16) C (hl := rfl) dX7_wanted_16 ?_
    by_cases cy : y < 0 ∨ nI g ≤ y
    · refine g_V1v (pc := 17) C lv7_163 dX7_wanted_17 (s4_hasF y (ht) cy) ht (by decide) (Nat.le_of_ble_eq_true rfl) ?_
      refine g_if_eqN (pc := 20) C 33 dX7_wanted_20 (by decide) (by decide) (fun _ => ?_) (fun q => absurd q (by decide))
      refine g_ldc (pc := 33) C (v := -1000001) zk7_63 dX7_wanted_33 ?_
      exact g_iret (pc := 35) C F dX7_wanted_35 rfl rfl (rfl) (rfl)
    · refine g_V1v (pc := 17) C lv7_163 dX7_wanted_17 (s4_hasU y (ht) cy) ht (by decide) (Nat.le_of_ble_eq_true rfl) ?_
      refine g_if_eqN (pc := 20) C 33 dX7_wanted_20 (by decide) (by decide) (fun q => absurd q (by decide)) (fun _ => ?_)
      refine g_iload_n (pc := 23) C (hl := rfl) dX7_wanted_23 ?_
      refine g_iconst (pc := 24) C qk_iconst_0 dX7_wanted_24 ?_
      refine g_bipush (pc := 25) C qk_bipush_99 dX7_wanted_25 ?_
      by_cases cz : z < (nI 0) ∨ (nI 99) < z
      · refine g_S3v (pc := 27) C ls7_59 dX7_wanted_27 (s7_withinF z (nI 0) (nI 99) cz) (by decide) (Nat.le_of_ble_eq_true rfl) ?_
        refine g_if_neN (pc := 30) C 36 dX7_wanted_30 (by decide) (by decide) (fun q => absurd q (by decide)) (fun _ => ?_)
        refine g_ldc (pc := 33) C (v := -1000001) zk7_63 dX7_wanted_33 ?_
        exact g_iret (pc := 35) C F dX7_wanted_35 rfl rfl (rfl) (rfl)
      · refine g_S3v (pc := 27) C ls7_59 dX7_wanted_27 (s7_withinT z (nI 0) (nI 99) cz) (by decide) (Nat.le_of_ble_eq_true rfl) ?_
        refine g_if_neN (pc := 30) C 36 dX7_wanted_30 (by decide) (by decide) (fun _ => ?_) (fun q => absurd q (by decide))
        exact absurd hb (fun t => t.elim cq (fun t => t.elim cy cz))
set_option maxHeartbeats 2000000 in
set_option maxRecDepth 20000 in
theorem s7_wantedM {n : Nat} {h : q_H} {lf ld : Nat} {fr : Nat → Option Nat} {g : Nat} {x : mX} (y N i : Nat) (p : Int32) (h0 : h 0 = DO lf ld) (ha : h 1 = RLs 8 fr) (hfr : ∀ i, i < 8 → fr i = some (2 + 2 * i)) (ht : h 28 = TX 29 g x) (hc : h 29 = TA x.1) (hg : 0 < g ∧ g ≤ 6) (hy : y < g) (hN : N ≤ 99) (hi : i < 8) {lane : Int32} {len : Nat} {f : Nat → Int32} (hrr : h (2 + 2 * i) = RO (3 + 2 * i) lane len) (hri : h (3 + 2 * i) = RA f) (hm : lane = -1) : SP 1 yX7_wanted cX7_wanted 6 (some .int) [.ref 0, .int (nI y), .int (nI N), .int (nI i), .int p] n h (some (.int (-1000010 - nI 1))) (q_up h 0 (DO lf 1)) := by
  refine q_SPi RX7 rfl (by decide +kernel) (la := _) rfl rfl (fun Γ ad C F => ?_)
  refine g_aload_n (pc := 0) C (hl := rfl) dX7_wanted_0 ?_
  refine g_iload_n (pc := 1) C (hl := rfl) dX7_wanted_1 ?_
  refine g_V1v (pc := 2) C lv7_55 dX7_wanted_2 (s7_rowAtI i (h0) (ha) hfr hi) h0 (by decide) (Nat.le_of_ble_eq_true rfl) ?_
  refine g_astore (pc := 5) C rfl dX7_wanted_5 ?_
  refine g_aload (pc := 7) C (hl := rfl) dX7_wanted_7 ?_
  refine g_ifnull (pc := 9) C dX7_wanted_9 ?_
  refine g_aload_n (pc := 12) C (hl := rfl) dX7_wanted_12 ?_
  refine g_get (pc := 13) C fl7_30 dX7_wanted_13 h0 rfl ?_
  refine g_iload_n (pc := 16) C (hl := rfl) dX7_wanted_16 ?_
  refine g_V1v (pc := 17) C lv7_163 dX7_wanted_17 (s4_hasT y (ht) hg.2 hy) ht (by decide) (Nat.le_of_ble_eq_true rfl) ?_
  refine g_if_eqN (pc := 20) C 33 dX7_wanted_20 (by decide) (by decide) (fun q => absurd q (by decide)) (fun _ => ?_)
  refine g_iload_n (pc := 23) C (hl := rfl) dX7_wanted_23 ?_
  refine g_iconst (pc := 24) C qk_iconst_0 dX7_wanted_24 ?_
  refine g_bipush (pc := 25) C qk_bipush_99 dX7_wanted_25 ?_
  refine g_S3v (pc := 27) C ls7_59 dX7_wanted_27 (s7_withinN N 0 99 (by omega)) (by decide) (Nat.le_of_ble_eq_true rfl) ?_
  refine g_if_neN (pc := 30) C 36 dX7_wanted_30 (by decide) (by decide) (fun _ => ?_) (fun q => absurd q (by decide))
  refine g_aload (pc := 36) C (hl := rfl) dX7_wanted_36 ?_
  refine g_V0v (pc := 38) C lv7_75 dX7_wanted_38 (s3_isMissing_t hrr hm) hrr (by decide) (Nat.le_of_ble_eq_true rfl) ?_
  refine g_if_eqN (pc := 41) C 50 dX7_wanted_41 (by decide) (by decide) (fun q => absurd q (by decide)) (fun _ => ?_)
  refine g_aload_n (pc := 44) C (hl := rfl) dX7_wanted_44 ?_
  refine g_iconst (pc := 45) C qk_iconst_1 dX7_wanted_45 ?_
  refine g_V1v (pc := 46) C lv7_64 dX7_wanted_46 (s7_found _ (h0)) h0 (by decide) (Nat.le_of_ble_eq_true rfl) ?_
  exact g_iret (pc := 49) C F dX7_wanted_49 rfl rfl (rfl) (rfl)
set_option maxHeartbeats 2000000 in
set_option maxRecDepth 20000 in
theorem s7_wantedP {n : Nat} {h : q_H} {lf ld : Nat} {fr : Nat → Option Nat} {g : Nat} {x : mX} (y N i : Nat) (p : Int32) (h0 : h 0 = DO lf ld) (ha : h 1 = RLs 8 fr) (hfr : ∀ i, i < 8 → fr i = some (2 + 2 * i)) (ht : h 28 = TX 29 g x) (hc : h 29 = TA x.1) (hg : 0 < g ∧ g ≤ 6) (hy : y < g) (hN : N ≤ 99) (hi : i < 8) {lane : Int32} {len : Nat} {f : Nat → Int32} (hrr : h (2 + 2 * i) = RO (3 + 2 * i) lane len) (hri : h (3 + 2 * i) = RA f) (hm : ¬ lane = -1) (hle : len ≤ 40) (hno : ∀ x z : Nat, p = nI x → nI g = nI z → x < 2147483648 → z < 2147483648 → ¬ x + z ≤ len) : SP 1 yX7_wanted cX7_wanted 6 (some .int) [.ref 0, .int (nI y), .int (nI N), .int (nI i), .int p] n h (some (.int (-1000010 - nI 2))) (q_up h 0 (DO lf 2)) := by
  refine q_SPi RX7 rfl (by decide +kernel) (la := _) rfl rfl (fun Γ ad C F => ?_)
  refine g_aload_n (pc := 0) C (hl := rfl) dX7_wanted_0 ?_
  refine g_iload_n (pc := 1) C (hl := rfl) dX7_wanted_1 ?_
  refine g_V1v (pc := 2) C lv7_55 dX7_wanted_2 (s7_rowAtI i (h0) (ha) hfr hi) h0 (by decide) (Nat.le_of_ble_eq_true rfl) ?_
  refine g_astore (pc := 5) C rfl dX7_wanted_5 ?_
  refine g_aload (pc := 7) C (hl := rfl) dX7_wanted_7 ?_
  refine g_ifnull (pc := 9) C dX7_wanted_9 ?_
  refine g_aload_n (pc := 12) C (hl := rfl) dX7_wanted_12 ?_
  refine g_get (pc := 13) C fl7_30 dX7_wanted_13 h0 rfl ?_
  refine g_iload_n (pc := 16) C (hl := rfl) dX7_wanted_16 ?_
  refine g_V1v (pc := 17) C lv7_163 dX7_wanted_17 (s4_hasT y (ht) hg.2 hy) ht (by decide) (Nat.le_of_ble_eq_true rfl) ?_
  refine g_if_eqN (pc := 20) C 33 dX7_wanted_20 (by decide) (by decide) (fun q => absurd q (by decide)) (fun _ => ?_)
  refine g_iload_n (pc := 23) C (hl := rfl) dX7_wanted_23 ?_
  refine g_iconst (pc := 24) C qk_iconst_0 dX7_wanted_24 ?_
  refine g_bipush (pc := 25) C qk_bipush_99 dX7_wanted_25 ?_
  refine g_S3v (pc := 27) C ls7_59 dX7_wanted_27 (s7_withinN N 0 99 (by omega)) (by decide) (Nat.le_of_ble_eq_true rfl) ?_
  refine g_if_neN (pc := 30) C 36 dX7_wanted_30 (by decide) (by decide) (fun _ => ?_) (fun q => absurd q (by decide))
  refine g_aload (pc := 36) C (hl := rfl) dX7_wanted_36 ?_
  refine g_V0v (pc := 38) C lv7_75 dX7_wanted_38 (s3_isMissing_f hrr hm) hrr (by decide) (Nat.le_of_ble_eq_true rfl) ?_
  refine g_if_eqN (pc := 41) C 50 dX7_wanted_41 (by decide) (by decide) (fun _ => ?_) (fun q => absurd q (by decide))
  refine g_aload (pc := 50) C (hl := rfl) dX7_wanted_50 ?_
  refine g_iload (pc := 52) C (hl := rfl) dX7_wanted_52 ?_
  refine g_aload_n (pc := 54) C (hl := rfl) dX7_wanted_54 ?_
  refine g_get (pc := 55) C fl7_30 dX7_wanted_55 h0 rfl ?_
  refine g_get (pc := 58) C fl7_141 dX7_wanted_58 ht rfl ?_
  refine g_V2v (pc := 61) C lv7_79 dX7_wanted_61 (s3_hasNo p (nI g) hrr hle hno) hrr (by decide) (Nat.le_of_ble_eq_true rfl) ?_
  refine g_if_neN (pc := 64) C 73 dX7_wanted_64 (by decide) (by decide) (fun q => absurd q (by decide)) (fun _ => ?_)
  refine g_aload_n (pc := 67) C (hl := rfl) dX7_wanted_67 ?_
  refine g_iconst (pc := 68) C qk_iconst_2 dX7_wanted_68 ?_
  refine g_V1v (pc := 69) C lv7_64 dX7_wanted_69 (s7_found _ (h0)) h0 (by decide) (Nat.le_of_ble_eq_true rfl) ?_
  exact g_iret (pc := 72) C F dX7_wanted_72 rfl rfl (rfl) (rfl)
set_option maxHeartbeats 2000000 in
set_option maxRecDepth 20000 in
theorem s7_wantedT {n : Nat} {h : q_H} {lf ld : Nat} {fr : Nat → Option Nat} {g : Nat} {x : mX} (y N i : Nat) (p : Nat) (h0 : h 0 = DO lf ld) (ha : h 1 = RLs 8 fr) (hfr : ∀ i, i < 8 → fr i = some (2 + 2 * i)) (ht : h 28 = TX 29 g x) (hc : h 29 = TA x.1) (hg : 0 < g ∧ g ≤ 6) (hy : y < g) (hN : N ≤ 99) (hi : i < 8) {lane : Int32} {len : Nat} {f : Nat → Int32} (hrr : h (2 + 2 * i) = RO (3 + 2 * i) lane len) (hri : h (3 + 2 * i) = RA f) (hml : ¬ lane = -1) (hle : len ≤ 40) (hp : p + g ≤ len) {g2 : Nat} {x2 : mX} (hw : h 80 = FO 81 83 84) (hl : h 81 = TX 82 g2 x2) (hlc : h 82 = TA x2.1) (hv : mW g x) (hm : x.2.2.1 ≤ 999) : SP 7 yX7_wanted cX7_wanted 6 (some .int) [.ref 0, .int (nI y), .int (nI N), .int (nI i), .int (nI p)] n h (some (.int (nI (mBits (mWP g N y p f x x2) g)))) (q_up (q_up (q_up h 82 (TA (mWt g N y x x2 g).1)) 81 (TX 82 g (mWt g N y x x2 g))) 0 (DO lf 0)) := by
  refine q_SPi RX7 rfl (by decide +kernel) (la := _) rfl rfl (fun Γ ad C F => ?_)
  refine g_aload_n (pc := 0) C (hl := rfl) dX7_wanted_0 ?_
  refine g_iload_n (pc := 1) C (hl := rfl) dX7_wanted_1 ?_
  refine g_V1v (pc := 2) C lv7_55 dX7_wanted_2 (s7_rowAtI i (h0) (ha) hfr hi) h0 (by decide) (Nat.le_of_ble_eq_true rfl) ?_
  refine g_astore (pc := 5) C rfl dX7_wanted_5 ?_
  refine g_aload (pc := 7) C (hl := rfl) dX7_wanted_7 ?_
  refine g_ifnull (pc := 9) C dX7_wanted_9 ?_
  refine g_aload_n (pc := 12) C (hl := rfl) dX7_wanted_12 ?_
  refine g_get (pc := 13) C fl7_30 dX7_wanted_13 h0 rfl ?_
  refine g_iload_n (pc := 16) C (hl := rfl) dX7_wanted_16 ?_
  refine g_V1v (pc := 17) C lv7_163 dX7_wanted_17 (s4_hasT y (ht) hg.2 hy) ht (by decide) (Nat.le_of_ble_eq_true rfl) ?_
  refine g_if_eqN (pc := 20) C 33 dX7_wanted_20 (by decide) (by decide) (fun q => absurd q (by decide)) (fun _ => ?_)
  refine g_iload_n (pc := 23) C (hl := rfl) dX7_wanted_23 ?_
  refine g_iconst (pc := 24) C qk_iconst_0 dX7_wanted_24 ?_
  refine g_bipush (pc := 25) C qk_bipush_99 dX7_wanted_25 ?_
  refine g_S3v (pc := 27) C ls7_59 dX7_wanted_27 (s7_withinN N 0 99 (by omega)) (by decide) (Nat.le_of_ble_eq_true rfl) ?_
  refine g_if_neN (pc := 30) C 36 dX7_wanted_30 (by decide) (by decide) (fun _ => ?_) (fun q => absurd q (by decide))
  refine g_aload (pc := 36) C (hl := rfl) dX7_wanted_36 ?_
  refine g_V0v (pc := 38) C lv7_75 dX7_wanted_38 (s3_isMissing_f hrr hml) hrr (by decide) (Nat.le_of_ble_eq_true rfl) ?_
  refine g_if_eqN (pc := 41) C 50 dX7_wanted_41 (by decide) (by decide) (fun _ => ?_) (fun q => absurd q (by decide))
  refine g_aload (pc := 50) C (hl := rfl) dX7_wanted_50 ?_
  refine g_iload (pc := 52) C (hl := rfl) dX7_wanted_52 ?_
  refine g_aload_n (pc := 54) C (hl := rfl) dX7_wanted_54 ?_
  refine g_get (pc := 55) C fl7_30 dX7_wanted_55 h0 rfl ?_
  refine g_get (pc := 58) C fl7_141 dX7_wanted_58 ht rfl ?_
  refine g_V2v (pc := 61) C lv7_79 dX7_wanted_61 (s3_hasN p g hrr hle (by omega)) hrr (by decide) (Nat.le_of_ble_eq_true rfl) ?_
  refine g_if_neN (pc := 64) C 73 dX7_wanted_64 (by decide) (by decide) (fun _ => ?_) (fun q => absurd q (by decide))
  refine g_aload_n (pc := 73) C (hl := rfl) dX7_wanted_73 ?_
  refine g_aload_n (pc := 74) C (hl := rfl) dX7_wanted_74 ?_
  refine g_get (pc := 75) C fl7_44 dX7_wanted_75 h0 rfl ?_
  refine g_aload_n (pc := 78) C (hl := rfl) dX7_wanted_78 ?_
  refine g_get (pc := 79) C fl7_30 dX7_wanted_79 h0 rfl ?_
  refine g_iload_n (pc := 82) C (hl := rfl) dX7_wanted_82 ?_
  refine g_iload_n (pc := 83) C (hl := rfl) dX7_wanted_83 ?_
  refine g_aload (pc := 84) C (hl := rfl) dX7_wanted_84 ?_
  refine g_iload (pc := 86) C (hl := rfl) dX7_wanted_86 ?_
  refine g_V5v (pc := 88) C lv7_224 dX7_wanted_88 (s2_want (x := x2) (xu := x) y N p (hw) (hl) (hlc) (ht) (hc) (hrr) (hri) (by decide) (by decide) hv hy (by omega) (by omega) (by omega) (by omega) (by omega)) hw (by decide) (Nat.le_of_ble_eq_true rfl) ?_
  refine g_V1v (pc := 91) C lv7_72 dX7_wanted_91 (s7_fine _ (((q_up_n _ _ (by omega)).trans ((q_up_n _ _ (by omega)).trans h0)))) ((q_up_n _ _ (by omega)).trans ((q_up_n _ _ (by omega)).trans h0)) (by decide) (Nat.le_of_ble_eq_true rfl) ?_
  exact g_iret (pc := 94) C F dX7_wanted_94 rfl rfl (rfl) (rfl)
