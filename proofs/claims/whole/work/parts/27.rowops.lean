theorem s7_withinF {n : Nat} {h : q_H} (x a b : Int32) (hq : x < a ∨ b < x) : SP 0 yX7_within cX7_within 3 (some .boolean) [.int x, .int a, .int b] n h (some (.int (nI 0))) h := by
  have q := s7_within (n := n) (h := h) x a b
  rw [if_pos hq] at q
  exact q
theorem s7_withinT {n : Nat} {h : q_H} (x a b : Int32) (hq : ¬ (x < a ∨ b < x)) : SP 0 yX7_within cX7_within 3 (some .boolean) [.int x, .int a, .int b] n h (some (.int (nI 1))) h := by
  have q := s7_within (n := n) (h := h) x a b
  rw [if_neg hq] at q
  exact q
theorem cRs_up {h h' : q_H} {R : Nat → aR} {i : Nat} {v : aR} (q : cRs h R) (e : ∀ a, 2 ≤ a → a ≤ 17 → a ≠ 2 + 2 * i → a ≠ 3 + 2 * i → h' a = h a) (k : cR h' i v) : cRs h' (va_up R i v) := by
  intro j hj
  by_cases hji : j = i
  · subst hji
    unfold va_up
    rw [if_pos rfl]
    exact k
  · unfold va_up
    rw [if_neg hji]
    exact cR_fr (e _ (by omega) (by omega) (by omega) (by omega)) (e _ (by omega) (by omega) (by omega) (by omega)) (q j hj)
def mNar (l : Nat) (v : Int32) : Int32 := if l = 0 then v.toInt8.toInt32 else if l = 1 then v.toInt16.toInt32 else v
theorem s3_store {n : Nat} {h : q_H} {r i len l : Nat} {f : Nat → Int32} (k : Nat) (v : Int32) (hr : h r = RO i (nI l) len) (hi : h i = RA f) (hk : k < 40) (hl : l < 3) : SP 0 yX3_store cX3_store 3 none [.ref r, .int (nI k), .int v] n h none (q_up h i (RA (va_up f k (mNar l v)))) := by
  unfold mNar
  by_cases h0 : l = 0
  · subst h0; rw [if_pos rfl]; exact s3_store0 k v hr hi hk
  · rw [if_neg h0]
    by_cases h1 : l = 1
    · subst h1; rw [if_pos rfl]; exact s3_store1 k v hr hi hk
    · rw [if_neg h1]
      obtain rfl : l = 2 := by omega
      exact s3_store2 k v hr hi hk
theorem nI_m1 {l : Nat} (h : l < 100) : ¬ nI l = -1 := q_nm1 (by omega)
set_option maxHeartbeats 2000000 in
set_option maxRecDepth 20000 in
theorem s7_rowB {n : Nat} {h : q_H} {lf ld : Nat} {fr : Nat → Option Nat} (x l k : Int32) (h0 : h 0 = DO lf ld) (ha : h 1 = RLs 8 fr) (hfr : ∀ i, i < 8 → fr i = some (2 + 2 * i)) (hb : (x < 0 ∨ nI 8 ≤ x) ∨ (l < nI 0 ∨ nI 2 < l) ∨ ¬ k ≤ nI 40) : SP 1 yX7_row cX7_row 5 (some .int) [.ref 0, .int x, .int l, .int k] n h (some (.int (-1000001))) h := by
  refine q_SPi RX7 rfl (by decide +kernel) (la := _) rfl rfl (fun Γ ad C F => ?_)
  refine g_aload_n (pc := 0) C (hl := rfl) dX7_row_0 ?_
  refine g_iload_n (pc := 1) C (hl := rfl) dX7_row_1 ?_
  by_cases cx : x < 0 ∨ nI 8 ≤ x
  · refine g_V1v (pc := 2) C lv7_55 dX7_row_2 (s7_rowAtO x (h0) (ha) cx) h0 (by decide) (Nat.le_of_ble_eq_true rfl) ?_
    refine g_astoreN (pc := 5) C rfl dX7_row_5 ?_
    refine g_aloadN (pc := 7) C (hl := rfl) dX7_row_7 ?_
    refine g_ifnullN (pc := 9) C 27 dX7_row_9 (by decide) ?_
    refine g_ldc (pc := 27) C (v := -1000001) zk7_63 dX7_row_27 ?_
    exact g_iret (pc := 29) C F dX7_row_29 rfl rfl (rfl) (rfl)
  · obtain ⟨jx, hjx, rfl⟩ := pk_inN (by decide) cx
    refine g_V1v (pc := 2) C lv7_55 dX7_row_2 (s7_rowAtI jx (h0) (ha) hfr hjx) h0 (by decide) (Nat.le_of_ble_eq_true rfl) ?_
    refine g_astore (pc := 5) C rfl dX7_row_5 ?_
    refine g_aload (pc := 7) C (hl := rfl) dX7_row_7 ?_
    refine g_ifnull (pc := 9) C dX7_row_9 ?_
    refine g_iload_n (pc := 12) C (hl := rfl) dX7_row_12 ?_
    refine g_iconst (pc := 13) C qk_iconst_0 dX7_row_13 ?_
    refine g_iconst (pc := 14) C qk_iconst_2 dX7_row_14 ?_
    by_cases cl : l < (nI 0) ∨ (nI 2) < l
    · refine g_S3v (pc := 15) C ls7_59 dX7_row_15 (s7_withinF l (nI 0) (nI 2) cl) (by decide) (Nat.le_of_ble_eq_true rfl) ?_
      refine g_if_eqN (pc := 18) C 27 dX7_row_18 (by decide) (by decide) (fun _ => ?_) (fun q => absurd q (by decide))
      refine g_ldc (pc := 27) C (v := -1000001) zk7_63 dX7_row_27 ?_
      exact g_iret (pc := 29) C F dX7_row_29 rfl rfl (rfl) (rfl)
    · refine g_S3v (pc := 15) C ls7_59 dX7_row_15 (s7_withinT l (nI 0) (nI 2) cl) (by decide) (Nat.le_of_ble_eq_true rfl) ?_
      refine g_if_eqN (pc := 18) C 27 dX7_row_18 (by decide) (by decide) (fun q => absurd q (by decide)) (fun _ => ?_)
      refine g_iload_n (pc := 21) C (hl := rfl) dX7_row_21 ?_
      refine g_bipush (pc := 22) C qk_bipush_40 dX7_row_22 ?_
      refine g_ic_le (pc := 24) C 30 dX7_row_24 (by decide) (fun c24 => ?_) (fun c24 => ?_)
      · exact absurd hb (fun z => z.elim cx (fun z => z.elim cl (fun z => z c24)))
      · refine g_ldc (pc := 27) C (v := -1000001) zk7_63 dX7_row_27 ?_
        exact g_iret (pc := 29) C F dX7_row_29 rfl rfl (rfl) (rfl)
set_option maxHeartbeats 2000000 in
set_option maxRecDepth 20000 in
theorem s7_rowM {n : Nat} {h : q_H} {lf ld : Nat} {fr : Nat → Option Nat} (x l : Nat) (k : Int32) (h0 : h 0 = DO lf ld) (ha : h 1 = RLs 8 fr) (hfr : ∀ i, i < 8 → fr i = some (2 + 2 * i)) (hx : x < 8) (hl : l < 3) (hk : k < 0) : SP 1 yX7_row cX7_row 5 (some .int) [.ref 0, .int (nI x), .int (nI l), .int k] n h (some (.int (-1000010 - nI 4))) (q_up h 0 (DO lf 4)) := by
  refine q_SPi RX7 rfl (by decide +kernel) (la := _) rfl rfl (fun Γ ad C F => ?_)
  refine g_aload_n (pc := 0) C (hl := rfl) dX7_row_0 ?_
  refine g_iload_n (pc := 1) C (hl := rfl) dX7_row_1 ?_
  refine g_V1v (pc := 2) C lv7_55 dX7_row_2 (s7_rowAtI x (h0) (ha) hfr hx) h0 (by decide) (Nat.le_of_ble_eq_true rfl) ?_
  refine g_astore (pc := 5) C rfl dX7_row_5 ?_
  refine g_aload (pc := 7) C (hl := rfl) dX7_row_7 ?_
  refine g_ifnull (pc := 9) C dX7_row_9 ?_
  refine g_iload_n (pc := 12) C (hl := rfl) dX7_row_12 ?_
  refine g_iconst (pc := 13) C qk_iconst_0 dX7_row_13 ?_
  refine g_iconst (pc := 14) C qk_iconst_2 dX7_row_14 ?_
  refine g_S3v (pc := 15) C ls7_59 dX7_row_15 (s7_withinN l 0 2 (by omega)) (by decide) (Nat.le_of_ble_eq_true rfl) ?_
  refine g_if_eqN (pc := 18) C 27 dX7_row_18 (by decide) (by decide) (fun q => absurd q (by decide)) (fun _ => ?_)
  refine g_iload_n (pc := 21) C (hl := rfl) dX7_row_21 ?_
  refine g_bipush (pc := 22) C qk_bipush_40 dX7_row_22 ?_
  refine g_ic_le (pc := 24) C 30 dX7_row_24 (by decide) (fun _ => ?_) (fun q => absurd (Int32.le_trans (Int32.le_of_lt hk) (by decide)) q)
  refine g_iload_n (pc := 30) C (hl := rfl) dX7_row_30 ?_
  refine g_if_ge (pc := 31) C 40 dX7_row_31 (by decide) (fun q => absurd q (Int32.not_le.mpr hk)) (fun _ => ?_)
  refine g_aload_n (pc := 34) C (hl := rfl) dX7_row_34 ?_
  refine g_iconst (pc := 35) C qk_iconst_4 dX7_row_35 ?_
  refine g_V1v (pc := 36) C lv7_64 dX7_row_36 (s7_found _ (h0)) h0 (by decide) (Nat.le_of_ble_eq_true rfl) ?_
  exact g_iret (pc := 39) C F dX7_row_39 rfl rfl (rfl) (rfl)
set_option maxHeartbeats 2000000 in
set_option maxRecDepth 20000 in
theorem s7_rowT {n : Nat} {h : q_H} {lf ld : Nat} {fr : Nat → Option Nat} (x l k : Nat) (h0 : h 0 = DO lf ld) (ha : h 1 = RLs 8 fr) (hfr : ∀ i, i < 8 → fr i = some (2 + 2 * i)) (hx : x < 8) (hl : l < 3) (hk : k ≤ 40) {lane : Int32} {len : Nat} {f : Nat → Int32} (hxr : h (2 + 2 * x) = RO (3 + 2 * x) lane len) (hxi : h (3 + 2 * x) = RA f) : SP 2 yX7_row cX7_row 5 (some .int) [.ref 0, .int (nI x), .int (nI l), .int (nI k)] n h (some (.int (nI k))) (q_up (q_up (q_up h (2 + 2 * x) (RO (3 + 2 * x) (nI l) k)) (3 + 2 * x) (RA fun _ => 0)) 0 (DO lf 0)) := by
  refine q_SPi RX7 rfl (by decide +kernel) (la := _) rfl rfl (fun Γ ad C F => ?_)
  refine g_aload_n (pc := 0) C (hl := rfl) dX7_row_0 ?_
  refine g_iload_n (pc := 1) C (hl := rfl) dX7_row_1 ?_
  refine g_V1v (pc := 2) C lv7_55 dX7_row_2 (s7_rowAtI x (h0) (ha) hfr hx) h0 (by decide) (Nat.le_of_ble_eq_true rfl) ?_
  refine g_astore (pc := 5) C rfl dX7_row_5 ?_
  refine g_aload (pc := 7) C (hl := rfl) dX7_row_7 ?_
  refine g_ifnull (pc := 9) C dX7_row_9 ?_
  refine g_iload_n (pc := 12) C (hl := rfl) dX7_row_12 ?_
  refine g_iconst (pc := 13) C qk_iconst_0 dX7_row_13 ?_
  refine g_iconst (pc := 14) C qk_iconst_2 dX7_row_14 ?_
  refine g_S3v (pc := 15) C ls7_59 dX7_row_15 (s7_withinN l 0 2 (by omega)) (by decide) (Nat.le_of_ble_eq_true rfl) ?_
  refine g_if_eqN (pc := 18) C 27 dX7_row_18 (by decide) (by decide) (fun q => absurd q (by decide)) (fun _ => ?_)
  refine g_iload_n (pc := 21) C (hl := rfl) dX7_row_21 ?_
  refine g_bipush (pc := 22) C qk_bipush_40 dX7_row_22 ?_
  refine g_ic_leN (pc := 24) C 30 dX7_row_24 (by decide) (by omega) (fun _ => ?_) (fun q => absurd (hk) q)
  refine g_iload_n (pc := 30) C (hl := rfl) dX7_row_30 ?_
  refine g_if_geN (pc := 31) C 40 dX7_row_31 (by decide) (by omega) ?_
  refine g_aload (pc := 40) C (hl := rfl) dX7_row_40 ?_
  refine g_iload_n (pc := 42) C (hl := rfl) dX7_row_42 ?_
  refine g_iload_n (pc := 43) C (hl := rfl) dX7_row_43 ?_
  refine g_V2u (pc := 44) C lv7_68 dX7_row_44 (s3_begin (nI l) k (hxr) (hxi) hk) hxr (by decide) (Nat.le_of_ble_eq_true rfl) ?_
  refine g_aload_n (pc := 47) C (hl := rfl) dX7_row_47 ?_
  refine g_iload_n (pc := 48) C (hl := rfl) dX7_row_48 ?_
  refine g_V1v (pc := 49) C lv7_72 dX7_row_49 (s7_fine _ (((q_up_n _ _ (by omega)).trans ((q_up_n _ _ (by omega)).trans h0)))) ((q_up_n _ _ (by omega)).trans ((q_up_n _ _ (by omega)).trans h0)) (by decide) (Nat.le_of_ble_eq_true rfl) ?_
  exact g_iret (pc := 52) C F dX7_row_52 rfl rfl (rfl) (rfl)
set_option maxHeartbeats 2000000 in
set_option maxRecDepth 20000 in
theorem s7_setB {n : Nat} {h : q_H} {lf ld : Nat} {fr : Nat → Option Nat} (x i v : Int32) (h0 : h 0 = DO lf ld) (ha : h 1 = RLs 8 fr) (hfr : ∀ i, i < 8 → fr i = some (2 + 2 * i)) (cx : x < 0 ∨ nI 8 ≤ x) : SP 1 yX7_set cX7_set 5 (some .int) [.ref 0, .int x, .int i, .int v] n h (some (.int (-1000001))) h := by
  refine q_SPi RX7 rfl (by decide +kernel) (la := _) rfl rfl (fun Γ ad C F => ?_)
  refine g_aload_n (pc := 0) C (hl := rfl) dX7_set_0 ?_
  refine g_iload_n (pc := 1) C (hl := rfl) dX7_set_1 ?_
  refine g_V1v (pc := 2) C lv7_55 dX7_set_2 (s7_rowAtO x (h0) (ha) cx) h0 (by decide) (Nat.le_of_ble_eq_true rfl) ?_
  refine g_astoreN (pc := 5) C rfl dX7_set_5 ?_
  refine g_aloadN (pc := 7) C (hl := rfl) dX7_set_7 ?_
  refine g_ifnonnullN (pc := 9) C dX7_set_9 ?_
  refine g_ldc (pc := 12) C (v := -1000001) zk7_63 dX7_set_12 ?_
  exact g_iret (pc := 14) C F dX7_set_14 rfl rfl (rfl) (rfl)
set_option maxHeartbeats 2000000 in
set_option maxRecDepth 20000 in
theorem s7_setM {n : Nat} {h : q_H} {lf ld : Nat} {fr : Nat → Option Nat} (x : Nat) (i v : Int32) (h0 : h 0 = DO lf ld) (ha : h 1 = RLs 8 fr) (hfr : ∀ i, i < 8 → fr i = some (2 + 2 * i)) (hx : x < 8) {lane : Int32} {len : Nat} {f : Nat → Int32} (hxr : h (2 + 2 * x) = RO (3 + 2 * x) lane len) (hxi : h (3 + 2 * x) = RA f) (hm : lane = -1) : SP 1 yX7_set cX7_set 5 (some .int) [.ref 0, .int (nI x), .int i, .int v] n h (some (.int (-1000010 - nI 1))) (q_up h 0 (DO lf 1)) := by
  refine q_SPi RX7 rfl (by decide +kernel) (la := _) rfl rfl (fun Γ ad C F => ?_)
  refine g_aload_n (pc := 0) C (hl := rfl) dX7_set_0 ?_
  refine g_iload_n (pc := 1) C (hl := rfl) dX7_set_1 ?_
  refine g_V1v (pc := 2) C lv7_55 dX7_set_2 (s7_rowAtI x (h0) (ha) hfr hx) h0 (by decide) (Nat.le_of_ble_eq_true rfl) ?_
  refine g_astore (pc := 5) C rfl dX7_set_5 ?_
  refine g_aload (pc := 7) C (hl := rfl) dX7_set_7 ?_
  refine g_ifnonnull (pc := 9) C 15 dX7_set_9 (by decide) ?_
  refine g_aload (pc := 15) C (hl := rfl) dX7_set_15 ?_
  refine g_V0v (pc := 17) C lv7_75 dX7_set_17 (s3_isMissing_t (hxr) hm) hxr (by decide) (Nat.le_of_ble_eq_true rfl) ?_
  refine g_if_eqN (pc := 20) C 29 dX7_set_20 (by decide) (by decide) (fun q => absurd q (by decide)) (fun _ => ?_)
  refine g_aload_n (pc := 23) C (hl := rfl) dX7_set_23 ?_
  refine g_iconst (pc := 24) C qk_iconst_1 dX7_set_24 ?_
  refine g_V1v (pc := 25) C lv7_64 dX7_set_25 (s7_found _ (h0)) h0 (by decide) (Nat.le_of_ble_eq_true rfl) ?_
  exact g_iret (pc := 28) C F dX7_set_28 rfl rfl (rfl) (rfl)
set_option maxHeartbeats 2000000 in
set_option maxRecDepth 20000 in
theorem s7_setP {n : Nat} {h : q_H} {lf ld : Nat} {fr : Nat → Option Nat} (x : Nat) (i v : Int32) (h0 : h 0 = DO lf ld) (ha : h 1 = RLs 8 fr) (hfr : ∀ i, i < 8 → fr i = some (2 + 2 * i)) (hx : x < 8) {lane : Int32} {len : Nat} {f : Nat → Int32} (hxr : h (2 + 2 * x) = RO (3 + 2 * x) lane len) (hxi : h (3 + 2 * x) = RA f) (hm : ¬ lane = -1) (hle : len ≤ 40) (hno : ∀ x z : Nat, i = nI x → nI 1 = nI z → x < 2147483648 → z < 2147483648 → ¬ x + z ≤ len) : SP 1 yX7_set cX7_set 5 (some .int) [.ref 0, .int (nI x), .int i, .int v] n h (some (.int (-1000010 - nI 2))) (q_up h 0 (DO lf 2)) := by
  refine q_SPi RX7 rfl (by decide +kernel) (la := _) rfl rfl (fun Γ ad C F => ?_)
  refine g_aload_n (pc := 0) C (hl := rfl) dX7_set_0 ?_
  refine g_iload_n (pc := 1) C (hl := rfl) dX7_set_1 ?_
  refine g_V1v (pc := 2) C lv7_55 dX7_set_2 (s7_rowAtI x (h0) (ha) hfr hx) h0 (by decide) (Nat.le_of_ble_eq_true rfl) ?_
  refine g_astore (pc := 5) C rfl dX7_set_5 ?_
  refine g_aload (pc := 7) C (hl := rfl) dX7_set_7 ?_
  refine g_ifnonnull (pc := 9) C 15 dX7_set_9 (by decide) ?_
  refine g_aload (pc := 15) C (hl := rfl) dX7_set_15 ?_
  refine g_V0v (pc := 17) C lv7_75 dX7_set_17 (s3_isMissing_f (hxr) hm) hxr (by decide) (Nat.le_of_ble_eq_true rfl) ?_
  refine g_if_eqN (pc := 20) C 29 dX7_set_20 (by decide) (by decide) (fun _ => ?_) (fun q => absurd q (by decide))
  refine g_aload (pc := 29) C (hl := rfl) dX7_set_29 ?_
  refine g_iload_n (pc := 31) C (hl := rfl) dX7_set_31 ?_
  refine g_iconst (pc := 32) C qk_iconst_1 dX7_set_32 ?_
  refine g_V2v (pc := 33) C lv7_79 dX7_set_33 (s3_hasNo i (nI 1) (hxr) hle hno) hxr (by decide) (Nat.le_of_ble_eq_true rfl) ?_
  refine g_if_neN (pc := 36) C 45 dX7_set_36 (by decide) (by decide) (fun q => absurd q (by decide)) (fun _ => ?_)
  refine g_aload_n (pc := 39) C (hl := rfl) dX7_set_39 ?_
  refine g_iconst (pc := 40) C qk_iconst_2 dX7_set_40 ?_
  refine g_V1v (pc := 41) C lv7_64 dX7_set_41 (s7_found _ (h0)) h0 (by decide) (Nat.le_of_ble_eq_true rfl) ?_
  exact g_iret (pc := 44) C F dX7_set_44 rfl rfl (rfl) (rfl)
set_option maxHeartbeats 2000000 in
set_option maxRecDepth 20000 in
theorem s7_setT {n : Nat} {h : q_H} {lf ld : Nat} {fr : Nat → Option Nat} (x i : Nat) (v : Int32) (h0 : h 0 = DO lf ld) (ha : h 1 = RLs 8 fr) (hfr : ∀ i, i < 8 → fr i = some (2 + 2 * i)) (hx : x < 8) {l len : Nat} {f : Nat → Int32} (hxr : h (2 + 2 * x) = RO (3 + 2 * x) (nI l) len) (hxi : h (3 + 2 * x) = RA f) (hm : ¬ nI l = -1) (hl : l < 3) (hle : len ≤ 40) (hi : i < len) : SP 1 yX7_set cX7_set 5 (some .int) [.ref 0, .int (nI x), .int (nI i), .int v] n h (some (.int (mNar l v))) (q_up (q_up h (3 + 2 * x) (RA (va_up f i (mNar l v)))) 0 (DO lf 0)) := by
  refine q_SPi RX7 rfl (by decide +kernel) (la := _) rfl rfl (fun Γ ad C F => ?_)
  refine g_aload_n (pc := 0) C (hl := rfl) dX7_set_0 ?_
  refine g_iload_n (pc := 1) C (hl := rfl) dX7_set_1 ?_
  refine g_V1v (pc := 2) C lv7_55 dX7_set_2 (s7_rowAtI x (h0) (ha) hfr hx) h0 (by decide) (Nat.le_of_ble_eq_true rfl) ?_
  refine g_astore (pc := 5) C rfl dX7_set_5 ?_
  refine g_aload (pc := 7) C (hl := rfl) dX7_set_7 ?_
  refine g_ifnonnull (pc := 9) C 15 dX7_set_9 (by decide) ?_
  refine g_aload (pc := 15) C (hl := rfl) dX7_set_15 ?_
  refine g_V0v (pc := 17) C lv7_75 dX7_set_17 (s3_isMissing_f (hxr) hm) hxr (by decide) (Nat.le_of_ble_eq_true rfl) ?_
  refine g_if_eqN (pc := 20) C 29 dX7_set_20 (by decide) (by decide) (fun _ => ?_) (fun q => absurd q (by decide))
  refine g_aload (pc := 29) C (hl := rfl) dX7_set_29 ?_
  refine g_iload_n (pc := 31) C (hl := rfl) dX7_set_31 ?_
  refine g_iconst (pc := 32) C qk_iconst_1 dX7_set_32 ?_
  refine g_V2v (pc := 33) C lv7_79 dX7_set_33 (s3_hasN i 1 (hxr) hle (by omega)) hxr (by decide) (Nat.le_of_ble_eq_true rfl) ?_
  refine g_if_neN (pc := 36) C 45 dX7_set_36 (by decide) (by decide) (fun _ => ?_) (fun q => absurd q (by decide))
  refine g_aload (pc := 45) C (hl := rfl) dX7_set_45 ?_
  refine g_iload_n (pc := 47) C (hl := rfl) dX7_set_47 ?_
  refine g_iload_n (pc := 48) C (hl := rfl) dX7_set_48 ?_
  refine g_V2u (pc := 49) C lv7_83 dX7_set_49 (s3_store i v (hxr) (hxi) (by omega) hl) hxr (by decide) (Nat.le_of_ble_eq_true rfl) ?_
  refine g_aload_n (pc := 52) C (hl := rfl) dX7_set_52 ?_
  refine g_aload (pc := 53) C (hl := rfl) dX7_set_53 ?_
  refine g_iload_n (pc := 55) C (hl := rfl) dX7_set_55 ?_
  refine g_V1v (pc := 56) C lv7_86 dX7_set_56 (s3_item i (((q_up_n _ _ (by omega)).trans hxr)) ((q_up_s _ _ _)) (by omega)) ((q_up_n _ _ (by omega)).trans hxr) (by decide) (Nat.le_of_ble_eq_true rfl) ?_
  refine g_V1v (pc := 59) C lv7_72 dX7_set_59 (s7_fine _ (((q_up_n _ _ (by omega)).trans h0))) ((q_up_n _ _ (by omega)).trans h0) (by decide) (Nat.le_of_ble_eq_true rfl) ?_
  exact g_iret (pc := 62) C F dX7_set_62 rfl rfl (by unfold va_up; rw [if_pos rfl]) (rfl)
set_option maxHeartbeats 2000000 in
set_option maxRecDepth 20000 in
theorem s7_dropB {n : Nat} {h : q_H} {lf ld : Nat} {fr : Nat → Option Nat} (x : Int32) (h0 : h 0 = DO lf ld) (ha : h 1 = RLs 8 fr) (hfr : ∀ i, i < 8 → fr i = some (2 + 2 * i)) (cx : x < 0 ∨ nI 8 ≤ x) : SP 1 yX7_drop cX7_drop 4 (some .int) [.ref 0, .int x] n h (some (.int (-1000001))) h := by
  refine q_SPi RX7 rfl (by decide +kernel) (la := _) rfl rfl (fun Γ ad C F => ?_)
  refine g_aload_n (pc := 0) C (hl := rfl) dX7_drop_0 ?_
  refine g_iload_n (pc := 1) C (hl := rfl) dX7_drop_1 ?_
  refine g_V1v (pc := 2) C lv7_55 dX7_drop_2 (s7_rowAtO x (h0) (ha) cx) h0 (by decide) (Nat.le_of_ble_eq_true rfl) ?_
  refine g_astore_nN (pc := 5) C rfl dX7_drop_5 ?_
  refine g_aload_nN (pc := 6) C (hl := rfl) dX7_drop_6 ?_
  refine g_ifnonnullN (pc := 7) C dX7_drop_7 ?_
  refine g_ldc (pc := 10) C (v := -1000001) zk7_63 dX7_drop_10 ?_
  exact g_iret (pc := 12) C F dX7_drop_12 rfl rfl (rfl) (rfl)
set_option maxHeartbeats 2000000 in
set_option maxRecDepth 20000 in
theorem s7_dropM {n : Nat} {h : q_H} {lf ld : Nat} {fr : Nat → Option Nat} (x : Nat) (h0 : h 0 = DO lf ld) (ha : h 1 = RLs 8 fr) (hfr : ∀ i, i < 8 → fr i = some (2 + 2 * i)) (hx : x < 8) {lane : Int32} {len : Nat} {f : Nat → Int32} (hxr : h (2 + 2 * x) = RO (3 + 2 * x) lane len) (hxi : h (3 + 2 * x) = RA f) (hm : lane = -1) : SP 1 yX7_drop cX7_drop 4 (some .int) [.ref 0, .int (nI x)] n h (some (.int (-1000010 - nI 1))) (q_up h 0 (DO lf 1)) := by
  refine q_SPi RX7 rfl (by decide +kernel) (la := _) rfl rfl (fun Γ ad C F => ?_)
  refine g_aload_n (pc := 0) C (hl := rfl) dX7_drop_0 ?_
  refine g_iload_n (pc := 1) C (hl := rfl) dX7_drop_1 ?_
  refine g_V1v (pc := 2) C lv7_55 dX7_drop_2 (s7_rowAtI x (h0) (ha) hfr hx) h0 (by decide) (Nat.le_of_ble_eq_true rfl) ?_
  refine g_astore_n (pc := 5) C rfl dX7_drop_5 ?_
  refine g_aload_n (pc := 6) C (hl := rfl) dX7_drop_6 ?_
  refine g_ifnonnull (pc := 7) C 13 dX7_drop_7 (by decide) ?_
  refine g_aload_n (pc := 13) C (hl := rfl) dX7_drop_13 ?_
  refine g_V0v (pc := 14) C lv7_75 dX7_drop_14 (s3_isMissing_t (hxr) hm) hxr (by decide) (Nat.le_of_ble_eq_true rfl) ?_
  refine g_if_eqN (pc := 17) C 26 dX7_drop_17 (by decide) (by decide) (fun q => absurd q (by decide)) (fun _ => ?_)
  refine g_aload_n (pc := 20) C (hl := rfl) dX7_drop_20 ?_
  refine g_iconst (pc := 21) C qk_iconst_1 dX7_drop_21 ?_
  refine g_V1v (pc := 22) C lv7_64 dX7_drop_22 (s7_found _ (h0)) h0 (by decide) (Nat.le_of_ble_eq_true rfl) ?_
  exact g_iret (pc := 25) C F dX7_drop_25 rfl rfl (rfl) (rfl)
set_option maxHeartbeats 2000000 in
set_option maxRecDepth 20000 in
theorem s7_dropT {n : Nat} {h : q_H} {lf ld : Nat} {fr : Nat → Option Nat} (x : Nat) (h0 : h 0 = DO lf ld) (ha : h 1 = RLs 8 fr) (hfr : ∀ i, i < 8 → fr i = some (2 + 2 * i)) (hx : x < 8) {lane : Int32} {len : Nat} {f : Nat → Int32} (hxr : h (2 + 2 * x) = RO (3 + 2 * x) lane len) (hxi : h (3 + 2 * x) = RA f) (hm : ¬ lane = -1) : SP 1 yX7_drop cX7_drop 4 (some .int) [.ref 0, .int (nI x)] n h (some (.int (nI len))) (q_up (q_up h (2 + 2 * x) (RO (3 + 2 * x) (-1) 0)) 0 (DO lf 0)) := by
  refine q_SPi RX7 rfl (by decide +kernel) (la := _) rfl rfl (fun Γ ad C F => ?_)
  refine g_aload_n (pc := 0) C (hl := rfl) dX7_drop_0 ?_
  refine g_iload_n (pc := 1) C (hl := rfl) dX7_drop_1 ?_
  refine g_V1v (pc := 2) C lv7_55 dX7_drop_2 (s7_rowAtI x (h0) (ha) hfr hx) h0 (by decide) (Nat.le_of_ble_eq_true rfl) ?_
  refine g_astore_n (pc := 5) C rfl dX7_drop_5 ?_
  refine g_aload_n (pc := 6) C (hl := rfl) dX7_drop_6 ?_
  refine g_ifnonnull (pc := 7) C 13 dX7_drop_7 (by decide) ?_
  refine g_aload_n (pc := 13) C (hl := rfl) dX7_drop_13 ?_
  refine g_V0v (pc := 14) C lv7_75 dX7_drop_14 (s3_isMissing_f (hxr) hm) hxr (by decide) (Nat.le_of_ble_eq_true rfl) ?_
  refine g_if_eqN (pc := 17) C 26 dX7_drop_17 (by decide) (by decide) (fun _ => ?_) (fun q => absurd q (by decide))
  refine g_aload_n (pc := 26) C (hl := rfl) dX7_drop_26 ?_
  refine g_get (pc := 27) C fl7_97 dX7_drop_27 hxr rfl ?_
  refine g_istore_n (pc := 30) C rfl dX7_drop_30 ?_
  refine g_aload_n (pc := 31) C (hl := rfl) dX7_drop_31 ?_
  refine g_V0u (pc := 32) C lv7_100 dX7_drop_32 (s3_end (hxr)) hxr (by decide) (Nat.le_of_ble_eq_true rfl) ?_
  refine g_aload_n (pc := 35) C (hl := rfl) dX7_drop_35 ?_
  refine g_iload_n (pc := 36) C (hl := rfl) dX7_drop_36 ?_
  refine g_V1v (pc := 37) C lv7_72 dX7_drop_37 (s7_fine _ (((q_up_n _ _ (by omega)).trans h0))) ((q_up_n _ _ (by omega)).trans h0) (by decide) (Nat.le_of_ble_eq_true rfl) ?_
  exact g_iret (pc := 40) C F dX7_drop_40 rfl rfl (rfl) (rfl)
set_option maxHeartbeats 2000000 in
set_option maxRecDepth 20000 in
theorem s7_copyB {n : Nat} {h : q_H} {lf ld : Nat} {fr : Nat → Option Nat} (x a y b c : Int32) (h0 : h 0 = DO lf ld) (ha : h 1 = RLs 8 fr) (hfr : ∀ i, i < 8 → fr i = some (2 + 2 * i)) (hb : (x < 0 ∨ nI 8 ≤ x) ∨ (y < 0 ∨ nI 8 ≤ y)) : SP 1 yX7_copy cX7_copy 8 (some .int) [.ref 0, .int x, .int a, .int y, .int b, .int c] n h (some (.int (-1000001))) h := by
  refine q_SPi RX7 rfl (by decide +kernel) (la := _) rfl rfl (fun Γ ad C F => ?_)
  refine g_aload_n (pc := 0) C (hl := rfl) dX7_copy_0 ?_
  refine g_iload_n (pc := 1) C (hl := rfl) dX7_copy_1 ?_
  by_cases cx : x < 0 ∨ nI 8 ≤ x
  · refine g_V1v (pc := 2) C lv7_55 dX7_copy_2 (s7_rowAtO x (h0) (ha) cx) h0 (by decide) (Nat.le_of_ble_eq_true rfl) ?_
    refine g_astoreN (pc := 5) C rfl dX7_copy_5 ?_
    refine g_aload_n (pc := 7) C (hl := rfl) dX7_copy_7 ?_
    refine g_iload_n (pc := 8) C (hl := rfl) dX7_copy_8 ?_
    by_cases cy : y < 0 ∨ nI 8 ≤ y
    · refine g_V1v (pc := 9) C lv7_55 dX7_copy_9 (s7_rowAtO y (h0) (ha) cy) h0 (by decide) (Nat.le_of_ble_eq_true rfl) ?_
      refine g_astoreN (pc := 12) C rfl dX7_copy_12 ?_
      refine g_aloadN (pc := 14) C (hl := rfl) dX7_copy_14 ?_
      refine g_ifnullN (pc := 16) C 24 dX7_copy_16 (by decide) ?_
      refine g_ldc (pc := 24) C (v := -1000001) zk7_63 dX7_copy_24 ?_
      exact g_iret (pc := 26) C F dX7_copy_26 rfl rfl (rfl) (rfl)
    · obtain ⟨jy, hjy, rfl⟩ := pk_inN (by decide) cy
      refine g_V1v (pc := 9) C lv7_55 dX7_copy_9 (s7_rowAtI jy (h0) (ha) hfr hjy) h0 (by decide) (Nat.le_of_ble_eq_true rfl) ?_
      refine g_astore (pc := 12) C rfl dX7_copy_12 ?_
      refine g_aloadN (pc := 14) C (hl := rfl) dX7_copy_14 ?_
      refine g_ifnullN (pc := 16) C 24 dX7_copy_16 (by decide) ?_
      refine g_ldc (pc := 24) C (v := -1000001) zk7_63 dX7_copy_24 ?_
      exact g_iret (pc := 26) C F dX7_copy_26 rfl rfl (rfl) (rfl)
  · obtain ⟨jx, hjx, rfl⟩ := pk_inN (by decide) cx
    refine g_V1v (pc := 2) C lv7_55 dX7_copy_2 (s7_rowAtI jx (h0) (ha) hfr hjx) h0 (by decide) (Nat.le_of_ble_eq_true rfl) ?_
    refine g_astore (pc := 5) C rfl dX7_copy_5 ?_
    refine g_aload_n (pc := 7) C (hl := rfl) dX7_copy_7 ?_
    refine g_iload_n (pc := 8) C (hl := rfl) dX7_copy_8 ?_
    by_cases cy : y < 0 ∨ nI 8 ≤ y
    · refine g_V1v (pc := 9) C lv7_55 dX7_copy_9 (s7_rowAtO y (h0) (ha) cy) h0 (by decide) (Nat.le_of_ble_eq_true rfl) ?_
      refine g_astoreN (pc := 12) C rfl dX7_copy_12 ?_
      refine g_aload (pc := 14) C (hl := rfl) dX7_copy_14 ?_
      refine g_ifnull (pc := 16) C dX7_copy_16 ?_
      refine g_aloadN (pc := 19) C (hl := rfl) dX7_copy_19 ?_
      refine g_ifnonnullN (pc := 21) C dX7_copy_21 ?_
      refine g_ldc (pc := 24) C (v := -1000001) zk7_63 dX7_copy_24 ?_
      exact g_iret (pc := 26) C F dX7_copy_26 rfl rfl (rfl) (rfl)
    · obtain ⟨jy, hjy, rfl⟩ := pk_inN (by decide) cy
      refine g_V1v (pc := 9) C lv7_55 dX7_copy_9 (s7_rowAtI jy (h0) (ha) hfr hjy) h0 (by decide) (Nat.le_of_ble_eq_true rfl) ?_
      refine g_astore (pc := 12) C rfl dX7_copy_12 ?_
      refine g_aload (pc := 14) C (hl := rfl) dX7_copy_14 ?_
      refine g_ifnull (pc := 16) C dX7_copy_16 ?_
      refine g_aload (pc := 19) C (hl := rfl) dX7_copy_19 ?_
      refine g_ifnonnull (pc := 21) C 27 dX7_copy_21 (by decide) ?_
      exact absurd hb (fun z => z.elim cx cy)
set_option maxHeartbeats 2000000 in
set_option maxRecDepth 20000 in
theorem s7_copyM {n : Nat} {h : q_H} {lf ld : Nat} {fr : Nat → Option Nat} (x y : Nat) (a b c : Int32) (h0 : h 0 = DO lf ld) (ha : h 1 = RLs 8 fr) (hfr : ∀ i, i < 8 → fr i = some (2 + 2 * i)) (hx : x < 8) (hy : y < 8) {lane : Int32} {len : Nat} {f : Nat → Int32} (hxr : h (2 + 2 * x) = RO (3 + 2 * x) lane len) (hxi : h (3 + 2 * x) = RA f) {lane2 : Int32} {len2 : Nat} {f2 : Nat → Int32} (hyr : h (2 + 2 * y) = RO (3 + 2 * y) lane2 len2) (hyi : h (3 + 2 * y) = RA f2) (hm : lane = -1 ∨ lane2 = -1) : SP 1 yX7_copy cX7_copy 8 (some .int) [.ref 0, .int (nI x), .int a, .int (nI y), .int b, .int c] n h (some (.int (-1000010 - nI 1))) (q_up h 0 (DO lf 1)) := by
  refine q_SPi RX7 rfl (by decide +kernel) (la := _) rfl rfl (fun Γ ad C F => ?_)
  refine g_aload_n (pc := 0) C (hl := rfl) dX7_copy_0 ?_
  refine g_iload_n (pc := 1) C (hl := rfl) dX7_copy_1 ?_
  refine g_V1v (pc := 2) C lv7_55 dX7_copy_2 (s7_rowAtI x (h0) (ha) hfr hx) h0 (by decide) (Nat.le_of_ble_eq_true rfl) ?_
  refine g_astore (pc := 5) C rfl dX7_copy_5 ?_
  refine g_aload_n (pc := 7) C (hl := rfl) dX7_copy_7 ?_
  refine g_iload_n (pc := 8) C (hl := rfl) dX7_copy_8 ?_
  refine g_V1v (pc := 9) C lv7_55 dX7_copy_9 (s7_rowAtI y (h0) (ha) hfr hy) h0 (by decide) (Nat.le_of_ble_eq_true rfl) ?_
  refine g_astore (pc := 12) C rfl dX7_copy_12 ?_
  refine g_aload (pc := 14) C (hl := rfl) dX7_copy_14 ?_
  refine g_ifnull (pc := 16) C dX7_copy_16 ?_
  refine g_aload (pc := 19) C (hl := rfl) dX7_copy_19 ?_
  refine g_ifnonnull (pc := 21) C 27 dX7_copy_21 (by decide) ?_
  refine g_aload (pc := 27) C (hl := rfl) dX7_copy_27 ?_
  by_cases cm : lane = -1
  · refine g_V0v (pc := 29) C lv7_75 dX7_copy_29 (s3_isMissing_t (hxr) cm) hxr (by decide) (Nat.le_of_ble_eq_true rfl) ?_
    refine g_if_neN (pc := 32) C 43 dX7_copy_32 (by decide) (by decide) (fun _ => ?_) (fun q => absurd q (by decide))
    refine g_aload_n (pc := 43) C (hl := rfl) dX7_copy_43 ?_
    refine g_iconst (pc := 44) C qk_iconst_1 dX7_copy_44 ?_
    refine g_V1v (pc := 45) C lv7_64 dX7_copy_45 (s7_found _ (h0)) h0 (by decide) (Nat.le_of_ble_eq_true rfl) ?_
    exact g_iret (pc := 48) C F dX7_copy_48 rfl rfl (rfl) (rfl)
  · refine g_V0v (pc := 29) C lv7_75 dX7_copy_29 (s3_isMissing_f (hxr) cm) hxr (by decide) (Nat.le_of_ble_eq_true rfl) ?_
    refine g_if_neN (pc := 32) C 43 dX7_copy_32 (by decide) (by decide) (fun q => absurd q (by decide)) (fun _ => ?_)
    refine g_aload (pc := 35) C (hl := rfl) dX7_copy_35 ?_
    refine g_V0v (pc := 37) C lv7_75 dX7_copy_37 (s3_isMissing_t (hyr) (hm.resolve_left cm)) hyr (by decide) (Nat.le_of_ble_eq_true rfl) ?_
    refine g_if_eqN (pc := 40) C 49 dX7_copy_40 (by decide) (by decide) (fun q => absurd q (by decide)) (fun _ => ?_)
    refine g_aload_n (pc := 43) C (hl := rfl) dX7_copy_43 ?_
    refine g_iconst (pc := 44) C qk_iconst_1 dX7_copy_44 ?_
    refine g_V1v (pc := 45) C lv7_64 dX7_copy_45 (s7_found _ (h0)) h0 (by decide) (Nat.le_of_ble_eq_true rfl) ?_
    exact g_iret (pc := 48) C F dX7_copy_48 rfl rfl (rfl) (rfl)
set_option maxHeartbeats 2000000 in
set_option maxRecDepth 20000 in
theorem s7_copyL {n : Nat} {h : q_H} {lf ld : Nat} {fr : Nat → Option Nat} (x y : Nat) (a b c : Int32) (h0 : h 0 = DO lf ld) (ha : h 1 = RLs 8 fr) (hfr : ∀ i, i < 8 → fr i = some (2 + 2 * i)) (hx : x < 8) (hy : y < 8) {lane : Int32} {len : Nat} {f : Nat → Int32} (hxr : h (2 + 2 * x) = RO (3 + 2 * x) lane len) (hxi : h (3 + 2 * x) = RA f) {lane2 : Int32} {len2 : Nat} {f2 : Nat → Int32} (hyr : h (2 + 2 * y) = RO (3 + 2 * y) lane2 len2) (hyi : h (3 + 2 * y) = RA f2) (hmx : ¬ lane = -1) (hmy : ¬ lane2 = -1) (hne : ¬ lane = lane2) : SP 1 yX7_copy cX7_copy 8 (some .int) [.ref 0, .int (nI x), .int a, .int (nI y), .int b, .int c] n h (some (.int (-1000010 - nI 5))) (q_up h 0 (DO lf 5)) := by
  refine q_SPi RX7 rfl (by decide +kernel) (la := _) rfl rfl (fun Γ ad C F => ?_)
  refine g_aload_n (pc := 0) C (hl := rfl) dX7_copy_0 ?_
  refine g_iload_n (pc := 1) C (hl := rfl) dX7_copy_1 ?_
  refine g_V1v (pc := 2) C lv7_55 dX7_copy_2 (s7_rowAtI x (h0) (ha) hfr hx) h0 (by decide) (Nat.le_of_ble_eq_true rfl) ?_
  refine g_astore (pc := 5) C rfl dX7_copy_5 ?_
  refine g_aload_n (pc := 7) C (hl := rfl) dX7_copy_7 ?_
  refine g_iload_n (pc := 8) C (hl := rfl) dX7_copy_8 ?_
  refine g_V1v (pc := 9) C lv7_55 dX7_copy_9 (s7_rowAtI y (h0) (ha) hfr hy) h0 (by decide) (Nat.le_of_ble_eq_true rfl) ?_
  refine g_astore (pc := 12) C rfl dX7_copy_12 ?_
  refine g_aload (pc := 14) C (hl := rfl) dX7_copy_14 ?_
  refine g_ifnull (pc := 16) C dX7_copy_16 ?_
  refine g_aload (pc := 19) C (hl := rfl) dX7_copy_19 ?_
  refine g_ifnonnull (pc := 21) C 27 dX7_copy_21 (by decide) ?_
  refine g_aload (pc := 27) C (hl := rfl) dX7_copy_27 ?_
  refine g_V0v (pc := 29) C lv7_75 dX7_copy_29 (s3_isMissing_f (hxr) hmx) hxr (by decide) (Nat.le_of_ble_eq_true rfl) ?_
  refine g_if_neN (pc := 32) C 43 dX7_copy_32 (by decide) (by decide) (fun q => absurd q (by decide)) (fun _ => ?_)
  refine g_aload (pc := 35) C (hl := rfl) dX7_copy_35 ?_
  refine g_V0v (pc := 37) C lv7_75 dX7_copy_37 (s3_isMissing_f (hyr) hmy) hyr (by decide) (Nat.le_of_ble_eq_true rfl) ?_
  refine g_if_eqN (pc := 40) C 49 dX7_copy_40 (by decide) (by decide) (fun _ => ?_) (fun q => absurd q (by decide))
  refine g_aload (pc := 49) C (hl := rfl) dX7_copy_49 ?_
  refine g_get (pc := 51) C fl7_89 dX7_copy_51 hxr rfl ?_
  refine g_aload (pc := 54) C (hl := rfl) dX7_copy_54 ?_
  refine g_get (pc := 56) C fl7_89 dX7_copy_56 hyr rfl ?_
  refine g_ic_eq (pc := 59) C 68 dX7_copy_59 (by decide) (fun q => absurd q (hne)) (fun _ => ?_)
  refine g_aload_n (pc := 62) C (hl := rfl) dX7_copy_62 ?_
  refine g_iconst (pc := 63) C qk_iconst_5 dX7_copy_63 ?_
  refine g_V1v (pc := 64) C lv7_64 dX7_copy_64 (s7_found _ (h0)) h0 (by decide) (Nat.le_of_ble_eq_true rfl) ?_
  exact g_iret (pc := 67) C F dX7_copy_67 rfl rfl (rfl) (rfl)
theorem s3_hasY {n : Nat} {h : q_H} {r i len : Nat} {lane : Int32} (a b : Int32) (hr : h r = RO i lane len) (hl : len ≤ 40) (hb : ¬ ∀ x z : Nat, a = nI x → b = nI z → x < 2147483648 → z < 2147483648 → ¬ x + z ≤ len) : SP 0 yX3_hasPlaces cX3_hasPlaces 3 (some .boolean) [.ref r, .int a, .int b] n h (some (.int (nI 1))) h := by
  have : ∃ x z : Nat, a = nI x ∧ b = nI z ∧ x + z ≤ len := Classical.byContradiction fun q => hb (fun x z e1 e2 _ _ q2 => q ⟨x, z, e1, e2, q2⟩)
  obtain ⟨x, z, rfl, rfl, hq⟩ := this
  exact s3_hasN x z hr hl hq
set_option maxHeartbeats 2000000 in
set_option maxRecDepth 20000 in
theorem s7_copyP {n : Nat} {h : q_H} {lf ld : Nat} {fr : Nat → Option Nat} (x y : Nat) (a b c : Int32) (h0 : h 0 = DO lf ld) (ha : h 1 = RLs 8 fr) (hfr : ∀ i, i < 8 → fr i = some (2 + 2 * i)) (hx : x < 8) (hy : y < 8) {lane : Int32} {len : Nat} {f : Nat → Int32} (hxr : h (2 + 2 * x) = RO (3 + 2 * x) lane len) (hxi : h (3 + 2 * x) = RA f) {lane2 : Int32} {len2 : Nat} {f2 : Nat → Int32} (hyr : h (2 + 2 * y) = RO (3 + 2 * y) lane2 len2) (hyi : h (3 + 2 * y) = RA f2) (hmx : ¬ lane = -1) (hmy : ¬ lane2 = -1) (he : lane = lane2) (hle : len ≤ 40 ∧ len2 ≤ 40) (hno : (∀ p z : Nat, a = nI p → c = nI z → p < 2147483648 → z < 2147483648 → ¬ p + z ≤ len) ∨ (∀ p z : Nat, b = nI p → c = nI z → p < 2147483648 → z < 2147483648 → ¬ p + z ≤ len2)) : SP 1 yX7_copy cX7_copy 8 (some .int) [.ref 0, .int (nI x), .int a, .int (nI y), .int b, .int c] n h (some (.int (-1000010 - nI 2))) (q_up h 0 (DO lf 2)) := by
  refine q_SPi RX7 rfl (by decide +kernel) (la := _) rfl rfl (fun Γ ad C F => ?_)
  refine g_aload_n (pc := 0) C (hl := rfl) dX7_copy_0 ?_
  refine g_iload_n (pc := 1) C (hl := rfl) dX7_copy_1 ?_
  refine g_V1v (pc := 2) C lv7_55 dX7_copy_2 (s7_rowAtI x (h0) (ha) hfr hx) h0 (by decide) (Nat.le_of_ble_eq_true rfl) ?_
  refine g_astore (pc := 5) C rfl dX7_copy_5 ?_
  refine g_aload_n (pc := 7) C (hl := rfl) dX7_copy_7 ?_
  refine g_iload_n (pc := 8) C (hl := rfl) dX7_copy_8 ?_
  refine g_V1v (pc := 9) C lv7_55 dX7_copy_9 (s7_rowAtI y (h0) (ha) hfr hy) h0 (by decide) (Nat.le_of_ble_eq_true rfl) ?_
  refine g_astore (pc := 12) C rfl dX7_copy_12 ?_
  refine g_aload (pc := 14) C (hl := rfl) dX7_copy_14 ?_
  refine g_ifnull (pc := 16) C dX7_copy_16 ?_
  refine g_aload (pc := 19) C (hl := rfl) dX7_copy_19 ?_
  refine g_ifnonnull (pc := 21) C 27 dX7_copy_21 (by decide) ?_
  refine g_aload (pc := 27) C (hl := rfl) dX7_copy_27 ?_
  refine g_V0v (pc := 29) C lv7_75 dX7_copy_29 (s3_isMissing_f (hxr) hmx) hxr (by decide) (Nat.le_of_ble_eq_true rfl) ?_
  refine g_if_neN (pc := 32) C 43 dX7_copy_32 (by decide) (by decide) (fun q => absurd q (by decide)) (fun _ => ?_)
  refine g_aload (pc := 35) C (hl := rfl) dX7_copy_35 ?_
  refine g_V0v (pc := 37) C lv7_75 dX7_copy_37 (s3_isMissing_f (hyr) hmy) hyr (by decide) (Nat.le_of_ble_eq_true rfl) ?_
  refine g_if_eqN (pc := 40) C 49 dX7_copy_40 (by decide) (by decide) (fun _ => ?_) (fun q => absurd q (by decide))
  refine g_aload (pc := 49) C (hl := rfl) dX7_copy_49 ?_
  refine g_get (pc := 51) C fl7_89 dX7_copy_51 hxr rfl ?_
  refine g_aload (pc := 54) C (hl := rfl) dX7_copy_54 ?_
  refine g_get (pc := 56) C fl7_89 dX7_copy_56 hyr rfl ?_
  refine g_ic_eq (pc := 59) C 68 dX7_copy_59 (by decide) (fun _ => ?_) (fun q => absurd (he) q)
  refine g_aload (pc := 68) C (hl := rfl) dX7_copy_68 ?_
  refine g_iload_n (pc := 70) C (hl := rfl) dX7_copy_70 ?_
  refine g_iload (pc := 71) C (hl := rfl) dX7_copy_71 ?_
  by_cases ch : ∀ p z : Nat, a = nI p → c = nI z → p < 2147483648 → z < 2147483648 → ¬ p + z ≤ len
  · refine g_V2v (pc := 73) C lv7_79 dX7_copy_73 (s3_hasNo a c (hxr) hle.1 ch) hxr (by decide) (Nat.le_of_ble_eq_true rfl) ?_
    refine g_if_eqN (pc := 76) C 91 dX7_copy_76 (by decide) (by decide) (fun _ => ?_) (fun q => absurd q (by decide))
    refine g_aload_n (pc := 91) C (hl := rfl) dX7_copy_91 ?_
    refine g_iconst (pc := 92) C qk_iconst_2 dX7_copy_92 ?_
    refine g_V1v (pc := 93) C lv7_64 dX7_copy_93 (s7_found _ (h0)) h0 (by decide) (Nat.le_of_ble_eq_true rfl) ?_
    exact g_iret (pc := 96) C F dX7_copy_96 rfl rfl (rfl) (rfl)
  · refine g_V2v (pc := 73) C lv7_79 dX7_copy_73 (s3_hasY a c (hxr) hle.1 ch) hxr (by decide) (Nat.le_of_ble_eq_true rfl) ?_
    refine g_if_eqN (pc := 76) C 91 dX7_copy_76 (by decide) (by decide) (fun q => absurd q (by decide)) (fun _ => ?_)
    refine g_aload (pc := 79) C (hl := rfl) dX7_copy_79 ?_
    refine g_iload (pc := 81) C (hl := rfl) dX7_copy_81 ?_
    refine g_iload (pc := 83) C (hl := rfl) dX7_copy_83 ?_
    refine g_V2v (pc := 85) C lv7_79 dX7_copy_85 (s3_hasNo b c (hyr) hle.2 (hno.resolve_left ch)) hyr (by decide) (Nat.le_of_ble_eq_true rfl) ?_
    refine g_if_neN (pc := 88) C 97 dX7_copy_88 (by decide) (by decide) (fun q => absurd q (by decide)) (fun _ => ?_)
    refine g_aload_n (pc := 91) C (hl := rfl) dX7_copy_91 ?_
    refine g_iconst (pc := 92) C qk_iconst_2 dX7_copy_92 ?_
    refine g_V1v (pc := 93) C lv7_64 dX7_copy_93 (s7_found _ (h0)) h0 (by decide) (Nat.le_of_ble_eq_true rfl) ?_
    exact g_iret (pc := 96) C F dX7_copy_96 rfl rfl (rfl) (rfl)
set_option maxHeartbeats 2000000 in
set_option maxRecDepth 20000 in
theorem s7_copyT {n : Nat} {h : q_H} {lf ld : Nat} {fr : Nat → Option Nat} (x y a b c : Nat) (h0 : h 0 = DO lf ld) (ha : h 1 = RLs 8 fr) (hfr : ∀ i, i < 8 → fr i = some (2 + 2 * i)) (hx : x < 8) (hy : y < 8) {lane : Int32} {len : Nat} {f : Nat → Int32} (hxr : h (2 + 2 * x) = RO (3 + 2 * x) lane len) (hxi : h (3 + 2 * x) = RA f) {lane2 : Int32} {len2 : Nat} {f2 : Nat → Int32} (hyr : h (2 + 2 * y) = RO (3 + 2 * y) lane2 len2) (hyi : h (3 + 2 * y) = RA f2) (hmx : ¬ lane = -1) (hmy : ¬ lane2 = -1) (he : lane = lane2) (hle : len ≤ 40 ∧ len2 ≤ 40) (hab : a + c ≤ len ∧ b + c ≤ len2) : SP 2 yX7_copy cX7_copy 8 (some .int) [.ref 0, .int (nI x), .int (nI a), .int (nI y), .int (nI b), .int (nI c)] n h (some (.int (nI c))) (q_up (q_up h (3 + 2 * y) (RA fun k => if b ≤ k ∧ k < b + c then f (a + (k - b)) else f2 k)) 0 (DO lf 0)) := by
  refine q_SPi RX7 rfl (by decide +kernel) (la := _) rfl rfl (fun Γ ad C F => ?_)
  refine g_aload_n (pc := 0) C (hl := rfl) dX7_copy_0 ?_
  refine g_iload_n (pc := 1) C (hl := rfl) dX7_copy_1 ?_
  refine g_V1v (pc := 2) C lv7_55 dX7_copy_2 (s7_rowAtI x (h0) (ha) hfr hx) h0 (by decide) (Nat.le_of_ble_eq_true rfl) ?_
  refine g_astore (pc := 5) C rfl dX7_copy_5 ?_
  refine g_aload_n (pc := 7) C (hl := rfl) dX7_copy_7 ?_
  refine g_iload_n (pc := 8) C (hl := rfl) dX7_copy_8 ?_
  refine g_V1v (pc := 9) C lv7_55 dX7_copy_9 (s7_rowAtI y (h0) (ha) hfr hy) h0 (by decide) (Nat.le_of_ble_eq_true rfl) ?_
  refine g_astore (pc := 12) C rfl dX7_copy_12 ?_
  refine g_aload (pc := 14) C (hl := rfl) dX7_copy_14 ?_
  refine g_ifnull (pc := 16) C dX7_copy_16 ?_
  refine g_aload (pc := 19) C (hl := rfl) dX7_copy_19 ?_
  refine g_ifnonnull (pc := 21) C 27 dX7_copy_21 (by decide) ?_
  refine g_aload (pc := 27) C (hl := rfl) dX7_copy_27 ?_
  refine g_V0v (pc := 29) C lv7_75 dX7_copy_29 (s3_isMissing_f (hxr) hmx) hxr (by decide) (Nat.le_of_ble_eq_true rfl) ?_
  refine g_if_neN (pc := 32) C 43 dX7_copy_32 (by decide) (by decide) (fun q => absurd q (by decide)) (fun _ => ?_)
  refine g_aload (pc := 35) C (hl := rfl) dX7_copy_35 ?_
  refine g_V0v (pc := 37) C lv7_75 dX7_copy_37 (s3_isMissing_f (hyr) hmy) hyr (by decide) (Nat.le_of_ble_eq_true rfl) ?_
  refine g_if_eqN (pc := 40) C 49 dX7_copy_40 (by decide) (by decide) (fun _ => ?_) (fun q => absurd q (by decide))
  refine g_aload (pc := 49) C (hl := rfl) dX7_copy_49 ?_
  refine g_get (pc := 51) C fl7_89 dX7_copy_51 hxr rfl ?_
  refine g_aload (pc := 54) C (hl := rfl) dX7_copy_54 ?_
  refine g_get (pc := 56) C fl7_89 dX7_copy_56 hyr rfl ?_
  refine g_ic_eq (pc := 59) C 68 dX7_copy_59 (by decide) (fun _ => ?_) (fun q => absurd (he) q)
  refine g_aload (pc := 68) C (hl := rfl) dX7_copy_68 ?_
  refine g_iload_n (pc := 70) C (hl := rfl) dX7_copy_70 ?_
  refine g_iload (pc := 71) C (hl := rfl) dX7_copy_71 ?_
  refine g_V2v (pc := 73) C lv7_79 dX7_copy_73 (s3_hasN a c (hxr) hle.1 (by omega)) hxr (by decide) (Nat.le_of_ble_eq_true rfl) ?_
  refine g_if_eqN (pc := 76) C 91 dX7_copy_76 (by decide) (by decide) (fun q => absurd q (by decide)) (fun _ => ?_)
  refine g_aload (pc := 79) C (hl := rfl) dX7_copy_79 ?_
  refine g_iload (pc := 81) C (hl := rfl) dX7_copy_81 ?_
  refine g_iload (pc := 83) C (hl := rfl) dX7_copy_83 ?_
  refine g_V2v (pc := 85) C lv7_79 dX7_copy_85 (s3_hasN b c (hyr) hle.2 (by omega)) hyr (by decide) (Nat.le_of_ble_eq_true rfl) ?_
  refine g_if_neN (pc := 88) C 97 dX7_copy_88 (by decide) (by decide) (fun _ => ?_) (fun q => absurd q (by decide))
  refine g_aload (pc := 97) C (hl := rfl) dX7_copy_97 ?_
  refine g_aload (pc := 99) C (hl := rfl) dX7_copy_99 ?_
  refine g_iload_n (pc := 101) C (hl := rfl) dX7_copy_101 ?_
  refine g_iload (pc := 102) C (hl := rfl) dX7_copy_102 ?_
  refine g_iload (pc := 104) C (hl := rfl) dX7_copy_104 ?_
  refine g_V4u (pc := 106) C lv7_93 dX7_copy_106 (s3_take a b c (hyr) (hyi) (hxr) (hxi) (by omega)) hyr (by decide) (Nat.le_of_ble_eq_true rfl) ?_
  refine g_aload_n (pc := 109) C (hl := rfl) dX7_copy_109 ?_
  refine g_iload (pc := 110) C (hl := rfl) dX7_copy_110 ?_
  refine g_V1v (pc := 112) C lv7_72 dX7_copy_112 (s7_fine _ (((q_up_n _ _ (by omega)).trans h0))) ((q_up_n _ _ (by omega)).trans h0) (by decide) (Nat.le_of_ble_eq_true rfl) ?_
  exact g_iret (pc := 115) C F dX7_copy_115 rfl rfl (rfl) (rfl)
