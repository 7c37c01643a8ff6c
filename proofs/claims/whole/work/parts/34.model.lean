abbrev MO (un ta fl st sa ne so di pu at_ er en pa tr : Nat) : q_E := .inr (.inr (8, [.ref 88, .int (nI un), .ref 89, .int (nI ta), .int (nI fl), .int (nI st), .ref 90, .ref 91, .ref 92, .ref 93, .int (nI sa), .int (nI ne), .int (nI so), .int (nI di), .int (nI pu), .int (nI at_), .int (nI er), .int (nI en), .int (nI pa), .ref 94, .ref 95, .int (nI tr)]))
abbrev WA (W : Nat → Nat) : q_E := .inl (0, 1131, qN W)
theorem lg_lt {x z : Int64} : lg_cmp x z < 0 ↔ x < z := by
  unfold lg_cmp
  by_cases h : z < x
  · rw [if_pos h]
    exact ⟨fun q => absurd q (by decide), fun q => absurd (Int64.lt_trans h q) Int64.lt_irrefl⟩
  · rw [if_neg h]
    by_cases h2 : x = z
    · rw [if_pos h2]
      exact ⟨fun q => absurd q (by decide), fun q => absurd (h2 ▸ q) Int64.lt_irrefl⟩
    · rw [if_neg h2]
      exact ⟨fun _ => (Int64.lt_or_lt_of_ne h2).resolve_right h, fun _ => by decide⟩
theorem lg_gt {x z : Int64} : 0 < lg_cmp x z ↔ z < x := by
  unfold lg_cmp
  by_cases h : z < x
  · rw [if_pos h]
    exact ⟨fun _ => h, fun _ => by decide⟩
  · rw [if_neg h]
    by_cases h2 : x = z
    · rw [if_pos h2]
      exact ⟨fun q => absurd q (by decide), fun q => absurd q h⟩
    · rw [if_neg h2]
      exact ⟨fun q => absurd q (by decide), fun q => absurd q h⟩
theorem i64_lt {a b : Int32} : a.toInt64 < b.toInt64 ↔ a < b := by
  rw [Int64.lt_iff_toInt_lt, Int32.lt_iff_toInt_lt, Int32.toInt_toInt64, Int32.toInt_toInt64]
set_option maxHeartbeats 2000000 in
set_option maxRecDepth 20000 in
theorem s8_in {n : Nat} {h : q_H} (a lo hi : Int64) : SP 0 yX8_in cX8_in 6 (some .boolean) [.long a, .long lo, .long hi] n h (some (.int (if a < lo ∨ hi < a then nI 0 else nI 1))) h := by
  refine q_SPi RX8 rfl (by decide +kernel) (la := _) rfl rfl (fun Γ ad C F => ?_)
  refine g_lload_n (pc := 0) C (hl := rfl) dX8_in_0 ?_
  refine g_lload_n (pc := 1) C (hl := rfl) dX8_in_1 ?_
  refine g_lcmp (pc := 2) C dX8_in_2 ?_
  refine g_if_lt (pc := 3) C 17 dX8_in_3 (by decide) (fun c3 => ?_) (fun c3 => ?_)
  · refine g_iconst (pc := 17) C qk_iconst_0 dX8_in_17 ?_
    exact g_iret (pc := 18) C F dX8_in_18 rfl rfl (by simp only [lg_lt, lg_gt] at *; simp [*]) (rfl)
  · refine g_lload_n (pc := 6) C (hl := rfl) dX8_in_6 ?_
    refine g_lload (pc := 7) C (hl := rfl) dX8_in_7 ?_
    refine g_lcmp (pc := 9) C dX8_in_9 ?_
    refine g_if_gt (pc := 10) C 17 dX8_in_10 (by decide) (fun c10 => ?_) (fun c10 => ?_)
    · refine g_iconst (pc := 17) C qk_iconst_0 dX8_in_17 ?_
      exact g_iret (pc := 18) C F dX8_in_18 rfl rfl (by simp only [lg_lt, lg_gt] at *; simp [*]) (rfl)
    · refine g_iconst (pc := 13) C qk_iconst_1 dX8_in_13 ?_
      refine g_goto (pc := 14) C 18 dX8_in_14 (by decide) ?_
      exact g_iret (pc := 18) C F dX8_in_18 rfl rfl (by simp only [lg_lt, lg_gt] at *; simp [*]) (rfl)
theorem s8_inF {n : Nat} {h : q_H} {a b : Int64} (x lo hi : Int32) (e1 : lo.toInt64 = a) (e2 : hi.toInt64 = b) (hq : (x < lo ∨ hi < x)) : SP 0 yX8_in cX8_in 6 (some .boolean) [.long x.toInt64, .long a, .long b] n h (some (.int (nI 0))) h := by
  subst e1 e2
  have q := s8_in (n := n) (h := h) x.toInt64 lo.toInt64 hi.toInt64
  rw [if_pos (by rw [i64_lt, i64_lt]; exact hq)] at q
  exact q
theorem s8_inT {n : Nat} {h : q_H} {a b : Int64} (x lo hi : Int32) (e1 : lo.toInt64 = a) (e2 : hi.toInt64 = b) (hq : ¬ (x < lo ∨ hi < x)) : SP 0 yX8_in cX8_in 6 (some .boolean) [.long x.toInt64, .long a, .long b] n h (some (.int (nI 1))) h := by
  subst e1 e2
  have q := s8_in (n := n) (h := h) x.toInt64 lo.toInt64 hi.toInt64
  rw [if_neg (by rw [i64_lt, i64_lt]; exact hq)] at q
  exact q
set_option maxHeartbeats 2000000 in
set_option maxRecDepth 20000 in
theorem s8_found {n : Nat} {h : q_H} {un ta fl st sa ne so di pu at_ er en pa tr : Nat} (k : Nat) (h0 : h 87 = MO un ta fl st sa ne so di pu at_ er en pa tr) : SP 0 yX8_found cX8_found 2 (some .int) [.ref 87, .int (nI k)] n h (some (.int (-1000010 - nI k))) (q_up h 87 (MO un ta fl k sa ne so di pu at_ er en pa tr)) := by
  refine q_SPi RX8 rfl (by decide +kernel) (la := _) rfl rfl (fun Γ ad C F => ?_)
  refine g_aload_n (pc := 0) C (hl := rfl) dX8_found_0 ?_
  refine g_iload_n (pc := 1) C (hl := rfl) dX8_found_1 ?_
  refine g_put (pc := 2) C fp8_41 dX8_found_2 h0 (Nat.le_of_ble_eq_true rfl) ?_
  refine g_ldc (pc := 5) C (v := -1000010) zk8_45 dX8_found_5 ?_
  refine g_iload_n (pc := 7) C (hl := rfl) dX8_found_7 ?_
  refine g_isub (pc := 8) C dX8_found_8 ?_
  exact g_iret (pc := 9) C F dX8_found_9 rfl rfl (rfl) (rfl)
set_option maxHeartbeats 2000000 in
set_option maxRecDepth 20000 in
theorem s8_well {n : Nat} {h : q_H} {un ta fl st sa ne so di pu at_ er en pa tr : Nat} (x : Int32) (h0 : h 87 = MO un ta fl st sa ne so di pu at_ er en pa tr) : SP 0 yX8_well cX8_well 2 (some .int) [.ref 87, .int x] n h (some (.int x)) (q_up h 87 (MO un ta fl 0 sa ne so di pu at_ er en pa tr)) := by
  refine q_SPi RX8 rfl (by decide +kernel) (la := _) rfl rfl (fun Γ ad C F => ?_)
  refine g_aload_n (pc := 0) C (hl := rfl) dX8_well_0 ?_
  refine g_iconst (pc := 1) C qk_iconst_0 dX8_well_1 ?_
  refine g_put (pc := 2) C fp8_41 dX8_well_2 h0 (Nat.le_of_ble_eq_true rfl) ?_
  refine g_iload_n (pc := 5) C (hl := rfl) dX8_well_5 ?_
  exact g_iret (pc := 6) C F dX8_well_6 rfl rfl (rfl) (rfl)
set_option maxHeartbeats 2000000 in
set_option maxRecDepth 20000 in
theorem s8_isNoneZ {n : Nat} {h : q_H} {un ta fl st sa ne so di pu at_ er en pa tr : Nat} {W : Nat → Nat} (h0 : h 87 = MO un ta fl st sa ne so di pu at_ er en pa tr) (hW : h 88 = WA W) (hg : W 0 = 0) : SP 0 yX8_isNone cX8_isNone 1 (some .boolean) [.ref 87] n h (some (.int (nI 1))) h := by
  refine q_SPi RX8 rfl (by decide +kernel) (la := _) rfl rfl (fun Γ ad C F => ?_)
  refine g_aload_n (pc := 0) C (hl := rfl) dX8_isNone_0 ?_
  refine g_get (pc := 1) C fl8_7 dX8_isNone_1 h0 rfl ?_
  refine g_iconst (pc := 4) C qk_iconst_0 dX8_isNone_4 ?_
  refine g_ialdN (pc := 5) C dX8_isNone_5 hW (by omega) ?_
  refine g_if_neN (pc := 6) C 13 dX8_isNone_6 (by decide) (by omega) (fun q => absurd q (fun z => z hg)) (fun _ => ?_)
  refine g_iconst (pc := 9) C qk_iconst_1 dX8_isNone_9 ?_
  refine g_goto (pc := 10) C 14 dX8_isNone_10 (by decide) ?_
  exact g_iret (pc := 14) C F dX8_isNone_14 rfl rfl (rfl) (rfl)
set_option maxHeartbeats 2000000 in
set_option maxRecDepth 20000 in
theorem s8_isNoneT {n : Nat} {h : q_H} {un ta fl st sa ne so di pu at_ er en pa tr : Nat} {W : Nat → Nat} (h0 : h 87 = MO un ta fl st sa ne so di pu at_ er en pa tr) (hW : h 88 = WA W) (hg : ¬ W 0 = 0 ∧ W 0 < 100) : SP 0 yX8_isNone cX8_isNone 1 (some .boolean) [.ref 87] n h (some (.int (nI 0))) h := by
  refine q_SPi RX8 rfl (by decide +kernel) (la := _) rfl rfl (fun Γ ad C F => ?_)
  refine g_aload_n (pc := 0) C (hl := rfl) dX8_isNone_0 ?_
  refine g_get (pc := 1) C fl8_7 dX8_isNone_1 h0 rfl ?_
  refine g_iconst (pc := 4) C qk_iconst_0 dX8_isNone_4 ?_
  refine g_ialdN (pc := 5) C dX8_isNone_5 hW (by omega) ?_
  refine g_if_neN (pc := 6) C 13 dX8_isNone_6 (by decide) (by omega) (fun _ => ?_) (fun q => absurd q (hg.1))
  refine g_iconst (pc := 13) C qk_iconst_0 dX8_isNone_13 ?_
  exact g_iret (pc := 14) C F dX8_isNone_14 rfl rfl (rfl) (rfl)
set_option maxHeartbeats 2000000 in
set_option maxRecDepth 20000 in
theorem s8_isRowF {n : Nat} {h : q_H} (x : Int32) (hq : (x < 0 ∨ 7 < x)) : SP 1 yX8_isRow cX8_isRow 1 (some .boolean) [.int x] n h (some (.int (nI 0))) h := by
  refine q_SPi RX8 rfl (by decide +kernel) (la := _) rfl rfl (fun Γ ad C F => ?_)
  refine g_iload_n (pc := 0) C (hl := rfl) dX8_isRow_0 ?_
  refine g_i2l (pc := 1) C rfl dX8_isRow_1 ?_
  refine g_lconst (pc := 2) C (v := 0) rfl dX8_isRow_2 ?_
  refine g_ldc2 (pc := 3) C zk8_35 dX8_isRow_3 ?_
  refine g_S3v (pc := 6) C ls8_37 dX8_isRow_6 (s8_inF x 0 7 (by decide) (by decide) hq) (by decide) (Nat.le_of_ble_eq_true rfl) ?_
  exact g_iret (pc := 9) C F dX8_isRow_9 rfl rfl (rfl) (rfl)
set_option maxHeartbeats 2000000 in
set_option maxRecDepth 20000 in
theorem s8_isOneF {n : Nat} {h : q_H} {un ta fl st sa ne so di pu at_ er en pa tr : Nat} {W : Nat → Nat} (x : Int32) (h0 : h 87 = MO un ta fl st sa ne so di pu at_ er en pa tr) (hW : h 88 = WA W) (hq : (x < 0 ∨ qI ((W 0 : Int) - 1) < x)) : SP 1 yX8_isOne cX8_isOne 2 (some .boolean) [.ref 87, .int x] n h (some (.int (nI 0))) h := by
  refine q_SPi RX8 rfl (by decide +kernel) (la := _) rfl rfl (fun Γ ad C F => ?_)
  refine g_iload_n (pc := 0) C (hl := rfl) dX8_isOne_0 ?_
  refine g_i2l (pc := 1) C rfl dX8_isOne_1 ?_
  refine g_lconst (pc := 2) C (v := 0) rfl dX8_isOne_2 ?_
  refine g_aload_n (pc := 3) C (hl := rfl) dX8_isOne_3 ?_
  refine g_get (pc := 4) C fl8_7 dX8_isOne_4 h0 rfl ?_
  refine g_iconst (pc := 7) C qk_iconst_0 dX8_isOne_7 ?_
  refine g_ialdN (pc := 8) C dX8_isOne_8 hW (by omega) ?_
  refine g_iconst (pc := 9) C qk_iconst_1 dX8_isOne_9 ?_
  refine g_isubE (pc := 10) C (w := qI ((W 0 : Int) - 1)) (by show nI (W 0) - nI 1 = _; rw [qI_N, qI_N, qI_sub]; rfl) dX8_isOne_10 ?_
  refine g_i2l (pc := 11) C rfl dX8_isOne_11 ?_
  refine g_S3v (pc := 12) C ls8_37 dX8_isOne_12 (s8_inF x 0 (qI ((W 0 : Int) - 1)) (by decide) rfl hq) (by decide) (Nat.le_of_ble_eq_true rfl) ?_
  exact g_iret (pc := 15) C F dX8_isOne_15 rfl rfl (rfl) (rfl)
set_option maxHeartbeats 2000000 in
set_option maxRecDepth 20000 in
theorem s8_isRowT {n : Nat} {h : q_H} (x : Int32) (hq : ¬ (x < 0 ∨ 7 < x)) : SP 1 yX8_isRow cX8_isRow 1 (some .boolean) [.int x] n h (some (.int (nI 1))) h := by
  refine q_SPi RX8 rfl (by decide +kernel) (la := _) rfl rfl (fun Γ ad C F => ?_)
  refine g_iload_n (pc := 0) C (hl := rfl) dX8_isRow_0 ?_
  refine g_i2l (pc := 1) C rfl dX8_isRow_1 ?_
  refine g_lconst (pc := 2) C (v := 0) rfl dX8_isRow_2 ?_
  refine g_ldc2 (pc := 3) C zk8_35 dX8_isRow_3 ?_
  refine g_S3v (pc := 6) C ls8_37 dX8_isRow_6 (s8_inT x 0 7 (by decide) (by decide) hq) (by decide) (Nat.le_of_ble_eq_true rfl) ?_
  exact g_iret (pc := 9) C F dX8_isRow_9 rfl rfl (rfl) (rfl)
set_option maxHeartbeats 2000000 in
set_option maxRecDepth 20000 in
theorem s8_isOneT {n : Nat} {h : q_H} {un ta fl st sa ne so di pu at_ er en pa tr : Nat} {W : Nat → Nat} (x : Int32) (h0 : h 87 = MO un ta fl st sa ne so di pu at_ er en pa tr) (hW : h 88 = WA W) (hq : ¬ (x < 0 ∨ qI ((W 0 : Int) - 1) < x)) : SP 1 yX8_isOne cX8_isOne 2 (some .boolean) [.ref 87, .int x] n h (some (.int (nI 1))) h := by
  refine q_SPi RX8 rfl (by decide +kernel) (la := _) rfl rfl (fun Γ ad C F => ?_)
  refine g_iload_n (pc := 0) C (hl := rfl) dX8_isOne_0 ?_
  refine g_i2l (pc := 1) C rfl dX8_isOne_1 ?_
  refine g_lconst (pc := 2) C (v := 0) rfl dX8_isOne_2 ?_
  refine g_aload_n (pc := 3) C (hl := rfl) dX8_isOne_3 ?_
  refine g_get (pc := 4) C fl8_7 dX8_isOne_4 h0 rfl ?_
  refine g_iconst (pc := 7) C qk_iconst_0 dX8_isOne_7 ?_
  refine g_ialdN (pc := 8) C dX8_isOne_8 hW (by omega) ?_
  refine g_iconst (pc := 9) C qk_iconst_1 dX8_isOne_9 ?_
  refine g_isubE (pc := 10) C (w := qI ((W 0 : Int) - 1)) (by show nI (W 0) - nI 1 = _; rw [qI_N, qI_N, qI_sub]; rfl) dX8_isOne_10 ?_
  refine g_i2l (pc := 11) C rfl dX8_isOne_11 ?_
  refine g_S3v (pc := 12) C ls8_37 dX8_isOne_12 (s8_inT x 0 (qI ((W 0 : Int) - 1)) (by decide) rfl hq) (by decide) (Nat.le_of_ble_eq_true rfl) ?_
  exact g_iret (pc := 15) C F dX8_isOne_15 rfl rfl (rfl) (rfl)
