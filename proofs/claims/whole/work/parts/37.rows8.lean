theorem g_ialdW {Γ : q_X} {ad : Nat → Nat} {d mc ms : Nat} {own : String} {y : MethodName} {cc : ByteArray} {nL : Nat} {ret : Option FieldType} {pc : Nat} {la : List (Option Value)} {st : List Value} {n : Nat} {h : q_H} {k1 k2 : Nat} (C : q_C Γ ad d mc ms own y cc nL ret) {a N j : Nat} {v : Int32} {f : Nat → Int32} (hdg : decode cc pc = .ok (.iaload, 1)) (hh : h a = .inl (0, N, f)) (hj : j < N ∧ N < 2 ^ 31) (hv : f j = v) (kk : q_G Γ ad nL (pc + 1) la (.int v :: st) n h k1 k2) : q_G Γ ad nL pc la (.int (nI j) :: .ref a :: st) n h k1 k2 := g_ialdM C hdg hh hj (by rw [hv]; exact kk)
theorem g_iastW {Γ : q_X} {ad : Nat → Nat} {d mc ms : Nat} {own : String} {y : MethodName} {cc : ByteArray} {nL : Nat} {ret : Option FieldType} {pc : Nat} {la : List (Option Value)} {st : List Value} {n : Nat} {h : q_H} {k1 k2 : Nat} (C : q_C Γ ad d mc ms own y cc nL ret) {a N j : Nat} {x : Int32} {f F : Nat → Int32} (hdg : decode cc pc = .ok (.iastore, 1)) (hh : h a = .inl (0, N, f)) (hj : j < N ∧ N < 2 ^ 31) (hv : va_up f j x = F) (kk : q_G Γ ad nL (pc + 1) la st n (q_up h a (.inl (0, N, F))) k1 k2) : q_G Γ ad nL pc la (.int x :: .int (nI j) :: .ref a :: st) n h k1 k2 := g_iastM C hdg hh hj (by rw [hv]; exact kk)
theorem q_gel (k : Nat) (hk : k < 1000000) (x : Int32) : (nI k < x) ↔ (nI (k + 1) ≤ x) := by
  rw [Int32.lt_iff_toInt_lt, Int32.le_iff_toInt_le, nI_toInt (by omega), nI_toInt (by omega)]
  omega
theorem q_gel1 (k : Nat) (hk : k < 1000000) (x : Int32) : (qI ((k : Int) - 1) < x) ↔ (nI k ≤ x) := by
  rw [Int32.lt_iff_toInt_lt, Int32.le_iff_toInt_le, nI_toInt (by omega), qI_toInt (by omega) (by omega)]
  omega
theorem q_inN {x lo hi : Nat} (h : lo ≤ x ∧ x ≤ hi) (hh : hi < 1000000) : ¬ (nI x < nI lo ∨ nI hi < nI x) := fun q => q.elim (fun q => absurd ((nI_ltI (by omega) (by omega)).mp q) (by omega)) (fun q => absurd ((nI_ltI (by omega) (by omega)).mp q) (by omega))
theorem s8_inN {n : Nat} {h : q_H} {a b : Int64} (x lo hi : Nat) (e1 : (nI lo).toInt64 = a) (e2 : (nI hi).toInt64 = b) (hq : lo ≤ x ∧ x ≤ hi) (hh : hi < 1000000) : SP 0 yX8_in cX8_in 6 (some .boolean) [.long (nI x).toInt64, .long a, .long b] n h (some (.int (nI 1))) h := s8_inT (nI x) (nI lo) (nI hi) e1 e2 (q_inN hq hh)
theorem s8_rowF {n : Nat} {h : q_H} (x : Int32) (hq : x < 0 ∨ nI 8 ≤ x) : SP 1 yX8_isRow cX8_isRow 1 (some .boolean) [.int x] n h (some (.int (nI 0))) h := s8_isRowF x (hq.imp id (fun q => (q_gel 7 (by decide) x).mpr q))
theorem s8_rowU {n : Nat} {h : q_H} (x : Int32) (hq : ¬ (x < 0 ∨ nI 8 ≤ x)) : SP 1 yX8_isRow cX8_isRow 1 (some .boolean) [.int x] n h (some (.int (nI 1))) h := s8_isRowT x (fun z => hq (z.imp id (fun q => (q_gel 7 (by decide) x).mp q)))
theorem s8_rowN {n : Nat} {h : q_H} (x : Nat) (hq : x < 8) : SP 1 yX8_isRow cX8_isRow 1 (some .boolean) [.int (nI x)] n h (some (.int (nI 1))) h := s8_rowU (nI x) (fun z => z.elim (fun q => absurd q (nI_pos (by omega))) (fun q => absurd ((nI_leI (by decide) (by omega)).mp q) (by omega)))
theorem s8_oneF {n : Nat} {h : q_H} {un ta fl st sa ne so di pu at_ er en pa tr : Nat} {W : Nat → Nat} {g : Nat} (x : Int32) (h0 : h 87 = MO un ta fl st sa ne so di pu at_ er en pa tr) (hW : h 88 = WA W) (hw : W 0 = g ∧ g ≤ 6) (hq : x < 0 ∨ nI g ≤ x) : SP 1 yX8_isOne cX8_isOne 2 (some .boolean) [.ref 87, .int x] n h (some (.int (nI 0))) h := s8_isOneF x h0 hW (hq.imp id (fun q => by rw [hw.1]; exact (q_gel1 g (by omega) x).mpr q))
theorem s8_oneU {n : Nat} {h : q_H} {un ta fl st sa ne so di pu at_ er en pa tr : Nat} {W : Nat → Nat} {g : Nat} (x : Int32) (h0 : h 87 = MO un ta fl st sa ne so di pu at_ er en pa tr) (hW : h 88 = WA W) (hw : W 0 = g ∧ g ≤ 6) (hq : ¬ (x < 0 ∨ nI g ≤ x)) : SP 1 yX8_isOne cX8_isOne 2 (some .boolean) [.ref 87, .int x] n h (some (.int (nI 1))) h := s8_isOneT x h0 hW (fun z => hq (z.imp id (fun q => by rw [hw.1] at q; exact (q_gel1 g (by omega) x).mp q)))
theorem s8_oneN {n : Nat} {h : q_H} {un ta fl st sa ne so di pu at_ er en pa tr : Nat} {W : Nat → Nat} {g : Nat} (x : Nat) (h0 : h 87 = MO un ta fl st sa ne so di pu at_ er en pa tr) (hW : h 88 = WA W) (hw : W 0 = g ∧ g ≤ 6) (hq : x < g) : SP 1 yX8_isOne cX8_isOne 2 (some .boolean) [.ref 87, .int (nI x)] n h (some (.int (nI 1))) h := s8_oneU (nI x) h0 hW hw (fun z => z.elim (fun q => absurd q (nI_pos (by omega))) (fun q => absurd ((nI_leI (by omega) (by omega)).mp q) (by omega)))
set_option maxHeartbeats 2000000 in
set_option maxRecDepth 20000 in
theorem s8_partY {n : Nat} {h : q_H} (i k z : Nat) (hq : i + k ≤ z) (hz : z < 1000000) : SP 0 yX8_isPart cX8_isPart 3 (some .boolean) [.int (nI i), .int (nI k), .int (nI z)] n h (some (.int (nI 1))) h := by
  refine q_SPi RX8 rfl (by decide +kernel) (la := _) rfl rfl (fun Γ ad C F => ?_)
  refine g_iload_n (pc := 0) C (hl := rfl) dX8_isPart_0 ?_
  refine g_if_ltN (pc := 1) C 23 dX8_isPart_1 (by decide) (by omega) ?_
  refine g_iload_n (pc := 4) C (hl := rfl) dX8_isPart_4 ?_
  refine g_if_ltN (pc := 5) C 23 dX8_isPart_5 (by decide) (by omega) ?_
  refine g_iload_n (pc := 8) C (hl := rfl) dX8_isPart_8 ?_
  refine g_i2l (pc := 9) C rfl dX8_isPart_9 ?_
  refine g_iload_n (pc := 10) C (hl := rfl) dX8_isPart_10 ?_
  refine g_i2l (pc := 11) C rfl dX8_isPart_11 ?_
  refine g_ladd (pc := 12) C dX8_isPart_12 ?_
  refine g_iload_n (pc := 13) C (hl := rfl) dX8_isPart_13 ?_
  refine g_i2l (pc := 14) C rfl dX8_isPart_14 ?_
  refine g_lcmp (pc := 15) C dX8_isPart_15 ?_
  refine g_if_gt (pc := 16) C 23 dX8_isPart_16 (by decide) (fun q => absurd q (by rw [lg_gt, nI_l (by omega), nI_l (by omega), nI_l (by omega), lN_add, lN_lt (by omega) (by omega)]; omega)) (fun _ => ?_)
  refine g_iconst (pc := 19) C qk_iconst_1 dX8_isPart_19 ?_
  refine g_goto (pc := 20) C 24 dX8_isPart_20 (by decide) ?_
  exact g_iret (pc := 24) C F dX8_isPart_24 rfl rfl (rfl) (rfl)
set_option maxHeartbeats 2000000 in
set_option maxRecDepth 20000 in
theorem s8_partN {n : Nat} {h : q_H} (i k : Int32) (z : Nat) (hno : ∀ p q : Nat, i = nI p → k = nI q → p < 2147483648 → q < 2147483648 → ¬ p + q ≤ z) (hz : z < 1000000) : SP 0 yX8_isPart cX8_isPart 3 (some .boolean) [.int i, .int k, .int (nI z)] n h (some (.int (nI 0))) h := by
  refine q_SPi RX8 rfl (by decide +kernel) (la := _) rfl rfl (fun Γ ad C F => ?_)
  refine g_iload_n (pc := 0) C (hl := rfl) dX8_isPart_0 ?_
  refine g_if_lt (pc := 1) C 23 dX8_isPart_1 (by decide) (fun c1 => ?_) (fun c1 => ?_)
  · refine g_iconst (pc := 23) C qk_iconst_0 dX8_isPart_23 ?_
    exact g_iret (pc := 24) C F dX8_isPart_24 rfl rfl (rfl) (rfl)
  · refine g_iload_n (pc := 4) C (hl := rfl) dX8_isPart_4 ?_
    refine g_if_lt (pc := 5) C 23 dX8_isPart_5 (by decide) (fun c5 => ?_) (fun c5 => ?_)
    · refine g_iconst (pc := 23) C qk_iconst_0 dX8_isPart_23 ?_
      exact g_iret (pc := 24) C F dX8_isPart_24 rfl rfl (rfl) (rfl)
    · obtain ⟨p, hp, rfl⟩ := nI_of c1
      obtain ⟨q, hq, rfl⟩ := nI_of c5
      have hpq := hno p q rfl rfl hp hq
      refine g_iload_n (pc := 8) C (hl := rfl) dX8_isPart_8 ?_
      refine g_i2l (pc := 9) C rfl dX8_isPart_9 ?_
      refine g_iload_n (pc := 10) C (hl := rfl) dX8_isPart_10 ?_
      refine g_i2l (pc := 11) C rfl dX8_isPart_11 ?_
      refine g_ladd (pc := 12) C dX8_isPart_12 ?_
      refine g_iload_n (pc := 13) C (hl := rfl) dX8_isPart_13 ?_
      refine g_i2l (pc := 14) C rfl dX8_isPart_14 ?_
      refine g_lcmp (pc := 15) C dX8_isPart_15 ?_
      refine g_if_gt (pc := 16) C 23 dX8_isPart_16 (by decide) (fun _ => ?_) (fun q => absurd (by rw [lg_gt, nI_l (by omega), nI_l hp, nI_l hq, lN_add, Int64.lt_iff_toInt_lt, lN_toInt (by omega)]; unfold lN; rw [Int64.toInt_ofNat_of_lt (by omega)]; omega) q)
      refine g_iconst (pc := 23) C qk_iconst_0 dX8_isPart_23 ?_
      exact g_iret (pc := 24) C F dX8_isPart_24 rfl rfl (rfl) (rfl)
set_option maxHeartbeats 2000000 in
set_option maxRecDepth 20000 in
theorem s8_rowB {n : Nat} {h : q_H} {un ta fl st sa ne so di pu at_ er en pa tr : Nat} {L I Tk : Nat → Int32} {Z : Nat → Nat} (x l k : Int32) (h0 : h 87 = MO un ta fl st sa ne so di pu at_ er en pa tr) (hL : h 90 = .inl (0, 8, L)) (hZ : h 91 = .inl (0, 8, qN Z)) (hI : h 92 = .inl (0, 320, I)) (hT : h 93 = .inl (0, 40, Tk)) (hb : (x < 0 ∨ nI 8 ≤ x) ∨ (l < nI 0 ∨ nI 2 < l) ∨ ¬ k ≤ nI 40) : SP 2 yX8_row cX8_row 5 (some .int) [.ref 87, .int x, .int l, .int k] n h (some (.int (-1000001))) h := by
  refine q_SPi RX8 rfl (by decide +kernel) (la := _) rfl rfl (fun Γ ad C F => ?_)
  refine g_iload_n (pc := 0) C (hl := rfl) dX8_row_0 ?_
  by_cases cx : x < 0 ∨ nI 8 ≤ x
  · refine g_S1v (pc := 1) C ls8_46 dX8_row_1 (s8_rowF x cx) (by decide) (Nat.le_of_ble_eq_true rfl) ?_
    refine g_if_eqN (pc := 4) C 25 dX8_row_4 (by decide) (by decide) (fun _ => ?_) (fun q => absurd q (by decide))
    refine g_ldc (pc := 25) C (v := -1000001) zk8_52 dX8_row_25 ?_
    exact g_iret (pc := 27) C F dX8_row_27 rfl rfl (rfl) (rfl)
  · refine g_S1v (pc := 1) C ls8_46 dX8_row_1 (s8_rowU x cx) (by decide) (Nat.le_of_ble_eq_true rfl) ?_
    refine g_if_eqN (pc := 4) C 25 dX8_row_4 (by decide) (by decide) (fun q => absurd q (by decide)) (fun _ => ?_)
    refine g_iload_n (pc := 7) C (hl := rfl) dX8_row_7 ?_
    refine g_i2l (pc := 8) C rfl dX8_row_8 ?_
    refine g_lconst (pc := 9) C (v := 0) rfl dX8_row_9 ?_
    refine g_ldc2 (pc := 10) C zk8_50 dX8_row_10 ?_
    by_cases cl : l < (nI 0) ∨ (nI 2) < l
    · refine g_S3v (pc := 13) C ls8_37 dX8_row_13 (s8_inF l (nI 0) (nI 2) (by decide) (by decide) cl) (by decide) (Nat.le_of_ble_eq_true rfl) ?_
      refine g_if_eqN (pc := 16) C 25 dX8_row_16 (by decide) (by decide) (fun _ => ?_) (fun q => absurd q (by decide))
      refine g_ldc (pc := 25) C (v := -1000001) zk8_52 dX8_row_25 ?_
      exact g_iret (pc := 27) C F dX8_row_27 rfl rfl (rfl) (rfl)
    · refine g_S3v (pc := 13) C ls8_37 dX8_row_13 (s8_inT l (nI 0) (nI 2) (by decide) (by decide) cl) (by decide) (Nat.le_of_ble_eq_true rfl) ?_
      refine g_if_eqN (pc := 16) C 25 dX8_row_16 (by decide) (by decide) (fun q => absurd q (by decide)) (fun _ => ?_)
      refine g_iload_n (pc := 19) C (hl := rfl) dX8_row_19 ?_
      refine g_bipush (pc := 20) C qk_bipush_40 dX8_row_20 ?_
      refine g_ic_le (pc := 22) C 28 dX8_row_22 (by decide) (fun c22 => ?_) (fun c22 => ?_)
      · exact absurd hb (fun q => q.elim cx (fun q => q.elim cl (fun q => q c22)))
      · refine g_ldc (pc := 25) C (v := -1000001) zk8_52 dX8_row_25 ?_
        exact g_iret (pc := 27) C F dX8_row_27 rfl rfl (rfl) (rfl)
theorem q_neg40 {k : Int32} (h : k < 0) : k ≤ nI 40 := by
  rw [Int32.lt_iff_toInt_lt] at h
  rw [Int32.le_iff_toInt_le, nI_toInt (by decide)]
  have e : (0 : Int32).toInt = 0 := by decide
  omega
set_option maxHeartbeats 2000000 in
set_option maxRecDepth 20000 in
theorem s8_rowM {n : Nat} {h : q_H} {un ta fl st sa ne so di pu at_ er en pa tr : Nat} {L I Tk : Nat → Int32} {Z : Nat → Nat} (x l : Nat) (k : Int32) (h0 : h 87 = MO un ta fl st sa ne so di pu at_ er en pa tr) (hL : h 90 = .inl (0, 8, L)) (hZ : h 91 = .inl (0, 8, qN Z)) (hI : h 92 = .inl (0, 320, I)) (hT : h 93 = .inl (0, 40, Tk)) (hx : x < 8) (hl : l < 3) (hk : k < 0) : SP 2 yX8_row cX8_row 5 (some .int) [.ref 87, .int (nI x), .int (nI l), .int k] n h (some (.int (-1000010 - nI 4))) (q_up h 87 (MO un ta fl 4 sa ne so di pu at_ er en pa tr)) := by
  refine q_SPi RX8 rfl (by decide +kernel) (la := _) rfl rfl (fun Γ ad C F => ?_)
  refine g_iload_n (pc := 0) C (hl := rfl) dX8_row_0 ?_
  refine g_S1v (pc := 1) C ls8_46 dX8_row_1 (s8_rowN x hx) (by decide) (Nat.le_of_ble_eq_true rfl) ?_
  refine g_if_eqN (pc := 4) C 25 dX8_row_4 (by decide) (by decide) (fun q => absurd q (by decide)) (fun _ => ?_)
  refine g_iload_n (pc := 7) C (hl := rfl) dX8_row_7 ?_
  refine g_i2l (pc := 8) C rfl dX8_row_8 ?_
  refine g_lconst (pc := 9) C (v := 0) rfl dX8_row_9 ?_
  refine g_ldc2 (pc := 10) C zk8_50 dX8_row_10 ?_
  refine g_S3v (pc := 13) C ls8_37 dX8_row_13 (s8_inN l 0 2 (by decide) (by decide) (by omega) (by decide)) (by decide) (Nat.le_of_ble_eq_true rfl) ?_
  refine g_if_eqN (pc := 16) C 25 dX8_row_16 (by decide) (by decide) (fun q => absurd q (by decide)) (fun _ => ?_)
  refine g_iload_n (pc := 19) C (hl := rfl) dX8_row_19 ?_
  refine g_bipush (pc := 20) C qk_bipush_40 dX8_row_20 ?_
  refine g_ic_le (pc := 22) C 28 dX8_row_22 (by decide) (fun _ => ?_) (fun q => absurd (q_neg40 hk) q)
  refine g_iload_n (pc := 28) C (hl := rfl) dX8_row_28 ?_
  refine g_if_ge (pc := 29) C 38 dX8_row_29 (by decide) (fun q => absurd q (fun z => absurd hk (Int32.not_lt.mpr z))) (fun _ => ?_)
  refine g_aload_n (pc := 32) C (hl := rfl) dX8_row_32 ?_
  refine g_iconst (pc := 33) C qk_iconst_4 dX8_row_33 ?_
  refine g_V1v (pc := 34) C lv8_53 dX8_row_34 (s8_found _ h0) h0 (by decide) (Nat.le_of_ble_eq_true rfl) ?_
  exact g_iret (pc := 37) C F dX8_row_37 rfl rfl (rfl) (rfl)
def iZe (I : Nat → Int32) (x i : Nat) : Nat → Int32 := fun q => if 40 * x ≤ q ∧ q < 40 * x + i then nI 0 else I q
theorem iZe_0 {I : Nat → Int32} {x : Nat} : iZe I x 0 = I := by
  funext q; unfold iZe; rw [if_neg (by omega)]
theorem iZe_s {I : Nat → Int32} {x i : Nat} : va_up (iZe I x i) (40 * x + i) (nI 0) = iZe I x (i + 1) := by
  funext q
  unfold va_up iZe
  by_cases h : q = 40 * x + i
  · rw [if_pos h, if_pos (by omega)]
  · rw [if_neg h]
    by_cases h2 : 40 * x ≤ q ∧ q < 40 * x + i
    · rw [if_pos h2, if_pos (by omega)]
    · rw [if_neg h2, if_neg (by omega)]
set_option maxHeartbeats 2000000 in
set_option maxRecDepth 20000 in
theorem l8_row {Γ : q_X} {ad : Nat → Nat} {n un ta fl st sa ne so di pu at_ er en pa tr : Nat} {x l k : Nat} {I : Nat → Int32} {hF : q_H} (hx : x < 8) (C : q_C Γ ad 2 0 0 RX8 yX8_row cX8_row 5 (some .int)) (F : q_N Γ ad n (some (.int (nI k))) hF) : ∀ (m i : Nat) (H : q_H), i + m = 41 → i ≤ 40 → H 87 = MO un ta fl st sa ne so di pu at_ er en pa tr → H 92 = .inl (0, 320, iZe I x i) → hF = q_up (q_up H 92 (.inl (0, 320, iZe I x 40))) 87 (MO un ta fl 0 sa ne so di pu at_ er en pa tr) → q_G Γ ad 5 55 [some (.ref 87), some (.int (nI x)), some (.int (nI l)), some (.int (nI k)), some (.int (nI i))] [] n H 0 0 := by
  intro m
  induction m with
  | zero => intro i H hm hi; omega
  | succ m ih =>
    intro i H hm hi h0 hI hH
    refine g_iload (pc := 55) C (hl := rfl) dX8_row_55 ?_
    refine g_bipush (pc := 57) C qk_bipush_40 dX8_row_57 ?_
    refine g_ic_geN (pc := 59) C 81 dX8_row_59 (by decide) (by omega) (fun c59 => ?_) (fun c59 => ?_)
    · obtain rfl : i = 40 := by omega
      refine g_aload_n (pc := 81) C (hl := rfl) dX8_row_81 ?_
      refine g_iload_n (pc := 82) C (hl := rfl) dX8_row_82 ?_
      refine g_V1v (pc := 83) C lv8_57 dX8_row_83 (s8_well _ h0) h0 (by decide) (Nat.le_of_ble_eq_true rfl) ?_
      exact g_iret (pc := 86) C F dX8_row_86 rfl rfl (rfl) (by rw [hH, q_upI hI])
    · refine g_aload_n (pc := 62) C (hl := rfl) dX8_row_62 ?_
      refine g_get (pc := 63) C fl8_22 dX8_row_63 h0 rfl ?_
      refine g_bipush (pc := 66) C qk_bipush_40 dX8_row_66 ?_
      refine g_iload_n (pc := 68) C (hl := rfl) dX8_row_68 ?_
      refine g_imulN (pc := 69) C dX8_row_69 ?_
      refine g_iload (pc := 70) C (hl := rfl) dX8_row_70 ?_
      refine g_iaddN (pc := 72) C dX8_row_72 ?_
      refine g_iconst (pc := 73) C qk_iconst_0 dX8_row_73 ?_
      refine g_iastW (pc := 74) C dX8_row_74 hI (by omega) iZe_s ?_
      refine g_iincN (pc := 75) C (hl := rfl) (q_inc1 _) rfl dX8_row_75 ?_
      refine g_goto (pc := 78) C 55 dX8_row_78 (by decide) ?_
      exact ih (i + 1) _ (by omega) (by omega) ((q_up_n _ _ (by decide)).trans h0) (q_up_s _ _ _) (by rw [hH, q_up_u])
set_option maxHeartbeats 2000000 in
set_option maxRecDepth 20000 in
theorem s8_rowT {n : Nat} {h : q_H} {un ta fl st sa ne so di pu at_ er en pa tr : Nat} {L I Tk : Nat → Int32} {Z : Nat → Nat} (x l k : Nat) (h0 : h 87 = MO un ta fl st sa ne so di pu at_ er en pa tr) (hL : h 90 = .inl (0, 8, L)) (hZ : h 91 = .inl (0, 8, qN Z)) (hI : h 92 = .inl (0, 320, I)) (hT : h 93 = .inl (0, 40, Tk)) (hx : x < 8) (hl : l < 3) (hk : k ≤ 40) : SP 2 yX8_row cX8_row 5 (some .int) [.ref 87, .int (nI x), .int (nI l), .int (nI k)] n h (some (.int (nI k))) (q_up (q_up (q_up (q_up h 90 (.inl (0, 8, va_up L x (nI l)))) 91 (.inl (0, 8, qN (va_up Z x k)))) 92 (.inl (0, 320, iZe I x 40))) 87 (MO un ta fl 0 sa ne so di pu at_ er en pa tr)) := by
  refine q_SPi RX8 rfl (by decide +kernel) (la := _) rfl rfl (fun Γ ad C F => ?_)
  refine g_iload_n (pc := 0) C (hl := rfl) dX8_row_0 ?_
  refine g_S1v (pc := 1) C ls8_46 dX8_row_1 (s8_rowN x hx) (by decide) (Nat.le_of_ble_eq_true rfl) ?_
  refine g_if_eqN (pc := 4) C 25 dX8_row_4 (by decide) (by decide) (fun q => absurd q (by decide)) (fun _ => ?_)
  refine g_iload_n (pc := 7) C (hl := rfl) dX8_row_7 ?_
  refine g_i2l (pc := 8) C rfl dX8_row_8 ?_
  refine g_lconst (pc := 9) C (v := 0) rfl dX8_row_9 ?_
  refine g_ldc2 (pc := 10) C zk8_50 dX8_row_10 ?_
  refine g_S3v (pc := 13) C ls8_37 dX8_row_13 (s8_inN l 0 2 (by decide) (by decide) (by omega) (by decide)) (by decide) (Nat.le_of_ble_eq_true rfl) ?_
  refine g_if_eqN (pc := 16) C 25 dX8_row_16 (by decide) (by decide) (fun q => absurd q (by decide)) (fun _ => ?_)
  refine g_iload_n (pc := 19) C (hl := rfl) dX8_row_19 ?_
  refine g_bipush (pc := 20) C qk_bipush_40 dX8_row_20 ?_
  refine g_ic_leN (pc := 22) C 28 dX8_row_22 (by decide) (by omega) (fun _ => ?_) (fun q => absurd (by omega) q)
  refine g_iload_n (pc := 28) C (hl := rfl) dX8_row_28 ?_
  refine g_if_geN (pc := 29) C 38 dX8_row_29 (by decide) (by omega) ?_
  refine g_aload_n (pc := 38) C (hl := rfl) dX8_row_38 ?_
  refine g_get (pc := 39) C fl8_16 dX8_row_39 h0 rfl ?_
  refine g_iload_n (pc := 42) C (hl := rfl) dX8_row_42 ?_
  refine g_iload_n (pc := 43) C (hl := rfl) dX8_row_43 ?_
  refine g_iastM (pc := 44) C dX8_row_44 hL (by omega) ?_
  refine g_aload_n (pc := 45) C (hl := rfl) dX8_row_45 ?_
  refine g_get (pc := 46) C fl8_19 dX8_row_46 ((q_up_n _ _ (by decide)).trans h0) rfl ?_
  refine g_iload_n (pc := 49) C (hl := rfl) dX8_row_49 ?_
  refine g_iload_n (pc := 50) C (hl := rfl) dX8_row_50 ?_
  refine g_iastN (pc := 51) C dX8_row_51 ((q_up_n _ _ (by decide)).trans hZ) (by omega) ?_
  refine g_iconst (pc := 52) C qk_iconst_0 dX8_row_52 ?_
  refine g_istore (pc := 53) C rfl dX8_row_53 ?_
  exact l8_row hx C F 41 0 _ rfl (by decide) ((q_up_n _ _ (by decide)).trans ((q_up_n _ _ (by decide)).trans h0)) (((q_up_n _ _ (by decide)).trans ((q_up_n _ _ (by decide)).trans hI)).trans (by rw [iZe_0])) rfl
set_option maxHeartbeats 2000000 in
set_option maxRecDepth 20000 in
theorem s8_setB {n : Nat} {h : q_H} {un ta fl st sa ne so di pu at_ er en pa tr : Nat} {L I Tk : Nat → Int32} {Z : Nat → Nat} (x i v : Int32) (h0 : h 87 = MO un ta fl st sa ne so di pu at_ er en pa tr) (hL : h 90 = .inl (0, 8, L)) (hZ : h 91 = .inl (0, 8, qN Z)) (hI : h 92 = .inl (0, 320, I)) (hT : h 93 = .inl (0, 40, Tk)) (cx : x < 0 ∨ nI 8 ≤ x) : SP 2 yX8_set cX8_set 4 (some .int) [.ref 87, .int x, .int i, .int v] n h (some (.int (-1000001))) h := by
  refine q_SPi RX8 rfl (by decide +kernel) (la := _) rfl rfl (fun Γ ad C F => ?_)
  refine g_iload_n (pc := 0) C (hl := rfl) dX8_set_0 ?_
  refine g_S1v (pc := 1) C ls8_46 dX8_set_1 (s8_rowF x cx) (by decide) (Nat.le_of_ble_eq_true rfl) ?_
  refine g_if_neN (pc := 4) C 10 dX8_set_4 (by decide) (by decide) (fun q => absurd q (by decide)) (fun _ => ?_)
  refine g_ldc (pc := 7) C (v := -1000001) zk8_52 dX8_set_7 ?_
  exact g_iret (pc := 9) C F dX8_set_9 rfl rfl (rfl) (rfl)
set_option maxHeartbeats 2000000 in
set_option maxRecDepth 20000 in
theorem s8_setM {n : Nat} {h : q_H} {un ta fl st sa ne so di pu at_ er en pa tr : Nat} {L I Tk : Nat → Int32} {Z : Nat → Nat} (x : Nat) (i v : Int32) (h0 : h 87 = MO un ta fl st sa ne so di pu at_ er en pa tr) (hL : h 90 = .inl (0, 8, L)) (hZ : h 91 = .inl (0, 8, qN Z)) (hI : h 92 = .inl (0, 320, I)) (hT : h 93 = .inl (0, 40, Tk)) (hx : x < 8) (hm : L x = -1) : SP 2 yX8_set cX8_set 4 (some .int) [.ref 87, .int (nI x), .int i, .int v] n h (some (.int (-1000010 - nI 1))) (q_up h 87 (MO un ta fl 1 sa ne so di pu at_ er en pa tr)) := by
  refine q_SPi RX8 rfl (by decide +kernel) (la := _) rfl rfl (fun Γ ad C F => ?_)
  refine g_iload_n (pc := 0) C (hl := rfl) dX8_set_0 ?_
  refine g_S1v (pc := 1) C ls8_46 dX8_set_1 (s8_rowN x hx) (by decide) (Nat.le_of_ble_eq_true rfl) ?_
  refine g_if_neN (pc := 4) C 10 dX8_set_4 (by decide) (by decide) (fun _ => ?_) (fun q => absurd q (by decide))
  refine g_aload_n (pc := 10) C (hl := rfl) dX8_set_10 ?_
  refine g_get (pc := 11) C fl8_16 dX8_set_11 h0 rfl ?_
  refine g_iload_n (pc := 14) C (hl := rfl) dX8_set_14 ?_
  refine g_ialdW (pc := 15) C dX8_set_15 hL (by omega) hm ?_
  refine g_if_ge (pc := 16) C 25 dX8_set_16 (by decide) (fun q => absurd q (by decide)) (fun _ => ?_)
  refine g_aload_n (pc := 19) C (hl := rfl) dX8_set_19 ?_
  refine g_iconst (pc := 20) C qk_iconst_1 dX8_set_20 ?_
  refine g_V1v (pc := 21) C lv8_53 dX8_set_21 (s8_found _ h0) h0 (by decide) (Nat.le_of_ble_eq_true rfl) ?_
  exact g_iret (pc := 24) C F dX8_set_24 rfl rfl (rfl) (rfl)
set_option maxHeartbeats 2000000 in
set_option maxRecDepth 20000 in
theorem s8_setP {n : Nat} {h : q_H} {un ta fl st sa ne so di pu at_ er en pa tr : Nat} {L I Tk : Nat → Int32} {Z : Nat → Nat} (x : Nat) (i v : Int32) (h0 : h 87 = MO un ta fl st sa ne so di pu at_ er en pa tr) (hL : h 90 = .inl (0, 8, L)) (hZ : h 91 = .inl (0, 8, qN Z)) (hI : h 92 = .inl (0, 320, I)) (hT : h 93 = .inl (0, 40, Tk)) (hx : x < 8) {l : Nat} (hm : L x = nI l) (hl : l < 3) (hz : Z x ≤ 40) (hp : i < 0 ∨ nI (Z x) ≤ i) : SP 2 yX8_set cX8_set 4 (some .int) [.ref 87, .int (nI x), .int i, .int v] n h (some (.int (-1000010 - nI 2))) (q_up h 87 (MO un ta fl 2 sa ne so di pu at_ er en pa tr)) := by
  refine q_SPi RX8 rfl (by decide +kernel) (la := _) rfl rfl (fun Γ ad C F => ?_)
  refine g_iload_n (pc := 0) C (hl := rfl) dX8_set_0 ?_
  refine g_S1v (pc := 1) C ls8_46 dX8_set_1 (s8_rowN x hx) (by decide) (Nat.le_of_ble_eq_true rfl) ?_
  refine g_if_neN (pc := 4) C 10 dX8_set_4 (by decide) (by decide) (fun _ => ?_) (fun q => absurd q (by decide))
  refine g_aload_n (pc := 10) C (hl := rfl) dX8_set_10 ?_
  refine g_get (pc := 11) C fl8_16 dX8_set_11 h0 rfl ?_
  refine g_iload_n (pc := 14) C (hl := rfl) dX8_set_14 ?_
  refine g_ialdW (pc := 15) C dX8_set_15 hL (by omega) hm ?_
  refine g_if_geN (pc := 16) C 25 dX8_set_16 (by decide) (by omega) ?_
  refine g_iload_n (pc := 25) C (hl := rfl) dX8_set_25 ?_
  refine g_i2l (pc := 26) C rfl dX8_set_26 ?_
  refine g_lconst (pc := 27) C (v := 0) rfl dX8_set_27 ?_
  refine g_aload_n (pc := 28) C (hl := rfl) dX8_set_28 ?_
  refine g_get (pc := 29) C fl8_19 dX8_set_29 h0 rfl ?_
  refine g_iload_n (pc := 32) C (hl := rfl) dX8_set_32 ?_
  refine g_ialdN (pc := 33) C dX8_set_33 hZ (by omega) ?_
  refine g_iconst (pc := 34) C qk_iconst_1 dX8_set_34 ?_
  refine g_isubE (pc := 35) C (w := qI ((Z x : Int) - 1)) (by show nI (Z x) - nI 1 = _; rw [qI_N, qI_N, qI_sub]; rfl) dX8_set_35 ?_
  refine g_i2l (pc := 36) C rfl dX8_set_36 ?_
  refine g_S3v (pc := 37) C ls8_37 dX8_set_37 (s8_inF i (nI 0) (qI ((Z x : Int) - 1)) (by decide) rfl (hp.imp id (fun q => (q_gel1 (Z x) (by omega) i).mpr q))) (by decide) (Nat.le_of_ble_eq_true rfl) ?_
  refine g_if_neN (pc := 40) C 49 dX8_set_40 (by decide) (by decide) (fun q => absurd q (by decide)) (fun _ => ?_)
  refine g_aload_n (pc := 43) C (hl := rfl) dX8_set_43 ?_
  refine g_iconst (pc := 44) C qk_iconst_2 dX8_set_44 ?_
  refine g_V1v (pc := 45) C lv8_53 dX8_set_45 (s8_found _ h0) h0 (by decide) (Nat.le_of_ble_eq_true rfl) ?_
  exact g_iret (pc := 48) C F dX8_set_48 rfl rfl (rfl) (rfl)
set_option maxHeartbeats 2000000 in
set_option maxRecDepth 20000 in
theorem s8_setT {n : Nat} {h : q_H} {un ta fl st sa ne so di pu at_ er en pa tr : Nat} {L I Tk : Nat → Int32} {Z : Nat → Nat} (x i : Nat) (v : Int32) (h0 : h 87 = MO un ta fl st sa ne so di pu at_ er en pa tr) (hL : h 90 = .inl (0, 8, L)) (hZ : h 91 = .inl (0, 8, qN Z)) (hI : h 92 = .inl (0, 320, I)) (hT : h 93 = .inl (0, 40, Tk)) (hx : x < 8) {l : Nat} (hm : L x = nI l) (hl : l < 3) (hz : Z x ≤ 40) (hp : i < Z x) : SP 2 yX8_set cX8_set 4 (some .int) [.ref 87, .int (nI x), .int (nI i), .int v] n h (some (.int (mNar l v))) (q_up (q_up h 92 (.inl (0, 320, va_up I (40 * x + i) (mNar l v)))) 87 (MO un ta fl 0 sa ne so di pu at_ er en pa tr)) := by
  refine q_SPi RX8 rfl (by decide +kernel) (la := _) rfl rfl (fun Γ ad C F => ?_)
  refine g_iload_n (pc := 0) C (hl := rfl) dX8_set_0 ?_
  refine g_S1v (pc := 1) C ls8_46 dX8_set_1 (s8_rowN x hx) (by decide) (Nat.le_of_ble_eq_true rfl) ?_
  refine g_if_neN (pc := 4) C 10 dX8_set_4 (by decide) (by decide) (fun _ => ?_) (fun q => absurd q (by decide))
  refine g_aload_n (pc := 10) C (hl := rfl) dX8_set_10 ?_
  refine g_get (pc := 11) C fl8_16 dX8_set_11 h0 rfl ?_
  refine g_iload_n (pc := 14) C (hl := rfl) dX8_set_14 ?_
  refine g_ialdW (pc := 15) C dX8_set_15 hL (by omega) hm ?_
  refine g_if_geN (pc := 16) C 25 dX8_set_16 (by decide) (by omega) ?_
  refine g_iload_n (pc := 25) C (hl := rfl) dX8_set_25 ?_
  refine g_i2l (pc := 26) C rfl dX8_set_26 ?_
  refine g_lconst (pc := 27) C (v := 0) rfl dX8_set_27 ?_
  refine g_aload_n (pc := 28) C (hl := rfl) dX8_set_28 ?_
  refine g_get (pc := 29) C fl8_19 dX8_set_29 h0 rfl ?_
  refine g_iload_n (pc := 32) C (hl := rfl) dX8_set_32 ?_
  refine g_ialdN (pc := 33) C dX8_set_33 hZ (by omega) ?_
  refine g_iconst (pc := 34) C qk_iconst_1 dX8_set_34 ?_
  refine g_isubE (pc := 35) C (w := qI ((Z x : Int) - 1)) (by show nI (Z x) - nI 1 = _; rw [qI_N, qI_N, qI_sub]; rfl) dX8_set_35 ?_
  refine g_i2l (pc := 36) C rfl dX8_set_36 ?_
  refine g_S3v (pc := 37) C ls8_37 dX8_set_37 (s8_inT (nI i) (nI 0) (qI ((Z x : Int) - 1)) (by decide) rfl (fun z => z.elim (fun q => absurd q (nI_pos (by omega))) (fun q => absurd ((nI_leI (by omega) (by omega)).mp ((q_gel1 (Z x) (by omega) (nI i)).mp q)) (by omega)))) (by decide) (Nat.le_of_ble_eq_true rfl) ?_
  refine g_if_neN (pc := 40) C 49 dX8_set_40 (by decide) (by decide) (fun _ => ?_) (fun q => absurd q (by decide))
  refine g_aload_n (pc := 49) C (hl := rfl) dX8_set_49 ?_
  refine g_get (pc := 50) C fl8_22 dX8_set_50 h0 rfl ?_
  refine g_bipush (pc := 53) C qk_bipush_40 dX8_set_53 ?_
  refine g_iload_n (pc := 55) C (hl := rfl) dX8_set_55 ?_
  refine g_imulN (pc := 56) C dX8_set_56 ?_
  refine g_iload_n (pc := 57) C (hl := rfl) dX8_set_57 ?_
  refine g_iaddN (pc := 58) C dX8_set_58 ?_
  refine g_aload_n (pc := 59) C (hl := rfl) dX8_set_59 ?_
  refine g_get (pc := 60) C fl8_16 dX8_set_60 h0 rfl ?_
  refine g_iload_n (pc := 63) C (hl := rfl) dX8_set_63 ?_
  refine g_ialdW (pc := 64) C dX8_set_64 hL (by omega) hm ?_
  refine g_if_neN (pc := 65) C 73 dX8_set_65 (by decide) (by omega) (fun c65 => ?_) (fun c65 => ?_)
  · refine g_aload_n (pc := 73) C (hl := rfl) dX8_set_73 ?_
    refine g_get (pc := 74) C fl8_16 dX8_set_74 h0 rfl ?_
    refine g_iload_n (pc := 77) C (hl := rfl) dX8_set_77 ?_
    refine g_ialdW (pc := 78) C dX8_set_78 hL (by omega) hm ?_
    refine g_iconst (pc := 79) C qk_iconst_1 dX8_set_79 ?_
    refine g_ic_neN (pc := 80) C 88 dX8_set_80 (by decide) (by omega) (fun c80 => ?_) (fun c80 => ?_)
    · refine g_iload_n (pc := 88) C (hl := rfl) dX8_set_88 ?_
      have e : mNar l v = v := (if_neg c65).trans (if_neg c80)
      refine g_iastW (pc := 89) C dX8_set_89 hI (by omega) rfl ?_
      refine g_aload_n (pc := 90) C (hl := rfl) dX8_set_90 ?_
      refine g_aload_n (pc := 91) C (hl := rfl) dX8_set_91 ?_
      refine g_get (pc := 92) C fl8_22 dX8_set_92 ((q_up_n _ _ (by decide)).trans h0) rfl ?_
      refine g_bipush (pc := 95) C qk_bipush_40 dX8_set_95 ?_
      refine g_iload_n (pc := 97) C (hl := rfl) dX8_set_97 ?_
      refine g_imulN (pc := 98) C dX8_set_98 ?_
      refine g_iload_n (pc := 99) C (hl := rfl) dX8_set_99 ?_
      refine g_iaddN (pc := 100) C dX8_set_100 ?_
      refine g_ialdW (pc := 101) C dX8_set_101 (q_up_s _ _ _) (by omega) (va_up_self _ _ _) ?_
      refine g_V1v (pc := 102) C lv8_57 dX8_set_102 (s8_well _ ((q_up_n _ _ (by decide)).trans h0)) ((q_up_n _ _ (by decide)).trans h0) (by decide) (Nat.le_of_ble_eq_true rfl) ?_
      exact g_iret (pc := 105) C F dX8_set_105 rfl rfl (by rw [e]) (by rw [e])
    · refine g_iload_n (pc := 83) C (hl := rfl) dX8_set_83 ?_
      refine g_i2s (pc := 84) C rfl dX8_set_84 ?_
      refine g_goto (pc := 85) C 89 dX8_set_85 (by decide) ?_
      have e : mNar l v = v.toInt16.toInt32 := (if_neg c65).trans (if_pos c80)
      refine g_iastW (pc := 89) C dX8_set_89 hI (by omega) rfl ?_
      refine g_aload_n (pc := 90) C (hl := rfl) dX8_set_90 ?_
      refine g_aload_n (pc := 91) C (hl := rfl) dX8_set_91 ?_
      refine g_get (pc := 92) C fl8_22 dX8_set_92 ((q_up_n _ _ (by decide)).trans h0) rfl ?_
      refine g_bipush (pc := 95) C qk_bipush_40 dX8_set_95 ?_
      refine g_iload_n (pc := 97) C (hl := rfl) dX8_set_97 ?_
      refine g_imulN (pc := 98) C dX8_set_98 ?_
      refine g_iload_n (pc := 99) C (hl := rfl) dX8_set_99 ?_
      refine g_iaddN (pc := 100) C dX8_set_100 ?_
      refine g_ialdW (pc := 101) C dX8_set_101 (q_up_s _ _ _) (by omega) (va_up_self _ _ _) ?_
      refine g_V1v (pc := 102) C lv8_57 dX8_set_102 (s8_well _ ((q_up_n _ _ (by decide)).trans h0)) ((q_up_n _ _ (by decide)).trans h0) (by decide) (Nat.le_of_ble_eq_true rfl) ?_
      exact g_iret (pc := 105) C F dX8_set_105 rfl rfl (by rw [e]) (by rw [e])
  · refine g_iload_n (pc := 68) C (hl := rfl) dX8_set_68 ?_
    refine g_i2b (pc := 69) C rfl dX8_set_69 ?_
    refine g_goto (pc := 70) C 89 dX8_set_70 (by decide) ?_
    have e : mNar l v = v.toInt8.toInt32 := if_pos c65
    refine g_iastW (pc := 89) C dX8_set_89 hI (by omega) rfl ?_
    refine g_aload_n (pc := 90) C (hl := rfl) dX8_set_90 ?_
    refine g_aload_n (pc := 91) C (hl := rfl) dX8_set_91 ?_
    refine g_get (pc := 92) C fl8_22 dX8_set_92 ((q_up_n _ _ (by decide)).trans h0) rfl ?_
    refine g_bipush (pc := 95) C qk_bipush_40 dX8_set_95 ?_
    refine g_iload_n (pc := 97) C (hl := rfl) dX8_set_97 ?_
    refine g_imulN (pc := 98) C dX8_set_98 ?_
    refine g_iload_n (pc := 99) C (hl := rfl) dX8_set_99 ?_
    refine g_iaddN (pc := 100) C dX8_set_100 ?_
    refine g_ialdW (pc := 101) C dX8_set_101 (q_up_s _ _ _) (by omega) (va_up_self _ _ _) ?_
    refine g_V1v (pc := 102) C lv8_57 dX8_set_102 (s8_well _ ((q_up_n _ _ (by decide)).trans h0)) ((q_up_n _ _ (by decide)).trans h0) (by decide) (Nat.le_of_ble_eq_true rfl) ?_
    exact g_iret (pc := 105) C F dX8_set_105 rfl rfl (by rw [e]) (by rw [e])
set_option maxHeartbeats 2000000 in
set_option maxRecDepth 20000 in
theorem s8_dropB {n : Nat} {h : q_H} {un ta fl st sa ne so di pu at_ er en pa tr : Nat} {L I Tk : Nat → Int32} {Z : Nat → Nat} (x : Int32) (h0 : h 87 = MO un ta fl st sa ne so di pu at_ er en pa tr) (hL : h 90 = .inl (0, 8, L)) (hZ : h 91 = .inl (0, 8, qN Z)) (hI : h 92 = .inl (0, 320, I)) (hT : h 93 = .inl (0, 40, Tk)) (cx : x < 0 ∨ nI 8 ≤ x) : SP 2 yX8_drop cX8_drop 2 (some .int) [.ref 87, .int x] n h (some (.int (-1000001))) h := by
  refine q_SPi RX8 rfl (by decide +kernel) (la := _) rfl rfl (fun Γ ad C F => ?_)
  refine g_iload_n (pc := 0) C (hl := rfl) dX8_drop_0 ?_
  refine g_S1v (pc := 1) C ls8_46 dX8_drop_1 (s8_rowF x cx) (by decide) (Nat.le_of_ble_eq_true rfl) ?_
  refine g_if_neN (pc := 4) C 10 dX8_drop_4 (by decide) (by decide) (fun q => absurd q (by decide)) (fun _ => ?_)
  refine g_ldc (pc := 7) C (v := -1000001) zk8_52 dX8_drop_7 ?_
  exact g_iret (pc := 9) C F dX8_drop_9 rfl rfl (rfl) (rfl)
set_option maxHeartbeats 2000000 in
set_option maxRecDepth 20000 in
theorem s8_dropM {n : Nat} {h : q_H} {un ta fl st sa ne so di pu at_ er en pa tr : Nat} {L I Tk : Nat → Int32} {Z : Nat → Nat} (x : Nat) (h0 : h 87 = MO un ta fl st sa ne so di pu at_ er en pa tr) (hL : h 90 = .inl (0, 8, L)) (hZ : h 91 = .inl (0, 8, qN Z)) (hI : h 92 = .inl (0, 320, I)) (hT : h 93 = .inl (0, 40, Tk)) (hx : x < 8) (hm : L x = -1) : SP 2 yX8_drop cX8_drop 2 (some .int) [.ref 87, .int (nI x)] n h (some (.int (-1000010 - nI 1))) (q_up h 87 (MO un ta fl 1 sa ne so di pu at_ er en pa tr)) := by
  refine q_SPi RX8 rfl (by decide +kernel) (la := _) rfl rfl (fun Γ ad C F => ?_)
  refine g_iload_n (pc := 0) C (hl := rfl) dX8_drop_0 ?_
  refine g_S1v (pc := 1) C ls8_46 dX8_drop_1 (s8_rowN x hx) (by decide) (Nat.le_of_ble_eq_true rfl) ?_
  refine g_if_neN (pc := 4) C 10 dX8_drop_4 (by decide) (by decide) (fun _ => ?_) (fun q => absurd q (by decide))
  refine g_aload_n (pc := 10) C (hl := rfl) dX8_drop_10 ?_
  refine g_get (pc := 11) C fl8_16 dX8_drop_11 h0 rfl ?_
  refine g_iload_n (pc := 14) C (hl := rfl) dX8_drop_14 ?_
  refine g_ialdW (pc := 15) C dX8_drop_15 hL (by omega) hm ?_
  refine g_if_ge (pc := 16) C 25 dX8_drop_16 (by decide) (fun q => absurd q (by decide)) (fun _ => ?_)
  refine g_aload_n (pc := 19) C (hl := rfl) dX8_drop_19 ?_
  refine g_iconst (pc := 20) C qk_iconst_1 dX8_drop_20 ?_
  refine g_V1v (pc := 21) C lv8_53 dX8_drop_21 (s8_found _ h0) h0 (by decide) (Nat.le_of_ble_eq_true rfl) ?_
  exact g_iret (pc := 24) C F dX8_drop_24 rfl rfl (rfl) (rfl)
set_option maxHeartbeats 2000000 in
set_option maxRecDepth 20000 in
theorem s8_dropT {n : Nat} {h : q_H} {un ta fl st sa ne so di pu at_ er en pa tr : Nat} {L I Tk : Nat → Int32} {Z : Nat → Nat} (x : Nat) (h0 : h 87 = MO un ta fl st sa ne so di pu at_ er en pa tr) (hL : h 90 = .inl (0, 8, L)) (hZ : h 91 = .inl (0, 8, qN Z)) (hI : h 92 = .inl (0, 320, I)) (hT : h 93 = .inl (0, 40, Tk)) (hx : x < 8) {l : Nat} (hm : L x = nI l) (hl : l < 3) : SP 2 yX8_drop cX8_drop 2 (some .int) [.ref 87, .int (nI x)] n h (some (.int (nI (Z x)))) (q_up (q_up h 90 (.inl (0, 8, va_up L x (-1)))) 87 (MO un ta fl 0 sa ne so di pu at_ er en pa tr)) := by
  refine q_SPi RX8 rfl (by decide +kernel) (la := _) rfl rfl (fun Γ ad C F => ?_)
  refine g_iload_n (pc := 0) C (hl := rfl) dX8_drop_0 ?_
  refine g_S1v (pc := 1) C ls8_46 dX8_drop_1 (s8_rowN x hx) (by decide) (Nat.le_of_ble_eq_true rfl) ?_
  refine g_if_neN (pc := 4) C 10 dX8_drop_4 (by decide) (by decide) (fun _ => ?_) (fun q => absurd q (by decide))
  refine g_aload_n (pc := 10) C (hl := rfl) dX8_drop_10 ?_
  refine g_get (pc := 11) C fl8_16 dX8_drop_11 h0 rfl ?_
  refine g_iload_n (pc := 14) C (hl := rfl) dX8_drop_14 ?_
  refine g_ialdW (pc := 15) C dX8_drop_15 hL (by omega) hm ?_
  refine g_if_geN (pc := 16) C 25 dX8_drop_16 (by decide) (by omega) ?_
  refine g_aload_n (pc := 25) C (hl := rfl) dX8_drop_25 ?_
  refine g_get (pc := 26) C fl8_16 dX8_drop_26 h0 rfl ?_
  refine g_iload_n (pc := 29) C (hl := rfl) dX8_drop_29 ?_
  refine g_iconst (pc := 30) C qk_iconst_m1 dX8_drop_30 ?_
  refine g_iastW (pc := 31) C dX8_drop_31 hL (by omega) rfl ?_
  refine g_aload_n (pc := 32) C (hl := rfl) dX8_drop_32 ?_
  refine g_aload_n (pc := 33) C (hl := rfl) dX8_drop_33 ?_
  refine g_get (pc := 34) C fl8_19 dX8_drop_34 ((q_up_n _ _ (by decide)).trans h0) rfl ?_
  refine g_iload_n (pc := 37) C (hl := rfl) dX8_drop_37 ?_
  refine g_ialdN (pc := 38) C dX8_drop_38 ((q_up_n _ _ (by decide)).trans hZ) (by omega) ?_
  refine g_V1v (pc := 39) C lv8_57 dX8_drop_39 (s8_well _ ((q_up_n _ _ (by decide)).trans h0)) ((q_up_n _ _ (by decide)).trans h0) (by decide) (Nat.le_of_ble_eq_true rfl) ?_
  exact g_iret (pc := 42) C F dX8_drop_42 rfl rfl (rfl) (rfl)
set_option maxHeartbeats 2000000 in
set_option maxRecDepth 20000 in
theorem s8_copyB {n : Nat} {h : q_H} {un ta fl st sa ne so di pu at_ er en pa tr : Nat} {L I Tk : Nat → Int32} {Z : Nat → Nat} (x a y b c : Int32) (h0 : h 87 = MO un ta fl st sa ne so di pu at_ er en pa tr) (hL : h 90 = .inl (0, 8, L)) (hZ : h 91 = .inl (0, 8, qN Z)) (hI : h 92 = .inl (0, 320, I)) (hT : h 93 = .inl (0, 40, Tk)) (hb : (x < 0 ∨ nI 8 ≤ x) ∨ (y < 0 ∨ nI 8 ≤ y)) : SP 2 yX8_copy cX8_copy 7 (some .int) [.ref 87, .int x, .int a, .int y, .int b, .int c] n h (some (.int (-1000001))) h := by
  refine q_SPi RX8 rfl (by decide +kernel) (la := _) rfl rfl (fun Γ ad C F => ?_)
  refine g_iload_n (pc := 0) C (hl := rfl) dX8_copy_0 ?_
  by_cases cx : x < 0 ∨ nI 8 ≤ x
  · refine g_S1v (pc := 1) C ls8_46 dX8_copy_1 (s8_rowF x cx) (by decide) (Nat.le_of_ble_eq_true rfl) ?_
    refine g_if_eqN (pc := 4) C 14 dX8_copy_4 (by decide) (by decide) (fun _ => ?_) (fun q => absurd q (by decide))
    refine g_ldc (pc := 14) C (v := -1000001) zk8_52 dX8_copy_14 ?_
    exact g_iret (pc := 16) C F dX8_copy_16 rfl rfl (rfl) (rfl)
  · refine g_S1v (pc := 1) C ls8_46 dX8_copy_1 (s8_rowU x cx) (by decide) (Nat.le_of_ble_eq_true rfl) ?_
    refine g_if_eqN (pc := 4) C 14 dX8_copy_4 (by decide) (by decide) (fun q => absurd q (by decide)) (fun _ => ?_)
    refine g_iload_n (pc := 7) C (hl := rfl) dX8_copy_7 ?_
    by_cases cy : y < 0 ∨ nI 8 ≤ y
    · refine g_S1v (pc := 8) C ls8_46 dX8_copy_8 (s8_rowF y cy) (by decide) (Nat.le_of_ble_eq_true rfl) ?_
      refine g_if_neN (pc := 11) C 17 dX8_copy_11 (by decide) (by decide) (fun q => absurd q (by decide)) (fun _ => ?_)
      refine g_ldc (pc := 14) C (v := -1000001) zk8_52 dX8_copy_14 ?_
      exact g_iret (pc := 16) C F dX8_copy_16 rfl rfl (rfl) (rfl)
    · refine g_S1v (pc := 8) C ls8_46 dX8_copy_8 (s8_rowU y cy) (by decide) (Nat.le_of_ble_eq_true rfl) ?_
      refine g_if_neN (pc := 11) C 17 dX8_copy_11 (by decide) (by decide) (fun _ => ?_) (fun q => absurd q (by decide))
      exact absurd hb (fun q => q.elim cx cy)
set_option maxHeartbeats 2000000 in
set_option maxRecDepth 20000 in
theorem s8_copyM1 {n : Nat} {h : q_H} {un ta fl st sa ne so di pu at_ er en pa tr : Nat} {L I Tk : Nat → Int32} {Z : Nat → Nat} (x y : Nat) (a b c : Int32) (h0 : h 87 = MO un ta fl st sa ne so di pu at_ er en pa tr) (hL : h 90 = .inl (0, 8, L)) (hZ : h 91 = .inl (0, 8, qN Z)) (hI : h 92 = .inl (0, 320, I)) (hT : h 93 = .inl (0, 40, Tk)) (hx : x < 8) (hy : y < 8) (hm : L x = -1) : SP 2 yX8_copy cX8_copy 7 (some .int) [.ref 87, .int (nI x), .int a, .int (nI y), .int b, .int c] n h (some (.int (-1000010 - nI 1))) (q_up h 87 (MO un ta fl 1 sa ne so di pu at_ er en pa tr)) := by
  refine q_SPi RX8 rfl (by decide +kernel) (la := _) rfl rfl (fun Γ ad C F => ?_)
  refine g_iload_n (pc := 0) C (hl := rfl) dX8_copy_0 ?_
  refine g_S1v (pc := 1) C ls8_46 dX8_copy_1 (s8_rowN x hx) (by decide) (Nat.le_of_ble_eq_true rfl) ?_
  refine g_if_eqN (pc := 4) C 14 dX8_copy_4 (by decide) (by decide) (fun q => absurd q (by decide)) (fun _ => ?_)
  refine g_iload_n (pc := 7) C (hl := rfl) dX8_copy_7 ?_
  refine g_S1v (pc := 8) C ls8_46 dX8_copy_8 (s8_rowN y hy) (by decide) (Nat.le_of_ble_eq_true rfl) ?_
  refine g_if_neN (pc := 11) C 17 dX8_copy_11 (by decide) (by decide) (fun _ => ?_) (fun q => absurd q (by decide))
  refine g_aload_n (pc := 17) C (hl := rfl) dX8_copy_17 ?_
  refine g_get (pc := 18) C fl8_16 dX8_copy_18 h0 rfl ?_
  refine g_iload_n (pc := 21) C (hl := rfl) dX8_copy_21 ?_
  refine g_ialdW (pc := 22) C dX8_copy_22 hL (by omega) hm ?_
  refine g_if_lt (pc := 23) C 35 dX8_copy_23 (by decide) (fun _ => ?_) (fun q => absurd (by decide) q)
  refine g_aload_n (pc := 35) C (hl := rfl) dX8_copy_35 ?_
  refine g_iconst (pc := 36) C qk_iconst_1 dX8_copy_36 ?_
  refine g_V1v (pc := 37) C lv8_53 dX8_copy_37 (s8_found _ h0) h0 (by decide) (Nat.le_of_ble_eq_true rfl) ?_
  exact g_iret (pc := 40) C F dX8_copy_40 rfl rfl (rfl) (rfl)
set_option maxHeartbeats 2000000 in
set_option maxRecDepth 20000 in
theorem s8_copyM2 {n : Nat} {h : q_H} {un ta fl st sa ne so di pu at_ er en pa tr : Nat} {L I Tk : Nat → Int32} {Z : Nat → Nat} (x y : Nat) (a b c : Int32) (h0 : h 87 = MO un ta fl st sa ne so di pu at_ er en pa tr) (hL : h 90 = .inl (0, 8, L)) (hZ : h 91 = .inl (0, 8, qN Z)) (hI : h 92 = .inl (0, 320, I)) (hT : h 93 = .inl (0, 40, Tk)) (hx : x < 8) (hy : y < 8) {l : Nat} (hmx : L x = nI l) (hl : l < 3) (hm : L y = -1) : SP 2 yX8_copy cX8_copy 7 (some .int) [.ref 87, .int (nI x), .int a, .int (nI y), .int b, .int c] n h (some (.int (-1000010 - nI 1))) (q_up h 87 (MO un ta fl 1 sa ne so di pu at_ er en pa tr)) := by
  refine q_SPi RX8 rfl (by decide +kernel) (la := _) rfl rfl (fun Γ ad C F => ?_)
  refine g_iload_n (pc := 0) C (hl := rfl) dX8_copy_0 ?_
  refine g_S1v (pc := 1) C ls8_46 dX8_copy_1 (s8_rowN x hx) (by decide) (Nat.le_of_ble_eq_true rfl) ?_
  refine g_if_eqN (pc := 4) C 14 dX8_copy_4 (by decide) (by decide) (fun q => absurd q (by decide)) (fun _ => ?_)
  refine g_iload_n (pc := 7) C (hl := rfl) dX8_copy_7 ?_
  refine g_S1v (pc := 8) C ls8_46 dX8_copy_8 (s8_rowN y hy) (by decide) (Nat.le_of_ble_eq_true rfl) ?_
  refine g_if_neN (pc := 11) C 17 dX8_copy_11 (by decide) (by decide) (fun _ => ?_) (fun q => absurd q (by decide))
  refine g_aload_n (pc := 17) C (hl := rfl) dX8_copy_17 ?_
  refine g_get (pc := 18) C fl8_16 dX8_copy_18 h0 rfl ?_
  refine g_iload_n (pc := 21) C (hl := rfl) dX8_copy_21 ?_
  refine g_ialdW (pc := 22) C dX8_copy_22 hL (by omega) hmx ?_
  refine g_if_ltN (pc := 23) C 35 dX8_copy_23 (by decide) (by omega) ?_
  refine g_aload_n (pc := 26) C (hl := rfl) dX8_copy_26 ?_
  refine g_get (pc := 27) C fl8_16 dX8_copy_27 h0 rfl ?_
  refine g_iload_n (pc := 30) C (hl := rfl) dX8_copy_30 ?_
  refine g_ialdW (pc := 31) C dX8_copy_31 hL (by omega) hm ?_
  refine g_if_ge (pc := 32) C 41 dX8_copy_32 (by decide) (fun q => absurd q (by decide)) (fun _ => ?_)
  refine g_aload_n (pc := 35) C (hl := rfl) dX8_copy_35 ?_
  refine g_iconst (pc := 36) C qk_iconst_1 dX8_copy_36 ?_
  refine g_V1v (pc := 37) C lv8_53 dX8_copy_37 (s8_found _ h0) h0 (by decide) (Nat.le_of_ble_eq_true rfl) ?_
  exact g_iret (pc := 40) C F dX8_copy_40 rfl rfl (rfl) (rfl)
set_option maxHeartbeats 2000000 in
set_option maxRecDepth 20000 in
theorem s8_copyL {n : Nat} {h : q_H} {un ta fl st sa ne so di pu at_ er en pa tr : Nat} {L I Tk : Nat → Int32} {Z : Nat → Nat} (x y : Nat) (a b c : Int32) (h0 : h 87 = MO un ta fl st sa ne so di pu at_ er en pa tr) (hL : h 90 = .inl (0, 8, L)) (hZ : h 91 = .inl (0, 8, qN Z)) (hI : h 92 = .inl (0, 320, I)) (hT : h 93 = .inl (0, 40, Tk)) (hx : x < 8) (hy : y < 8) {l l2 : Nat} (hmx : L x = nI l) (hl : l < 3) (hmy : L y = nI l2) (hl2 : l2 < 3) (hne : ¬ l = l2) : SP 2 yX8_copy cX8_copy 7 (some .int) [.ref 87, .int (nI x), .int a, .int (nI y), .int b, .int c] n h (some (.int (-1000010 - nI 5))) (q_up h 87 (MO un ta fl 5 sa ne so di pu at_ er en pa tr)) := by
  refine q_SPi RX8 rfl (by decide +kernel) (la := _) rfl rfl (fun Γ ad C F => ?_)
  refine g_iload_n (pc := 0) C (hl := rfl) dX8_copy_0 ?_
  refine g_S1v (pc := 1) C ls8_46 dX8_copy_1 (s8_rowN x hx) (by decide) (Nat.le_of_ble_eq_true rfl) ?_
  refine g_if_eqN (pc := 4) C 14 dX8_copy_4 (by decide) (by decide) (fun q => absurd q (by decide)) (fun _ => ?_)
  refine g_iload_n (pc := 7) C (hl := rfl) dX8_copy_7 ?_
  refine g_S1v (pc := 8) C ls8_46 dX8_copy_8 (s8_rowN y hy) (by decide) (Nat.le_of_ble_eq_true rfl) ?_
  refine g_if_neN (pc := 11) C 17 dX8_copy_11 (by decide) (by decide) (fun _ => ?_) (fun q => absurd q (by decide))
  refine g_aload_n (pc := 17) C (hl := rfl) dX8_copy_17 ?_
  refine g_get (pc := 18) C fl8_16 dX8_copy_18 h0 rfl ?_
  refine g_iload_n (pc := 21) C (hl := rfl) dX8_copy_21 ?_
  refine g_ialdW (pc := 22) C dX8_copy_22 hL (by omega) hmx ?_
  refine g_if_ltN (pc := 23) C 35 dX8_copy_23 (by decide) (by omega) ?_
  refine g_aload_n (pc := 26) C (hl := rfl) dX8_copy_26 ?_
  refine g_get (pc := 27) C fl8_16 dX8_copy_27 h0 rfl ?_
  refine g_iload_n (pc := 30) C (hl := rfl) dX8_copy_30 ?_
  refine g_ialdW (pc := 31) C dX8_copy_31 hL (by omega) hmy ?_
  refine g_if_geN (pc := 32) C 41 dX8_copy_32 (by decide) (by omega) ?_
  refine g_aload_n (pc := 41) C (hl := rfl) dX8_copy_41 ?_
  refine g_get (pc := 42) C fl8_16 dX8_copy_42 h0 rfl ?_
  refine g_iload_n (pc := 45) C (hl := rfl) dX8_copy_45 ?_
  refine g_ialdW (pc := 46) C dX8_copy_46 hL (by omega) hmx ?_
  refine g_aload_n (pc := 47) C (hl := rfl) dX8_copy_47 ?_
  refine g_get (pc := 48) C fl8_16 dX8_copy_48 h0 rfl ?_
  refine g_iload_n (pc := 51) C (hl := rfl) dX8_copy_51 ?_
  refine g_ialdW (pc := 52) C dX8_copy_52 hL (by omega) hmy ?_
  refine g_ic_eqN (pc := 53) C 62 dX8_copy_53 (by decide) (by omega) (fun q => absurd q (hne)) (fun _ => ?_)
  refine g_aload_n (pc := 56) C (hl := rfl) dX8_copy_56 ?_
  refine g_iconst (pc := 57) C qk_iconst_5 dX8_copy_57 ?_
  refine g_V1v (pc := 58) C lv8_53 dX8_copy_58 (s8_found _ h0) h0 (by decide) (Nat.le_of_ble_eq_true rfl) ?_
  exact g_iret (pc := 61) C F dX8_copy_61 rfl rfl (rfl) (rfl)
set_option maxHeartbeats 2000000 in
set_option maxRecDepth 20000 in
theorem s8_copyP1 {n : Nat} {h : q_H} {un ta fl st sa ne so di pu at_ er en pa tr : Nat} {L I Tk : Nat → Int32} {Z : Nat → Nat} (x y : Nat) (a b c : Int32) (h0 : h 87 = MO un ta fl st sa ne so di pu at_ er en pa tr) (hL : h 90 = .inl (0, 8, L)) (hZ : h 91 = .inl (0, 8, qN Z)) (hI : h 92 = .inl (0, 320, I)) (hT : h 93 = .inl (0, 40, Tk)) (hx : x < 8) (hy : y < 8) {l l2 : Nat} (hmx : L x = nI l) (hl : l < 3) (hmy : L y = nI l2) (hl2 : l2 < 3) (hne : l = l2) (hz : Z x ≤ 40) (hno : (∀ p q : Nat, a = nI p → c = nI q → p < 2147483648 → q < 2147483648 → ¬ p + q ≤ Z x)) : SP 2 yX8_copy cX8_copy 7 (some .int) [.ref 87, .int (nI x), .int a, .int (nI y), .int b, .int c] n h (some (.int (-1000010 - nI 2))) (q_up h 87 (MO un ta fl 2 sa ne so di pu at_ er en pa tr)) := by
  refine q_SPi RX8 rfl (by decide +kernel) (la := _) rfl rfl (fun Γ ad C F => ?_)
  refine g_iload_n (pc := 0) C (hl := rfl) dX8_copy_0 ?_
  refine g_S1v (pc := 1) C ls8_46 dX8_copy_1 (s8_rowN x hx) (by decide) (Nat.le_of_ble_eq_true rfl) ?_
  refine g_if_eqN (pc := 4) C 14 dX8_copy_4 (by decide) (by decide) (fun q => absurd q (by decide)) (fun _ => ?_)
  refine g_iload_n (pc := 7) C (hl := rfl) dX8_copy_7 ?_
  refine g_S1v (pc := 8) C ls8_46 dX8_copy_8 (s8_rowN y hy) (by decide) (Nat.le_of_ble_eq_true rfl) ?_
  refine g_if_neN (pc := 11) C 17 dX8_copy_11 (by decide) (by decide) (fun _ => ?_) (fun q => absurd q (by decide))
  refine g_aload_n (pc := 17) C (hl := rfl) dX8_copy_17 ?_
  refine g_get (pc := 18) C fl8_16 dX8_copy_18 h0 rfl ?_
  refine g_iload_n (pc := 21) C (hl := rfl) dX8_copy_21 ?_
  refine g_ialdW (pc := 22) C dX8_copy_22 hL (by omega) hmx ?_
  refine g_if_ltN (pc := 23) C 35 dX8_copy_23 (by decide) (by omega) ?_
  refine g_aload_n (pc := 26) C (hl := rfl) dX8_copy_26 ?_
  refine g_get (pc := 27) C fl8_16 dX8_copy_27 h0 rfl ?_
  refine g_iload_n (pc := 30) C (hl := rfl) dX8_copy_30 ?_
  refine g_ialdW (pc := 31) C dX8_copy_31 hL (by omega) hmy ?_
  refine g_if_geN (pc := 32) C 41 dX8_copy_32 (by decide) (by omega) ?_
  refine g_aload_n (pc := 41) C (hl := rfl) dX8_copy_41 ?_
  refine g_get (pc := 42) C fl8_16 dX8_copy_42 h0 rfl ?_
  refine g_iload_n (pc := 45) C (hl := rfl) dX8_copy_45 ?_
  refine g_ialdW (pc := 46) C dX8_copy_46 hL (by omega) hmx ?_
  refine g_aload_n (pc := 47) C (hl := rfl) dX8_copy_47 ?_
  refine g_get (pc := 48) C fl8_16 dX8_copy_48 h0 rfl ?_
  refine g_iload_n (pc := 51) C (hl := rfl) dX8_copy_51 ?_
  refine g_ialdW (pc := 52) C dX8_copy_52 hL (by omega) hmy ?_
  refine g_ic_eqN (pc := 53) C 62 dX8_copy_53 (by decide) (by omega) (fun _ => ?_) (fun q => absurd (hne) q)
  refine g_iload_n (pc := 62) C (hl := rfl) dX8_copy_62 ?_
  refine g_iload (pc := 63) C (hl := rfl) dX8_copy_63 ?_
  refine g_aload_n (pc := 65) C (hl := rfl) dX8_copy_65 ?_
  refine g_get (pc := 66) C fl8_19 dX8_copy_66 h0 rfl ?_
  refine g_iload_n (pc := 69) C (hl := rfl) dX8_copy_69 ?_
  refine g_ialdN (pc := 70) C dX8_copy_70 hZ (by omega) ?_
  refine g_S3v (pc := 71) C ls8_60 dX8_copy_71 (s8_partN _ _ _ hno (by omega)) (by decide) (Nat.le_of_ble_eq_true rfl) ?_
  refine g_if_eqN (pc := 74) C 93 dX8_copy_74 (by decide) (by decide) (fun _ => ?_) (fun q => absurd q (by decide))
  refine g_aload_n (pc := 93) C (hl := rfl) dX8_copy_93 ?_
  refine g_iconst (pc := 94) C qk_iconst_2 dX8_copy_94 ?_
  refine g_V1v (pc := 95) C lv8_53 dX8_copy_95 (s8_found _ h0) h0 (by decide) (Nat.le_of_ble_eq_true rfl) ?_
  exact g_iret (pc := 98) C F dX8_copy_98 rfl rfl (rfl) (rfl)
set_option maxHeartbeats 2000000 in
set_option maxRecDepth 20000 in
theorem s8_copyP2 {n : Nat} {h : q_H} {un ta fl st sa ne so di pu at_ er en pa tr : Nat} {L I Tk : Nat → Int32} {Z : Nat → Nat} (x y a : Nat) (b : Int32) (c : Nat) (h0 : h 87 = MO un ta fl st sa ne so di pu at_ er en pa tr) (hL : h 90 = .inl (0, 8, L)) (hZ : h 91 = .inl (0, 8, qN Z)) (hI : h 92 = .inl (0, 320, I)) (hT : h 93 = .inl (0, 40, Tk)) (hx : x < 8) (hy : y < 8) {l l2 : Nat} (hmx : L x = nI l) (hl : l < 3) (hmy : L y = nI l2) (hl2 : l2 < 3) (hne : l = l2) (hz : Z x ≤ 40) (hz2 : Z y ≤ 40) (hab : a + c ≤ Z x) (hno : (∀ p q : Nat, b = nI p → nI c = nI q → p < 2147483648 → q < 2147483648 → ¬ p + q ≤ Z y)) : SP 2 yX8_copy cX8_copy 7 (some .int) [.ref 87, .int (nI x), .int (nI a), .int (nI y), .int b, .int (nI c)] n h (some (.int (-1000010 - nI 2))) (q_up h 87 (MO un ta fl 2 sa ne so di pu at_ er en pa tr)) := by
  refine q_SPi RX8 rfl (by decide +kernel) (la := _) rfl rfl (fun Γ ad C F => ?_)
  refine g_iload_n (pc := 0) C (hl := rfl) dX8_copy_0 ?_
  refine g_S1v (pc := 1) C ls8_46 dX8_copy_1 (s8_rowN x hx) (by decide) (Nat.le_of_ble_eq_true rfl) ?_
  refine g_if_eqN (pc := 4) C 14 dX8_copy_4 (by decide) (by decide) (fun q => absurd q (by decide)) (fun _ => ?_)
  refine g_iload_n (pc := 7) C (hl := rfl) dX8_copy_7 ?_
  refine g_S1v (pc := 8) C ls8_46 dX8_copy_8 (s8_rowN y hy) (by decide) (Nat.le_of_ble_eq_true rfl) ?_
  refine g_if_neN (pc := 11) C 17 dX8_copy_11 (by decide) (by decide) (fun _ => ?_) (fun q => absurd q (by decide))
  refine g_aload_n (pc := 17) C (hl := rfl) dX8_copy_17 ?_
  refine g_get (pc := 18) C fl8_16 dX8_copy_18 h0 rfl ?_
  refine g_iload_n (pc := 21) C (hl := rfl) dX8_copy_21 ?_
  refine g_ialdW (pc := 22) C dX8_copy_22 hL (by omega) hmx ?_
  refine g_if_ltN (pc := 23) C 35 dX8_copy_23 (by decide) (by omega) ?_
  refine g_aload_n (pc := 26) C (hl := rfl) dX8_copy_26 ?_
  refine g_get (pc := 27) C fl8_16 dX8_copy_27 h0 rfl ?_
  refine g_iload_n (pc := 30) C (hl := rfl) dX8_copy_30 ?_
  refine g_ialdW (pc := 31) C dX8_copy_31 hL (by omega) hmy ?_
  refine g_if_geN (pc := 32) C 41 dX8_copy_32 (by decide) (by omega) ?_
  refine g_aload_n (pc := 41) C (hl := rfl) dX8_copy_41 ?_
  refine g_get (pc := 42) C fl8_16 dX8_copy_42 h0 rfl ?_
  refine g_iload_n (pc := 45) C (hl := rfl) dX8_copy_45 ?_
  refine g_ialdW (pc := 46) C dX8_copy_46 hL (by omega) hmx ?_
  refine g_aload_n (pc := 47) C (hl := rfl) dX8_copy_47 ?_
  refine g_get (pc := 48) C fl8_16 dX8_copy_48 h0 rfl ?_
  refine g_iload_n (pc := 51) C (hl := rfl) dX8_copy_51 ?_
  refine g_ialdW (pc := 52) C dX8_copy_52 hL (by omega) hmy ?_
  refine g_ic_eqN (pc := 53) C 62 dX8_copy_53 (by decide) (by omega) (fun _ => ?_) (fun q => absurd (hne) q)
  refine g_iload_n (pc := 62) C (hl := rfl) dX8_copy_62 ?_
  refine g_iload (pc := 63) C (hl := rfl) dX8_copy_63 ?_
  refine g_aload_n (pc := 65) C (hl := rfl) dX8_copy_65 ?_
  refine g_get (pc := 66) C fl8_19 dX8_copy_66 h0 rfl ?_
  refine g_iload_n (pc := 69) C (hl := rfl) dX8_copy_69 ?_
  refine g_ialdN (pc := 70) C dX8_copy_70 hZ (by omega) ?_
  refine g_S3v (pc := 71) C ls8_60 dX8_copy_71 (s8_partY _ _ _ hab (by omega)) (by decide) (Nat.le_of_ble_eq_true rfl) ?_
  refine g_if_eqN (pc := 74) C 93 dX8_copy_74 (by decide) (by decide) (fun q => absurd q (by decide)) (fun _ => ?_)
  refine g_iload (pc := 77) C (hl := rfl) dX8_copy_77 ?_
  refine g_iload (pc := 79) C (hl := rfl) dX8_copy_79 ?_
  refine g_aload_n (pc := 81) C (hl := rfl) dX8_copy_81 ?_
  refine g_get (pc := 82) C fl8_19 dX8_copy_82 h0 rfl ?_
  refine g_iload_n (pc := 85) C (hl := rfl) dX8_copy_85 ?_
  refine g_ialdN (pc := 86) C dX8_copy_86 hZ (by omega) ?_
  refine g_S3v (pc := 87) C ls8_60 dX8_copy_87 (s8_partN _ _ _ hno (by omega)) (by decide) (Nat.le_of_ble_eq_true rfl) ?_
  refine g_if_neN (pc := 90) C 99 dX8_copy_90 (by decide) (by decide) (fun q => absurd q (by decide)) (fun _ => ?_)
  refine g_aload_n (pc := 93) C (hl := rfl) dX8_copy_93 ?_
  refine g_iconst (pc := 94) C qk_iconst_2 dX8_copy_94 ?_
  refine g_V1v (pc := 95) C lv8_53 dX8_copy_95 (s8_found _ h0) h0 (by decide) (Nat.le_of_ble_eq_true rfl) ?_
  exact g_iret (pc := 98) C F dX8_copy_98 rfl rfl (rfl) (rfl)
def iTk (I Tk : Nat → Int32) (s i : Nat) : Nat → Int32 := fun q => if q < i then I (s + q) else Tk q
theorem iTk_0 {I Tk : Nat → Int32} {s : Nat} : iTk I Tk s 0 = Tk := by
  funext q; unfold iTk; rw [if_neg (by omega)]
theorem iTk_s {I Tk : Nat → Int32} {s i : Nat} : va_up (iTk I Tk s i) i (I (s + i)) = iTk I Tk s (i + 1) := by
  funext q
  unfold va_up iTk
  by_cases h : q = i
  · rw [if_pos h, if_pos (by omega), h]
  · rw [if_neg h]
    by_cases h2 : q < i
    · rw [if_pos h2, if_pos (by omega)]
    · rw [if_neg h2, if_neg (by omega)]
def iCp (I T : Nat → Int32) (d i : Nat) : Nat → Int32 := fun q => if d ≤ q ∧ q < d + i then T (q - d) else I q
theorem iCp_0 {I T : Nat → Int32} {d : Nat} : iCp I T d 0 = I := by
  funext q; unfold iCp; rw [if_neg (by omega)]
theorem iCp_s {I T : Nat → Int32} {d i : Nat} : va_up (iCp I T d i) (d + i) (T i) = iCp I T d (i + 1) := by
  funext q
  unfold va_up iCp
  by_cases h : q = d + i
  · rw [if_pos h, if_pos (by omega), show q - d = i by omega]
  · rw [if_neg h]
    by_cases h2 : d ≤ q ∧ q < d + i
    · rw [if_pos h2, if_pos (by omega)]
    · rw [if_neg h2, if_neg (by omega)]
set_option maxHeartbeats 2000000 in
set_option maxRecDepth 20000 in
theorem l8_cp2 {Γ : q_X} {ad : Nat → Nat} {n un ta fl st sa ne so di pu at_ er en pa tr : Nat} {x y a b c : Nat} {I T : Nat → Int32} {hF : q_H} (hy : y < 8 ∧ b + c ≤ 40) (C : q_C Γ ad 2 0 0 RX8 yX8_copy cX8_copy 7 (some .int)) (F : q_N Γ ad n (some (.int (nI c))) hF) : ∀ (m i : Nat) (H : q_H), i + m = c + 1 → i ≤ c → H 87 = MO un ta fl st sa ne so di pu at_ er en pa tr → H 92 = .inl (0, 320, iCp I T (40 * y + b) i) → H 93 = .inl (0, 40, T) → hF = q_up (q_up H 92 (.inl (0, 320, iCp I T (40 * y + b) c))) 87 (MO un ta fl 0 sa ne so di pu at_ er en pa tr) → q_G Γ ad 7 139 [some (.ref 87), some (.int (nI x)), some (.int (nI a)), some (.int (nI y)), some (.int (nI b)), some (.int (nI c)), some (.int (nI i))] [] n H 0 0 := by
  intro m
  induction m with
  | zero => intro i H hm hi; omega
  | succ m ih =>
    intro i H hm hi h0 hI hT hH
    refine g_iload (pc := 139) C (hl := rfl) dX8_copy_139 ?_
    refine g_iload (pc := 141) C (hl := rfl) dX8_copy_141 ?_
    refine g_ic_geN (pc := 143) C 174 dX8_copy_143 (by decide) (by omega) (fun c143 => ?_) (fun c143 => ?_)
    · obtain rfl : i = c := by omega
      refine g_aload_n (pc := 174) C (hl := rfl) dX8_copy_174 ?_
      refine g_iload (pc := 175) C (hl := rfl) dX8_copy_175 ?_
      refine g_V1v (pc := 177) C lv8_57 dX8_copy_177 (s8_well _ h0) h0 (by decide) (Nat.le_of_ble_eq_true rfl) ?_
      exact g_iret (pc := 180) C F dX8_copy_180 rfl rfl (rfl) (by rw [hH, q_upI hI])
    · refine g_aload_n (pc := 146) C (hl := rfl) dX8_copy_146 ?_
      refine g_get (pc := 147) C fl8_22 dX8_copy_147 h0 rfl ?_
      refine g_bipush (pc := 150) C qk_bipush_40 dX8_copy_150 ?_
      refine g_iload_n (pc := 152) C (hl := rfl) dX8_copy_152 ?_
      refine g_imulN (pc := 153) C dX8_copy_153 ?_
      refine g_iload (pc := 154) C (hl := rfl) dX8_copy_154 ?_
      refine g_iaddN (pc := 156) C dX8_copy_156 ?_
      refine g_iload (pc := 157) C (hl := rfl) dX8_copy_157 ?_
      refine g_iaddN (pc := 159) C dX8_copy_159 ?_
      refine g_aload_n (pc := 160) C (hl := rfl) dX8_copy_160 ?_
      refine g_get (pc := 161) C fl8_25 dX8_copy_161 h0 rfl ?_
      refine g_iload (pc := 164) C (hl := rfl) dX8_copy_164 ?_
      refine g_ialdW (pc := 166) C dX8_copy_166 hT (by omega) rfl ?_
      refine g_iastW (pc := 167) C dX8_copy_167 hI (by omega) iCp_s ?_
      refine g_iincN (pc := 168) C (hl := rfl) (q_inc1 _) rfl dX8_copy_168 ?_
      refine g_goto (pc := 171) C 139 dX8_copy_171 (by decide) ?_
      exact ih (i + 1) _ (by omega) (by omega) ((q_up_n _ _ (by decide)).trans h0) (q_up_s _ _ _) ((q_up_n _ _ (by decide)).trans hT) (by rw [hH, q_up_u])
set_option maxHeartbeats 2000000 in
set_option maxRecDepth 20000 in
theorem l8_cp1 {Γ : q_X} {ad : Nat → Nat} {n un ta fl st sa ne so di pu at_ er en pa tr : Nat} {x y a b c : Nat} {I Tk : Nat → Int32} {hF : q_H} (hx : x < 8) (hy : y < 8) (hab : a + c ≤ 40 ∧ b + c ≤ 40) (C : q_C Γ ad 2 0 0 RX8 yX8_copy cX8_copy 7 (some .int)) (F : q_N Γ ad n (some (.int (nI c))) hF) : ∀ (m i : Nat) (H : q_H), i + m = c + 1 → i ≤ c → H 87 = MO un ta fl st sa ne so di pu at_ er en pa tr → H 92 = .inl (0, 320, I) → H 93 = .inl (0, 40, iTk I Tk (40 * x + a) i) → hF = q_up (q_up (q_up H 93 (.inl (0, 40, iTk I Tk (40 * x + a) c))) 92 (.inl (0, 320, iCp I (iTk I Tk (40 * x + a) c) (40 * y + b) c))) 87 (MO un ta fl 0 sa ne so di pu at_ er en pa tr) → q_G Γ ad 7 102 [some (.ref 87), some (.int (nI x)), some (.int (nI a)), some (.int (nI y)), some (.int (nI b)), some (.int (nI c)), some (.int (nI i))] [] n H 0 0 := by
  intro m
  induction m with
  | zero => intro i H hm hi; omega
  | succ m ih =>
    intro i H hm hi h0 hI hT hH
    refine g_iload (pc := 102) C (hl := rfl) dX8_copy_102 ?_
    refine g_iload (pc := 104) C (hl := rfl) dX8_copy_104 ?_
    refine g_ic_geN (pc := 106) C 136 dX8_copy_106 (by decide) (by omega) (fun c106 => ?_) (fun c106 => ?_)
    · refine g_iconst (pc := 136) C qk_iconst_0 dX8_copy_136 ?_
      refine g_istore (pc := 137) C rfl dX8_copy_137 ?_
      obtain rfl : i = c := by omega
      exact l8_cp2 ⟨hy, hab.2⟩ C F (i + 1) 0 _ (by omega) (by omega) h0 (hI.trans (by rw [iCp_0])) hT (by rw [hH, q_upI hT])
    · refine g_aload_n (pc := 109) C (hl := rfl) dX8_copy_109 ?_
      refine g_get (pc := 110) C fl8_25 dX8_copy_110 h0 rfl ?_
      refine g_iload (pc := 113) C (hl := rfl) dX8_copy_113 ?_
      refine g_aload_n (pc := 115) C (hl := rfl) dX8_copy_115 ?_
      refine g_get (pc := 116) C fl8_22 dX8_copy_116 h0 rfl ?_
      refine g_bipush (pc := 119) C qk_bipush_40 dX8_copy_119 ?_
      refine g_iload_n (pc := 121) C (hl := rfl) dX8_copy_121 ?_
      refine g_imulN (pc := 122) C dX8_copy_122 ?_
      refine g_iload_n (pc := 123) C (hl := rfl) dX8_copy_123 ?_
      refine g_iaddN (pc := 124) C dX8_copy_124 ?_
      refine g_iload (pc := 125) C (hl := rfl) dX8_copy_125 ?_
      refine g_iaddN (pc := 127) C dX8_copy_127 ?_
      refine g_ialdW (pc := 128) C dX8_copy_128 hI (by omega) rfl ?_
      refine g_iastW (pc := 129) C dX8_copy_129 hT (by omega) iTk_s ?_
      refine g_iincN (pc := 130) C (hl := rfl) (q_inc1 _) rfl dX8_copy_130 ?_
      refine g_goto (pc := 133) C 102 dX8_copy_133 (by decide) ?_
      exact ih (i + 1) _ (by omega) (by omega) ((q_up_n _ _ (by decide)).trans h0) ((q_up_n _ _ (by decide)).trans hI) (q_up_s _ _ _) (by rw [hH]; simp only [q_up_u])
set_option maxHeartbeats 2000000 in
set_option maxRecDepth 20000 in
theorem s8_copyT {n : Nat} {h : q_H} {un ta fl st sa ne so di pu at_ er en pa tr : Nat} {L I Tk : Nat → Int32} {Z : Nat → Nat} (x y a b c : Nat) (h0 : h 87 = MO un ta fl st sa ne so di pu at_ er en pa tr) (hL : h 90 = .inl (0, 8, L)) (hZ : h 91 = .inl (0, 8, qN Z)) (hI : h 92 = .inl (0, 320, I)) (hT : h 93 = .inl (0, 40, Tk)) (hx : x < 8) (hy : y < 8) {l l2 : Nat} (hmx : L x = nI l) (hl : l < 3) (hmy : L y = nI l2) (hl2 : l2 < 3) (hne : l = l2) (hz : Z x ≤ 40) (hz2 : Z y ≤ 40) (hab : a + c ≤ Z x) (hbb : b + c ≤ Z y) : SP 2 yX8_copy cX8_copy 7 (some .int) [.ref 87, .int (nI x), .int (nI a), .int (nI y), .int (nI b), .int (nI c)] n h (some (.int (nI c))) (q_up (q_up (q_up h 93 (.inl (0, 40, iTk I Tk (40 * x + a) c))) 92 (.inl (0, 320, iCp I (iTk I Tk (40 * x + a) c) (40 * y + b) c))) 87 (MO un ta fl 0 sa ne so di pu at_ er en pa tr)) := by
  refine q_SPi RX8 rfl (by decide +kernel) (la := _) rfl rfl (fun Γ ad C F => ?_)
  refine g_iload_n (pc := 0) C (hl := rfl) dX8_copy_0 ?_
  refine g_S1v (pc := 1) C ls8_46 dX8_copy_1 (s8_rowN x hx) (by decide) (Nat.le_of_ble_eq_true rfl) ?_
  refine g_if_eqN (pc := 4) C 14 dX8_copy_4 (by decide) (by decide) (fun q => absurd q (by decide)) (fun _ => ?_)
  refine g_iload_n (pc := 7) C (hl := rfl) dX8_copy_7 ?_
  refine g_S1v (pc := 8) C ls8_46 dX8_copy_8 (s8_rowN y hy) (by decide) (Nat.le_of_ble_eq_true rfl) ?_
  refine g_if_neN (pc := 11) C 17 dX8_copy_11 (by decide) (by decide) (fun _ => ?_) (fun q => absurd q (by decide))
  refine g_aload_n (pc := 17) C (hl := rfl) dX8_copy_17 ?_
  refine g_get (pc := 18) C fl8_16 dX8_copy_18 h0 rfl ?_
  refine g_iload_n (pc := 21) C (hl := rfl) dX8_copy_21 ?_
  refine g_ialdW (pc := 22) C dX8_copy_22 hL (by omega) hmx ?_
  refine g_if_ltN (pc := 23) C 35 dX8_copy_23 (by decide) (by omega) ?_
  refine g_aload_n (pc := 26) C (hl := rfl) dX8_copy_26 ?_
  refine g_get (pc := 27) C fl8_16 dX8_copy_27 h0 rfl ?_
  refine g_iload_n (pc := 30) C (hl := rfl) dX8_copy_30 ?_
  refine g_ialdW (pc := 31) C dX8_copy_31 hL (by omega) hmy ?_
  refine g_if_geN (pc := 32) C 41 dX8_copy_32 (by decide) (by omega) ?_
  refine g_aload_n (pc := 41) C (hl := rfl) dX8_copy_41 ?_
  refine g_get (pc := 42) C fl8_16 dX8_copy_42 h0 rfl ?_
  refine g_iload_n (pc := 45) C (hl := rfl) dX8_copy_45 ?_
  refine g_ialdW (pc := 46) C dX8_copy_46 hL (by omega) hmx ?_
  refine g_aload_n (pc := 47) C (hl := rfl) dX8_copy_47 ?_
  refine g_get (pc := 48) C fl8_16 dX8_copy_48 h0 rfl ?_
  refine g_iload_n (pc := 51) C (hl := rfl) dX8_copy_51 ?_
  refine g_ialdW (pc := 52) C dX8_copy_52 hL (by omega) hmy ?_
  refine g_ic_eqN (pc := 53) C 62 dX8_copy_53 (by decide) (by omega) (fun _ => ?_) (fun q => absurd (hne) q)
  refine g_iload_n (pc := 62) C (hl := rfl) dX8_copy_62 ?_
  refine g_iload (pc := 63) C (hl := rfl) dX8_copy_63 ?_
  refine g_aload_n (pc := 65) C (hl := rfl) dX8_copy_65 ?_
  refine g_get (pc := 66) C fl8_19 dX8_copy_66 h0 rfl ?_
  refine g_iload_n (pc := 69) C (hl := rfl) dX8_copy_69 ?_
  refine g_ialdN (pc := 70) C dX8_copy_70 hZ (by omega) ?_
  refine g_S3v (pc := 71) C ls8_60 dX8_copy_71 (s8_partY _ _ _ hab (by omega)) (by decide) (Nat.le_of_ble_eq_true rfl) ?_
  refine g_if_eqN (pc := 74) C 93 dX8_copy_74 (by decide) (by decide) (fun q => absurd q (by decide)) (fun _ => ?_)
  refine g_iload (pc := 77) C (hl := rfl) dX8_copy_77 ?_
  refine g_iload (pc := 79) C (hl := rfl) dX8_copy_79 ?_
  refine g_aload_n (pc := 81) C (hl := rfl) dX8_copy_81 ?_
  refine g_get (pc := 82) C fl8_19 dX8_copy_82 h0 rfl ?_
  refine g_iload_n (pc := 85) C (hl := rfl) dX8_copy_85 ?_
  refine g_ialdN (pc := 86) C dX8_copy_86 hZ (by omega) ?_
  refine g_S3v (pc := 87) C ls8_60 dX8_copy_87 (s8_partY _ _ _ hbb (by omega)) (by decide) (Nat.le_of_ble_eq_true rfl) ?_
  refine g_if_neN (pc := 90) C 99 dX8_copy_90 (by decide) (by decide) (fun _ => ?_) (fun q => absurd q (by decide))
  refine g_iconst (pc := 99) C qk_iconst_0 dX8_copy_99 ?_
  refine g_istore (pc := 100) C rfl dX8_copy_100 ?_
  exact l8_cp1 hx hy ⟨by omega, by omega⟩ C F (c + 1) 0 _ (by omega) (by omega) h0 hI (hT.trans (by rw [iTk_0])) rfl
