abbrev DO (lf ld : Nat) : q_E := .inr (.inr (7, [.ref 1, .ref 23, .ref 28, .ref 30, .ref 18, .ref 80, .ref 85, .int (nI lf), .int (nI ld)]))
abbrev RLs (N : Nat) (fr : Nat → Option Nat) : q_E := .inr (.inl (0, N, fr))
abbrev TLs (N : Nat) (fr : Nat → Option Nat) : q_E := .inr (.inl (1, N, fr))
/-- a row: missing, or lane, length, items -/
abbrev aR : Type := Option (Nat × Nat × (Nat → Int32))
def cR (h : q_H) (i : Nat) (v : aR) : Prop := ∃ (lane : Int32) (len : Nat) (f : Nat → Int32), h (2 + 2 * i) = RO (3 + 2 * i) lane len ∧ h (3 + 2 * i) = RA f ∧ match v with
  | none => lane = -1
  | some (l, k, g) => lane = nI l ∧ l < 3 ∧ len = k ∧ k ≤ 40 ∧ ∀ j, j < k → f j = g j
def cRs (h : q_H) (R : Nat → aR) : Prop := ∀ i, i < 8 → cR h i (R i)
def cD (h : q_H) (lf ld : Nat) : Prop := h 0 = DO lf ld ∧ (∃ fr, h 1 = RLs 8 fr ∧ ∀ i, i < 8 → fr i = some (2 + 2 * i)) ∧ (∃ fr, h 18 = TLs 2 fr ∧ ∀ i, i < 2 → fr i = some (19 + 2 * i))
theorem cR_fr {h h' : q_H} {i : Nat} {v : aR} (e1 : h' (2 + 2 * i) = h (2 + 2 * i)) (e2 : h' (3 + 2 * i) = h (3 + 2 * i)) (q : cR h i v) : cR h' i v := by
  unfold cR at q ⊢
  rw [e1, e2]
  exact q
theorem cRs_fr {h h' : q_H} {R : Nat → aR} (e : ∀ a, 2 ≤ a → a ≤ 17 → h' a = h a) (q : cRs h R) : cRs h' R := fun i hi => cR_fr (e _ (by omega) (by omega)) (e _ (by omega) (by omega)) (q i hi)
theorem cD_fr {h h' : q_H} {lf ld : Nat} (e0 : h' 0 = h 0) (e1 : h' 1 = h 1) (e2 : h' 18 = h 18) (q : cD h lf ld) : cD h' lf ld := by
  unfold cD at q ⊢
  rw [e0, e1, e2]
  exact q
theorem cD_st {h h' : q_H} {lf ld lf' ld' : Nat} (e0 : h' 0 = DO lf' ld') (e1 : h' 1 = h 1) (e2 : h' 18 = h 18) (q : cD h lf ld) : cD h' lf' ld' := by
  unfold cD at q ⊢
  rw [e1, e2]
  exact ⟨e0, q.2⟩
theorem pk_inN {x : Int32} {N : Nat} (hN : N < 2 ^ 31) (h : ¬ (x < 0 ∨ nI N ≤ x)) : ∃ j : Nat, j < N ∧ x = nI j := by
  rcases pk_ix x hN with q | q | q
  · exact absurd (Or.inl q) h
  · exact absurd (Or.inr q) h
  · exact q
set_option maxHeartbeats 2000000 in
set_option maxRecDepth 20000 in
theorem s7_found {n : Nat} {h : q_H} {lf ld : Nat} (k : Nat) (h0 : h 0 = DO lf ld) : SP 0 yX7_found cX7_found 2 (some .int) [.ref 0, .int (nI k)] n h (some (.int (-1000010 - nI k))) (q_up h 0 (DO lf k)) := by
  refine q_SPi RX7 rfl (by decide +kernel) (la := _) rfl rfl (fun Γ ad C F => ?_)
  refine g_aload_n (pc := 0) C (hl := rfl) dX7_found_0 ?_
  refine g_iload_n (pc := 1) C (hl := rfl) dX7_found_1 ?_
  refine g_put (pc := 2) C fp7_257 dX7_found_2 h0 (Nat.le_of_ble_eq_true rfl) ?_
  refine g_ldcw (pc := 5) C (v := -1000010) zk7_260 dX7_found_5 ?_
  refine g_iload_n (pc := 8) C (hl := rfl) dX7_found_8 ?_
  refine g_isub (pc := 9) C dX7_found_9 ?_
  exact g_iret (pc := 10) C F dX7_found_10 rfl rfl (rfl) (rfl)
set_option maxHeartbeats 2000000 in
set_option maxRecDepth 20000 in
theorem s7_fine {n : Nat} {h : q_H} {lf ld : Nat} (x : Int32) (h0 : h 0 = DO lf ld) : SP 0 yX7_fine cX7_fine 2 (some .int) [.ref 0, .int x] n h (some (.int x)) (q_up h 0 (DO lf 0)) := by
  refine q_SPi RX7 rfl (by decide +kernel) (la := _) rfl rfl (fun Γ ad C F => ?_)
  refine g_aload_n (pc := 0) C (hl := rfl) dX7_fine_0 ?_
  refine g_iconst (pc := 1) C qk_iconst_0 dX7_fine_1 ?_
  refine g_put (pc := 2) C fp7_257 dX7_fine_2 h0 (Nat.le_of_ble_eq_true rfl) ?_
  refine g_iload_n (pc := 5) C (hl := rfl) dX7_fine_5 ?_
  exact g_iret (pc := 6) C F dX7_fine_6 rfl rfl (rfl) (rfl)
set_option maxHeartbeats 2000000 in
set_option maxRecDepth 20000 in
theorem s7_fault {n : Nat} {h : q_H} {lf ld : Nat} (h0 : h 0 = DO lf ld) : SP 0 yX7_fault cX7_fault 1 (some .int) [.ref 0] n h (some (.int (nI lf))) h := by
  refine q_SPi RX7 rfl (by decide +kernel) (la := _) rfl rfl (fun Γ ad C F => ?_)
  refine g_aload_n (pc := 0) C (hl := rfl) dX7_fault_0 ?_
  refine g_get (pc := 1) C fl7_124 dX7_fault_1 h0 rfl ?_
  exact g_iret (pc := 4) C F dX7_fault_4 rfl rfl (rfl) (rfl)
set_option maxHeartbeats 2000000 in
set_option maxRecDepth 20000 in
theorem s7_status {n : Nat} {h : q_H} {lf ld : Nat} (h0 : h 0 = DO lf ld) : SP 0 yX7_status cX7_status 1 (some .int) [.ref 0] n h (some (.int (nI ld))) h := by
  refine q_SPi RX7 rfl (by decide +kernel) (la := _) rfl rfl (fun Γ ad C F => ?_)
  refine g_aload_n (pc := 0) C (hl := rfl) dX7_status_0 ?_
  refine g_get (pc := 1) C fl7_257 dX7_status_1 h0 rfl ?_
  exact g_iret (pc := 4) C F dX7_status_4 rfl rfl (rfl) (rfl)
set_option maxHeartbeats 2000000 in
set_option maxRecDepth 20000 in
theorem s7_rowAtI {n : Nat} {h : q_H} {lf ld : Nat} {fr : Nat → Option Nat} (i : Nat) (h0 : h 0 = DO lf ld) (ha : h 1 = RLs 8 fr) (hfr : ∀ i, i < 8 → fr i = some (2 + 2 * i)) (hi : i < 8) : SP 0 yX7_rowAt cX7_rowAt 2 (some (.object "TurningDishes$Row")) [.ref 0, .int (nI i)] n h (some (.ref (2 + 2 * i))) h := by
  refine q_SPi RX7 rfl (by decide +kernel) (la := _) rfl rfl (fun Γ ad C F => ?_)
  refine g_iload_n (pc := 0) C (hl := rfl) dX7_rowAt_0 ?_
  refine g_if_ltN (pc := 1) C 22 dX7_rowAt_1 (by decide) (by omega) ?_
  refine g_iload_n (pc := 4) C (hl := rfl) dX7_rowAt_4 ?_
  refine g_aload_n (pc := 5) C (hl := rfl) dX7_rowAt_5 ?_
  refine g_get (pc := 6) C fl7_11 dX7_rowAt_6 h0 rfl ?_
  refine g_alenrN (pc := 9) C dX7_rowAt_9 ha ?_
  refine g_ic_geN (pc := 10) C 22 dX7_rowAt_10 (by decide) (by omega) (fun q => absurd q (by omega)) (fun _ => ?_)
  refine g_aload_n (pc := 13) C (hl := rfl) dX7_rowAt_13 ?_
  refine g_get (pc := 14) C fl7_11 dX7_rowAt_14 h0 rfl ?_
  refine g_iload_n (pc := 17) C (hl := rfl) dX7_rowAt_17 ?_
  refine g_aaldN (pc := 18) C dX7_rowAt_18 ha (by omega) (hfr i hi) ?_
  refine g_goto (pc := 19) C 23 dX7_rowAt_19 (by decide) ?_
  exact g_aret (pc := 23) C F dX7_rowAt_23 rfl (Or.inr ⟨_, rfl⟩) (rfl) (rfl)
set_option maxHeartbeats 2000000 in
set_option maxRecDepth 20000 in
theorem s7_rowAtO {n : Nat} {h : q_H} {lf ld : Nat} {fr : Nat → Option Nat} (x : Int32) (h0 : h 0 = DO lf ld) (ha : h 1 = RLs 8 fr) (hx : x < 0 ∨ nI 8 ≤ x) : SP 0 yX7_rowAt cX7_rowAt 2 (some (.object "TurningDishes$Row")) [.ref 0, .int x] n h (some .null) h := by
  refine q_SPi RX7 rfl (by decide +kernel) (la := _) rfl rfl (fun Γ ad C F => ?_)
  refine g_iload_n (pc := 0) C (hl := rfl) dX7_rowAt_0 ?_
  refine g_if_lt (pc := 1) C 22 dX7_rowAt_1 (by decide) (fun c1 => ?_) (fun c1 => ?_)
  · refine g_null (pc := 22) C dX7_rowAt_22 ?_
    exact g_aret (pc := 23) C F dX7_rowAt_23 rfl (Or.inl rfl) (rfl) (rfl)
  · refine g_iload_n (pc := 4) C (hl := rfl) dX7_rowAt_4 ?_
    refine g_aload_n (pc := 5) C (hl := rfl) dX7_rowAt_5 ?_
    refine g_get (pc := 6) C fl7_11 dX7_rowAt_6 h0 rfl ?_
    refine g_alenrN (pc := 9) C dX7_rowAt_9 ha ?_
    refine g_ic_ge (pc := 10) C 22 dX7_rowAt_10 (by decide) (fun c10 => ?_) (fun c10 => ?_)
    · refine g_null (pc := 22) C dX7_rowAt_22 ?_
      exact g_aret (pc := 23) C F dX7_rowAt_23 rfl (Or.inl rfl) (rfl) (rfl)
    · exact absurd hx (fun z => z.elim c1 c10)
set_option maxHeartbeats 2000000 in
set_option maxRecDepth 20000 in
theorem s7_imageAtI {n : Nat} {h : q_H} {lf ld : Nat} {fr : Nat → Option Nat} (i : Nat) (h0 : h 0 = DO lf ld) (ha : h 18 = TLs 2 fr) (hfr : ∀ i, i < 2 → fr i = some (19 + 2 * i)) (hi : i < 2) : SP 0 yX7_imageAt cX7_imageAt 2 (some (.object "TurningDishes$Table")) [.ref 0, .int (nI i)] n h (some (.ref (19 + 2 * i))) h := by
  refine q_SPi RX7 rfl (by decide +kernel) (la := _) rfl rfl (fun Γ ad C F => ?_)
  refine g_iload_n (pc := 0) C (hl := rfl) dX7_imageAt_0 ?_
  refine g_if_ltN (pc := 1) C 22 dX7_imageAt_1 (by decide) (by omega) ?_
  refine g_iload_n (pc := 4) C (hl := rfl) dX7_imageAt_4 ?_
  refine g_aload_n (pc := 5) C (hl := rfl) dX7_imageAt_5 ?_
  refine g_get (pc := 6) C fl7_18 dX7_imageAt_6 h0 rfl ?_
  refine g_alenrN (pc := 9) C dX7_imageAt_9 ha ?_
  refine g_ic_geN (pc := 10) C 22 dX7_imageAt_10 (by decide) (by omega) (fun q => absurd q (by omega)) (fun _ => ?_)
  refine g_aload_n (pc := 13) C (hl := rfl) dX7_imageAt_13 ?_
  refine g_get (pc := 14) C fl7_18 dX7_imageAt_14 h0 rfl ?_
  refine g_iload_n (pc := 17) C (hl := rfl) dX7_imageAt_17 ?_
  refine g_aaldN (pc := 18) C dX7_imageAt_18 ha (by omega) (hfr i hi) ?_
  refine g_goto (pc := 19) C 23 dX7_imageAt_19 (by decide) ?_
  exact g_aret (pc := 23) C F dX7_imageAt_23 rfl (Or.inr ⟨_, rfl⟩) (rfl) (rfl)
set_option maxHeartbeats 2000000 in
set_option maxRecDepth 20000 in
theorem s7_imageAtO {n : Nat} {h : q_H} {lf ld : Nat} {fr : Nat → Option Nat} (x : Int32) (h0 : h 0 = DO lf ld) (ha : h 18 = TLs 2 fr) (hx : x < 0 ∨ nI 2 ≤ x) : SP 0 yX7_imageAt cX7_imageAt 2 (some (.object "TurningDishes$Table")) [.ref 0, .int x] n h (some .null) h := by
  refine q_SPi RX7 rfl (by decide +kernel) (la := _) rfl rfl (fun Γ ad C F => ?_)
  refine g_iload_n (pc := 0) C (hl := rfl) dX7_imageAt_0 ?_
  refine g_if_lt (pc := 1) C 22 dX7_imageAt_1 (by decide) (fun c1 => ?_) (fun c1 => ?_)
  · refine g_null (pc := 22) C dX7_imageAt_22 ?_
    exact g_aret (pc := 23) C F dX7_imageAt_23 rfl (Or.inl rfl) (rfl) (rfl)
  · refine g_iload_n (pc := 4) C (hl := rfl) dX7_imageAt_4 ?_
    refine g_aload_n (pc := 5) C (hl := rfl) dX7_imageAt_5 ?_
    refine g_get (pc := 6) C fl7_18 dX7_imageAt_6 h0 rfl ?_
    refine g_alenrN (pc := 9) C dX7_imageAt_9 ha ?_
    refine g_ic_ge (pc := 10) C 22 dX7_imageAt_10 (by decide) (fun c10 => ?_) (fun c10 => ?_)
    · refine g_null (pc := 22) C dX7_imageAt_22 ?_
      exact g_aret (pc := 23) C F dX7_imageAt_23 rfl (Or.inl rfl) (rfl) (rfl)
    · exact absurd hx (fun z => z.elim c1 c10)
