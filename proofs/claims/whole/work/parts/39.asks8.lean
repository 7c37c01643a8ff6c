set_option maxHeartbeats 2000000 in
set_option maxRecDepth 20000 in
theorem s8_feedB {n : Nat} {h : q_H} {un ta fl st sa ne so di pu at_ er en pa tr : Nat} {f : Nat → Nat} (v : Int64) (k : Int32) (h0 : h 87 = MO un ta fl st sa ne so di pu at_ er en pa tr) (hby : h 89 = PA f) (hk : k < nI 1 ∨ nI 8 < k) : SP 1 yX8_feed cX8_feed 5 (some .int) [.ref 87, .long v, .int k] n h (some (.int (-1000001))) h := by
  refine q_SPi RX8 rfl (by decide +kernel) (la := _) rfl rfl (fun Γ ad C F => ?_)
  refine g_iload_n (pc := 0) C (hl := rfl) dX8_feed_0 ?_
  refine g_i2l (pc := 1) C rfl dX8_feed_1 ?_
  refine g_lconst (pc := 2) C (v := 1) rfl dX8_feed_2 ?_
  refine g_ldc2 (pc := 3) C zk8_64 dX8_feed_3 ?_
  refine g_S3v (pc := 6) C ls8_37 dX8_feed_6 (s8_inF k (nI 1) (nI 8) (by decide) (by decide) hk) (by decide) (Nat.le_of_ble_eq_true rfl) ?_
  refine g_if_neN (pc := 9) C 15 dX8_feed_9 (by decide) (by decide) (fun q => absurd q (by decide)) (fun _ => ?_)
  refine g_ldc (pc := 12) C (v := -1000001) zk8_52 dX8_feed_12 ?_
  exact g_iret (pc := 14) C F dX8_feed_14 rfl rfl (rfl) (rfl)
set_option maxHeartbeats 2000000 in
set_option maxRecDepth 20000 in
theorem s8_feedM {n : Nat} {h : q_H} {un ta fl st sa ne so di pu at_ er en pa tr : Nat} {f : Nat → Nat} (v : Int64) (k : Nat) (h0 : h 87 = MO un ta fl st sa ne so di pu at_ er en pa tr) (hby : h 89 = PA f) (hk : 1 ≤ k ∧ k ≤ 8) (hl : 300 < ta + k ∧ ta ≤ 300) : SP 1 yX8_feed cX8_feed 5 (some .int) [.ref 87, .long v, .int (nI k)] n h (some (.int (-1000003))) h := by
  refine q_SPi RX8 rfl (by decide +kernel) (la := _) rfl rfl (fun Γ ad C F => ?_)
  refine g_iload_n (pc := 0) C (hl := rfl) dX8_feed_0 ?_
  refine g_i2l (pc := 1) C rfl dX8_feed_1 ?_
  refine g_lconst (pc := 2) C (v := 1) rfl dX8_feed_2 ?_
  refine g_ldc2 (pc := 3) C zk8_64 dX8_feed_3 ?_
  refine g_S3v (pc := 6) C ls8_37 dX8_feed_6 (s8_inN k 1 8 (by decide) (by decide) hk (by decide)) (by decide) (Nat.le_of_ble_eq_true rfl) ?_
  refine g_if_neN (pc := 9) C 15 dX8_feed_9 (by decide) (by decide) (fun _ => ?_) (fun q => absurd q (by decide))
  refine g_aload_n (pc := 15) C (hl := rfl) dX8_feed_15 ?_
  refine g_get (pc := 16) C fl8_66 dX8_feed_16 h0 rfl ?_
  refine g_iload_n (pc := 19) C (hl := rfl) dX8_feed_19 ?_
  refine g_iaddN (pc := 20) C dX8_feed_20 ?_
  refine g_sipush (pc := 21) C qk_sipush_300 dX8_feed_21 ?_
  refine g_ic_leN (pc := 24) C 30 dX8_feed_24 (by decide) (by omega) (fun q => absurd q (by omega)) (fun _ => ?_)
  refine g_ldc (pc := 27) C (v := -1000003) zk8_69 dX8_feed_27 ?_
  exact g_iret (pc := 29) C F dX8_feed_29 rfl rfl (rfl) (rfl)
set_option maxHeartbeats 2000000 in
set_option maxRecDepth 20000 in
theorem l8_fd {Γ : q_X} {ad : Nat → Nat} {n k un fl st sa ne so di pu at_ er en pa tr : Nat} {v : Int64} {rz : Int32} {hF : q_H} (C : q_C Γ ad 1 0 0 RX8 yX8_feed cX8_feed 5 (some .int)) (F : q_N Γ ad n (some (.int rz)) hF) : ∀ (m ta : Nat) (f : Nat → Nat) (w : Int32) (H : q_H), w = nI m + Int32.ofInt (-1) → H 87 = MO un ta fl st sa ne so di pu at_ er en pa tr → H 89 = PA f → ta + m ≤ 300 → rz = nI (mFd v m (f, ta)).2 → hF = q_up (q_up H 89 (PA (mFd v m (f, ta)).1)) 87 (MO un (mFd v m (f, ta)).2 fl st sa ne so di pu at_ er en pa tr) → q_G Γ ad 5 35 [some (.ref 87), some (.long v), none, some (.int (nI k)), some (.int w)] [] n H 0 0 := by
  intro m
  induction m with
  | zero =>
    intro ta f w H hw h0 hby hl hz hH
    subst hw
    refine g_iload (pc := 35) C (hl := rfl) dX8_feed_35 ?_
    refine g_if_lt (pc := 37) C 77 dX8_feed_37 (by decide) (fun _ => ?_) (fun q => absurd (by decide) q)
    refine g_aload_n (pc := 77) C (hl := rfl) dX8_feed_77 ?_
    refine g_get (pc := 78) C fl8_66 dX8_feed_78 h0 rfl ?_
    exact g_iret (pc := 81) C F dX8_feed_81 rfl rfl (by rw [hz]; rfl) (by rw [hH]; show H = q_up (q_up H 89 (PA f)) 87 (MO un ta fl st sa ne so di pu at_ er en pa tr); rw [q_upI hby, q_upI h0])
  | succ m ih =>
    intro ta f w H hw h0 hby hl hz hH
    rw [q_dn1] at hw
    subst hw
    refine g_iload (pc := 35) C (hl := rfl) dX8_feed_35 ?_
    refine g_if_ltN (pc := 37) C 77 dX8_feed_37 (by decide) (by omega) ?_
    refine g_aload_n (pc := 40) C (hl := rfl) dX8_feed_40 ?_
    refine g_get (pc := 41) C fl8_13 dX8_feed_41 h0 rfl ?_
    refine g_aload_n (pc := 44) C (hl := rfl) dX8_feed_44 ?_
    refine g_get (pc := 45) C fl8_66 dX8_feed_45 h0 rfl ?_
    refine g_lload_n (pc := 48) C (hl := rfl) dX8_feed_48 ?_
    refine g_bipush (pc := 49) C qk_bipush_8 dX8_feed_49 ?_
    refine g_iload (pc := 51) C (hl := rfl) dX8_feed_51 ?_
    refine g_imulN (pc := 53) C dX8_feed_53 ?_
    refine g_lshr (pc := 54) C rfl dX8_feed_54 ?_
    refine g_ldc2 (pc := 55) C zk8_70 dX8_feed_55 ?_
    refine g_land (pc := 58) C dX8_feed_58 ?_
    refine g_l2i (pc := 59) C (v := nI (mBy v m)) (by rw [Int64.toInt32_and, show (255 : Int64).toInt32 = nI 255 by decide]; exact (mBy_e v m).1) dX8_feed_59 ?_
    refine g_iastN (pc := 60) C dX8_feed_60 hby (by omega) ?_
    refine g_aload_n (pc := 61) C (hl := rfl) dX8_feed_61 ?_
    refine g_dup (pc := 62) C rfl dX8_feed_62 ?_
    refine g_get (pc := 63) C fl8_66 dX8_feed_63 ((q_up_n _ _ (by decide)).trans h0) rfl ?_
    refine g_iconst (pc := 66) C qk_iconst_1 dX8_feed_66 ?_
    refine g_iaddN (pc := 67) C dX8_feed_67 ?_
    refine g_put (pc := 68) C fp8_66 dX8_feed_68 ((q_up_n _ _ (by decide)).trans h0) (Nat.le_of_ble_eq_true rfl) ?_
    refine g_iinc (pc := 71) C (hl := rfl) rfl rfl dX8_feed_71 ?_
    refine g_goto (pc := 74) C 35 dX8_feed_74 (by decide) ?_
    refine ih _ _ _ _ rfl ((q_up_s _ _ _)) (((q_up_n _ _ (by decide)).trans (q_up_s _ _ _))) (by omega) ?_ ?_
    · rw [hz]; rfl
    · rw [hH]; simp only [q_up_u, q_up_c _ (show (87 : Nat) ≠ 89 by decide)]; rfl
set_option maxHeartbeats 2000000 in
set_option maxRecDepth 20000 in
theorem s8_feedT {n : Nat} {h : q_H} {un ta fl st sa ne so di pu at_ er en pa tr : Nat} {f : Nat → Nat} (v : Int64) (k : Nat) (h0 : h 87 = MO un ta fl st sa ne so di pu at_ er en pa tr) (hby : h 89 = PA f) (hk : 1 ≤ k ∧ k ≤ 8) (hl : ta + k ≤ 300) : SP 1 yX8_feed cX8_feed 5 (some .int) [.ref 87, .long v, .int (nI k)] n h (some (.int (nI (mFd v k (f, ta)).2))) (q_up (q_up h 89 (PA (mFd v k (f, ta)).1)) 87 (MO un (mFd v k (f, ta)).2 fl st sa ne so di pu at_ er en pa tr)) := by
  refine q_SPi RX8 rfl (by decide +kernel) (la := _) rfl rfl (fun Γ ad C F => ?_)
  refine g_iload_n (pc := 0) C (hl := rfl) dX8_feed_0 ?_
  refine g_i2l (pc := 1) C rfl dX8_feed_1 ?_
  refine g_lconst (pc := 2) C (v := 1) rfl dX8_feed_2 ?_
  refine g_ldc2 (pc := 3) C zk8_64 dX8_feed_3 ?_
  refine g_S3v (pc := 6) C ls8_37 dX8_feed_6 (s8_inN k 1 8 (by decide) (by decide) hk (by decide)) (by decide) (Nat.le_of_ble_eq_true rfl) ?_
  refine g_if_neN (pc := 9) C 15 dX8_feed_9 (by decide) (by decide) (fun _ => ?_) (fun q => absurd q (by decide))
  refine g_aload_n (pc := 15) C (hl := rfl) dX8_feed_15 ?_
  refine g_get (pc := 16) C fl8_66 dX8_feed_16 h0 rfl ?_
  refine g_iload_n (pc := 19) C (hl := rfl) dX8_feed_19 ?_
  refine g_iaddN (pc := 20) C dX8_feed_20 ?_
  refine g_sipush (pc := 21) C qk_sipush_300 dX8_feed_21 ?_
  refine g_ic_leN (pc := 24) C 30 dX8_feed_24 (by decide) (by omega) (fun _ => ?_) (fun q => absurd (by omega) q)
  refine g_iload_n (pc := 30) C (hl := rfl) dX8_feed_30 ?_
  refine g_iconst (pc := 31) C qk_iconst_1 dX8_feed_31 ?_
  refine g_isubN (pc := 32) C dX8_feed_32 (by omega) ?_
  refine g_istore (pc := 33) C rfl dX8_feed_33 ?_
  exact l8_fd C F k ta f _ h (by have := q_dn1 (k - 1); rw [show k - 1 + 1 = k by omega] at this; exact this.symm) h0 hby (by omega) rfl rfl
set_option maxHeartbeats 2000000 in
set_option maxRecDepth 20000 in
theorem s8_fault {n : Nat} {h : q_H} {un ta fl st sa ne so di pu at_ er en pa tr : Nat} (h0 : h 87 = MO un ta fl st sa ne so di pu at_ er en pa tr) : SP 0 yX8_fault cX8_fault 1 (some .int) [.ref 87] n h (some (.int (nI fl))) h := by
  refine q_SPi RX8 rfl (by decide +kernel) (la := _) rfl rfl (fun Γ ad C F => ?_)
  refine g_aload_n (pc := 0) C (hl := rfl) dX8_fault_0 ?_
  refine g_get (pc := 1) C fl8_95 dX8_fault_1 h0 rfl ?_
  exact g_iret (pc := 4) C F dX8_fault_4 rfl rfl (rfl) (rfl)
set_option maxHeartbeats 2000000 in
set_option maxRecDepth 20000 in
theorem s8_status {n : Nat} {h : q_H} {un ta fl st sa ne so di pu at_ er en pa tr : Nat} (h0 : h 87 = MO un ta fl st sa ne so di pu at_ er en pa tr) : SP 0 yX8_status cX8_status 1 (some .int) [.ref 87] n h (some (.int (nI st))) h := by
  refine q_SPi RX8 rfl (by decide +kernel) (la := _) rfl rfl (fun Γ ad C F => ?_)
  refine g_aload_n (pc := 0) C (hl := rfl) dX8_status_0 ?_
  refine g_get (pc := 1) C fl8_41 dX8_status_1 h0 rfl ?_
  exact g_iret (pc := 4) C F dX8_status_4 rfl rfl (rfl) (rfl)
set_option maxHeartbeats 2000000 in
set_option maxRecDepth 20000 in
theorem s8_traceT {n : Nat} {h : q_H} {un ta fl st sa ne so di pu at_ er en pa tr : Nat} {fk : Nat → Nat} (k : Nat) (h0 : h 87 = MO un ta fl st sa ne so di pu at_ er en pa tr) (hKb : h 95 = KA fk) (hl : tr ≤ 16) (hk : k < tr) : SP 1 yX8_trace cX8_trace 2 (some .int) [.ref 87, .int (nI k)] n h (some (.int (nI (fk k)))) h := by
  refine q_SPi RX8 rfl (by decide +kernel) (la := _) rfl rfl (fun Γ ad C F => ?_)
  refine g_iload_n (pc := 0) C (hl := rfl) dX8_trace_0 ?_
  refine g_i2l (pc := 1) C rfl dX8_trace_1 ?_
  refine g_lconst (pc := 2) C (v := 0) rfl dX8_trace_2 ?_
  refine g_aload_n (pc := 3) C (hl := rfl) dX8_trace_3 ?_
  refine g_get (pc := 4) C fl8_225 dX8_trace_4 h0 rfl ?_
  refine g_iconst (pc := 7) C qk_iconst_1 dX8_trace_7 ?_
  refine g_isubE (pc := 8) C (w := qI ((tr : Int) - 1)) (by show nI tr - nI 1 = _; rw [qI_N, qI_N, qI_sub]; rfl) dX8_trace_8 ?_
  refine g_i2l (pc := 9) C rfl dX8_trace_9 ?_
  refine g_S3v (pc := 10) C ls8_37 dX8_trace_10 (s8_inT (nI k) (nI 0) (qI ((tr : Int) - 1)) (by decide) rfl (fun z => z.elim (fun q => absurd q (nI_pos (by omega))) (fun q => absurd ((nI_leI (by omega) (by omega)).mp ((q_gel1 tr (by omega) (nI k)).mp q)) (by omega)))) (by decide) (Nat.le_of_ble_eq_true rfl) ?_
  refine g_if_eqN (pc := 13) C 25 dX8_trace_13 (by decide) (by decide) (fun q => absurd q (by decide)) (fun _ => ?_)
  refine g_aload_n (pc := 16) C (hl := rfl) dX8_trace_16 ?_
  refine g_get (pc := 17) C fl8_32 dX8_trace_17 h0 rfl ?_
  refine g_iload_n (pc := 20) C (hl := rfl) dX8_trace_20 ?_
  refine g_ialdN (pc := 21) C dX8_trace_21 hKb (by omega) ?_
  refine g_goto (pc := 22) C 27 dX8_trace_22 (by decide) ?_
  exact g_iret (pc := 27) C F dX8_trace_27 rfl rfl (rfl) (rfl)
set_option maxHeartbeats 2000000 in
set_option maxRecDepth 20000 in
theorem s8_traceF {n : Nat} {h : q_H} {un ta fl st sa ne so di pu at_ er en pa tr : Nat} {fk : Nat → Nat} (k : Int32) (h0 : h 87 = MO un ta fl st sa ne so di pu at_ er en pa tr) (hKb : h 95 = KA fk) (hl : tr ≤ 16) (hk : k < 0 ∨ nI tr ≤ k) : SP 1 yX8_trace cX8_trace 2 (some .int) [.ref 87, .int k] n h (some (.int (-1000000))) h := by
  refine q_SPi RX8 rfl (by decide +kernel) (la := _) rfl rfl (fun Γ ad C F => ?_)
  refine g_iload_n (pc := 0) C (hl := rfl) dX8_trace_0 ?_
  refine g_i2l (pc := 1) C rfl dX8_trace_1 ?_
  refine g_lconst (pc := 2) C (v := 0) rfl dX8_trace_2 ?_
  refine g_aload_n (pc := 3) C (hl := rfl) dX8_trace_3 ?_
  refine g_get (pc := 4) C fl8_225 dX8_trace_4 h0 rfl ?_
  refine g_iconst (pc := 7) C qk_iconst_1 dX8_trace_7 ?_
  refine g_isubE (pc := 8) C (w := qI ((tr : Int) - 1)) (by show nI tr - nI 1 = _; rw [qI_N, qI_N, qI_sub]; rfl) dX8_trace_8 ?_
  refine g_i2l (pc := 9) C rfl dX8_trace_9 ?_
  refine g_S3v (pc := 10) C ls8_37 dX8_trace_10 (s8_inF k (nI 0) (qI ((tr : Int) - 1)) (by decide) rfl (hk.imp id (fun q => (q_gel1 tr (by omega) k).mpr q))) (by decide) (Nat.le_of_ble_eq_true rfl) ?_
  refine g_if_eqN (pc := 13) C 25 dX8_trace_13 (by decide) (by decide) (fun _ => ?_) (fun q => absurd q (by decide))
  refine g_ldc (pc := 25) C (v := -1000000) zk8_216 dX8_trace_25 ?_
  exact g_iret (pc := 27) C F dX8_trace_27 rfl rfl (rfl) (rfl)
set_option maxHeartbeats 2000000 in
set_option maxRecDepth 20000 in
theorem l8_ct1 {Γ : q_X} {ad : Nat → Nat} {n : Nat} {h : q_H} {un ta fl st sa ne so di pu at_ er en pa tr : Nat} {L : Nat → Int32} {R : Nat → aR} (h0 : h 87 = MO un ta fl st sa ne so di pu at_ er en pa tr) (hL : h 90 = .inl (0, 8, L)) (hLR : ∀ i, i < 8 → (L i = -1 ∧ mThere (R i) = 0) ∨ (∃ l, l < 3 ∧ L i = nI l ∧ mThere (R i) = 1)) (C : q_C Γ ad 2 0 0 RX8 yX8_count cX8_count 5 (some .int)) (k : Int32) (kk : ∀ v4, q_G Γ ad 5 38 [some (.ref 87), some (.int k), some (.int (nI (mCnt R 8))), some (.int (nI 0)), v4] [] n h 0 0) : ∀ (m i c : Nat), i + m = 9 → i ≤ 8 → c = mCnt R i → q_G Γ ad 5 7 [some (.ref 87), some (.int k), some (.int (nI c)), some (.int (nI 0)), some (.int (nI i))] [] n h 0 0 := by
  intro m
  induction m with
  | zero => intro i c hm hi; omega
  | succ m ih =>
    intro i c hm hi hc
    refine g_iload (pc := 7) C (hl := rfl) dX8_count_7 ?_
    refine g_bipush (pc := 9) C qk_bipush_8 dX8_count_9 ?_
    refine g_ic_geN (pc := 11) C 38 dX8_count_11 (by decide) (by omega) (fun c11 => ?_) (fun c11 => ?_)
    · obtain rfl : i = 8 := by omega
      subst hc
      exact kk _
    · rcases hLR i (by omega) with ⟨e1, e2⟩ | ⟨l, e0, e1, e2⟩
      · refine g_iload_n (pc := 14) C (hl := rfl) dX8_count_14 ?_
        refine g_aload_n (pc := 15) C (hl := rfl) dX8_count_15 ?_
        refine g_get (pc := 16) C fl8_16 dX8_count_16 h0 rfl ?_
        refine g_iload (pc := 19) C (hl := rfl) dX8_count_19 ?_
        refine g_ialdW (pc := 21) C dX8_count_21 hL (by omega) e1 ?_
        refine g_if_ge (pc := 22) C 29 dX8_count_22 (by decide) (fun q => absurd q (by decide)) (fun _ => ?_)
        refine g_iconst (pc := 25) C qk_iconst_0 dX8_count_25 ?_
        refine g_goto (pc := 26) C 30 dX8_count_26 (by decide) ?_
        refine g_iaddN (pc := 30) C dX8_count_30 ?_
        refine g_istore_n (pc := 31) C rfl dX8_count_31 ?_
        refine g_iincN (pc := 32) C (hl := rfl) (q_inc1 _) rfl dX8_count_32 ?_
        refine g_goto (pc := 35) C 7 dX8_count_35 (by decide) ?_
        exact ih (i + 1) _ (by omega) (by omega) (by show _ = mCnt R i + mThere (R i); rw [hc, e2])
      · refine g_iload_n (pc := 14) C (hl := rfl) dX8_count_14 ?_
        refine g_aload_n (pc := 15) C (hl := rfl) dX8_count_15 ?_
        refine g_get (pc := 16) C fl8_16 dX8_count_16 h0 rfl ?_
        refine g_iload (pc := 19) C (hl := rfl) dX8_count_19 ?_
        refine g_ialdW (pc := 21) C dX8_count_21 hL (by omega) e1 ?_
        refine g_if_geN (pc := 22) C 29 dX8_count_22 (by decide) (by omega) ?_
        refine g_iconst (pc := 29) C qk_iconst_1 dX8_count_29 ?_
        refine g_iaddN (pc := 30) C dX8_count_30 ?_
        refine g_istore_n (pc := 31) C rfl dX8_count_31 ?_
        refine g_iincN (pc := 32) C (hl := rfl) (q_inc1 _) rfl dX8_count_32 ?_
        refine g_goto (pc := 35) C 7 dX8_count_35 (by decide) ?_
        exact ih (i + 1) _ (by omega) (by omega) (by show _ = mCnt R i + mThere (R i); rw [hc, e2])
set_option maxHeartbeats 2000000 in
set_option maxRecDepth 20000 in
theorem l8_ct2 {Γ : q_X} {ad : Nat → Nat} {n : Nat} {h : q_H} {un ta fl st sa ne so di pu at_ er en pa tr g : Nat} {W : Nat → Nat} {x : mX} {rw_ : Nat} (h0 : h 87 = MO un ta fl st sa ne so di pu at_ er en pa tr) (hW : h 88 = WA W) (T : wT W 0 g x) (hg : g ≤ 6) (C : q_C Γ ad 2 0 0 RX8 yX8_count cX8_count 5 (some .int)) (k : Int32) (kk : ∀ v4, q_G Γ ad 5 71 [some (.ref 87), some (.int k), some (.int (nI rw_)), some (.int (nI (mSumP x.1 g))), v4] [] n h 0 0) : ∀ (m i c : Nat), i + m = g + 1 → i ≤ g → c = mSumP x.1 i → q_G Γ ad 5 41 [some (.ref 87), some (.int k), some (.int (nI rw_)), some (.int (nI c)), some (.int (nI i))] [] n h 0 0 := by
  intro m
  induction m with
  | zero => intro i c hm hi; omega
  | succ m ih =>
    intro i c hm hi hc
    refine g_iload (pc := 41) C (hl := rfl) dX8_count_41 ?_
    refine g_aload_n (pc := 43) C (hl := rfl) dX8_count_43 ?_
    refine g_get (pc := 44) C fl8_7 dX8_count_44 h0 rfl ?_
    refine g_iconst (pc := 47) C qk_iconst_0 dX8_count_47 ?_
    refine g_ialdV (pc := 48) C dX8_count_48 hW (by omega) (wT0_n T) ?_
    refine g_ic_geN (pc := 49) C 71 dX8_count_49 (by decide) (by omega) (fun c49 => ?_) (fun c49 => ?_)
    · obtain rfl : i = g := by omega
      subst hc
      exact kk _
    · refine g_iload_n (pc := 52) C (hl := rfl) dX8_count_52 ?_
      refine g_aload_n (pc := 53) C (hl := rfl) dX8_count_53 ?_
      refine g_get (pc := 54) C fl8_7 dX8_count_54 h0 rfl ?_
      refine g_bipush (pc := 57) C qk_bipush_27 dX8_count_57 ?_
      refine g_iload (pc := 59) C (hl := rfl) dX8_count_59 ?_
      refine g_iaddN (pc := 61) C dX8_count_61 ?_
      refine g_ialdV (pc := 62) C dX8_count_62 hW (by omega) (wT0_po T (by omega)) ?_
      refine g_iaddN (pc := 63) C dX8_count_63 ?_
      refine g_istore_n (pc := 64) C rfl dX8_count_64 ?_
      refine g_iincN (pc := 65) C (hl := rfl) (q_inc1 _) rfl dX8_count_65 ?_
      refine g_goto (pc := 68) C 41 dX8_count_68 (by decide) ?_
      exact ih (i + 1) _ (by omega) (by omega) (by rw [hc]; rfl)
set_option maxHeartbeats 2000000 in
set_option maxRecDepth 20000 in
theorem s8_countO {n : Nat} {h : q_H} {un ta fl st sa ne so di pu at_ er en pa tr g : Nat} {W : Nat → Nat} {x : mX} {L : Nat → Int32} {R : Nat → aR} (k : Int32) (h0 : h 87 = MO un ta fl st sa ne so di pu at_ er en pa tr) (hL : h 90 = .inl (0, 8, L)) (hLR : ∀ i, i < 8 → (L i = -1 ∧ mThere (R i) = 0) ∨ (∃ l, l < 3 ∧ L i = nI l ∧ mThere (R i) = 1)) (hW : h 88 = WA W) (T : wT W 0 g x) (hg : g ≤ 6) (hk : k.toInt < 0 ∨ 6 < k.toInt) : SP 2 yX8_count cX8_count 5 (some .int) [.ref 87, .int k] n h (some (.int (-1000001))) h := by
  refine q_SPi RX8 rfl (by decide +kernel) (la := _) rfl rfl (fun Γ ad C F => ?_)
  refine g_iconst (pc := 0) C qk_iconst_0 dX8_count_0 ?_
  refine g_istore_n (pc := 1) C rfl dX8_count_1 ?_
  refine g_iconst (pc := 2) C qk_iconst_0 dX8_count_2 ?_
  refine g_istore_n (pc := 3) C rfl dX8_count_3 ?_
  refine g_iconst (pc := 4) C qk_iconst_0 dX8_count_4 ?_
  refine g_istore (pc := 5) C rfl dX8_count_5 ?_
  refine l8_ct1 h0 hL hLR C _ (fun v4 => ?_) 9 0 0 rfl (by decide) rfl
  refine g_iconst (pc := 38) C qk_iconst_0 dX8_count_38 ?_
  refine g_istore (pc := 39) C rfl dX8_count_39 ?_
  refine l8_ct2 h0 hW T hg C _ (fun v4 => ?_) (g + 1) 0 0 (by omega) (by omega) rfl
  refine g_iload_n (pc := 71) C (hl := rfl) dX8_count_71 ?_
  refine g_tsO (pc := 72) C 151 dX8_count_72 hk (by decide) ?_
  refine g_ldc (pc := 151) C (v := -1000001) zk8_52 dX8_count_151 ?_
  exact g_iret (pc := 153) C F dX8_count_153 rfl rfl (rfl) (rfl)
set_option maxHeartbeats 2000000 in
set_option maxRecDepth 20000 in
theorem s8_count0 {n : Nat} {h : q_H} {un ta fl st sa ne so di pu at_ er en pa tr g : Nat} {W : Nat → Nat} {x : mX} {L : Nat → Int32} {R : Nat → aR} (h0 : h 87 = MO un ta fl st sa ne so di pu at_ er en pa tr) (hL : h 90 = .inl (0, 8, L)) (hLR : ∀ i, i < 8 → (L i = -1 ∧ mThere (R i) = 0) ∨ (∃ l, l < 3 ∧ L i = nI l ∧ mThere (R i) = 1)) (hW : h 88 = WA W) (T : wT W 0 g x) (hg : g ≤ 6) : SP 2 yX8_count cX8_count 5 (some .int) [.ref 87, .int (nI 0)] n h (some (.int (nI (mCnt R 8)))) h := by
  refine q_SPi RX8 rfl (by decide +kernel) (la := _) rfl rfl (fun Γ ad C F => ?_)
  refine g_iconst (pc := 0) C qk_iconst_0 dX8_count_0 ?_
  refine g_istore_n (pc := 1) C rfl dX8_count_1 ?_
  refine g_iconst (pc := 2) C qk_iconst_0 dX8_count_2 ?_
  refine g_istore_n (pc := 3) C rfl dX8_count_3 ?_
  refine g_iconst (pc := 4) C qk_iconst_0 dX8_count_4 ?_
  refine g_istore (pc := 5) C rfl dX8_count_5 ?_
  refine l8_ct1 h0 hL hLR C _ (fun v4 => ?_) 9 0 0 rfl (by decide) rfl
  refine g_iconst (pc := 38) C qk_iconst_0 dX8_count_38 ?_
  refine g_istore (pc := 39) C rfl dX8_count_39 ?_
  refine l8_ct2 h0 hW T hg C _ (fun v4 => ?_) (g + 1) 0 0 (by omega) (by omega) rfl
  refine g_iload_n (pc := 71) C (hl := rfl) dX8_count_71 ?_
  refine g_tsI (pc := 72) C (off := 44) 116 dX8_count_72 (by decide +kernel) (by decide +kernel) (by decide +kernel) (by decide) ?_
  refine g_iload_n (pc := 116) C (hl := rfl) dX8_count_116 ?_
  exact g_iret (pc := 117) C F dX8_count_117 rfl rfl (rfl) (rfl)
set_option maxHeartbeats 2000000 in
set_option maxRecDepth 20000 in
theorem s8_count1 {n : Nat} {h : q_H} {un ta fl st sa ne so di pu at_ er en pa tr g : Nat} {W : Nat → Nat} {x : mX} {L : Nat → Int32} {R : Nat → aR} (h0 : h 87 = MO un ta fl st sa ne so di pu at_ er en pa tr) (hL : h 90 = .inl (0, 8, L)) (hLR : ∀ i, i < 8 → (L i = -1 ∧ mThere (R i) = 0) ∨ (∃ l, l < 3 ∧ L i = nI l ∧ mThere (R i) = 1)) (hW : h 88 = WA W) (T : wT W 0 g x) (hg : g ≤ 6) : SP 2 yX8_count cX8_count 5 (some .int) [.ref 87, .int (nI 1)] n h (some (.int (nI g))) h := by
  refine q_SPi RX8 rfl (by decide +kernel) (la := _) rfl rfl (fun Γ ad C F => ?_)
  refine g_iconst (pc := 0) C qk_iconst_0 dX8_count_0 ?_
  refine g_istore_n (pc := 1) C rfl dX8_count_1 ?_
  refine g_iconst (pc := 2) C qk_iconst_0 dX8_count_2 ?_
  refine g_istore_n (pc := 3) C rfl dX8_count_3 ?_
  refine g_iconst (pc := 4) C qk_iconst_0 dX8_count_4 ?_
  refine g_istore (pc := 5) C rfl dX8_count_5 ?_
  refine l8_ct1 h0 hL hLR C _ (fun v4 => ?_) 9 0 0 rfl (by decide) rfl
  refine g_iconst (pc := 38) C qk_iconst_0 dX8_count_38 ?_
  refine g_istore (pc := 39) C rfl dX8_count_39 ?_
  refine l8_ct2 h0 hW T hg C _ (fun v4 => ?_) (g + 1) 0 0 (by omega) (by omega) rfl
  refine g_iload_n (pc := 71) C (hl := rfl) dX8_count_71 ?_
  refine g_tsI (pc := 72) C (off := 46) 118 dX8_count_72 (by decide +kernel) (by decide +kernel) (by decide +kernel) (by decide) ?_
  refine g_aload_n (pc := 118) C (hl := rfl) dX8_count_118 ?_
  refine g_get (pc := 119) C fl8_7 dX8_count_119 h0 rfl ?_
  refine g_iconst (pc := 122) C qk_iconst_0 dX8_count_122 ?_
  refine g_ialdV (pc := 123) C dX8_count_123 hW (by omega) (wT0_n T) ?_
  exact g_iret (pc := 124) C F dX8_count_124 rfl rfl (rfl) (rfl)
set_option maxHeartbeats 2000000 in
set_option maxRecDepth 20000 in
theorem s8_count2 {n : Nat} {h : q_H} {un ta fl st sa ne so di pu at_ er en pa tr g : Nat} {W : Nat → Nat} {x : mX} {L : Nat → Int32} {R : Nat → aR} (h0 : h 87 = MO un ta fl st sa ne so di pu at_ er en pa tr) (hL : h 90 = .inl (0, 8, L)) (hLR : ∀ i, i < 8 → (L i = -1 ∧ mThere (R i) = 0) ∨ (∃ l, l < 3 ∧ L i = nI l ∧ mThere (R i) = 1)) (hW : h 88 = WA W) (T : wT W 0 g x) (hg : g ≤ 6) : SP 2 yX8_count cX8_count 5 (some .int) [.ref 87, .int (nI 2)] n h (some (.int (nI x.2.2.1))) h := by
  refine q_SPi RX8 rfl (by decide +kernel) (la := _) rfl rfl (fun Γ ad C F => ?_)
  refine g_iconst (pc := 0) C qk_iconst_0 dX8_count_0 ?_
  refine g_istore_n (pc := 1) C rfl dX8_count_1 ?_
  refine g_iconst (pc := 2) C qk_iconst_0 dX8_count_2 ?_
  refine g_istore_n (pc := 3) C rfl dX8_count_3 ?_
  refine g_iconst (pc := 4) C qk_iconst_0 dX8_count_4 ?_
  refine g_istore (pc := 5) C rfl dX8_count_5 ?_
  refine l8_ct1 h0 hL hLR C _ (fun v4 => ?_) 9 0 0 rfl (by decide) rfl
  refine g_iconst (pc := 38) C qk_iconst_0 dX8_count_38 ?_
  refine g_istore (pc := 39) C rfl dX8_count_39 ?_
  refine l8_ct2 h0 hW T hg C _ (fun v4 => ?_) (g + 1) 0 0 (by omega) (by omega) rfl
  refine g_iload_n (pc := 71) C (hl := rfl) dX8_count_71 ?_
  refine g_tsI (pc := 72) C (off := 53) 125 dX8_count_72 (by decide +kernel) (by decide +kernel) (by decide +kernel) (by decide) ?_
  refine g_aload_n (pc := 125) C (hl := rfl) dX8_count_125 ?_
  refine g_get (pc := 126) C fl8_7 dX8_count_126 h0 rfl ?_
  refine g_iconst (pc := 129) C qk_iconst_2 dX8_count_129 ?_
  refine g_ialdV (pc := 130) C dX8_count_130 hW (by omega) (wT0_m T) ?_
  exact g_iret (pc := 131) C F dX8_count_131 rfl rfl (rfl) (rfl)
set_option maxHeartbeats 2000000 in
set_option maxRecDepth 20000 in
theorem s8_count3 {n : Nat} {h : q_H} {un ta fl st sa ne so di pu at_ er en pa tr g : Nat} {W : Nat → Nat} {x : mX} {L : Nat → Int32} {R : Nat → aR} (h0 : h 87 = MO un ta fl st sa ne so di pu at_ er en pa tr) (hL : h 90 = .inl (0, 8, L)) (hLR : ∀ i, i < 8 → (L i = -1 ∧ mThere (R i) = 0) ∨ (∃ l, l < 3 ∧ L i = nI l ∧ mThere (R i) = 1)) (hW : h 88 = WA W) (T : wT W 0 g x) (hg : g ≤ 6) : SP 2 yX8_count cX8_count 5 (some .int) [.ref 87, .int (nI 3)] n h (some (.int (nI x.2.1))) h := by
  refine q_SPi RX8 rfl (by decide +kernel) (la := _) rfl rfl (fun Γ ad C F => ?_)
  refine g_iconst (pc := 0) C qk_iconst_0 dX8_count_0 ?_
  refine g_istore_n (pc := 1) C rfl dX8_count_1 ?_
  refine g_iconst (pc := 2) C qk_iconst_0 dX8_count_2 ?_
  refine g_istore_n (pc := 3) C rfl dX8_count_3 ?_
  refine g_iconst (pc := 4) C qk_iconst_0 dX8_count_4 ?_
  refine g_istore (pc := 5) C rfl dX8_count_5 ?_
  refine l8_ct1 h0 hL hLR C _ (fun v4 => ?_) 9 0 0 rfl (by decide) rfl
  refine g_iconst (pc := 38) C qk_iconst_0 dX8_count_38 ?_
  refine g_istore (pc := 39) C rfl dX8_count_39 ?_
  refine l8_ct2 h0 hW T hg C _ (fun v4 => ?_) (g + 1) 0 0 (by omega) (by omega) rfl
  refine g_iload_n (pc := 71) C (hl := rfl) dX8_count_71 ?_
  refine g_tsI (pc := 72) C (off := 60) 132 dX8_count_72 (by decide +kernel) (by decide +kernel) (by decide +kernel) (by decide) ?_
  refine g_aload_n (pc := 132) C (hl := rfl) dX8_count_132 ?_
  refine g_get (pc := 133) C fl8_7 dX8_count_133 h0 rfl ?_
  refine g_iconst (pc := 136) C qk_iconst_1 dX8_count_136 ?_
  refine g_ialdV (pc := 137) C dX8_count_137 hW (by omega) (wT0_t T) ?_
  exact g_iret (pc := 138) C F dX8_count_138 rfl rfl (rfl) (rfl)
set_option maxHeartbeats 2000000 in
set_option maxRecDepth 20000 in
theorem s8_count4 {n : Nat} {h : q_H} {un ta fl st sa ne so di pu at_ er en pa tr g : Nat} {W : Nat → Nat} {x : mX} {L : Nat → Int32} {R : Nat → aR} (h0 : h 87 = MO un ta fl st sa ne so di pu at_ er en pa tr) (hL : h 90 = .inl (0, 8, L)) (hLR : ∀ i, i < 8 → (L i = -1 ∧ mThere (R i) = 0) ∨ (∃ l, l < 3 ∧ L i = nI l ∧ mThere (R i) = 1)) (hW : h 88 = WA W) (T : wT W 0 g x) (hg : g ≤ 6) : SP 2 yX8_count cX8_count 5 (some .int) [.ref 87, .int (nI 4)] n h (some (.int (nI (mSumP x.1 g)))) h := by
  refine q_SPi RX8 rfl (by decide +kernel) (la := _) rfl rfl (fun Γ ad C F => ?_)
  refine g_iconst (pc := 0) C qk_iconst_0 dX8_count_0 ?_
  refine g_istore_n (pc := 1) C rfl dX8_count_1 ?_
  refine g_iconst (pc := 2) C qk_iconst_0 dX8_count_2 ?_
  refine g_istore_n (pc := 3) C rfl dX8_count_3 ?_
  refine g_iconst (pc := 4) C qk_iconst_0 dX8_count_4 ?_
  refine g_istore (pc := 5) C rfl dX8_count_5 ?_
  refine l8_ct1 h0 hL hLR C _ (fun v4 => ?_) 9 0 0 rfl (by decide) rfl
  refine g_iconst (pc := 38) C qk_iconst_0 dX8_count_38 ?_
  refine g_istore (pc := 39) C rfl dX8_count_39 ?_
  refine l8_ct2 h0 hW T hg C _ (fun v4 => ?_) (g + 1) 0 0 (by omega) (by omega) rfl
  refine g_iload_n (pc := 71) C (hl := rfl) dX8_count_71 ?_
  refine g_tsI (pc := 72) C (off := 67) 139 dX8_count_72 (by decide +kernel) (by decide +kernel) (by decide +kernel) (by decide) ?_
  refine g_iload_n (pc := 139) C (hl := rfl) dX8_count_139 ?_
  exact g_iret (pc := 140) C F dX8_count_140 rfl rfl (rfl) (rfl)
set_option maxHeartbeats 2000000 in
set_option maxRecDepth 20000 in
theorem s8_count5 {n : Nat} {h : q_H} {un ta fl st sa ne so di pu at_ er en pa tr g : Nat} {W : Nat → Nat} {x : mX} {L : Nat → Int32} {R : Nat → aR} (h0 : h 87 = MO un ta fl st sa ne so di pu at_ er en pa tr) (hL : h 90 = .inl (0, 8, L)) (hLR : ∀ i, i < 8 → (L i = -1 ∧ mThere (R i) = 0) ∨ (∃ l, l < 3 ∧ L i = nI l ∧ mThere (R i) = 1)) (hW : h 88 = WA W) (T : wT W 0 g x) (hg : g ≤ 6) : SP 2 yX8_count cX8_count 5 (some .int) [.ref 87, .int (nI 5)] n h (some (.int (nI un))) h := by
  refine q_SPi RX8 rfl (by decide +kernel) (la := _) rfl rfl (fun Γ ad C F => ?_)
  refine g_iconst (pc := 0) C qk_iconst_0 dX8_count_0 ?_
  refine g_istore_n (pc := 1) C rfl dX8_count_1 ?_
  refine g_iconst (pc := 2) C qk_iconst_0 dX8_count_2 ?_
  refine g_istore_n (pc := 3) C rfl dX8_count_3 ?_
  refine g_iconst (pc := 4) C qk_iconst_0 dX8_count_4 ?_
  refine g_istore (pc := 5) C rfl dX8_count_5 ?_
  refine l8_ct1 h0 hL hLR C _ (fun v4 => ?_) 9 0 0 rfl (by decide) rfl
  refine g_iconst (pc := 38) C qk_iconst_0 dX8_count_38 ?_
  refine g_istore (pc := 39) C rfl dX8_count_39 ?_
  refine l8_ct2 h0 hW T hg C _ (fun v4 => ?_) (g + 1) 0 0 (by omega) (by omega) rfl
  refine g_iload_n (pc := 71) C (hl := rfl) dX8_count_71 ?_
  refine g_tsI (pc := 72) C (off := 69) 141 dX8_count_72 (by decide +kernel) (by decide +kernel) (by decide +kernel) (by decide) ?_
  refine g_aload_n (pc := 141) C (hl := rfl) dX8_count_141 ?_
  refine g_get (pc := 142) C fl8_146 dX8_count_142 h0 rfl ?_
  exact g_iret (pc := 145) C F dX8_count_145 rfl rfl (rfl) (rfl)
set_option maxHeartbeats 2000000 in
set_option maxRecDepth 20000 in
theorem s8_count6 {n : Nat} {h : q_H} {un ta fl st sa ne so di pu at_ er en pa tr g : Nat} {W : Nat → Nat} {x : mX} {L : Nat → Int32} {R : Nat → aR} (h0 : h 87 = MO un ta fl st sa ne so di pu at_ er en pa tr) (hL : h 90 = .inl (0, 8, L)) (hLR : ∀ i, i < 8 → (L i = -1 ∧ mThere (R i) = 0) ∨ (∃ l, l < 3 ∧ L i = nI l ∧ mThere (R i) = 1)) (hW : h 88 = WA W) (T : wT W 0 g x) (hg : g ≤ 6) : SP 2 yX8_count cX8_count 5 (some .int) [.ref 87, .int (nI 6)] n h (some (.int (nI ta))) h := by
  refine q_SPi RX8 rfl (by decide +kernel) (la := _) rfl rfl (fun Γ ad C F => ?_)
  refine g_iconst (pc := 0) C qk_iconst_0 dX8_count_0 ?_
  refine g_istore_n (pc := 1) C rfl dX8_count_1 ?_
  refine g_iconst (pc := 2) C qk_iconst_0 dX8_count_2 ?_
  refine g_istore_n (pc := 3) C rfl dX8_count_3 ?_
  refine g_iconst (pc := 4) C qk_iconst_0 dX8_count_4 ?_
  refine g_istore (pc := 5) C rfl dX8_count_5 ?_
  refine l8_ct1 h0 hL hLR C _ (fun v4 => ?_) 9 0 0 rfl (by decide) rfl
  refine g_iconst (pc := 38) C qk_iconst_0 dX8_count_38 ?_
  refine g_istore (pc := 39) C rfl dX8_count_39 ?_
  refine l8_ct2 h0 hW T hg C _ (fun v4 => ?_) (g + 1) 0 0 (by omega) (by omega) rfl
  refine g_iload_n (pc := 71) C (hl := rfl) dX8_count_71 ?_
  refine g_tsI (pc := 72) C (off := 74) 146 dX8_count_72 (by decide +kernel) (by decide +kernel) (by decide +kernel) (by decide) ?_
  refine g_aload_n (pc := 146) C (hl := rfl) dX8_count_146 ?_
  refine g_get (pc := 147) C fl8_66 dX8_count_147 h0 rfl ?_
  exact g_iret (pc := 150) C F dX8_count_150 rfl rfl (rfl) (rfl)
set_option maxHeartbeats 2000000 in
set_option maxRecDepth 20000 in
theorem s8_leaves {n : Nat} {h : q_H} {un ta fl st sa ne so di pu at_ er en pa tr : Nat} {fk : Nat → Nat} (v : Nat) (h0 : h 87 = MO un ta fl st sa ne so di pu at_ er en pa tr) (hKb : h 95 = KA fk) (hl : tr < 16) : SP 0 yX8_leaves cX8_leaves 2 none [.ref 87, .int (nI v)] n h none (q_up (q_up h 95 (KA (mTr fk tr [v]))) 87 (MO un ta fl st sa ne so di pu at_ er en pa (tr + 1))) := by
  refine q_SPi RX8 rfl (by decide +kernel) (la := _) rfl rfl (fun Γ ad C F => ?_)
  refine g_aload_n (pc := 0) C (hl := rfl) dX8_leaves_0 ?_
  refine g_get (pc := 1) C fl8_225 dX8_leaves_1 h0 rfl ?_
  refine g_bipush (pc := 4) C qk_bipush_16 dX8_leaves_4 ?_
  refine g_ic_geN (pc := 6) C 29 dX8_leaves_6 (by decide) (by omega) (fun q => absurd q (by omega)) (fun _ => ?_)
  refine g_aload_n (pc := 9) C (hl := rfl) dX8_leaves_9 ?_
  refine g_get (pc := 10) C fl8_32 dX8_leaves_10 h0 rfl ?_
  refine g_aload_n (pc := 13) C (hl := rfl) dX8_leaves_13 ?_
  refine g_get (pc := 14) C fl8_225 dX8_leaves_14 h0 rfl ?_
  refine g_iload_n (pc := 17) C (hl := rfl) dX8_leaves_17 ?_
  refine g_iastN (pc := 18) C dX8_leaves_18 hKb (by omega) ?_
  refine g_aload_n (pc := 19) C (hl := rfl) dX8_leaves_19 ?_
  refine g_dup (pc := 20) C rfl dX8_leaves_20 ?_
  refine g_get (pc := 21) C fl8_225 dX8_leaves_21 ((q_up_n _ _ (by decide)).trans h0) rfl ?_
  refine g_iconst (pc := 24) C qk_iconst_1 dX8_leaves_24 ?_
  refine g_iaddN (pc := 25) C dX8_leaves_25 ?_
  refine g_put (pc := 26) C fp8_225 dX8_leaves_26 ((q_up_n _ _ (by decide)).trans h0) (Nat.le_of_ble_eq_true rfl) ?_
  exact g_vret (pc := 29) C F dX8_leaves_29 rfl rfl (rfl)
set_option maxHeartbeats 2000000 in
set_option maxRecDepth 20000 in
theorem s8_me1 {n : Nat} {h : q_H} {un ta fl st sa ne so di pu at_ er en pa tr g : Nat} {W fk : Nat → Nat} {x : mX} (z : Nat) (h0 : h 87 = MO un ta fl st sa ne so di pu at_ er en pa tr) (hW : h 88 = WA W) (T : wT W 0 g x) (hKb : h 95 = KA fk) (hz : z < 6) (hso : x.1 (0 + z) = 1) (hl : tr + 8 ≤ 16) : SP 1 yX8_markOfEater cX8_markOfEater 4 (some .int) [.ref 87, .int (nI z)] n h (some (.int (qI ((z : Int) + x.1 (6 + z))))) (q_up (q_up h 95 (KA (mTr fk tr [21, 20]))) 87 (MO un ta fl st sa ne so di pu at_ er en pa (tr + 2))) := by
  refine q_SPi RX8 rfl (by decide +kernel) (la := _) rfl rfl (fun Γ ad C F => ?_)
  refine g_aload_n (pc := 0) C (hl := rfl) dX8_markOfEater_0 ?_
  refine g_get (pc := 1) C fl8_7 dX8_markOfEater_1 h0 rfl ?_
  refine g_iconst (pc := 4) C qk_iconst_3 dX8_markOfEater_4 ?_
  refine g_iload_n (pc := 5) C (hl := rfl) dX8_markOfEater_5 ?_
  refine g_iaddN (pc := 6) C dX8_markOfEater_6 ?_
  refine g_ialdV (pc := 7) C dX8_markOfEater_7 hW (by omega) ((wT0_so T (by omega)).trans hso) ?_
  refine g_istore_n (pc := 8) C rfl dX8_markOfEater_8 ?_
  refine g_iload_n (pc := 9) C (hl := rfl) dX8_markOfEater_9 ?_
  refine g_iconst (pc := 10) C qk_iconst_3 dX8_markOfEater_10 ?_
  refine g_ic_neN (pc := 11) C 20 dX8_markOfEater_11 (by decide) (by decide) (fun _ => ?_) (fun q => absurd q (by decide))
  refine g_iload_n (pc := 20) C (hl := rfl) dX8_markOfEater_20 ?_
  refine g_iconst (pc := 21) C qk_iconst_2 dX8_markOfEater_21 ?_
  refine g_ic_neN (pc := 22) C 31 dX8_markOfEater_22 (by decide) (by decide) (fun _ => ?_) (fun q => absurd q (by decide))
  refine g_aload_n (pc := 31) C (hl := rfl) dX8_markOfEater_31 ?_
  refine g_bipush (pc := 32) C qk_bipush_21 dX8_markOfEater_32 ?_
  refine g_V1u (pc := 34) C lv8_233 dX8_markOfEater_34 (s8_leaves 21 h0 hKb (by omega)) h0 (by decide) (Nat.le_of_ble_eq_true rfl) ?_
  refine g_aload_n (pc := 37) C (hl := rfl) dX8_markOfEater_37 ?_
  refine g_bipush (pc := 38) C qk_bipush_20 dX8_markOfEater_38 ?_
  refine g_V1u (pc := 40) C lv8_233 dX8_markOfEater_40 (s8_leaves 20 (q_up_s _ _ _) ((q_up_n _ _ (by decide)).trans (q_up_s _ _ _)) (by omega)) (q_up_s _ _ _) (by decide) (Nat.le_of_ble_eq_true rfl) ?_
  refine g_iload_n (pc := 43) C (hl := rfl) dX8_markOfEater_43 ?_
  refine g_aload_n (pc := 44) C (hl := rfl) dX8_markOfEater_44 ?_
  refine g_get (pc := 45) C fl8_7 dX8_markOfEater_45 (q_up_s _ _ _) rfl ?_
  refine g_bipush (pc := 48) C qk_bipush_9 dX8_markOfEater_48 ?_
  refine g_iload_n (pc := 50) C (hl := rfl) dX8_markOfEater_50 ?_
  refine g_iaddN (pc := 51) C dX8_markOfEater_51 ?_
  refine g_ialdV (pc := 52) C dX8_markOfEater_52 ((q_up_n _ _ (by decide)).trans ((q_up_n _ _ (by decide)).trans ((q_up_n _ _ (by decide)).trans ((q_up_n _ _ (by decide)).trans hW)))) (by omega) (wT0_wa T (by omega)) ?_
  refine g_iaddN (pc := 53) C dX8_markOfEater_53 ?_
  refine g_istore_n (pc := 54) C rfl dX8_markOfEater_54 ?_
  refine g_iload_n (pc := 55) C (hl := rfl) dX8_markOfEater_55 ?_
  refine g_iconst (pc := 56) C qk_iconst_3 dX8_markOfEater_56 ?_
  refine g_ic_neN (pc := 57) C 68 dX8_markOfEater_57 (by decide) (by decide) (fun _ => ?_) (fun q => absurd q (by decide))
  refine g_iload_n (pc := 68) C (hl := rfl) dX8_markOfEater_68 ?_
  refine g_iconst (pc := 69) C qk_iconst_2 dX8_markOfEater_69 ?_
  refine g_ic_neN (pc := 70) C 79 dX8_markOfEater_70 (by decide) (by decide) (fun _ => ?_) (fun q => absurd q (by decide))
  refine g_iload_n (pc := 79) C (hl := rfl) dX8_markOfEater_79 ?_
  exact g_iret (pc := 80) C F dX8_markOfEater_80 rfl rfl (by simp only [qI_N, qI_add, qI_sub, qI_mul]; rfl) (by first | (simp only [q_up_u, q_up_c _ (show (87 : Nat) ≠ 95 by decide)]; done) | (simp only [q_up_u, q_up_c _ (show (87 : Nat) ≠ 95 by decide)]; rfl) | rfl)
set_option maxHeartbeats 2000000 in
set_option maxRecDepth 20000 in
theorem s8_me2 {n : Nat} {h : q_H} {un ta fl st sa ne so di pu at_ er en pa tr g : Nat} {W fk : Nat → Nat} {x : mX} (z : Nat) (h0 : h 87 = MO un ta fl st sa ne so di pu at_ er en pa tr) (hW : h 88 = WA W) (T : wT W 0 g x) (hKb : h 95 = KA fk) (hz : z < 6) (hso : x.1 (0 + z) = 2) (hl : tr + 8 ≤ 16) : SP 1 yX8_markOfEater cX8_markOfEater 4 (some .int) [.ref 87, .int (nI z)] n h (some (.int (qI (2 * ((z : Int) + x.1 (6 + z)))))) (q_up (q_up h 95 (KA (mTr fk tr [24, 21, 20]))) 87 (MO un ta fl st sa ne so di pu at_ er en pa (tr + 3))) := by
  refine q_SPi RX8 rfl (by decide +kernel) (la := _) rfl rfl (fun Γ ad C F => ?_)
  refine g_aload_n (pc := 0) C (hl := rfl) dX8_markOfEater_0 ?_
  refine g_get (pc := 1) C fl8_7 dX8_markOfEater_1 h0 rfl ?_
  refine g_iconst (pc := 4) C qk_iconst_3 dX8_markOfEater_4 ?_
  refine g_iload_n (pc := 5) C (hl := rfl) dX8_markOfEater_5 ?_
  refine g_iaddN (pc := 6) C dX8_markOfEater_6 ?_
  refine g_ialdV (pc := 7) C dX8_markOfEater_7 hW (by omega) ((wT0_so T (by omega)).trans hso) ?_
  refine g_istore_n (pc := 8) C rfl dX8_markOfEater_8 ?_
  refine g_iload_n (pc := 9) C (hl := rfl) dX8_markOfEater_9 ?_
  refine g_iconst (pc := 10) C qk_iconst_3 dX8_markOfEater_10 ?_
  refine g_ic_neN (pc := 11) C 20 dX8_markOfEater_11 (by decide) (by decide) (fun _ => ?_) (fun q => absurd q (by decide))
  refine g_iload_n (pc := 20) C (hl := rfl) dX8_markOfEater_20 ?_
  refine g_iconst (pc := 21) C qk_iconst_2 dX8_markOfEater_21 ?_
  refine g_ic_neN (pc := 22) C 31 dX8_markOfEater_22 (by decide) (by decide) (fun q => absurd q (by decide)) (fun _ => ?_)
  refine g_aload_n (pc := 25) C (hl := rfl) dX8_markOfEater_25 ?_
  refine g_bipush (pc := 26) C qk_bipush_24 dX8_markOfEater_26 ?_
  refine g_V1u (pc := 28) C lv8_233 dX8_markOfEater_28 (s8_leaves 24 h0 hKb (by omega)) h0 (by decide) (Nat.le_of_ble_eq_true rfl) ?_
  refine g_aload_n (pc := 31) C (hl := rfl) dX8_markOfEater_31 ?_
  refine g_bipush (pc := 32) C qk_bipush_21 dX8_markOfEater_32 ?_
  refine g_V1u (pc := 34) C lv8_233 dX8_markOfEater_34 (s8_leaves 21 (q_up_s _ _ _) ((q_up_n _ _ (by decide)).trans (q_up_s _ _ _)) (by omega)) (q_up_s _ _ _) (by decide) (Nat.le_of_ble_eq_true rfl) ?_
  refine g_aload_n (pc := 37) C (hl := rfl) dX8_markOfEater_37 ?_
  refine g_bipush (pc := 38) C qk_bipush_20 dX8_markOfEater_38 ?_
  refine g_V1u (pc := 40) C lv8_233 dX8_markOfEater_40 (s8_leaves 20 (q_up_s _ _ _) ((q_up_n _ _ (by decide)).trans (q_up_s _ _ _)) (by omega)) (q_up_s _ _ _) (by decide) (Nat.le_of_ble_eq_true rfl) ?_
  refine g_iload_n (pc := 43) C (hl := rfl) dX8_markOfEater_43 ?_
  refine g_aload_n (pc := 44) C (hl := rfl) dX8_markOfEater_44 ?_
  refine g_get (pc := 45) C fl8_7 dX8_markOfEater_45 (q_up_s _ _ _) rfl ?_
  refine g_bipush (pc := 48) C qk_bipush_9 dX8_markOfEater_48 ?_
  refine g_iload_n (pc := 50) C (hl := rfl) dX8_markOfEater_50 ?_
  refine g_iaddN (pc := 51) C dX8_markOfEater_51 ?_
  refine g_ialdV (pc := 52) C dX8_markOfEater_52 ((q_up_n _ _ (by decide)).trans ((q_up_n _ _ (by decide)).trans ((q_up_n _ _ (by decide)).trans ((q_up_n _ _ (by decide)).trans ((q_up_n _ _ (by decide)).trans ((q_up_n _ _ (by decide)).trans hW)))))) (by omega) (wT0_wa T (by omega)) ?_
  refine g_iaddN (pc := 53) C dX8_markOfEater_53 ?_
  refine g_istore_n (pc := 54) C rfl dX8_markOfEater_54 ?_
  refine g_iload_n (pc := 55) C (hl := rfl) dX8_markOfEater_55 ?_
  refine g_iconst (pc := 56) C qk_iconst_3 dX8_markOfEater_56 ?_
  refine g_ic_neN (pc := 57) C 68 dX8_markOfEater_57 (by decide) (by decide) (fun _ => ?_) (fun q => absurd q (by decide))
  refine g_iload_n (pc := 68) C (hl := rfl) dX8_markOfEater_68 ?_
  refine g_iconst (pc := 69) C qk_iconst_2 dX8_markOfEater_69 ?_
  refine g_ic_neN (pc := 70) C 79 dX8_markOfEater_70 (by decide) (by decide) (fun q => absurd q (by decide)) (fun _ => ?_)
  refine g_iconst (pc := 73) C qk_iconst_2 dX8_markOfEater_73 ?_
  refine g_iload_n (pc := 74) C (hl := rfl) dX8_markOfEater_74 ?_
  refine g_imul (pc := 75) C dX8_markOfEater_75 ?_
  refine g_goto (pc := 76) C 80 dX8_markOfEater_76 (by decide) ?_
  exact g_iret (pc := 80) C F dX8_markOfEater_80 rfl rfl (by simp only [qI_N, qI_add, qI_sub, qI_mul]; rfl) (by first | (simp only [q_up_u, q_up_c _ (show (87 : Nat) ≠ 95 by decide)]; done) | (simp only [q_up_u, q_up_c _ (show (87 : Nat) ≠ 95 by decide)]; rfl) | rfl)
set_option maxHeartbeats 2000000 in
set_option maxRecDepth 20000 in
theorem s8_me3 {n : Nat} {h : q_H} {un ta fl st sa ne so di pu at_ er en pa tr g : Nat} {W fk : Nat → Nat} {x : mX} (z : Nat) (h0 : h 87 = MO un ta fl st sa ne so di pu at_ er en pa tr) (hW : h 88 = WA W) (T : wT W 0 g x) (hKb : h 95 = KA fk) (hz : z < 6) (hso : x.1 (0 + z) = 3) (hl : tr + 8 ≤ 16) : SP 1 yX8_markOfEater cX8_markOfEater 4 (some .int) [.ref 87, .int (nI z)] n h (some (.int (qI ((z : Int) + x.1 (6 + z) - 1000)))) (q_up (q_up h 95 (KA (mTr fk tr [22, 21, 20]))) 87 (MO un ta fl st sa ne so di pu at_ er en pa (tr + 3))) := by
  refine q_SPi RX8 rfl (by decide +kernel) (la := _) rfl rfl (fun Γ ad C F => ?_)
  refine g_aload_n (pc := 0) C (hl := rfl) dX8_markOfEater_0 ?_
  refine g_get (pc := 1) C fl8_7 dX8_markOfEater_1 h0 rfl ?_
  refine g_iconst (pc := 4) C qk_iconst_3 dX8_markOfEater_4 ?_
  refine g_iload_n (pc := 5) C (hl := rfl) dX8_markOfEater_5 ?_
  refine g_iaddN (pc := 6) C dX8_markOfEater_6 ?_
  refine g_ialdV (pc := 7) C dX8_markOfEater_7 hW (by omega) ((wT0_so T (by omega)).trans hso) ?_
  refine g_istore_n (pc := 8) C rfl dX8_markOfEater_8 ?_
  refine g_iload_n (pc := 9) C (hl := rfl) dX8_markOfEater_9 ?_
  refine g_iconst (pc := 10) C qk_iconst_3 dX8_markOfEater_10 ?_
  refine g_ic_neN (pc := 11) C 20 dX8_markOfEater_11 (by decide) (by decide) (fun q => absurd q (by decide)) (fun _ => ?_)
  refine g_aload_n (pc := 14) C (hl := rfl) dX8_markOfEater_14 ?_
  refine g_bipush (pc := 15) C qk_bipush_22 dX8_markOfEater_15 ?_
  refine g_V1u (pc := 17) C lv8_233 dX8_markOfEater_17 (s8_leaves 22 h0 hKb (by omega)) h0 (by decide) (Nat.le_of_ble_eq_true rfl) ?_
  refine g_iload_n (pc := 20) C (hl := rfl) dX8_markOfEater_20 ?_
  refine g_iconst (pc := 21) C qk_iconst_2 dX8_markOfEater_21 ?_
  refine g_ic_neN (pc := 22) C 31 dX8_markOfEater_22 (by decide) (by decide) (fun _ => ?_) (fun q => absurd q (by decide))
  refine g_aload_n (pc := 31) C (hl := rfl) dX8_markOfEater_31 ?_
  refine g_bipush (pc := 32) C qk_bipush_21 dX8_markOfEater_32 ?_
  refine g_V1u (pc := 34) C lv8_233 dX8_markOfEater_34 (s8_leaves 21 (q_up_s _ _ _) ((q_up_n _ _ (by decide)).trans (q_up_s _ _ _)) (by omega)) (q_up_s _ _ _) (by decide) (Nat.le_of_ble_eq_true rfl) ?_
  refine g_aload_n (pc := 37) C (hl := rfl) dX8_markOfEater_37 ?_
  refine g_bipush (pc := 38) C qk_bipush_20 dX8_markOfEater_38 ?_
  refine g_V1u (pc := 40) C lv8_233 dX8_markOfEater_40 (s8_leaves 20 (q_up_s _ _ _) ((q_up_n _ _ (by decide)).trans (q_up_s _ _ _)) (by omega)) (q_up_s _ _ _) (by decide) (Nat.le_of_ble_eq_true rfl) ?_
  refine g_iload_n (pc := 43) C (hl := rfl) dX8_markOfEater_43 ?_
  refine g_aload_n (pc := 44) C (hl := rfl) dX8_markOfEater_44 ?_
  refine g_get (pc := 45) C fl8_7 dX8_markOfEater_45 (q_up_s _ _ _) rfl ?_
  refine g_bipush (pc := 48) C qk_bipush_9 dX8_markOfEater_48 ?_
  refine g_iload_n (pc := 50) C (hl := rfl) dX8_markOfEater_50 ?_
  refine g_iaddN (pc := 51) C dX8_markOfEater_51 ?_
  refine g_ialdV (pc := 52) C dX8_markOfEater_52 ((q_up_n _ _ (by decide)).trans ((q_up_n _ _ (by decide)).trans ((q_up_n _ _ (by decide)).trans ((q_up_n _ _ (by decide)).trans ((q_up_n _ _ (by decide)).trans ((q_up_n _ _ (by decide)).trans hW)))))) (by omega) (wT0_wa T (by omega)) ?_
  refine g_iaddN (pc := 53) C dX8_markOfEater_53 ?_
  refine g_istore_n (pc := 54) C rfl dX8_markOfEater_54 ?_
  refine g_iload_n (pc := 55) C (hl := rfl) dX8_markOfEater_55 ?_
  refine g_iconst (pc := 56) C qk_iconst_3 dX8_markOfEater_56 ?_
  refine g_ic_neN (pc := 57) C 68 dX8_markOfEater_57 (by decide) (by decide) (fun q => absurd q (by decide)) (fun _ => ?_)
  refine g_iload_n (pc := 60) C (hl := rfl) dX8_markOfEater_60 ?_
  refine g_sipush (pc := 61) C qk_sipush_1000 dX8_markOfEater_61 ?_
  refine g_isub (pc := 64) C dX8_markOfEater_64 ?_
  refine g_goto (pc := 65) C 80 dX8_markOfEater_65 (by decide) ?_
  exact g_iret (pc := 80) C F dX8_markOfEater_80 rfl rfl (by simp only [qI_N, qI_add, qI_sub, qI_mul]; rfl) (by first | (simp only [q_up_u, q_up_c _ (show (87 : Nat) ≠ 95 by decide)]; done) | (simp only [q_up_u, q_up_c _ (show (87 : Nat) ≠ 95 by decide)]; rfl) | rfl)
set_option maxHeartbeats 2000000 in
set_option maxRecDepth 20000 in
theorem s8_sz1 {n : Nat} {h : q_H} {un ta fl st sa ne so di pu at_ er en pa tr g : Nat} {W fk : Nat → Nat} {x : mX} (z : Nat) (h0 : h 87 = MO un ta fl st sa ne so di pu at_ er en pa tr) (hW : h 88 = WA W) (T : wT W 0 g x) (hKb : h 95 = KA fk) (hz : z < 6) (hso : x.1 (0 + z) = 1) (hl : tr + 14 ≤ 16) : SP 2 yX8_sizeOf cX8_sizeOf 5 (some .int) [.ref 87, .int (nI z)] n h (some (.int (qI ((x.1 (18 + z) : Int) + ((z : Int) + x.1 (6 + z)))))) (q_up (q_up h 95 (KA (mTr fk tr [11, 10, 21, 20]))) 87 (MO un ta fl st sa ne so di pu at_ er en pa (tr + 4))) := by
  refine q_SPi RX8 rfl (by decide +kernel) (la := _) rfl rfl (fun Γ ad C F => ?_)
  refine g_aload_n (pc := 0) C (hl := rfl) dX8_sizeOf_0 ?_
  refine g_get (pc := 1) C fl8_7 dX8_sizeOf_1 h0 rfl ?_
  refine g_iconst (pc := 4) C qk_iconst_3 dX8_sizeOf_4 ?_
  refine g_iload_n (pc := 5) C (hl := rfl) dX8_sizeOf_5 ?_
  refine g_iaddN (pc := 6) C dX8_sizeOf_6 ?_
  refine g_ialdV (pc := 7) C dX8_sizeOf_7 hW (by omega) ((wT0_so T (by omega)).trans hso) ?_
  refine g_istore_n (pc := 8) C rfl dX8_sizeOf_8 ?_
  refine g_iload_n (pc := 9) C (hl := rfl) dX8_sizeOf_9 ?_
  refine g_iconst (pc := 10) C qk_iconst_2 dX8_sizeOf_10 ?_
  refine g_ic_neN (pc := 11) C 20 dX8_sizeOf_11 (by decide) (by decide) (fun _ => ?_) (fun q => absurd q (by decide))
  refine g_iload_n (pc := 20) C (hl := rfl) dX8_sizeOf_20 ?_
  refine g_iconst (pc := 21) C qk_iconst_5 dX8_sizeOf_21 ?_
  refine g_ic_neN (pc := 22) C 31 dX8_sizeOf_22 (by decide) (by decide) (fun _ => ?_) (fun q => absurd q (by decide))
  refine g_iload_n (pc := 31) C (hl := rfl) dX8_sizeOf_31 ?_
  refine g_iconst (pc := 32) C qk_iconst_4 dX8_sizeOf_32 ?_
  refine g_S2v (pc := 33) C ls8_230 dX8_sizeOf_33 (s8_isOfF 1 4 (by decide) (by decide) (by decide)) (by decide) (Nat.le_of_ble_eq_true rfl) ?_
  refine g_istore_n (pc := 36) C rfl dX8_sizeOf_36 ?_
  refine g_aload_n (pc := 37) C (hl := rfl) dX8_sizeOf_37 ?_
  refine g_iload_n (pc := 38) C (hl := rfl) dX8_sizeOf_38 ?_
  refine g_if_eqN (pc := 39) C 47 dX8_sizeOf_39 (by decide) (by decide) (fun _ => ?_) (fun q => absurd q (by decide))
  refine g_bipush (pc := 47) C qk_bipush_11 dX8_sizeOf_47 ?_
  refine g_V1u (pc := 49) C lv8_233 dX8_sizeOf_49 (s8_leaves 11 h0 hKb (by omega)) h0 (by decide) (Nat.le_of_ble_eq_true rfl) ?_
  refine g_aload_n (pc := 52) C (hl := rfl) dX8_sizeOf_52 ?_
  refine g_bipush (pc := 53) C qk_bipush_10 dX8_sizeOf_53 ?_
  refine g_V1u (pc := 55) C lv8_233 dX8_sizeOf_55 (s8_leaves 10 (q_up_s _ _ _) ((q_up_n _ _ (by decide)).trans (q_up_s _ _ _)) (by omega)) (q_up_s _ _ _) (by decide) (Nat.le_of_ble_eq_true rfl) ?_
  refine g_aload_n (pc := 58) C (hl := rfl) dX8_sizeOf_58 ?_
  refine g_get (pc := 59) C fl8_7 dX8_sizeOf_59 (q_up_s _ _ _) rfl ?_
  refine g_bipush (pc := 62) C qk_bipush_15 dX8_sizeOf_62 ?_
  refine g_iload_n (pc := 64) C (hl := rfl) dX8_sizeOf_64 ?_
  refine g_iaddN (pc := 65) C dX8_sizeOf_65 ?_
  refine g_ialdV (pc := 66) C dX8_sizeOf_66 ((q_up_n _ _ (by decide)).trans ((q_up_n _ _ (by decide)).trans ((q_up_n _ _ (by decide)).trans ((q_up_n _ _ (by decide)).trans hW)))) (by omega) (wT0_ea T (by omega)) ?_
  refine g_iload_n (pc := 67) C (hl := rfl) dX8_sizeOf_67 ?_
  refine g_if_eqN (pc := 68) C 76 dX8_sizeOf_68 (by decide) (by decide) (fun _ => ?_) (fun q => absurd q (by decide))
  refine g_aload_n (pc := 76) C (hl := rfl) dX8_sizeOf_76 ?_
  refine g_iload_n (pc := 77) C (hl := rfl) dX8_sizeOf_77 ?_
  refine g_V1v (pc := 78) C lv8_236 dX8_sizeOf_78 (s8_me1 z (q_up_s _ _ _) ((q_up_n _ _ (by decide)).trans ((q_up_n _ _ (by decide)).trans ((q_up_n _ _ (by decide)).trans ((q_up_n _ _ (by decide)).trans hW)))) T ((q_up_n _ _ (by decide)).trans (q_up_s _ _ _)) hz hso (by omega)) (q_up_s _ _ _) (by decide) (Nat.le_of_ble_eq_true rfl) ?_
  refine g_iadd (pc := 81) C dX8_sizeOf_81 ?_
  refine g_istore (pc := 82) C rfl dX8_sizeOf_82 ?_
  refine g_iload_n (pc := 84) C (hl := rfl) dX8_sizeOf_84 ?_
  refine g_iconst (pc := 85) C qk_iconst_2 dX8_sizeOf_85 ?_
  refine g_ic_neN (pc := 86) C 95 dX8_sizeOf_86 (by decide) (by decide) (fun _ => ?_) (fun q => absurd q (by decide))
  refine g_iload_n (pc := 95) C (hl := rfl) dX8_sizeOf_95 ?_
  refine g_iconst (pc := 96) C qk_iconst_5 dX8_sizeOf_96 ?_
  refine g_ic_neN (pc := 97) C 107 dX8_sizeOf_97 (by decide) (by decide) (fun _ => ?_) (fun q => absurd q (by decide))
  refine g_iload (pc := 107) C (hl := rfl) dX8_sizeOf_107 ?_
  exact g_iret (pc := 109) C F dX8_sizeOf_109 rfl rfl (by first | (simp only [qI_N, qI_add, qI_sub, qI_mul, qI_neg]; done) | (rw [show (-100 : Int32) = qI (-100) by decide]; simp only [qI_N, qI_add, qI_sub, qI_mul, qI_neg]; exact congrArg (fun t => some (Value.int (qI t))) (by omega)) | (simp only [qI_N, qI_add, qI_sub, qI_mul, qI_neg]; rfl)) (by first | (simp only [q_up_u, q_up_c _ (show (87 : Nat) ≠ 95 by decide)]; done) | (simp only [q_up_u, q_up_c _ (show (87 : Nat) ≠ 95 by decide)]; rfl) | rfl)
set_option maxHeartbeats 2000000 in
set_option maxRecDepth 20000 in
theorem s8_sz2 {n : Nat} {h : q_H} {un ta fl st sa ne so di pu at_ er en pa tr g : Nat} {W fk : Nat → Nat} {x : mX} (z : Nat) (h0 : h 87 = MO un ta fl st sa ne so di pu at_ er en pa tr) (hW : h 88 = WA W) (T : wT W 0 g x) (hKb : h 95 = KA fk) (hz : z < 6) (hso : x.1 (0 + z) = 2) (hl : tr + 14 ≤ 16) : SP 2 yX8_sizeOf cX8_sizeOf 5 (some .int) [.ref 87, .int (nI z)] n h (some (.int (qI (-((x.1 (18 + z) : Int) + 2 * ((z : Int) + x.1 (6 + z))))))) (q_up (q_up h 95 (KA (mTr fk tr [12, 11, 10, 24, 21, 20]))) 87 (MO un ta fl st sa ne so di pu at_ er en pa (tr + 6))) := by
  refine q_SPi RX8 rfl (by decide +kernel) (la := _) rfl rfl (fun Γ ad C F => ?_)
  refine g_aload_n (pc := 0) C (hl := rfl) dX8_sizeOf_0 ?_
  refine g_get (pc := 1) C fl8_7 dX8_sizeOf_1 h0 rfl ?_
  refine g_iconst (pc := 4) C qk_iconst_3 dX8_sizeOf_4 ?_
  refine g_iload_n (pc := 5) C (hl := rfl) dX8_sizeOf_5 ?_
  refine g_iaddN (pc := 6) C dX8_sizeOf_6 ?_
  refine g_ialdV (pc := 7) C dX8_sizeOf_7 hW (by omega) ((wT0_so T (by omega)).trans hso) ?_
  refine g_istore_n (pc := 8) C rfl dX8_sizeOf_8 ?_
  refine g_iload_n (pc := 9) C (hl := rfl) dX8_sizeOf_9 ?_
  refine g_iconst (pc := 10) C qk_iconst_2 dX8_sizeOf_10 ?_
  refine g_ic_neN (pc := 11) C 20 dX8_sizeOf_11 (by decide) (by decide) (fun q => absurd q (by decide)) (fun _ => ?_)
  refine g_aload_n (pc := 14) C (hl := rfl) dX8_sizeOf_14 ?_
  refine g_bipush (pc := 15) C qk_bipush_12 dX8_sizeOf_15 ?_
  refine g_V1u (pc := 17) C lv8_233 dX8_sizeOf_17 (s8_leaves 12 h0 hKb (by omega)) h0 (by decide) (Nat.le_of_ble_eq_true rfl) ?_
  refine g_iload_n (pc := 20) C (hl := rfl) dX8_sizeOf_20 ?_
  refine g_iconst (pc := 21) C qk_iconst_5 dX8_sizeOf_21 ?_
  refine g_ic_neN (pc := 22) C 31 dX8_sizeOf_22 (by decide) (by decide) (fun _ => ?_) (fun q => absurd q (by decide))
  refine g_iload_n (pc := 31) C (hl := rfl) dX8_sizeOf_31 ?_
  refine g_iconst (pc := 32) C qk_iconst_4 dX8_sizeOf_32 ?_
  refine g_S2v (pc := 33) C ls8_230 dX8_sizeOf_33 (s8_isOfF 2 4 (by decide) (by decide) (by decide)) (by decide) (Nat.le_of_ble_eq_true rfl) ?_
  refine g_istore_n (pc := 36) C rfl dX8_sizeOf_36 ?_
  refine g_aload_n (pc := 37) C (hl := rfl) dX8_sizeOf_37 ?_
  refine g_iload_n (pc := 38) C (hl := rfl) dX8_sizeOf_38 ?_
  refine g_if_eqN (pc := 39) C 47 dX8_sizeOf_39 (by decide) (by decide) (fun _ => ?_) (fun q => absurd q (by decide))
  refine g_bipush (pc := 47) C qk_bipush_11 dX8_sizeOf_47 ?_
  refine g_V1u (pc := 49) C lv8_233 dX8_sizeOf_49 (s8_leaves 11 (q_up_s _ _ _) ((q_up_n _ _ (by decide)).trans (q_up_s _ _ _)) (by omega)) (q_up_s _ _ _) (by decide) (Nat.le_of_ble_eq_true rfl) ?_
  refine g_aload_n (pc := 52) C (hl := rfl) dX8_sizeOf_52 ?_
  refine g_bipush (pc := 53) C qk_bipush_10 dX8_sizeOf_53 ?_
  refine g_V1u (pc := 55) C lv8_233 dX8_sizeOf_55 (s8_leaves 10 (q_up_s _ _ _) ((q_up_n _ _ (by decide)).trans (q_up_s _ _ _)) (by omega)) (q_up_s _ _ _) (by decide) (Nat.le_of_ble_eq_true rfl) ?_
  refine g_aload_n (pc := 58) C (hl := rfl) dX8_sizeOf_58 ?_
  refine g_get (pc := 59) C fl8_7 dX8_sizeOf_59 (q_up_s _ _ _) rfl ?_
  refine g_bipush (pc := 62) C qk_bipush_15 dX8_sizeOf_62 ?_
  refine g_iload_n (pc := 64) C (hl := rfl) dX8_sizeOf_64 ?_
  refine g_iaddN (pc := 65) C dX8_sizeOf_65 ?_
  refine g_ialdV (pc := 66) C dX8_sizeOf_66 ((q_up_n _ _ (by decide)).trans ((q_up_n _ _ (by decide)).trans ((q_up_n _ _ (by decide)).trans ((q_up_n _ _ (by decide)).trans ((q_up_n _ _ (by decide)).trans ((q_up_n _ _ (by decide)).trans hW)))))) (by omega) (wT0_ea T (by omega)) ?_
  refine g_iload_n (pc := 67) C (hl := rfl) dX8_sizeOf_67 ?_
  refine g_if_eqN (pc := 68) C 76 dX8_sizeOf_68 (by decide) (by decide) (fun _ => ?_) (fun q => absurd q (by decide))
  refine g_aload_n (pc := 76) C (hl := rfl) dX8_sizeOf_76 ?_
  refine g_iload_n (pc := 77) C (hl := rfl) dX8_sizeOf_77 ?_
  refine g_V1v (pc := 78) C lv8_236 dX8_sizeOf_78 (s8_me2 z (q_up_s _ _ _) ((q_up_n _ _ (by decide)).trans ((q_up_n _ _ (by decide)).trans ((q_up_n _ _ (by decide)).trans ((q_up_n _ _ (by decide)).trans ((q_up_n _ _ (by decide)).trans ((q_up_n _ _ (by decide)).trans hW)))))) T ((q_up_n _ _ (by decide)).trans (q_up_s _ _ _)) hz hso (by omega)) (q_up_s _ _ _) (by decide) (Nat.le_of_ble_eq_true rfl) ?_
  refine g_iadd (pc := 81) C dX8_sizeOf_81 ?_
  refine g_istore (pc := 82) C rfl dX8_sizeOf_82 ?_
  refine g_iload_n (pc := 84) C (hl := rfl) dX8_sizeOf_84 ?_
  refine g_iconst (pc := 85) C qk_iconst_2 dX8_sizeOf_85 ?_
  refine g_ic_neN (pc := 86) C 95 dX8_sizeOf_86 (by decide) (by decide) (fun q => absurd q (by decide)) (fun _ => ?_)
  refine g_iload (pc := 89) C (hl := rfl) dX8_sizeOf_89 ?_
  refine g_ineg (pc := 91) C dX8_sizeOf_91 ?_
  refine g_goto (pc := 92) C 109 dX8_sizeOf_92 (by decide) ?_
  exact g_iret (pc := 109) C F dX8_sizeOf_109 rfl rfl (by first | (simp only [qI_N, qI_add, qI_sub, qI_mul, qI_neg]; done) | (rw [show (-100 : Int32) = qI (-100) by decide]; simp only [qI_N, qI_add, qI_sub, qI_mul, qI_neg]; exact congrArg (fun t => some (Value.int (qI t))) (by omega)) | (simp only [qI_N, qI_add, qI_sub, qI_mul, qI_neg]; rfl)) (by first | (simp only [q_up_u, q_up_c _ (show (87 : Nat) ≠ 95 by decide)]; done) | (simp only [q_up_u, q_up_c _ (show (87 : Nat) ≠ 95 by decide)]; rfl) | rfl)
set_option maxHeartbeats 2000000 in
set_option maxRecDepth 20000 in
theorem s8_sz3 {n : Nat} {h : q_H} {un ta fl st sa ne so di pu at_ er en pa tr g : Nat} {W fk : Nat → Nat} {x : mX} (z : Nat) (h0 : h 87 = MO un ta fl st sa ne so di pu at_ er en pa tr) (hW : h 88 = WA W) (T : wT W 0 g x) (hKb : h 95 = KA fk) (hz : z < 6) (hso : x.1 (0 + z) = 3) (hl : tr + 14 ≤ 16) : SP 2 yX8_sizeOf cX8_sizeOf 5 (some .int) [.ref 87, .int (nI z)] n h (some (.int (qI ((x.1 (18 + z) : Int) + ((z : Int) + x.1 (6 + z) - 1000))))) (q_up (q_up h 95 (KA (mTr fk tr [11, 10, 22, 21, 20]))) 87 (MO un ta fl st sa ne so di pu at_ er en pa (tr + 5))) := by
  refine q_SPi RX8 rfl (by decide +kernel) (la := _) rfl rfl (fun Γ ad C F => ?_)
  refine g_aload_n (pc := 0) C (hl := rfl) dX8_sizeOf_0 ?_
  refine g_get (pc := 1) C fl8_7 dX8_sizeOf_1 h0 rfl ?_
  refine g_iconst (pc := 4) C qk_iconst_3 dX8_sizeOf_4 ?_
  refine g_iload_n (pc := 5) C (hl := rfl) dX8_sizeOf_5 ?_
  refine g_iaddN (pc := 6) C dX8_sizeOf_6 ?_
  refine g_ialdV (pc := 7) C dX8_sizeOf_7 hW (by omega) ((wT0_so T (by omega)).trans hso) ?_
  refine g_istore_n (pc := 8) C rfl dX8_sizeOf_8 ?_
  refine g_iload_n (pc := 9) C (hl := rfl) dX8_sizeOf_9 ?_
  refine g_iconst (pc := 10) C qk_iconst_2 dX8_sizeOf_10 ?_
  refine g_ic_neN (pc := 11) C 20 dX8_sizeOf_11 (by decide) (by decide) (fun _ => ?_) (fun q => absurd q (by decide))
  refine g_iload_n (pc := 20) C (hl := rfl) dX8_sizeOf_20 ?_
  refine g_iconst (pc := 21) C qk_iconst_5 dX8_sizeOf_21 ?_
  refine g_ic_neN (pc := 22) C 31 dX8_sizeOf_22 (by decide) (by decide) (fun _ => ?_) (fun q => absurd q (by decide))
  refine g_iload_n (pc := 31) C (hl := rfl) dX8_sizeOf_31 ?_
  refine g_iconst (pc := 32) C qk_iconst_4 dX8_sizeOf_32 ?_
  refine g_S2v (pc := 33) C ls8_230 dX8_sizeOf_33 (s8_isOfF 3 4 (by decide) (by decide) (by decide)) (by decide) (Nat.le_of_ble_eq_true rfl) ?_
  refine g_istore_n (pc := 36) C rfl dX8_sizeOf_36 ?_
  refine g_aload_n (pc := 37) C (hl := rfl) dX8_sizeOf_37 ?_
  refine g_iload_n (pc := 38) C (hl := rfl) dX8_sizeOf_38 ?_
  refine g_if_eqN (pc := 39) C 47 dX8_sizeOf_39 (by decide) (by decide) (fun _ => ?_) (fun q => absurd q (by decide))
  refine g_bipush (pc := 47) C qk_bipush_11 dX8_sizeOf_47 ?_
  refine g_V1u (pc := 49) C lv8_233 dX8_sizeOf_49 (s8_leaves 11 h0 hKb (by omega)) h0 (by decide) (Nat.le_of_ble_eq_true rfl) ?_
  refine g_aload_n (pc := 52) C (hl := rfl) dX8_sizeOf_52 ?_
  refine g_bipush (pc := 53) C qk_bipush_10 dX8_sizeOf_53 ?_
  refine g_V1u (pc := 55) C lv8_233 dX8_sizeOf_55 (s8_leaves 10 (q_up_s _ _ _) ((q_up_n _ _ (by decide)).trans (q_up_s _ _ _)) (by omega)) (q_up_s _ _ _) (by decide) (Nat.le_of_ble_eq_true rfl) ?_
  refine g_aload_n (pc := 58) C (hl := rfl) dX8_sizeOf_58 ?_
  refine g_get (pc := 59) C fl8_7 dX8_sizeOf_59 (q_up_s _ _ _) rfl ?_
  refine g_bipush (pc := 62) C qk_bipush_15 dX8_sizeOf_62 ?_
  refine g_iload_n (pc := 64) C (hl := rfl) dX8_sizeOf_64 ?_
  refine g_iaddN (pc := 65) C dX8_sizeOf_65 ?_
  refine g_ialdV (pc := 66) C dX8_sizeOf_66 ((q_up_n _ _ (by decide)).trans ((q_up_n _ _ (by decide)).trans ((q_up_n _ _ (by decide)).trans ((q_up_n _ _ (by decide)).trans hW)))) (by omega) (wT0_ea T (by omega)) ?_
  refine g_iload_n (pc := 67) C (hl := rfl) dX8_sizeOf_67 ?_
  refine g_if_eqN (pc := 68) C 76 dX8_sizeOf_68 (by decide) (by decide) (fun _ => ?_) (fun q => absurd q (by decide))
  refine g_aload_n (pc := 76) C (hl := rfl) dX8_sizeOf_76 ?_
  refine g_iload_n (pc := 77) C (hl := rfl) dX8_sizeOf_77 ?_
  refine g_V1v (pc := 78) C lv8_236 dX8_sizeOf_78 (s8_me3 z (q_up_s _ _ _) ((q_up_n _ _ (by decide)).trans ((q_up_n _ _ (by decide)).trans ((q_up_n _ _ (by decide)).trans ((q_up_n _ _ (by decide)).trans hW)))) T ((q_up_n _ _ (by decide)).trans (q_up_s _ _ _)) hz hso (by omega)) (q_up_s _ _ _) (by decide) (Nat.le_of_ble_eq_true rfl) ?_
  refine g_iadd (pc := 81) C dX8_sizeOf_81 ?_
  refine g_istore (pc := 82) C rfl dX8_sizeOf_82 ?_
  refine g_iload_n (pc := 84) C (hl := rfl) dX8_sizeOf_84 ?_
  refine g_iconst (pc := 85) C qk_iconst_2 dX8_sizeOf_85 ?_
  refine g_ic_neN (pc := 86) C 95 dX8_sizeOf_86 (by decide) (by decide) (fun _ => ?_) (fun q => absurd q (by decide))
  refine g_iload_n (pc := 95) C (hl := rfl) dX8_sizeOf_95 ?_
  refine g_iconst (pc := 96) C qk_iconst_5 dX8_sizeOf_96 ?_
  refine g_ic_neN (pc := 97) C 107 dX8_sizeOf_97 (by decide) (by decide) (fun _ => ?_) (fun q => absurd q (by decide))
  refine g_iload (pc := 107) C (hl := rfl) dX8_sizeOf_107 ?_
  exact g_iret (pc := 109) C F dX8_sizeOf_109 rfl rfl (by first | (simp only [qI_N, qI_add, qI_sub, qI_mul, qI_neg]; done) | (rw [show (-100 : Int32) = qI (-100) by decide]; simp only [qI_N, qI_add, qI_sub, qI_mul, qI_neg]; exact congrArg (fun t => some (Value.int (qI t))) (by omega)) | (simp only [qI_N, qI_add, qI_sub, qI_mul, qI_neg]; rfl)) (by first | (simp only [q_up_u, q_up_c _ (show (87 : Nat) ≠ 95 by decide)]; done) | (simp only [q_up_u, q_up_c _ (show (87 : Nat) ≠ 95 by decide)]; rfl) | rfl)
set_option maxHeartbeats 2000000 in
set_option maxRecDepth 20000 in
theorem s8_sz4 {n : Nat} {h : q_H} {un ta fl st sa ne so di pu at_ er en pa tr g : Nat} {W fk : Nat → Nat} {x : mX} (z : Nat) (h0 : h 87 = MO un ta fl st sa ne so di pu at_ er en pa tr) (hW : h 88 = WA W) (T : wT W 0 g x) (hKb : h 95 = KA fk) (hz : z < 6) (hso : x.1 (0 + z) = 4) (hl : tr + 14 ≤ 16) : SP 2 yX8_sizeOf cX8_sizeOf 5 (some .int) [.ref 87, .int (nI z)] n h (some (.int (qI ((x.1 (18 + z) : Int) - 100)))) (q_up (q_up h 95 (KA (mTr fk tr [13, 10]))) 87 (MO un ta fl st sa ne so di pu at_ er en pa (tr + 2))) := by
  refine q_SPi RX8 rfl (by decide +kernel) (la := _) rfl rfl (fun Γ ad C F => ?_)
  refine g_aload_n (pc := 0) C (hl := rfl) dX8_sizeOf_0 ?_
  refine g_get (pc := 1) C fl8_7 dX8_sizeOf_1 h0 rfl ?_
  refine g_iconst (pc := 4) C qk_iconst_3 dX8_sizeOf_4 ?_
  refine g_iload_n (pc := 5) C (hl := rfl) dX8_sizeOf_5 ?_
  refine g_iaddN (pc := 6) C dX8_sizeOf_6 ?_
  refine g_ialdV (pc := 7) C dX8_sizeOf_7 hW (by omega) ((wT0_so T (by omega)).trans hso) ?_
  refine g_istore_n (pc := 8) C rfl dX8_sizeOf_8 ?_
  refine g_iload_n (pc := 9) C (hl := rfl) dX8_sizeOf_9 ?_
  refine g_iconst (pc := 10) C qk_iconst_2 dX8_sizeOf_10 ?_
  refine g_ic_neN (pc := 11) C 20 dX8_sizeOf_11 (by decide) (by decide) (fun _ => ?_) (fun q => absurd q (by decide))
  refine g_iload_n (pc := 20) C (hl := rfl) dX8_sizeOf_20 ?_
  refine g_iconst (pc := 21) C qk_iconst_5 dX8_sizeOf_21 ?_
  refine g_ic_neN (pc := 22) C 31 dX8_sizeOf_22 (by decide) (by decide) (fun _ => ?_) (fun q => absurd q (by decide))
  refine g_iload_n (pc := 31) C (hl := rfl) dX8_sizeOf_31 ?_
  refine g_iconst (pc := 32) C qk_iconst_4 dX8_sizeOf_32 ?_
  refine g_S2v (pc := 33) C ls8_230 dX8_sizeOf_33 (s8_isOfT 4 4 (by decide) (by decide) (by decide)) (by decide) (Nat.le_of_ble_eq_true rfl) ?_
  refine g_istore_n (pc := 36) C rfl dX8_sizeOf_36 ?_
  refine g_aload_n (pc := 37) C (hl := rfl) dX8_sizeOf_37 ?_
  refine g_iload_n (pc := 38) C (hl := rfl) dX8_sizeOf_38 ?_
  refine g_if_eqN (pc := 39) C 47 dX8_sizeOf_39 (by decide) (by decide) (fun q => absurd q (by decide)) (fun _ => ?_)
  refine g_bipush (pc := 42) C qk_bipush_13 dX8_sizeOf_42 ?_
  refine g_goto (pc := 44) C 49 dX8_sizeOf_44 (by decide) ?_
  refine g_V1u (pc := 49) C lv8_233 dX8_sizeOf_49 (s8_leaves 13 h0 hKb (by omega)) h0 (by decide) (Nat.le_of_ble_eq_true rfl) ?_
  refine g_aload_n (pc := 52) C (hl := rfl) dX8_sizeOf_52 ?_
  refine g_bipush (pc := 53) C qk_bipush_10 dX8_sizeOf_53 ?_
  refine g_V1u (pc := 55) C lv8_233 dX8_sizeOf_55 (s8_leaves 10 (q_up_s _ _ _) ((q_up_n _ _ (by decide)).trans (q_up_s _ _ _)) (by omega)) (q_up_s _ _ _) (by decide) (Nat.le_of_ble_eq_true rfl) ?_
  refine g_aload_n (pc := 58) C (hl := rfl) dX8_sizeOf_58 ?_
  refine g_get (pc := 59) C fl8_7 dX8_sizeOf_59 (q_up_s _ _ _) rfl ?_
  refine g_bipush (pc := 62) C qk_bipush_15 dX8_sizeOf_62 ?_
  refine g_iload_n (pc := 64) C (hl := rfl) dX8_sizeOf_64 ?_
  refine g_iaddN (pc := 65) C dX8_sizeOf_65 ?_
  refine g_ialdV (pc := 66) C dX8_sizeOf_66 ((q_up_n _ _ (by decide)).trans ((q_up_n _ _ (by decide)).trans ((q_up_n _ _ (by decide)).trans ((q_up_n _ _ (by decide)).trans hW)))) (by omega) (wT0_ea T (by omega)) ?_
  refine g_iload_n (pc := 67) C (hl := rfl) dX8_sizeOf_67 ?_
  refine g_if_eqN (pc := 68) C 76 dX8_sizeOf_68 (by decide) (by decide) (fun q => absurd q (by decide)) (fun _ => ?_)
  refine g_bipush (pc := 71) C qk_bipush_m100 dX8_sizeOf_71 ?_
  refine g_goto (pc := 73) C 81 dX8_sizeOf_73 (by decide) ?_
  refine g_iadd (pc := 81) C dX8_sizeOf_81 ?_
  refine g_istore (pc := 82) C rfl dX8_sizeOf_82 ?_
  refine g_iload_n (pc := 84) C (hl := rfl) dX8_sizeOf_84 ?_
  refine g_iconst (pc := 85) C qk_iconst_2 dX8_sizeOf_85 ?_
  refine g_ic_neN (pc := 86) C 95 dX8_sizeOf_86 (by decide) (by decide) (fun _ => ?_) (fun q => absurd q (by decide))
  refine g_iload_n (pc := 95) C (hl := rfl) dX8_sizeOf_95 ?_
  refine g_iconst (pc := 96) C qk_iconst_5 dX8_sizeOf_96 ?_
  refine g_ic_neN (pc := 97) C 107 dX8_sizeOf_97 (by decide) (by decide) (fun _ => ?_) (fun q => absurd q (by decide))
  refine g_iload (pc := 107) C (hl := rfl) dX8_sizeOf_107 ?_
  exact g_iret (pc := 109) C F dX8_sizeOf_109 rfl rfl (by first | (simp only [qI_N, qI_add, qI_sub, qI_mul, qI_neg]; done) | (rw [show (-100 : Int32) = qI (-100) by decide]; simp only [qI_N, qI_add, qI_sub, qI_mul, qI_neg]; exact congrArg (fun t => some (Value.int (qI t))) (by omega)) | (simp only [qI_N, qI_add, qI_sub, qI_mul, qI_neg]; rfl)) (by first | (simp only [q_up_u, q_up_c _ (show (87 : Nat) ≠ 95 by decide)]; done) | (simp only [q_up_u, q_up_c _ (show (87 : Nat) ≠ 95 by decide)]; rfl) | rfl)
set_option maxHeartbeats 2000000 in
set_option maxRecDepth 20000 in
theorem s8_sz5 {n : Nat} {h : q_H} {un ta fl st sa ne so di pu at_ er en pa tr g : Nat} {W fk : Nat → Nat} {x : mX} (z : Nat) (h0 : h 87 = MO un ta fl st sa ne so di pu at_ er en pa tr) (hW : h 88 = WA W) (T : wT W 0 g x) (hKb : h 95 = KA fk) (hz : z < 6) (hso : x.1 (0 + z) = 5) (hl : tr + 14 ≤ 16) : SP 2 yX8_sizeOf cX8_sizeOf 5 (some .int) [.ref 87, .int (nI z)] n h (some (.int (qI (2 * ((x.1 (18 + z) : Int) - 100))))) (q_up (q_up h 95 (KA (mTr fk tr [14, 13, 10]))) 87 (MO un ta fl st sa ne so di pu at_ er en pa (tr + 3))) := by
  refine q_SPi RX8 rfl (by decide +kernel) (la := _) rfl rfl (fun Γ ad C F => ?_)
  refine g_aload_n (pc := 0) C (hl := rfl) dX8_sizeOf_0 ?_
  refine g_get (pc := 1) C fl8_7 dX8_sizeOf_1 h0 rfl ?_
  refine g_iconst (pc := 4) C qk_iconst_3 dX8_sizeOf_4 ?_
  refine g_iload_n (pc := 5) C (hl := rfl) dX8_sizeOf_5 ?_
  refine g_iaddN (pc := 6) C dX8_sizeOf_6 ?_
  refine g_ialdV (pc := 7) C dX8_sizeOf_7 hW (by omega) ((wT0_so T (by omega)).trans hso) ?_
  refine g_istore_n (pc := 8) C rfl dX8_sizeOf_8 ?_
  refine g_iload_n (pc := 9) C (hl := rfl) dX8_sizeOf_9 ?_
  refine g_iconst (pc := 10) C qk_iconst_2 dX8_sizeOf_10 ?_
  refine g_ic_neN (pc := 11) C 20 dX8_sizeOf_11 (by decide) (by decide) (fun _ => ?_) (fun q => absurd q (by decide))
  refine g_iload_n (pc := 20) C (hl := rfl) dX8_sizeOf_20 ?_
  refine g_iconst (pc := 21) C qk_iconst_5 dX8_sizeOf_21 ?_
  refine g_ic_neN (pc := 22) C 31 dX8_sizeOf_22 (by decide) (by decide) (fun q => absurd q (by decide)) (fun _ => ?_)
  refine g_aload_n (pc := 25) C (hl := rfl) dX8_sizeOf_25 ?_
  refine g_bipush (pc := 26) C qk_bipush_14 dX8_sizeOf_26 ?_
  refine g_V1u (pc := 28) C lv8_233 dX8_sizeOf_28 (s8_leaves 14 h0 hKb (by omega)) h0 (by decide) (Nat.le_of_ble_eq_true rfl) ?_
  refine g_iload_n (pc := 31) C (hl := rfl) dX8_sizeOf_31 ?_
  refine g_iconst (pc := 32) C qk_iconst_4 dX8_sizeOf_32 ?_
  refine g_S2v (pc := 33) C ls8_230 dX8_sizeOf_33 (s8_isOfT 5 4 (by decide) (by decide) (by decide)) (by decide) (Nat.le_of_ble_eq_true rfl) ?_
  refine g_istore_n (pc := 36) C rfl dX8_sizeOf_36 ?_
  refine g_aload_n (pc := 37) C (hl := rfl) dX8_sizeOf_37 ?_
  refine g_iload_n (pc := 38) C (hl := rfl) dX8_sizeOf_38 ?_
  refine g_if_eqN (pc := 39) C 47 dX8_sizeOf_39 (by decide) (by decide) (fun q => absurd q (by decide)) (fun _ => ?_)
  refine g_bipush (pc := 42) C qk_bipush_13 dX8_sizeOf_42 ?_
  refine g_goto (pc := 44) C 49 dX8_sizeOf_44 (by decide) ?_
  refine g_V1u (pc := 49) C lv8_233 dX8_sizeOf_49 (s8_leaves 13 (q_up_s _ _ _) ((q_up_n _ _ (by decide)).trans (q_up_s _ _ _)) (by omega)) (q_up_s _ _ _) (by decide) (Nat.le_of_ble_eq_true rfl) ?_
  refine g_aload_n (pc := 52) C (hl := rfl) dX8_sizeOf_52 ?_
  refine g_bipush (pc := 53) C qk_bipush_10 dX8_sizeOf_53 ?_
  refine g_V1u (pc := 55) C lv8_233 dX8_sizeOf_55 (s8_leaves 10 (q_up_s _ _ _) ((q_up_n _ _ (by decide)).trans (q_up_s _ _ _)) (by omega)) (q_up_s _ _ _) (by decide) (Nat.le_of_ble_eq_true rfl) ?_
  refine g_aload_n (pc := 58) C (hl := rfl) dX8_sizeOf_58 ?_
  refine g_get (pc := 59) C fl8_7 dX8_sizeOf_59 (q_up_s _ _ _) rfl ?_
  refine g_bipush (pc := 62) C qk_bipush_15 dX8_sizeOf_62 ?_
  refine g_iload_n (pc := 64) C (hl := rfl) dX8_sizeOf_64 ?_
  refine g_iaddN (pc := 65) C dX8_sizeOf_65 ?_
  refine g_ialdV (pc := 66) C dX8_sizeOf_66 ((q_up_n _ _ (by decide)).trans ((q_up_n _ _ (by decide)).trans ((q_up_n _ _ (by decide)).trans ((q_up_n _ _ (by decide)).trans ((q_up_n _ _ (by decide)).trans ((q_up_n _ _ (by decide)).trans hW)))))) (by omega) (wT0_ea T (by omega)) ?_
  refine g_iload_n (pc := 67) C (hl := rfl) dX8_sizeOf_67 ?_
  refine g_if_eqN (pc := 68) C 76 dX8_sizeOf_68 (by decide) (by decide) (fun q => absurd q (by decide)) (fun _ => ?_)
  refine g_bipush (pc := 71) C qk_bipush_m100 dX8_sizeOf_71 ?_
  refine g_goto (pc := 73) C 81 dX8_sizeOf_73 (by decide) ?_
  refine g_iadd (pc := 81) C dX8_sizeOf_81 ?_
  refine g_istore (pc := 82) C rfl dX8_sizeOf_82 ?_
  refine g_iload_n (pc := 84) C (hl := rfl) dX8_sizeOf_84 ?_
  refine g_iconst (pc := 85) C qk_iconst_2 dX8_sizeOf_85 ?_
  refine g_ic_neN (pc := 86) C 95 dX8_sizeOf_86 (by decide) (by decide) (fun _ => ?_) (fun q => absurd q (by decide))
  refine g_iload_n (pc := 95) C (hl := rfl) dX8_sizeOf_95 ?_
  refine g_iconst (pc := 96) C qk_iconst_5 dX8_sizeOf_96 ?_
  refine g_ic_neN (pc := 97) C 107 dX8_sizeOf_97 (by decide) (by decide) (fun q => absurd q (by decide)) (fun _ => ?_)
  refine g_iconst (pc := 100) C qk_iconst_2 dX8_sizeOf_100 ?_
  refine g_iload (pc := 101) C (hl := rfl) dX8_sizeOf_101 ?_
  refine g_imul (pc := 103) C dX8_sizeOf_103 ?_
  refine g_goto (pc := 104) C 109 dX8_sizeOf_104 (by decide) ?_
  exact g_iret (pc := 109) C F dX8_sizeOf_109 rfl rfl (by first | (simp only [qI_N, qI_add, qI_sub, qI_mul, qI_neg]; done) | (rw [show (-100 : Int32) = qI (-100) by decide]; simp only [qI_N, qI_add, qI_sub, qI_mul, qI_neg]; exact congrArg (fun t => some (Value.int (qI t))) (by omega)) | (simp only [qI_N, qI_add, qI_sub, qI_mul, qI_neg]; rfl)) (by first | (simp only [q_up_u, q_up_c _ (show (87 : Nat) ≠ 95 by decide)]; done) | (simp only [q_up_u, q_up_c _ (show (87 : Nat) ≠ 95 by decide)]; rfl) | rfl)
set_option maxHeartbeats 2000000 in
set_option maxRecDepth 20000 in
theorem s8_mk1 {n : Nat} {h : q_H} {un ta fl st sa ne so di pu at_ er en pa tr g : Nat} {W fk : Nat → Nat} {x : mX} (z : Nat) (h0 : h 87 = MO un ta fl st sa ne so di pu at_ er en pa tr) (hW : h 88 = WA W) (T : wT W 0 g x) (hKb : h 95 = KA fk) (hz : z < 6) (hso : x.1 (0 + z) = 1) (hl : tr = 0) : SP 3 yX8_markOf cX8_markOf 2 (some .int) [.ref 87, .int (nI z)] n h (some (.int (qI ((z : Int) + x.1 (6 + z))))) (q_up (q_up h 95 (KA (mTr fk tr [21, 20]))) 87 (MO un ta fl st sa ne so di pu at_ er en pa (tr + 2))) := by
  refine q_SPi RX8 rfl (by decide +kernel) (la := _) rfl rfl (fun Γ ad C F => ?_)
  refine g_aload_n (pc := 0) C (hl := rfl) dX8_markOf_0 ?_
  refine g_get (pc := 1) C fl8_7 dX8_markOf_1 h0 rfl ?_
  refine g_iconst (pc := 4) C qk_iconst_3 dX8_markOf_4 ?_
  refine g_iload_n (pc := 5) C (hl := rfl) dX8_markOf_5 ?_
  refine g_iaddN (pc := 6) C dX8_markOf_6 ?_
  refine g_ialdV (pc := 7) C dX8_markOf_7 hW (by omega) ((wT0_so T (by omega)).trans hso) ?_
  refine g_iconst (pc := 8) C qk_iconst_4 dX8_markOf_8 ?_
  refine g_S2v (pc := 9) C ls8_230 dX8_markOf_9 (s8_isOfF 1 4 (by decide) (by decide) (by decide)) (by decide) (Nat.le_of_ble_eq_true rfl) ?_
  refine g_if_neN (pc := 12) C 21 dX8_markOf_12 (by decide) (by decide) (fun q => absurd q (by decide)) (fun _ => ?_)
  refine g_aload_n (pc := 15) C (hl := rfl) dX8_markOf_15 ?_
  refine g_iload_n (pc := 16) C (hl := rfl) dX8_markOf_16 ?_
  refine g_V1v (pc := 17) C lv8_236 dX8_markOf_17 (s8_me1 z h0 hW T hKb hz hso (by omega)) h0 (by decide) (Nat.le_of_ble_eq_true rfl) ?_
  exact g_iret (pc := 20) C F dX8_markOf_20 rfl rfl (by first | rfl | (simp only [qI_N, qI_add, qI_sub, qI_mul, qI_neg]; done) | (simp only [qI_N, qI_add, qI_sub, qI_mul, qI_neg]; rfl)) (by first | (simp only [q_up_u, q_up_c _ (show (87 : Nat) ≠ 95 by decide)]; done) | (simp only [q_up_u, q_up_c _ (show (87 : Nat) ≠ 95 by decide)]; rfl) | rfl)
set_option maxHeartbeats 2000000 in
set_option maxRecDepth 20000 in
theorem s8_mk2 {n : Nat} {h : q_H} {un ta fl st sa ne so di pu at_ er en pa tr g : Nat} {W fk : Nat → Nat} {x : mX} (z : Nat) (h0 : h 87 = MO un ta fl st sa ne so di pu at_ er en pa tr) (hW : h 88 = WA W) (T : wT W 0 g x) (hKb : h 95 = KA fk) (hz : z < 6) (hso : x.1 (0 + z) = 2) (hl : tr = 0) : SP 3 yX8_markOf cX8_markOf 2 (some .int) [.ref 87, .int (nI z)] n h (some (.int (qI (2 * ((z : Int) + x.1 (6 + z)))))) (q_up (q_up h 95 (KA (mTr fk tr [24, 21, 20]))) 87 (MO un ta fl st sa ne so di pu at_ er en pa (tr + 3))) := by
  refine q_SPi RX8 rfl (by decide +kernel) (la := _) rfl rfl (fun Γ ad C F => ?_)
  refine g_aload_n (pc := 0) C (hl := rfl) dX8_markOf_0 ?_
  refine g_get (pc := 1) C fl8_7 dX8_markOf_1 h0 rfl ?_
  refine g_iconst (pc := 4) C qk_iconst_3 dX8_markOf_4 ?_
  refine g_iload_n (pc := 5) C (hl := rfl) dX8_markOf_5 ?_
  refine g_iaddN (pc := 6) C dX8_markOf_6 ?_
  refine g_ialdV (pc := 7) C dX8_markOf_7 hW (by omega) ((wT0_so T (by omega)).trans hso) ?_
  refine g_iconst (pc := 8) C qk_iconst_4 dX8_markOf_8 ?_
  refine g_S2v (pc := 9) C ls8_230 dX8_markOf_9 (s8_isOfF 2 4 (by decide) (by decide) (by decide)) (by decide) (Nat.le_of_ble_eq_true rfl) ?_
  refine g_if_neN (pc := 12) C 21 dX8_markOf_12 (by decide) (by decide) (fun q => absurd q (by decide)) (fun _ => ?_)
  refine g_aload_n (pc := 15) C (hl := rfl) dX8_markOf_15 ?_
  refine g_iload_n (pc := 16) C (hl := rfl) dX8_markOf_16 ?_
  refine g_V1v (pc := 17) C lv8_236 dX8_markOf_17 (s8_me2 z h0 hW T hKb hz hso (by omega)) h0 (by decide) (Nat.le_of_ble_eq_true rfl) ?_
  exact g_iret (pc := 20) C F dX8_markOf_20 rfl rfl (by first | rfl | (simp only [qI_N, qI_add, qI_sub, qI_mul, qI_neg]; done) | (simp only [qI_N, qI_add, qI_sub, qI_mul, qI_neg]; rfl)) (by first | (simp only [q_up_u, q_up_c _ (show (87 : Nat) ≠ 95 by decide)]; done) | (simp only [q_up_u, q_up_c _ (show (87 : Nat) ≠ 95 by decide)]; rfl) | rfl)
set_option maxHeartbeats 2000000 in
set_option maxRecDepth 20000 in
theorem s8_mk3 {n : Nat} {h : q_H} {un ta fl st sa ne so di pu at_ er en pa tr g : Nat} {W fk : Nat → Nat} {x : mX} (z : Nat) (h0 : h 87 = MO un ta fl st sa ne so di pu at_ er en pa tr) (hW : h 88 = WA W) (T : wT W 0 g x) (hKb : h 95 = KA fk) (hz : z < 6) (hso : x.1 (0 + z) = 3) (hl : tr = 0) : SP 3 yX8_markOf cX8_markOf 2 (some .int) [.ref 87, .int (nI z)] n h (some (.int (qI ((z : Int) + x.1 (6 + z) - 1000)))) (q_up (q_up h 95 (KA (mTr fk tr [22, 21, 20]))) 87 (MO un ta fl st sa ne so di pu at_ er en pa (tr + 3))) := by
  refine q_SPi RX8 rfl (by decide +kernel) (la := _) rfl rfl (fun Γ ad C F => ?_)
  refine g_aload_n (pc := 0) C (hl := rfl) dX8_markOf_0 ?_
  refine g_get (pc := 1) C fl8_7 dX8_markOf_1 h0 rfl ?_
  refine g_iconst (pc := 4) C qk_iconst_3 dX8_markOf_4 ?_
  refine g_iload_n (pc := 5) C (hl := rfl) dX8_markOf_5 ?_
  refine g_iaddN (pc := 6) C dX8_markOf_6 ?_
  refine g_ialdV (pc := 7) C dX8_markOf_7 hW (by omega) ((wT0_so T (by omega)).trans hso) ?_
  refine g_iconst (pc := 8) C qk_iconst_4 dX8_markOf_8 ?_
  refine g_S2v (pc := 9) C ls8_230 dX8_markOf_9 (s8_isOfF 3 4 (by decide) (by decide) (by decide)) (by decide) (Nat.le_of_ble_eq_true rfl) ?_
  refine g_if_neN (pc := 12) C 21 dX8_markOf_12 (by decide) (by decide) (fun q => absurd q (by decide)) (fun _ => ?_)
  refine g_aload_n (pc := 15) C (hl := rfl) dX8_markOf_15 ?_
  refine g_iload_n (pc := 16) C (hl := rfl) dX8_markOf_16 ?_
  refine g_V1v (pc := 17) C lv8_236 dX8_markOf_17 (s8_me3 z h0 hW T hKb hz hso (by omega)) h0 (by decide) (Nat.le_of_ble_eq_true rfl) ?_
  exact g_iret (pc := 20) C F dX8_markOf_20 rfl rfl (by first | rfl | (simp only [qI_N, qI_add, qI_sub, qI_mul, qI_neg]; done) | (simp only [qI_N, qI_add, qI_sub, qI_mul, qI_neg]; rfl)) (by first | (simp only [q_up_u, q_up_c _ (show (87 : Nat) ≠ 95 by decide)]; done) | (simp only [q_up_u, q_up_c _ (show (87 : Nat) ≠ 95 by decide)]; rfl) | rfl)
set_option maxHeartbeats 2000000 in
set_option maxRecDepth 20000 in
theorem s8_mk4 {n : Nat} {h : q_H} {un ta fl st sa ne so di pu at_ er en pa tr g : Nat} {W fk : Nat → Nat} {x : mX} (z : Nat) (h0 : h 87 = MO un ta fl st sa ne so di pu at_ er en pa tr) (hW : h 88 = WA W) (T : wT W 0 g x) (hKb : h 95 = KA fk) (hz : z < 6) (hso : x.1 (0 + z) = 4) (hl : tr = 0) : SP 3 yX8_markOf cX8_markOf 2 (some .int) [.ref 87, .int (nI z)] n h (some (.int (qI ((z : Int) - ((x.1 (18 + z) : Int) - 100))))) (q_up (q_up h 95 (KA (mTr fk tr [23, 20, 13, 10]))) 87 (MO un ta fl st sa ne so di pu at_ er en pa (tr + 4))) := by
  refine q_SPi RX8 rfl (by decide +kernel) (la := _) rfl rfl (fun Γ ad C F => ?_)
  refine g_aload_n (pc := 0) C (hl := rfl) dX8_markOf_0 ?_
  refine g_get (pc := 1) C fl8_7 dX8_markOf_1 h0 rfl ?_
  refine g_iconst (pc := 4) C qk_iconst_3 dX8_markOf_4 ?_
  refine g_iload_n (pc := 5) C (hl := rfl) dX8_markOf_5 ?_
  refine g_iaddN (pc := 6) C dX8_markOf_6 ?_
  refine g_ialdV (pc := 7) C dX8_markOf_7 hW (by omega) ((wT0_so T (by omega)).trans hso) ?_
  refine g_iconst (pc := 8) C qk_iconst_4 dX8_markOf_8 ?_
  refine g_S2v (pc := 9) C ls8_230 dX8_markOf_9 (s8_isOfT 4 4 (by decide) (by decide) (by decide)) (by decide) (Nat.le_of_ble_eq_true rfl) ?_
  refine g_if_neN (pc := 12) C 21 dX8_markOf_12 (by decide) (by decide) (fun _ => ?_) (fun q => absurd q (by decide))
  refine g_aload_n (pc := 21) C (hl := rfl) dX8_markOf_21 ?_
  refine g_bipush (pc := 22) C qk_bipush_23 dX8_markOf_22 ?_
  refine g_V1u (pc := 24) C lv8_233 dX8_markOf_24 (s8_leaves 23 h0 hKb (by omega)) h0 (by decide) (Nat.le_of_ble_eq_true rfl) ?_
  refine g_aload_n (pc := 27) C (hl := rfl) dX8_markOf_27 ?_
  refine g_bipush (pc := 28) C qk_bipush_20 dX8_markOf_28 ?_
  refine g_V1u (pc := 30) C lv8_233 dX8_markOf_30 (s8_leaves 20 (q_up_s _ _ _) ((q_up_n _ _ (by decide)).trans (q_up_s _ _ _)) (by omega)) (q_up_s _ _ _) (by decide) (Nat.le_of_ble_eq_true rfl) ?_
  refine g_iload_n (pc := 33) C (hl := rfl) dX8_markOf_33 ?_
  refine g_aload_n (pc := 34) C (hl := rfl) dX8_markOf_34 ?_
  refine g_iload_n (pc := 35) C (hl := rfl) dX8_markOf_35 ?_
  refine g_V1v (pc := 36) C lv8_239 dX8_markOf_36 (s8_sz4 z (q_up_s _ _ _) ((q_up_n _ _ (by decide)).trans ((q_up_n _ _ (by decide)).trans ((q_up_n _ _ (by decide)).trans ((q_up_n _ _ (by decide)).trans hW)))) T ((q_up_n _ _ (by decide)).trans (q_up_s _ _ _)) hz hso (by omega)) (q_up_s _ _ _) (by decide) (Nat.le_of_ble_eq_true rfl) ?_
  refine g_isub (pc := 39) C dX8_markOf_39 ?_
  exact g_iret (pc := 40) C F dX8_markOf_40 rfl rfl (by first | rfl | (simp only [qI_N, qI_add, qI_sub, qI_mul, qI_neg]; done) | (simp only [qI_N, qI_add, qI_sub, qI_mul, qI_neg]; rfl)) (by first | (simp only [q_up_u, q_up_c _ (show (87 : Nat) ≠ 95 by decide)]; done) | (simp only [q_up_u, q_up_c _ (show (87 : Nat) ≠ 95 by decide)]; rfl) | rfl)
set_option maxHeartbeats 2000000 in
set_option maxRecDepth 20000 in
theorem s8_mk5 {n : Nat} {h : q_H} {un ta fl st sa ne so di pu at_ er en pa tr g : Nat} {W fk : Nat → Nat} {x : mX} (z : Nat) (h0 : h 87 = MO un ta fl st sa ne so di pu at_ er en pa tr) (hW : h 88 = WA W) (T : wT W 0 g x) (hKb : h 95 = KA fk) (hz : z < 6) (hso : x.1 (0 + z) = 5) (hl : tr = 0) : SP 3 yX8_markOf cX8_markOf 2 (some .int) [.ref 87, .int (nI z)] n h (some (.int (qI ((z : Int) - 2 * ((x.1 (18 + z) : Int) - 100))))) (q_up (q_up h 95 (KA (mTr fk tr [23, 20, 14, 13, 10]))) 87 (MO un ta fl st sa ne so di pu at_ er en pa (tr + 5))) := by
  refine q_SPi RX8 rfl (by decide +kernel) (la := _) rfl rfl (fun Γ ad C F => ?_)
  refine g_aload_n (pc := 0) C (hl := rfl) dX8_markOf_0 ?_
  refine g_get (pc := 1) C fl8_7 dX8_markOf_1 h0 rfl ?_
  refine g_iconst (pc := 4) C qk_iconst_3 dX8_markOf_4 ?_
  refine g_iload_n (pc := 5) C (hl := rfl) dX8_markOf_5 ?_
  refine g_iaddN (pc := 6) C dX8_markOf_6 ?_
  refine g_ialdV (pc := 7) C dX8_markOf_7 hW (by omega) ((wT0_so T (by omega)).trans hso) ?_
  refine g_iconst (pc := 8) C qk_iconst_4 dX8_markOf_8 ?_
  refine g_S2v (pc := 9) C ls8_230 dX8_markOf_9 (s8_isOfT 5 4 (by decide) (by decide) (by decide)) (by decide) (Nat.le_of_ble_eq_true rfl) ?_
  refine g_if_neN (pc := 12) C 21 dX8_markOf_12 (by decide) (by decide) (fun _ => ?_) (fun q => absurd q (by decide))
  refine g_aload_n (pc := 21) C (hl := rfl) dX8_markOf_21 ?_
  refine g_bipush (pc := 22) C qk_bipush_23 dX8_markOf_22 ?_
  refine g_V1u (pc := 24) C lv8_233 dX8_markOf_24 (s8_leaves 23 h0 hKb (by omega)) h0 (by decide) (Nat.le_of_ble_eq_true rfl) ?_
  refine g_aload_n (pc := 27) C (hl := rfl) dX8_markOf_27 ?_
  refine g_bipush (pc := 28) C qk_bipush_20 dX8_markOf_28 ?_
  refine g_V1u (pc := 30) C lv8_233 dX8_markOf_30 (s8_leaves 20 (q_up_s _ _ _) ((q_up_n _ _ (by decide)).trans (q_up_s _ _ _)) (by omega)) (q_up_s _ _ _) (by decide) (Nat.le_of_ble_eq_true rfl) ?_
  refine g_iload_n (pc := 33) C (hl := rfl) dX8_markOf_33 ?_
  refine g_aload_n (pc := 34) C (hl := rfl) dX8_markOf_34 ?_
  refine g_iload_n (pc := 35) C (hl := rfl) dX8_markOf_35 ?_
  refine g_V1v (pc := 36) C lv8_239 dX8_markOf_36 (s8_sz5 z (q_up_s _ _ _) ((q_up_n _ _ (by decide)).trans ((q_up_n _ _ (by decide)).trans ((q_up_n _ _ (by decide)).trans ((q_up_n _ _ (by decide)).trans hW)))) T ((q_up_n _ _ (by decide)).trans (q_up_s _ _ _)) hz hso (by omega)) (q_up_s _ _ _) (by decide) (Nat.le_of_ble_eq_true rfl) ?_
  refine g_isub (pc := 39) C dX8_markOf_39 ?_
  exact g_iret (pc := 40) C F dX8_markOf_40 rfl rfl (by first | rfl | (simp only [qI_N, qI_add, qI_sub, qI_mul, qI_neg]; done) | (simp only [qI_N, qI_add, qI_sub, qI_mul, qI_neg]; rfl)) (by first | (simp only [q_up_u, q_up_c _ (show (87 : Nat) ≠ 95 by decide)]; done) | (simp only [q_up_u, q_up_c _ (show (87 : Nat) ≠ 95 by decide)]; rfl) | rfl)
set_option maxHeartbeats 2000000 in
set_option maxRecDepth 20000 in
theorem s8_askB {n : Nat} {h : q_H} {un ta fl st sa ne so di pu at_ er en pa tr g : Nat} {W : Nat → Nat} {x : mX} (z k : Int32) (h0 : h 87 = MO un ta fl st sa ne so di pu at_ er en pa tr) (hW : h 88 = WA W) (T : wT W 0 g x) (hg : g ≤ 6) (hb : (z < 0 ∨ nI g ≤ z) ∨ (k < nI 0 ∨ nI 1 < k)) : SP 4 yX8_ask cX8_ask 3 (some .int) [.ref 87, .int z, .int k] n h (some (.int (-1000001))) h := by
  refine q_SPi RX8 rfl (by decide +kernel) (la := _) rfl rfl (fun Γ ad C F => ?_)
  have hg0 : W 0 = g ∧ g ≤ 6 := ⟨wT0_n T, hg⟩
  refine g_aload_n (pc := 0) C (hl := rfl) dX8_ask_0 ?_
  refine g_iload_n (pc := 1) C (hl := rfl) dX8_ask_1 ?_
  by_cases cz : z < 0 ∨ nI g ≤ z
  · refine g_V1v (pc := 2) C lv8_194 dX8_ask_2 (s8_oneF z h0 hW hg0 cz) h0 (by decide) (Nat.le_of_ble_eq_true rfl) ?_
    refine g_if_eqN (pc := 5) C 18 dX8_ask_5 (by decide) (by decide) (fun _ => ?_) (fun q => absurd q (by decide))
    refine g_ldc (pc := 18) C (v := -1000001) zk8_52 dX8_ask_18 ?_
    exact g_iret (pc := 20) C F dX8_ask_20 rfl rfl (rfl) (rfl)
  · refine g_V1v (pc := 2) C lv8_194 dX8_ask_2 (s8_oneU z h0 hW hg0 cz) h0 (by decide) (Nat.le_of_ble_eq_true rfl) ?_
    refine g_if_eqN (pc := 5) C 18 dX8_ask_5 (by decide) (by decide) (fun q => absurd q (by decide)) (fun _ => ?_)
    refine g_iload_n (pc := 8) C (hl := rfl) dX8_ask_8 ?_
    refine g_i2l (pc := 9) C rfl dX8_ask_9 ?_
    refine g_lconst (pc := 10) C (v := 0) rfl dX8_ask_10 ?_
    refine g_lconst (pc := 11) C (v := 1) rfl dX8_ask_11 ?_
    by_cases ck : k < (nI 0) ∨ (nI 1) < k
    · refine g_S3v (pc := 12) C ls8_37 dX8_ask_12 (s8_inF k (nI 0) (nI 1) (by decide) (by decide) ck) (by decide) (Nat.le_of_ble_eq_true rfl) ?_
      refine g_if_neN (pc := 15) C 21 dX8_ask_15 (by decide) (by decide) (fun q => absurd q (by decide)) (fun _ => ?_)
      refine g_ldc (pc := 18) C (v := -1000001) zk8_52 dX8_ask_18 ?_
      exact g_iret (pc := 20) C F dX8_ask_20 rfl rfl (rfl) (rfl)
    · refine g_S3v (pc := 12) C ls8_37 dX8_ask_12 (s8_inT k (nI 0) (nI 1) (by decide) (by decide) ck) (by decide) (Nat.le_of_ble_eq_true rfl) ?_
      refine g_if_neN (pc := 15) C 21 dX8_ask_15 (by decide) (by decide) (fun _ => ?_) (fun q => absurd q (by decide))
      exact absurd hb (fun q => q.elim cz ck)
set_option maxHeartbeats 2000000 in
set_option maxRecDepth 20000 in
theorem s8_ask0_1 {n : Nat} {h : q_H} {un ta fl st sa ne so di pu at_ er en pa tr g : Nat} {W fk : Nat → Nat} {x : mX} (z : Nat) (h0 : h 87 = MO un ta fl st sa ne so di pu at_ er en pa tr) (hW : h 88 = WA W) (T : wT W 0 g x) (hKb : h 95 = KA fk) (hg : 0 < g ∧ g ≤ 6) (hz : z < g) (hso : x.1 (0 + z) = 1) : SP 4 yX8_ask cX8_ask 3 (some .int) [.ref 87, .int (nI z), .int (nI 0)] n h (some (.int (qI ((x.1 (18 + z) : Int) + ((z : Int) + x.1 (6 + z)))))) (q_up (q_up h 95 (KA (mTr fk 0 [11, 10, 21, 20]))) 87 (MO un ta fl st sa ne so di pu at_ er en pa 4)) := by
  refine q_SPi RX8 rfl (by decide +kernel) (la := _) rfl rfl (fun Γ ad C F => ?_)
  have hg0 : W 0 = g ∧ g ≤ 6 := ⟨wT0_n T, hg.2⟩
  refine g_aload_n (pc := 0) C (hl := rfl) dX8_ask_0 ?_
  refine g_iload_n (pc := 1) C (hl := rfl) dX8_ask_1 ?_
  refine g_V1v (pc := 2) C lv8_194 dX8_ask_2 (s8_oneN z h0 hW hg0 hz) h0 (by decide) (Nat.le_of_ble_eq_true rfl) ?_
  refine g_if_eqN (pc := 5) C 18 dX8_ask_5 (by decide) (by decide) (fun q => absurd q (by decide)) (fun _ => ?_)
  refine g_iload_n (pc := 8) C (hl := rfl) dX8_ask_8 ?_
  refine g_i2l (pc := 9) C rfl dX8_ask_9 ?_
  refine g_lconst (pc := 10) C (v := 0) rfl dX8_ask_10 ?_
  refine g_lconst (pc := 11) C (v := 1) rfl dX8_ask_11 ?_
  refine g_S3v (pc := 12) C ls8_37 dX8_ask_12 (s8_inN 0 0 1 (by decide) (by decide) (by omega) (by decide)) (by decide) (Nat.le_of_ble_eq_true rfl) ?_
  refine g_if_neN (pc := 15) C 21 dX8_ask_15 (by decide) (by decide) (fun _ => ?_) (fun q => absurd q (by decide))
  refine g_aload_n (pc := 21) C (hl := rfl) dX8_ask_21 ?_
  refine g_iconst (pc := 22) C qk_iconst_0 dX8_ask_22 ?_
  refine g_put (pc := 23) C fp8_225 dX8_ask_23 h0 (Nat.le_of_ble_eq_true rfl) ?_
  refine g_iload_n (pc := 26) C (hl := rfl) dX8_ask_26 ?_
  refine g_if_neN (pc := 27) C 38 dX8_ask_27 (by decide) (by decide) (fun q => absurd q (by decide)) (fun _ => ?_)
  refine g_aload_n (pc := 30) C (hl := rfl) dX8_ask_30 ?_
  refine g_iload_n (pc := 31) C (hl := rfl) dX8_ask_31 ?_
  refine g_V1v (pc := 32) C lv8_239 dX8_ask_32 (s8_sz1 z (q_up_s _ _ _) ((q_up_n _ _ (by decide)).trans hW) T ((q_up_n _ _ (by decide)).trans hKb) (by omega) hso (by decide)) (q_up_s _ _ _) (by decide) (Nat.le_of_ble_eq_true rfl) ?_
  refine g_goto (pc := 35) C 43 dX8_ask_35 (by decide) ?_
  exact g_iret (pc := 43) C F dX8_ask_43 rfl rfl (rfl) (by first | (simp only [q_up_u, q_up_c _ (show (87 : Nat) ≠ 95 by decide)]; done) | (simp only [q_up_u, q_up_c _ (show (87 : Nat) ≠ 95 by decide)]; rfl) | rfl)
set_option maxHeartbeats 2000000 in
set_option maxRecDepth 20000 in
theorem s8_ask0_2 {n : Nat} {h : q_H} {un ta fl st sa ne so di pu at_ er en pa tr g : Nat} {W fk : Nat → Nat} {x : mX} (z : Nat) (h0 : h 87 = MO un ta fl st sa ne so di pu at_ er en pa tr) (hW : h 88 = WA W) (T : wT W 0 g x) (hKb : h 95 = KA fk) (hg : 0 < g ∧ g ≤ 6) (hz : z < g) (hso : x.1 (0 + z) = 2) : SP 4 yX8_ask cX8_ask 3 (some .int) [.ref 87, .int (nI z), .int (nI 0)] n h (some (.int (qI (-((x.1 (18 + z) : Int) + 2 * ((z : Int) + x.1 (6 + z))))))) (q_up (q_up h 95 (KA (mTr fk 0 [12, 11, 10, 24, 21, 20]))) 87 (MO un ta fl st sa ne so di pu at_ er en pa 6)) := by
  refine q_SPi RX8 rfl (by decide +kernel) (la := _) rfl rfl (fun Γ ad C F => ?_)
  have hg0 : W 0 = g ∧ g ≤ 6 := ⟨wT0_n T, hg.2⟩
  refine g_aload_n (pc := 0) C (hl := rfl) dX8_ask_0 ?_
  refine g_iload_n (pc := 1) C (hl := rfl) dX8_ask_1 ?_
  refine g_V1v (pc := 2) C lv8_194 dX8_ask_2 (s8_oneN z h0 hW hg0 hz) h0 (by decide) (Nat.le_of_ble_eq_true rfl) ?_
  refine g_if_eqN (pc := 5) C 18 dX8_ask_5 (by decide) (by decide) (fun q => absurd q (by decide)) (fun _ => ?_)
  refine g_iload_n (pc := 8) C (hl := rfl) dX8_ask_8 ?_
  refine g_i2l (pc := 9) C rfl dX8_ask_9 ?_
  refine g_lconst (pc := 10) C (v := 0) rfl dX8_ask_10 ?_
  refine g_lconst (pc := 11) C (v := 1) rfl dX8_ask_11 ?_
  refine g_S3v (pc := 12) C ls8_37 dX8_ask_12 (s8_inN 0 0 1 (by decide) (by decide) (by omega) (by decide)) (by decide) (Nat.le_of_ble_eq_true rfl) ?_
  refine g_if_neN (pc := 15) C 21 dX8_ask_15 (by decide) (by decide) (fun _ => ?_) (fun q => absurd q (by decide))
  refine g_aload_n (pc := 21) C (hl := rfl) dX8_ask_21 ?_
  refine g_iconst (pc := 22) C qk_iconst_0 dX8_ask_22 ?_
  refine g_put (pc := 23) C fp8_225 dX8_ask_23 h0 (Nat.le_of_ble_eq_true rfl) ?_
  refine g_iload_n (pc := 26) C (hl := rfl) dX8_ask_26 ?_
  refine g_if_neN (pc := 27) C 38 dX8_ask_27 (by decide) (by decide) (fun q => absurd q (by decide)) (fun _ => ?_)
  refine g_aload_n (pc := 30) C (hl := rfl) dX8_ask_30 ?_
  refine g_iload_n (pc := 31) C (hl := rfl) dX8_ask_31 ?_
  refine g_V1v (pc := 32) C lv8_239 dX8_ask_32 (s8_sz2 z (q_up_s _ _ _) ((q_up_n _ _ (by decide)).trans hW) T ((q_up_n _ _ (by decide)).trans hKb) (by omega) hso (by decide)) (q_up_s _ _ _) (by decide) (Nat.le_of_ble_eq_true rfl) ?_
  refine g_goto (pc := 35) C 43 dX8_ask_35 (by decide) ?_
  exact g_iret (pc := 43) C F dX8_ask_43 rfl rfl (rfl) (by first | (simp only [q_up_u, q_up_c _ (show (87 : Nat) ≠ 95 by decide)]; done) | (simp only [q_up_u, q_up_c _ (show (87 : Nat) ≠ 95 by decide)]; rfl) | rfl)
set_option maxHeartbeats 2000000 in
set_option maxRecDepth 20000 in
theorem s8_ask0_3 {n : Nat} {h : q_H} {un ta fl st sa ne so di pu at_ er en pa tr g : Nat} {W fk : Nat → Nat} {x : mX} (z : Nat) (h0 : h 87 = MO un ta fl st sa ne so di pu at_ er en pa tr) (hW : h 88 = WA W) (T : wT W 0 g x) (hKb : h 95 = KA fk) (hg : 0 < g ∧ g ≤ 6) (hz : z < g) (hso : x.1 (0 + z) = 3) : SP 4 yX8_ask cX8_ask 3 (some .int) [.ref 87, .int (nI z), .int (nI 0)] n h (some (.int (qI ((x.1 (18 + z) : Int) + ((z : Int) + x.1 (6 + z) - 1000))))) (q_up (q_up h 95 (KA (mTr fk 0 [11, 10, 22, 21, 20]))) 87 (MO un ta fl st sa ne so di pu at_ er en pa 5)) := by
  refine q_SPi RX8 rfl (by decide +kernel) (la := _) rfl rfl (fun Γ ad C F => ?_)
  have hg0 : W 0 = g ∧ g ≤ 6 := ⟨wT0_n T, hg.2⟩
  refine g_aload_n (pc := 0) C (hl := rfl) dX8_ask_0 ?_
  refine g_iload_n (pc := 1) C (hl := rfl) dX8_ask_1 ?_
  refine g_V1v (pc := 2) C lv8_194 dX8_ask_2 (s8_oneN z h0 hW hg0 hz) h0 (by decide) (Nat.le_of_ble_eq_true rfl) ?_
  refine g_if_eqN (pc := 5) C 18 dX8_ask_5 (by decide) (by decide) (fun q => absurd q (by decide)) (fun _ => ?_)
  refine g_iload_n (pc := 8) C (hl := rfl) dX8_ask_8 ?_
  refine g_i2l (pc := 9) C rfl dX8_ask_9 ?_
  refine g_lconst (pc := 10) C (v := 0) rfl dX8_ask_10 ?_
  refine g_lconst (pc := 11) C (v := 1) rfl dX8_ask_11 ?_
  refine g_S3v (pc := 12) C ls8_37 dX8_ask_12 (s8_inN 0 0 1 (by decide) (by decide) (by omega) (by decide)) (by decide) (Nat.le_of_ble_eq_true rfl) ?_
  refine g_if_neN (pc := 15) C 21 dX8_ask_15 (by decide) (by decide) (fun _ => ?_) (fun q => absurd q (by decide))
  refine g_aload_n (pc := 21) C (hl := rfl) dX8_ask_21 ?_
  refine g_iconst (pc := 22) C qk_iconst_0 dX8_ask_22 ?_
  refine g_put (pc := 23) C fp8_225 dX8_ask_23 h0 (Nat.le_of_ble_eq_true rfl) ?_
  refine g_iload_n (pc := 26) C (hl := rfl) dX8_ask_26 ?_
  refine g_if_neN (pc := 27) C 38 dX8_ask_27 (by decide) (by decide) (fun q => absurd q (by decide)) (fun _ => ?_)
  refine g_aload_n (pc := 30) C (hl := rfl) dX8_ask_30 ?_
  refine g_iload_n (pc := 31) C (hl := rfl) dX8_ask_31 ?_
  refine g_V1v (pc := 32) C lv8_239 dX8_ask_32 (s8_sz3 z (q_up_s _ _ _) ((q_up_n _ _ (by decide)).trans hW) T ((q_up_n _ _ (by decide)).trans hKb) (by omega) hso (by decide)) (q_up_s _ _ _) (by decide) (Nat.le_of_ble_eq_true rfl) ?_
  refine g_goto (pc := 35) C 43 dX8_ask_35 (by decide) ?_
  exact g_iret (pc := 43) C F dX8_ask_43 rfl rfl (rfl) (by first | (simp only [q_up_u, q_up_c _ (show (87 : Nat) ≠ 95 by decide)]; done) | (simp only [q_up_u, q_up_c _ (show (87 : Nat) ≠ 95 by decide)]; rfl) | rfl)
set_option maxHeartbeats 2000000 in
set_option maxRecDepth 20000 in
theorem s8_ask0_4 {n : Nat} {h : q_H} {un ta fl st sa ne so di pu at_ er en pa tr g : Nat} {W fk : Nat → Nat} {x : mX} (z : Nat) (h0 : h 87 = MO un ta fl st sa ne so di pu at_ er en pa tr) (hW : h 88 = WA W) (T : wT W 0 g x) (hKb : h 95 = KA fk) (hg : 0 < g ∧ g ≤ 6) (hz : z < g) (hso : x.1 (0 + z) = 4) : SP 4 yX8_ask cX8_ask 3 (some .int) [.ref 87, .int (nI z), .int (nI 0)] n h (some (.int (qI ((x.1 (18 + z) : Int) - 100)))) (q_up (q_up h 95 (KA (mTr fk 0 [13, 10]))) 87 (MO un ta fl st sa ne so di pu at_ er en pa 2)) := by
  refine q_SPi RX8 rfl (by decide +kernel) (la := _) rfl rfl (fun Γ ad C F => ?_)
  have hg0 : W 0 = g ∧ g ≤ 6 := ⟨wT0_n T, hg.2⟩
  refine g_aload_n (pc := 0) C (hl := rfl) dX8_ask_0 ?_
  refine g_iload_n (pc := 1) C (hl := rfl) dX8_ask_1 ?_
  refine g_V1v (pc := 2) C lv8_194 dX8_ask_2 (s8_oneN z h0 hW hg0 hz) h0 (by decide) (Nat.le_of_ble_eq_true rfl) ?_
  refine g_if_eqN (pc := 5) C 18 dX8_ask_5 (by decide) (by decide) (fun q => absurd q (by decide)) (fun _ => ?_)
  refine g_iload_n (pc := 8) C (hl := rfl) dX8_ask_8 ?_
  refine g_i2l (pc := 9) C rfl dX8_ask_9 ?_
  refine g_lconst (pc := 10) C (v := 0) rfl dX8_ask_10 ?_
  refine g_lconst (pc := 11) C (v := 1) rfl dX8_ask_11 ?_
  refine g_S3v (pc := 12) C ls8_37 dX8_ask_12 (s8_inN 0 0 1 (by decide) (by decide) (by omega) (by decide)) (by decide) (Nat.le_of_ble_eq_true rfl) ?_
  refine g_if_neN (pc := 15) C 21 dX8_ask_15 (by decide) (by decide) (fun _ => ?_) (fun q => absurd q (by decide))
  refine g_aload_n (pc := 21) C (hl := rfl) dX8_ask_21 ?_
  refine g_iconst (pc := 22) C qk_iconst_0 dX8_ask_22 ?_
  refine g_put (pc := 23) C fp8_225 dX8_ask_23 h0 (Nat.le_of_ble_eq_true rfl) ?_
  refine g_iload_n (pc := 26) C (hl := rfl) dX8_ask_26 ?_
  refine g_if_neN (pc := 27) C 38 dX8_ask_27 (by decide) (by decide) (fun q => absurd q (by decide)) (fun _ => ?_)
  refine g_aload_n (pc := 30) C (hl := rfl) dX8_ask_30 ?_
  refine g_iload_n (pc := 31) C (hl := rfl) dX8_ask_31 ?_
  refine g_V1v (pc := 32) C lv8_239 dX8_ask_32 (s8_sz4 z (q_up_s _ _ _) ((q_up_n _ _ (by decide)).trans hW) T ((q_up_n _ _ (by decide)).trans hKb) (by omega) hso (by decide)) (q_up_s _ _ _) (by decide) (Nat.le_of_ble_eq_true rfl) ?_
  refine g_goto (pc := 35) C 43 dX8_ask_35 (by decide) ?_
  exact g_iret (pc := 43) C F dX8_ask_43 rfl rfl (rfl) (by first | (simp only [q_up_u, q_up_c _ (show (87 : Nat) ≠ 95 by decide)]; done) | (simp only [q_up_u, q_up_c _ (show (87 : Nat) ≠ 95 by decide)]; rfl) | rfl)
set_option maxHeartbeats 2000000 in
set_option maxRecDepth 20000 in
theorem s8_ask0_5 {n : Nat} {h : q_H} {un ta fl st sa ne so di pu at_ er en pa tr g : Nat} {W fk : Nat → Nat} {x : mX} (z : Nat) (h0 : h 87 = MO un ta fl st sa ne so di pu at_ er en pa tr) (hW : h 88 = WA W) (T : wT W 0 g x) (hKb : h 95 = KA fk) (hg : 0 < g ∧ g ≤ 6) (hz : z < g) (hso : x.1 (0 + z) = 5) : SP 4 yX8_ask cX8_ask 3 (some .int) [.ref 87, .int (nI z), .int (nI 0)] n h (some (.int (qI (2 * ((x.1 (18 + z) : Int) - 100))))) (q_up (q_up h 95 (KA (mTr fk 0 [14, 13, 10]))) 87 (MO un ta fl st sa ne so di pu at_ er en pa 3)) := by
  refine q_SPi RX8 rfl (by decide +kernel) (la := _) rfl rfl (fun Γ ad C F => ?_)
  have hg0 : W 0 = g ∧ g ≤ 6 := ⟨wT0_n T, hg.2⟩
  refine g_aload_n (pc := 0) C (hl := rfl) dX8_ask_0 ?_
  refine g_iload_n (pc := 1) C (hl := rfl) dX8_ask_1 ?_
  refine g_V1v (pc := 2) C lv8_194 dX8_ask_2 (s8_oneN z h0 hW hg0 hz) h0 (by decide) (Nat.le_of_ble_eq_true rfl) ?_
  refine g_if_eqN (pc := 5) C 18 dX8_ask_5 (by decide) (by decide) (fun q => absurd q (by decide)) (fun _ => ?_)
  refine g_iload_n (pc := 8) C (hl := rfl) dX8_ask_8 ?_
  refine g_i2l (pc := 9) C rfl dX8_ask_9 ?_
  refine g_lconst (pc := 10) C (v := 0) rfl dX8_ask_10 ?_
  refine g_lconst (pc := 11) C (v := 1) rfl dX8_ask_11 ?_
  refine g_S3v (pc := 12) C ls8_37 dX8_ask_12 (s8_inN 0 0 1 (by decide) (by decide) (by omega) (by decide)) (by decide) (Nat.le_of_ble_eq_true rfl) ?_
  refine g_if_neN (pc := 15) C 21 dX8_ask_15 (by decide) (by decide) (fun _ => ?_) (fun q => absurd q (by decide))
  refine g_aload_n (pc := 21) C (hl := rfl) dX8_ask_21 ?_
  refine g_iconst (pc := 22) C qk_iconst_0 dX8_ask_22 ?_
  refine g_put (pc := 23) C fp8_225 dX8_ask_23 h0 (Nat.le_of_ble_eq_true rfl) ?_
  refine g_iload_n (pc := 26) C (hl := rfl) dX8_ask_26 ?_
  refine g_if_neN (pc := 27) C 38 dX8_ask_27 (by decide) (by decide) (fun q => absurd q (by decide)) (fun _ => ?_)
  refine g_aload_n (pc := 30) C (hl := rfl) dX8_ask_30 ?_
  refine g_iload_n (pc := 31) C (hl := rfl) dX8_ask_31 ?_
  refine g_V1v (pc := 32) C lv8_239 dX8_ask_32 (s8_sz5 z (q_up_s _ _ _) ((q_up_n _ _ (by decide)).trans hW) T ((q_up_n _ _ (by decide)).trans hKb) (by omega) hso (by decide)) (q_up_s _ _ _) (by decide) (Nat.le_of_ble_eq_true rfl) ?_
  refine g_goto (pc := 35) C 43 dX8_ask_35 (by decide) ?_
  exact g_iret (pc := 43) C F dX8_ask_43 rfl rfl (rfl) (by first | (simp only [q_up_u, q_up_c _ (show (87 : Nat) ≠ 95 by decide)]; done) | (simp only [q_up_u, q_up_c _ (show (87 : Nat) ≠ 95 by decide)]; rfl) | rfl)
theorem s8_ask0 {n : Nat} {h : q_H} {un ta fl st sa ne so di pu at_ er en pa tr g : Nat} {W fk : Nat → Nat} {x : mX} (z : Nat) (h0 : h 87 = MO un ta fl st sa ne so di pu at_ er en pa tr) (hW : h 88 = WA W) (T : wT W 0 g x) (hKb : h 95 = KA fk) (hg : 0 < g ∧ g ≤ 6) (hz : z < g) (hso : 1 ≤ x.1 (0 + z) ∧ x.1 (0 + z) ≤ 5) : SP 4 yX8_ask cX8_ask 3 (some .int) [.ref 87, .int (nI z), .int (nI 0)] n h (some (.int (qI (mSz (x.1 (0 + z)) z (x.1 (6 + z)) (x.1 (18 + z)))))) (q_up (q_up h 95 (KA (mTr fk 0 (mSzL (x.1 (0 + z)))))) 87 (MO un ta fl st sa ne so di pu at_ er en pa (mSzL (x.1 (0 + z))).length)) := by
  rcases (by omega : x.1 (0 + z) = 1 ∨ x.1 (0 + z) = 2 ∨ x.1 (0 + z) = 3 ∨ x.1 (0 + z) = 4 ∨ x.1 (0 + z) = 5) with e | e | e | e | e
  · have q := s8_ask0_1 (n := n) z h0 hW T hKb hg hz e
    rw [e]
    exact q
  · have q := s8_ask0_2 (n := n) z h0 hW T hKb hg hz e
    rw [e]
    exact q
  · have q := s8_ask0_3 (n := n) z h0 hW T hKb hg hz e
    rw [e]
    exact q
  · have q := s8_ask0_4 (n := n) z h0 hW T hKb hg hz e
    rw [e]
    exact q
  · have q := s8_ask0_5 (n := n) z h0 hW T hKb hg hz e
    rw [e]
    exact q
set_option maxHeartbeats 2000000 in
set_option maxRecDepth 20000 in
theorem s8_ask1_1 {n : Nat} {h : q_H} {un ta fl st sa ne so di pu at_ er en pa tr g : Nat} {W fk : Nat → Nat} {x : mX} (z : Nat) (h0 : h 87 = MO un ta fl st sa ne so di pu at_ er en pa tr) (hW : h 88 = WA W) (T : wT W 0 g x) (hKb : h 95 = KA fk) (hg : 0 < g ∧ g ≤ 6) (hz : z < g) (hso : x.1 (0 + z) = 1) : SP 4 yX8_ask cX8_ask 3 (some .int) [.ref 87, .int (nI z), .int (nI 1)] n h (some (.int (qI ((z : Int) + x.1 (6 + z))))) (q_up (q_up h 95 (KA (mTr fk 0 [21, 20]))) 87 (MO un ta fl st sa ne so di pu at_ er en pa 2)) := by
  refine q_SPi RX8 rfl (by decide +kernel) (la := _) rfl rfl (fun Γ ad C F => ?_)
  have hg0 : W 0 = g ∧ g ≤ 6 := ⟨wT0_n T, hg.2⟩
  refine g_aload_n (pc := 0) C (hl := rfl) dX8_ask_0 ?_
  refine g_iload_n (pc := 1) C (hl := rfl) dX8_ask_1 ?_
  refine g_V1v (pc := 2) C lv8_194 dX8_ask_2 (s8_oneN z h0 hW hg0 hz) h0 (by decide) (Nat.le_of_ble_eq_true rfl) ?_
  refine g_if_eqN (pc := 5) C 18 dX8_ask_5 (by decide) (by decide) (fun q => absurd q (by decide)) (fun _ => ?_)
  refine g_iload_n (pc := 8) C (hl := rfl) dX8_ask_8 ?_
  refine g_i2l (pc := 9) C rfl dX8_ask_9 ?_
  refine g_lconst (pc := 10) C (v := 0) rfl dX8_ask_10 ?_
  refine g_lconst (pc := 11) C (v := 1) rfl dX8_ask_11 ?_
  refine g_S3v (pc := 12) C ls8_37 dX8_ask_12 (s8_inN 1 0 1 (by decide) (by decide) (by omega) (by decide)) (by decide) (Nat.le_of_ble_eq_true rfl) ?_
  refine g_if_neN (pc := 15) C 21 dX8_ask_15 (by decide) (by decide) (fun _ => ?_) (fun q => absurd q (by decide))
  refine g_aload_n (pc := 21) C (hl := rfl) dX8_ask_21 ?_
  refine g_iconst (pc := 22) C qk_iconst_0 dX8_ask_22 ?_
  refine g_put (pc := 23) C fp8_225 dX8_ask_23 h0 (Nat.le_of_ble_eq_true rfl) ?_
  refine g_iload_n (pc := 26) C (hl := rfl) dX8_ask_26 ?_
  refine g_if_neN (pc := 27) C 38 dX8_ask_27 (by decide) (by decide) (fun _ => ?_) (fun q => absurd q (by decide))
  refine g_aload_n (pc := 38) C (hl := rfl) dX8_ask_38 ?_
  refine g_iload_n (pc := 39) C (hl := rfl) dX8_ask_39 ?_
  refine g_V1v (pc := 40) C lv8_242 dX8_ask_40 (s8_mk1 z (q_up_s _ _ _) ((q_up_n _ _ (by decide)).trans hW) T ((q_up_n _ _ (by decide)).trans hKb) (by omega) hso (by decide)) (q_up_s _ _ _) (by decide) (Nat.le_of_ble_eq_true rfl) ?_
  exact g_iret (pc := 43) C F dX8_ask_43 rfl rfl (rfl) (by first | (simp only [q_up_u, q_up_c _ (show (87 : Nat) ≠ 95 by decide)]; done) | (simp only [q_up_u, q_up_c _ (show (87 : Nat) ≠ 95 by decide)]; rfl) | rfl)
set_option maxHeartbeats 2000000 in
set_option maxRecDepth 20000 in
theorem s8_ask1_2 {n : Nat} {h : q_H} {un ta fl st sa ne so di pu at_ er en pa tr g : Nat} {W fk : Nat → Nat} {x : mX} (z : Nat) (h0 : h 87 = MO un ta fl st sa ne so di pu at_ er en pa tr) (hW : h 88 = WA W) (T : wT W 0 g x) (hKb : h 95 = KA fk) (hg : 0 < g ∧ g ≤ 6) (hz : z < g) (hso : x.1 (0 + z) = 2) : SP 4 yX8_ask cX8_ask 3 (some .int) [.ref 87, .int (nI z), .int (nI 1)] n h (some (.int (qI (2 * ((z : Int) + x.1 (6 + z)))))) (q_up (q_up h 95 (KA (mTr fk 0 [24, 21, 20]))) 87 (MO un ta fl st sa ne so di pu at_ er en pa 3)) := by
  refine q_SPi RX8 rfl (by decide +kernel) (la := _) rfl rfl (fun Γ ad C F => ?_)
  have hg0 : W 0 = g ∧ g ≤ 6 := ⟨wT0_n T, hg.2⟩
  refine g_aload_n (pc := 0) C (hl := rfl) dX8_ask_0 ?_
  refine g_iload_n (pc := 1) C (hl := rfl) dX8_ask_1 ?_
  refine g_V1v (pc := 2) C lv8_194 dX8_ask_2 (s8_oneN z h0 hW hg0 hz) h0 (by decide) (Nat.le_of_ble_eq_true rfl) ?_
  refine g_if_eqN (pc := 5) C 18 dX8_ask_5 (by decide) (by decide) (fun q => absurd q (by decide)) (fun _ => ?_)
  refine g_iload_n (pc := 8) C (hl := rfl) dX8_ask_8 ?_
  refine g_i2l (pc := 9) C rfl dX8_ask_9 ?_
  refine g_lconst (pc := 10) C (v := 0) rfl dX8_ask_10 ?_
  refine g_lconst (pc := 11) C (v := 1) rfl dX8_ask_11 ?_
  refine g_S3v (pc := 12) C ls8_37 dX8_ask_12 (s8_inN 1 0 1 (by decide) (by decide) (by omega) (by decide)) (by decide) (Nat.le_of_ble_eq_true rfl) ?_
  refine g_if_neN (pc := 15) C 21 dX8_ask_15 (by decide) (by decide) (fun _ => ?_) (fun q => absurd q (by decide))
  refine g_aload_n (pc := 21) C (hl := rfl) dX8_ask_21 ?_
  refine g_iconst (pc := 22) C qk_iconst_0 dX8_ask_22 ?_
  refine g_put (pc := 23) C fp8_225 dX8_ask_23 h0 (Nat.le_of_ble_eq_true rfl) ?_
  refine g_iload_n (pc := 26) C (hl := rfl) dX8_ask_26 ?_
  refine g_if_neN (pc := 27) C 38 dX8_ask_27 (by decide) (by decide) (fun _ => ?_) (fun q => absurd q (by decide))
  refine g_aload_n (pc := 38) C (hl := rfl) dX8_ask_38 ?_
  refine g_iload_n (pc := 39) C (hl := rfl) dX8_ask_39 ?_
  refine g_V1v (pc := 40) C lv8_242 dX8_ask_40 (s8_mk2 z (q_up_s _ _ _) ((q_up_n _ _ (by decide)).trans hW) T ((q_up_n _ _ (by decide)).trans hKb) (by omega) hso (by decide)) (q_up_s _ _ _) (by decide) (Nat.le_of_ble_eq_true rfl) ?_
  exact g_iret (pc := 43) C F dX8_ask_43 rfl rfl (rfl) (by first | (simp only [q_up_u, q_up_c _ (show (87 : Nat) ≠ 95 by decide)]; done) | (simp only [q_up_u, q_up_c _ (show (87 : Nat) ≠ 95 by decide)]; rfl) | rfl)
set_option maxHeartbeats 2000000 in
set_option maxRecDepth 20000 in
theorem s8_ask1_3 {n : Nat} {h : q_H} {un ta fl st sa ne so di pu at_ er en pa tr g : Nat} {W fk : Nat → Nat} {x : mX} (z : Nat) (h0 : h 87 = MO un ta fl st sa ne so di pu at_ er en pa tr) (hW : h 88 = WA W) (T : wT W 0 g x) (hKb : h 95 = KA fk) (hg : 0 < g ∧ g ≤ 6) (hz : z < g) (hso : x.1 (0 + z) = 3) : SP 4 yX8_ask cX8_ask 3 (some .int) [.ref 87, .int (nI z), .int (nI 1)] n h (some (.int (qI ((z : Int) + x.1 (6 + z) - 1000)))) (q_up (q_up h 95 (KA (mTr fk 0 [22, 21, 20]))) 87 (MO un ta fl st sa ne so di pu at_ er en pa 3)) := by
  refine q_SPi RX8 rfl (by decide +kernel) (la := _) rfl rfl (fun Γ ad C F => ?_)
  have hg0 : W 0 = g ∧ g ≤ 6 := ⟨wT0_n T, hg.2⟩
  refine g_aload_n (pc := 0) C (hl := rfl) dX8_ask_0 ?_
  refine g_iload_n (pc := 1) C (hl := rfl) dX8_ask_1 ?_
  refine g_V1v (pc := 2) C lv8_194 dX8_ask_2 (s8_oneN z h0 hW hg0 hz) h0 (by decide) (Nat.le_of_ble_eq_true rfl) ?_
  refine g_if_eqN (pc := 5) C 18 dX8_ask_5 (by decide) (by decide) (fun q => absurd q (by decide)) (fun _ => ?_)
  refine g_iload_n (pc := 8) C (hl := rfl) dX8_ask_8 ?_
  refine g_i2l (pc := 9) C rfl dX8_ask_9 ?_
  refine g_lconst (pc := 10) C (v := 0) rfl dX8_ask_10 ?_
  refine g_lconst (pc := 11) C (v := 1) rfl dX8_ask_11 ?_
  refine g_S3v (pc := 12) C ls8_37 dX8_ask_12 (s8_inN 1 0 1 (by decide) (by decide) (by omega) (by decide)) (by decide) (Nat.le_of_ble_eq_true rfl) ?_
  refine g_if_neN (pc := 15) C 21 dX8_ask_15 (by decide) (by decide) (fun _ => ?_) (fun q => absurd q (by decide))
  refine g_aload_n (pc := 21) C (hl := rfl) dX8_ask_21 ?_
  refine g_iconst (pc := 22) C qk_iconst_0 dX8_ask_22 ?_
  refine g_put (pc := 23) C fp8_225 dX8_ask_23 h0 (Nat.le_of_ble_eq_true rfl) ?_
  refine g_iload_n (pc := 26) C (hl := rfl) dX8_ask_26 ?_
  refine g_if_neN (pc := 27) C 38 dX8_ask_27 (by decide) (by decide) (fun _ => ?_) (fun q => absurd q (by decide))
  refine g_aload_n (pc := 38) C (hl := rfl) dX8_ask_38 ?_
  refine g_iload_n (pc := 39) C (hl := rfl) dX8_ask_39 ?_
  refine g_V1v (pc := 40) C lv8_242 dX8_ask_40 (s8_mk3 z (q_up_s _ _ _) ((q_up_n _ _ (by decide)).trans hW) T ((q_up_n _ _ (by decide)).trans hKb) (by omega) hso (by decide)) (q_up_s _ _ _) (by decide) (Nat.le_of_ble_eq_true rfl) ?_
  exact g_iret (pc := 43) C F dX8_ask_43 rfl rfl (rfl) (by first | (simp only [q_up_u, q_up_c _ (show (87 : Nat) ≠ 95 by decide)]; done) | (simp only [q_up_u, q_up_c _ (show (87 : Nat) ≠ 95 by decide)]; rfl) | rfl)
set_option maxHeartbeats 2000000 in
set_option maxRecDepth 20000 in
theorem s8_ask1_4 {n : Nat} {h : q_H} {un ta fl st sa ne so di pu at_ er en pa tr g : Nat} {W fk : Nat → Nat} {x : mX} (z : Nat) (h0 : h 87 = MO un ta fl st sa ne so di pu at_ er en pa tr) (hW : h 88 = WA W) (T : wT W 0 g x) (hKb : h 95 = KA fk) (hg : 0 < g ∧ g ≤ 6) (hz : z < g) (hso : x.1 (0 + z) = 4) : SP 4 yX8_ask cX8_ask 3 (some .int) [.ref 87, .int (nI z), .int (nI 1)] n h (some (.int (qI ((z : Int) - ((x.1 (18 + z) : Int) - 100))))) (q_up (q_up h 95 (KA (mTr fk 0 [23, 20, 13, 10]))) 87 (MO un ta fl st sa ne so di pu at_ er en pa 4)) := by
  refine q_SPi RX8 rfl (by decide +kernel) (la := _) rfl rfl (fun Γ ad C F => ?_)
  have hg0 : W 0 = g ∧ g ≤ 6 := ⟨wT0_n T, hg.2⟩
  refine g_aload_n (pc := 0) C (hl := rfl) dX8_ask_0 ?_
  refine g_iload_n (pc := 1) C (hl := rfl) dX8_ask_1 ?_
  refine g_V1v (pc := 2) C lv8_194 dX8_ask_2 (s8_oneN z h0 hW hg0 hz) h0 (by decide) (Nat.le_of_ble_eq_true rfl) ?_
  refine g_if_eqN (pc := 5) C 18 dX8_ask_5 (by decide) (by decide) (fun q => absurd q (by decide)) (fun _ => ?_)
  refine g_iload_n (pc := 8) C (hl := rfl) dX8_ask_8 ?_
  refine g_i2l (pc := 9) C rfl dX8_ask_9 ?_
  refine g_lconst (pc := 10) C (v := 0) rfl dX8_ask_10 ?_
  refine g_lconst (pc := 11) C (v := 1) rfl dX8_ask_11 ?_
  refine g_S3v (pc := 12) C ls8_37 dX8_ask_12 (s8_inN 1 0 1 (by decide) (by decide) (by omega) (by decide)) (by decide) (Nat.le_of_ble_eq_true rfl) ?_
  refine g_if_neN (pc := 15) C 21 dX8_ask_15 (by decide) (by decide) (fun _ => ?_) (fun q => absurd q (by decide))
  refine g_aload_n (pc := 21) C (hl := rfl) dX8_ask_21 ?_
  refine g_iconst (pc := 22) C qk_iconst_0 dX8_ask_22 ?_
  refine g_put (pc := 23) C fp8_225 dX8_ask_23 h0 (Nat.le_of_ble_eq_true rfl) ?_
  refine g_iload_n (pc := 26) C (hl := rfl) dX8_ask_26 ?_
  refine g_if_neN (pc := 27) C 38 dX8_ask_27 (by decide) (by decide) (fun _ => ?_) (fun q => absurd q (by decide))
  refine g_aload_n (pc := 38) C (hl := rfl) dX8_ask_38 ?_
  refine g_iload_n (pc := 39) C (hl := rfl) dX8_ask_39 ?_
  refine g_V1v (pc := 40) C lv8_242 dX8_ask_40 (s8_mk4 z (q_up_s _ _ _) ((q_up_n _ _ (by decide)).trans hW) T ((q_up_n _ _ (by decide)).trans hKb) (by omega) hso (by decide)) (q_up_s _ _ _) (by decide) (Nat.le_of_ble_eq_true rfl) ?_
  exact g_iret (pc := 43) C F dX8_ask_43 rfl rfl (rfl) (by first | (simp only [q_up_u, q_up_c _ (show (87 : Nat) ≠ 95 by decide)]; done) | (simp only [q_up_u, q_up_c _ (show (87 : Nat) ≠ 95 by decide)]; rfl) | rfl)
set_option maxHeartbeats 2000000 in
set_option maxRecDepth 20000 in
theorem s8_ask1_5 {n : Nat} {h : q_H} {un ta fl st sa ne so di pu at_ er en pa tr g : Nat} {W fk : Nat → Nat} {x : mX} (z : Nat) (h0 : h 87 = MO un ta fl st sa ne so di pu at_ er en pa tr) (hW : h 88 = WA W) (T : wT W 0 g x) (hKb : h 95 = KA fk) (hg : 0 < g ∧ g ≤ 6) (hz : z < g) (hso : x.1 (0 + z) = 5) : SP 4 yX8_ask cX8_ask 3 (some .int) [.ref 87, .int (nI z), .int (nI 1)] n h (some (.int (qI ((z : Int) - 2 * ((x.1 (18 + z) : Int) - 100))))) (q_up (q_up h 95 (KA (mTr fk 0 [23, 20, 14, 13, 10]))) 87 (MO un ta fl st sa ne so di pu at_ er en pa 5)) := by
  refine q_SPi RX8 rfl (by decide +kernel) (la := _) rfl rfl (fun Γ ad C F => ?_)
  have hg0 : W 0 = g ∧ g ≤ 6 := ⟨wT0_n T, hg.2⟩
  refine g_aload_n (pc := 0) C (hl := rfl) dX8_ask_0 ?_
  refine g_iload_n (pc := 1) C (hl := rfl) dX8_ask_1 ?_
  refine g_V1v (pc := 2) C lv8_194 dX8_ask_2 (s8_oneN z h0 hW hg0 hz) h0 (by decide) (Nat.le_of_ble_eq_true rfl) ?_
  refine g_if_eqN (pc := 5) C 18 dX8_ask_5 (by decide) (by decide) (fun q => absurd q (by decide)) (fun _ => ?_)
  refine g_iload_n (pc := 8) C (hl := rfl) dX8_ask_8 ?_
  refine g_i2l (pc := 9) C rfl dX8_ask_9 ?_
  refine g_lconst (pc := 10) C (v := 0) rfl dX8_ask_10 ?_
  refine g_lconst (pc := 11) C (v := 1) rfl dX8_ask_11 ?_
  refine g_S3v (pc := 12) C ls8_37 dX8_ask_12 (s8_inN 1 0 1 (by decide) (by decide) (by omega) (by decide)) (by decide) (Nat.le_of_ble_eq_true rfl) ?_
  refine g_if_neN (pc := 15) C 21 dX8_ask_15 (by decide) (by decide) (fun _ => ?_) (fun q => absurd q (by decide))
  refine g_aload_n (pc := 21) C (hl := rfl) dX8_ask_21 ?_
  refine g_iconst (pc := 22) C qk_iconst_0 dX8_ask_22 ?_
  refine g_put (pc := 23) C fp8_225 dX8_ask_23 h0 (Nat.le_of_ble_eq_true rfl) ?_
  refine g_iload_n (pc := 26) C (hl := rfl) dX8_ask_26 ?_
  refine g_if_neN (pc := 27) C 38 dX8_ask_27 (by decide) (by decide) (fun _ => ?_) (fun q => absurd q (by decide))
  refine g_aload_n (pc := 38) C (hl := rfl) dX8_ask_38 ?_
  refine g_iload_n (pc := 39) C (hl := rfl) dX8_ask_39 ?_
  refine g_V1v (pc := 40) C lv8_242 dX8_ask_40 (s8_mk5 z (q_up_s _ _ _) ((q_up_n _ _ (by decide)).trans hW) T ((q_up_n _ _ (by decide)).trans hKb) (by omega) hso (by decide)) (q_up_s _ _ _) (by decide) (Nat.le_of_ble_eq_true rfl) ?_
  exact g_iret (pc := 43) C F dX8_ask_43 rfl rfl (rfl) (by first | (simp only [q_up_u, q_up_c _ (show (87 : Nat) ≠ 95 by decide)]; done) | (simp only [q_up_u, q_up_c _ (show (87 : Nat) ≠ 95 by decide)]; rfl) | rfl)
theorem s8_ask1 {n : Nat} {h : q_H} {un ta fl st sa ne so di pu at_ er en pa tr g : Nat} {W fk : Nat → Nat} {x : mX} (z : Nat) (h0 : h 87 = MO un ta fl st sa ne so di pu at_ er en pa tr) (hW : h 88 = WA W) (T : wT W 0 g x) (hKb : h 95 = KA fk) (hg : 0 < g ∧ g ≤ 6) (hz : z < g) (hso : 1 ≤ x.1 (0 + z) ∧ x.1 (0 + z) ≤ 5) : SP 4 yX8_ask cX8_ask 3 (some .int) [.ref 87, .int (nI z), .int (nI 1)] n h (some (.int (qI (mMk (x.1 (0 + z)) z (x.1 (6 + z)) (x.1 (18 + z)))))) (q_up (q_up h 95 (KA (mTr fk 0 (mMkL (x.1 (0 + z)))))) 87 (MO un ta fl st sa ne so di pu at_ er en pa (mMkL (x.1 (0 + z))).length)) := by
  rcases (by omega : x.1 (0 + z) = 1 ∨ x.1 (0 + z) = 2 ∨ x.1 (0 + z) = 3 ∨ x.1 (0 + z) = 4 ∨ x.1 (0 + z) = 5) with e | e | e | e | e
  · have q := s8_ask1_1 (n := n) z h0 hW T hKb hg hz e
    rw [e]
    exact q
  · have q := s8_ask1_2 (n := n) z h0 hW T hKb hg hz e
    rw [e]
    exact q
  · have q := s8_ask1_3 (n := n) z h0 hW T hKb hg hz e
    rw [e]
    exact q
  · have q := s8_ask1_4 (n := n) z h0 hW T hKb hg hz e
    rw [e]
    exact q
  · have q := s8_ask1_5 (n := n) z h0 hW T hKb hg hz e
    rw [e]
    exact q
noncomputable def wMn (g : Nat) : Nat → (Nat → Nat) × Nat × mX → (Nat → Nat) × Nat × mX
  | 0, s => s
  | m + 1, s => wMn g m (wPut (wMi s.1 s.2.1 g s.2.2) 0 g (mNext g s.2.2), min (s.2.1 + 1) 24, mNext g s.2.2)
set_option maxHeartbeats 2000000 in
set_option maxRecDepth 20000 in
theorem s8_minutesN {n : Nat} {h : q_H} {un ta fl st sa ne so di pu at_ er en pa tr g : Nat} {W : Nat → Nat} {x : mX} (z : Int32) (h0 : h 87 = MO un ta fl st sa ne so di pu at_ er en pa tr) (hW : h 88 = WA W) (T : wT W 0 g x) (hg : g = 0) : SP 4 yX8_minutes cX8_minutes 3 (some .int) [.ref 87, .int z] n h (some (.int (-1000002))) h := by
  refine q_SPi RX8 rfl (by decide +kernel) (la := _) rfl rfl (fun Γ ad C F => ?_)
  refine g_aload_n (pc := 0) C (hl := rfl) dX8_minutes_0 ?_
  refine g_V0v (pc := 1) C lv8_177 dX8_minutes_1 (s8_isNoneZ h0 hW (by rw [wT0_n T]; exact hg)) h0 (by decide) (Nat.le_of_ble_eq_true rfl) ?_
  refine g_if_eqN (pc := 4) C 10 dX8_minutes_4 (by decide) (by decide) (fun q => absurd q (by decide)) (fun _ => ?_)
  refine g_ldc (pc := 7) C (v := -1000002) zk8_180 dX8_minutes_7 ?_
  exact g_iret (pc := 9) C F dX8_minutes_9 rfl rfl (rfl) (rfl)
set_option maxHeartbeats 2000000 in
set_option maxRecDepth 20000 in
theorem s8_minutesB {n : Nat} {h : q_H} {un ta fl st sa ne so di pu at_ er en pa tr g : Nat} {W : Nat → Nat} {x : mX} (z : Int32) (h0 : h 87 = MO un ta fl st sa ne so di pu at_ er en pa tr) (hW : h 88 = WA W) (T : wT W 0 g x) (hg : 0 < g ∧ g ≤ 6) (hz : z < nI 1 ∨ nI 24 < z) : SP 4 yX8_minutes cX8_minutes 3 (some .int) [.ref 87, .int z] n h (some (.int (-1000001))) h := by
  refine q_SPi RX8 rfl (by decide +kernel) (la := _) rfl rfl (fun Γ ad C F => ?_)
  refine g_aload_n (pc := 0) C (hl := rfl) dX8_minutes_0 ?_
  refine g_V0v (pc := 1) C lv8_177 dX8_minutes_1 (s8_isNoneT h0 hW (by rw [wT0_n T]; omega)) h0 (by decide) (Nat.le_of_ble_eq_true rfl) ?_
  refine g_if_eqN (pc := 4) C 10 dX8_minutes_4 (by decide) (by decide) (fun _ => ?_) (fun q => absurd q (by decide))
  refine g_iload_n (pc := 10) C (hl := rfl) dX8_minutes_10 ?_
  refine g_i2l (pc := 11) C rfl dX8_minutes_11 ?_
  refine g_lconst (pc := 12) C (v := 1) rfl dX8_minutes_12 ?_
  refine g_ldc2 (pc := 13) C zk8_181 dX8_minutes_13 ?_
  refine g_S3v (pc := 16) C ls8_37 dX8_minutes_16 (s8_inF z (nI 1) (nI 24) (by decide) (by decide) hz) (by decide) (Nat.le_of_ble_eq_true rfl) ?_
  refine g_if_neN (pc := 19) C 25 dX8_minutes_19 (by decide) (by decide) (fun q => absurd q (by decide)) (fun _ => ?_)
  refine g_ldc (pc := 22) C (v := -1000001) zk8_52 dX8_minutes_22 ?_
  exact g_iret (pc := 24) C F dX8_minutes_24 rfl rfl (rfl) (rfl)
set_option maxHeartbeats 2000000 in
set_option maxRecDepth 20000 in
theorem s8_minutesM {n : Nat} {h : q_H} {un ta fl st sa ne so di pu at_ er en pa tr g : Nat} {W : Nat → Nat} {x : mX} (N : Nat) (h0 : h 87 = MO un ta fl st sa ne so di pu at_ er en pa tr) (hW : h 88 = WA W) (T : wT W 0 g x) (hg : 0 < g ∧ g ≤ 6) (hN : 1 ≤ N ∧ N ≤ 24) (hm : x.2.2.1 ≤ 999 ∧ 999 < x.2.2.1 + N) : SP 4 yX8_minutes cX8_minutes 3 (some .int) [.ref 87, .int (nI N)] n h (some (.int (-1000003))) h := by
  refine q_SPi RX8 rfl (by decide +kernel) (la := _) rfl rfl (fun Γ ad C F => ?_)
  refine g_aload_n (pc := 0) C (hl := rfl) dX8_minutes_0 ?_
  refine g_V0v (pc := 1) C lv8_177 dX8_minutes_1 (s8_isNoneT h0 hW (by rw [wT0_n T]; omega)) h0 (by decide) (Nat.le_of_ble_eq_true rfl) ?_
  refine g_if_eqN (pc := 4) C 10 dX8_minutes_4 (by decide) (by decide) (fun _ => ?_) (fun q => absurd q (by decide))
  refine g_iload_n (pc := 10) C (hl := rfl) dX8_minutes_10 ?_
  refine g_i2l (pc := 11) C rfl dX8_minutes_11 ?_
  refine g_lconst (pc := 12) C (v := 1) rfl dX8_minutes_12 ?_
  refine g_ldc2 (pc := 13) C zk8_181 dX8_minutes_13 ?_
  refine g_S3v (pc := 16) C ls8_37 dX8_minutes_16 (s8_inN N 1 24 (by decide) (by decide) hN (by decide)) (by decide) (Nat.le_of_ble_eq_true rfl) ?_
  refine g_if_neN (pc := 19) C 25 dX8_minutes_19 (by decide) (by decide) (fun _ => ?_) (fun q => absurd q (by decide))
  refine g_aload_n (pc := 25) C (hl := rfl) dX8_minutes_25 ?_
  refine g_get (pc := 26) C fl8_7 dX8_minutes_26 h0 rfl ?_
  refine g_iconst (pc := 29) C qk_iconst_2 dX8_minutes_29 ?_
  refine g_ialdV (pc := 30) C dX8_minutes_30 hW (by omega) (wT0_m T) ?_
  refine g_iload_n (pc := 31) C (hl := rfl) dX8_minutes_31 ?_
  refine g_iaddN (pc := 32) C dX8_minutes_32 ?_
  refine g_sipush (pc := 33) C qk_sipush_999 dX8_minutes_33 ?_
  refine g_ic_leN (pc := 36) C 42 dX8_minutes_36 (by decide) (by omega) (fun q => absurd q (by omega)) (fun _ => ?_)
  refine g_ldc (pc := 39) C (v := -1000003) zk8_69 dX8_minutes_39 ?_
  exact g_iret (pc := 41) C F dX8_minutes_41 rfl rfl (rfl) (rfl)
set_option maxHeartbeats 2000000 in
set_option maxRecDepth 20000 in
theorem l8_min {Γ : q_X} {ad : Nat → Nat} {n ta fl st sa ne so di pa tr g N : Nat} {rz : Int32} {hF : q_H} (hN : N ≤ 24) (C : q_C Γ ad 4 0 0 RX8 yX8_minutes cX8_minutes 3 (some .int)) (F : q_N Γ ad n (some (.int rz)) hF) : ∀ (k m i un : Nat) (W : Nat → Nat) (x : mX) (H : q_H), m < k → i + m = N → H 87 = MX un ta fl st sa ne so di pa tr x → H 88 = WA W → wT W 0 g x → mW g x → un ≤ 24 → x.2.2.1 + m < 1000000 → rz = nI (wMn g m (W, un, x)).2.2.2.1 → hF = q_up (q_up H 88 (WA (wMn g m (W, un, x)).1)) 87 (MX (wMn g m (W, un, x)).2.1 ta fl st sa ne so di pa tr (wMn g m (W, un, x)).2.2) → q_G Γ ad 3 44 [some (.ref 87), some (.int (nI N)), some (.int (nI i))] [] n H 0 0 := by
  intro k
  induction k with
  | zero => intro m i un W x H hm; omega
  | succ k ih =>
    intro m i un W x H hk hN2 h0 hW T hv hu hm hz hH
    refine g_iload_n (pc := 44) C (hl := rfl) dX8_minutes_44 ?_
    refine g_iload_n (pc := 45) C (hl := rfl) dX8_minutes_45 ?_
    refine g_ic_geN (pc := 46) C 64 dX8_minutes_46 (by decide) (by omega) (fun c46 => ?_) (fun c46 => ?_)
    · refine g_aload_n (pc := 64) C (hl := rfl) dX8_minutes_64 ?_
      refine g_get (pc := 65) C fl8_7 dX8_minutes_65 h0 rfl ?_
      refine g_iconst (pc := 68) C qk_iconst_1 dX8_minutes_68 ?_
      refine g_ialdV (pc := 69) C dX8_minutes_69 hW (by omega) (wT0_t T) ?_
      obtain rfl : m = 0 := by omega
      exact g_iret (pc := 70) C F dX8_minutes_70 rfl rfl (by rw [hz]; rfl) (by rw [hH]; show H = q_up (q_up H 88 (WA W)) 87 (MX un ta fl st sa ne so di pa tr x); rw [q_upI hW, q_upI h0])
    · obtain ⟨m2, rfl⟩ : ∃ m2, m = m2 + 1 := ⟨m - 1, by omega⟩
      refine g_aload_n (pc := 49) C (hl := rfl) dX8_minutes_49 ?_
      refine g_V0u (pc := 50) C lv8_183 dX8_minutes_50 (s8_minds h0 hW T hu) h0 (by decide) (Nat.le_of_ble_eq_true rfl) ?_
      refine g_aload_n (pc := 53) C (hl := rfl) dX8_minutes_53 ?_
      refine g_iconst (pc := 54) C qk_iconst_0 dX8_minutes_54 ?_
      refine g_V1u (pc := 55) C lv8_186 dX8_minutes_55 (s8_goMinute (r := 0) (q_up_s _ _ _) ((q_up_n _ _ (by decide)).trans (q_up_s _ _ _)) (wMi_o hu (by omega) T) (by decide) hv (by omega)) (q_up_s _ _ _) (by decide) (Nat.le_of_ble_eq_true rfl) ?_
      refine g_iincN (pc := 58) C (hl := rfl) (q_inc1 _) rfl dX8_minutes_58 ?_
      refine g_goto (pc := 61) C 44 dX8_minutes_61 (by decide) ?_
      refine ih m2 (i + 1) _ _ (mNext g x) _ (by omega) (by omega) ((q_up_s _ _ _)) (((q_up_n _ _ (by decide)).trans (q_up_s _ _ _))) (wT_put _ _ _ _) (mNext_V hv) (Nat.min_le_right _ _) (by show x.2.2.1 + 1 + m2 < 1000000; omega) ?_ ?_
      · rw [hz]; rfl
      · rw [hH]; first | (simp only [q_up_u, q_up_c _ (show (87 : Nat) ≠ 88 by decide)]; done) | (simp only [q_up_u, q_up_c _ (show (87 : Nat) ≠ 88 by decide)]; rfl)
set_option maxHeartbeats 2000000 in
set_option maxRecDepth 20000 in
theorem s8_minutesT {n : Nat} {h : q_H} {un ta fl st sa ne so di pa tr g : Nat} {W : Nat → Nat} {x : mX} (N : Nat) (h0 : h 87 = MX un ta fl st sa ne so di pa tr x) (hW : h 88 = WA W) (T : wT W 0 g x) (hg : 0 < g ∧ g ≤ 6) (hN : 1 ≤ N ∧ N ≤ 24) (hm : x.2.2.1 + N ≤ 999) (hv : mW g x) (hu : un ≤ 24) : SP 4 yX8_minutes cX8_minutes 3 (some .int) [.ref 87, .int (nI N)] n h (some (.int (nI (wMn g N (W, un, x)).2.2.2.1))) (q_up (q_up h 88 (WA (wMn g N (W, un, x)).1)) 87 (MX (wMn g N (W, un, x)).2.1 ta fl st sa ne so di pa tr (wMn g N (W, un, x)).2.2)) := by
  refine q_SPi RX8 rfl (by decide +kernel) (la := _) rfl rfl (fun Γ ad C F => ?_)
  refine g_aload_n (pc := 0) C (hl := rfl) dX8_minutes_0 ?_
  refine g_V0v (pc := 1) C lv8_177 dX8_minutes_1 (s8_isNoneT h0 hW (by rw [wT0_n T]; omega)) h0 (by decide) (Nat.le_of_ble_eq_true rfl) ?_
  refine g_if_eqN (pc := 4) C 10 dX8_minutes_4 (by decide) (by decide) (fun _ => ?_) (fun q => absurd q (by decide))
  refine g_iload_n (pc := 10) C (hl := rfl) dX8_minutes_10 ?_
  refine g_i2l (pc := 11) C rfl dX8_minutes_11 ?_
  refine g_lconst (pc := 12) C (v := 1) rfl dX8_minutes_12 ?_
  refine g_ldc2 (pc := 13) C zk8_181 dX8_minutes_13 ?_
  refine g_S3v (pc := 16) C ls8_37 dX8_minutes_16 (s8_inN N 1 24 (by decide) (by decide) hN (by decide)) (by decide) (Nat.le_of_ble_eq_true rfl) ?_
  refine g_if_neN (pc := 19) C 25 dX8_minutes_19 (by decide) (by decide) (fun _ => ?_) (fun q => absurd q (by decide))
  refine g_aload_n (pc := 25) C (hl := rfl) dX8_minutes_25 ?_
  refine g_get (pc := 26) C fl8_7 dX8_minutes_26 h0 rfl ?_
  refine g_iconst (pc := 29) C qk_iconst_2 dX8_minutes_29 ?_
  refine g_ialdV (pc := 30) C dX8_minutes_30 hW (by omega) (wT0_m T) ?_
  refine g_iload_n (pc := 31) C (hl := rfl) dX8_minutes_31 ?_
  refine g_iaddN (pc := 32) C dX8_minutes_32 ?_
  refine g_sipush (pc := 33) C qk_sipush_999 dX8_minutes_33 ?_
  refine g_ic_leN (pc := 36) C 42 dX8_minutes_36 (by decide) (by omega) (fun _ => ?_) (fun q => absurd (by omega) q)
  refine g_iconst (pc := 42) C qk_iconst_0 dX8_minutes_42 ?_
  refine g_istore_n (pc := 43) C rfl dX8_minutes_43 ?_
  exact l8_min hN.2 C F (N + 1) N 0 un W x _ (by omega) (by omega) h0 hW T hv hu (by omega) rfl rfl
