section QK
variable {Γ : q_X} {ad : Nat → Nat} {d mc ms : Nat} {own : String} {y : MethodName} {cc : ByteArray} {nL : Nat} {ret : Option FieldType} {pc : Nat} {la : List (Option Value)} {st : List Value} {n : Nat} {h : q_H} {k1 k2 : Nat}
theorem g_iandE (C : q_C Γ ad d mc ms own y cc nL ret) {x z w : Int32} (hw : x &&& z = w) (hdg : decode cc pc = .ok (.iand, 1)) (kk : q_G Γ ad nL (pc + 1) la (.int w :: st) n h k1 k2) : q_G Γ ad nL pc la (.int z :: .int x :: st) n h k1 k2 := g_iand C hdg (by rw [hw]; exact kk)
end QK
theorem q_255 (x : Int32) : ∃ k : Nat, k < 256 ∧ x &&& nI 255 = nI k := by
  refine ⟨(x &&& nI 255).toBitVec.toNat, ?_, ?_⟩
  · rw [Int32.toBitVec_and, BitVec.toNat_and]
    have e : (nI 255).toBitVec.toNat = 255 := by decide
    rw [e]
    have := @Nat.and_le_right x.toBitVec.toNat 255
    omega
  · apply Int32.toBitVec_inj.mp
    unfold nI
    simp
def mBy (v : Int64) (i : Nat) : Nat := ((v >>> ((nI (8 * i)).toInt64 &&& 63)).toInt32 &&& nI 255).toNatClampNeg
theorem mBy_e (v : Int64) (i : Nat) : (v >>> ((nI (8 * i)).toInt64 &&& 63)).toInt32 &&& nI 255 = nI (mBy v i) ∧ mBy v i < 256 := by
  obtain ⟨k, hk, e⟩ := q_255 (v >>> ((nI (8 * i)).toInt64 &&& 63)).toInt32
  unfold mBy
  rw [e, nI_clamp (by omega)]
  exact ⟨rfl, hk⟩
def mFd (v : Int64) : Nat → (Nat → Nat) × Nat → (Nat → Nat) × Nat
  | 0, s => s
  | m + 1, s => mFd v m (va_up s.1 s.2 (mBy v m), s.2 + 1)
theorem mFd_len (v : Int64) : ∀ (m : Nat) (s : (Nat → Nat) × Nat), (mFd v m s).2 = s.2 + m
  | 0, _ => rfl
  | m + 1, s => by
    show (mFd v m (va_up s.1 s.2 (mBy v m), s.2 + 1)).2 = _
    rw [mFd_len v m]
    show s.2 + 1 + m = s.2 + (m + 1)
    omega
theorem q_dn1 (m : Nat) : nI (m + 1) + Int32.ofInt (-1) = nI m := q_dec1 m
set_option maxHeartbeats 2000000 in
set_option maxRecDepth 20000 in
theorem s7_feedB {n : Nat} {h : q_H} {lf ld : Nat} {di fa len : Nat} {K : mK} {f : Nat → Nat} (v : Int64) (k : Int32) (h0 : h 0 = DO lf ld) (hrd : h 23 = XK 24 26 K di fa) (htp : h 24 = PO 25 len) (hby : h 25 = PA f) (hk : k < nI 1 ∨ nI 8 < k) : SP 1 yX7_feed cX7_feed 5 (some .int) [.ref 0, .long v, .int k] n h (some (.int (-1000001))) h := by
  refine q_SPi RX7 rfl (by decide +kernel) (la := _) rfl rfl (fun Γ ad C F => ?_)
  refine g_iload_n (pc := 0) C (hl := rfl) dX7_feed_0 ?_
  refine g_iconst (pc := 1) C qk_iconst_1 dX7_feed_1 ?_
  refine g_bipush (pc := 2) C qk_bipush_8 dX7_feed_2 ?_
  refine g_S3v (pc := 4) C ls7_59 dX7_feed_4 (s7_withinF _ _ _ hk) (by decide) (Nat.le_of_ble_eq_true rfl) ?_
  refine g_if_neN (pc := 7) C 13 dX7_feed_7 (by decide) (by decide) (fun q => absurd q (by decide)) (fun _ => ?_)
  refine g_ldc (pc := 10) C (v := -1000001) zk7_63 dX7_feed_10 ?_
  exact g_iret (pc := 12) C F dX7_feed_12 rfl rfl (rfl) (rfl)
set_option maxHeartbeats 2000000 in
set_option maxRecDepth 20000 in
theorem s7_feedM {n : Nat} {h : q_H} {lf ld : Nat} {di fa len : Nat} {K : mK} {f : Nat → Nat} (v : Int64) (k : Nat) (h0 : h 0 = DO lf ld) (hrd : h 23 = XK 24 26 K di fa) (htp : h 24 = PO 25 len) (hby : h 25 = PA f) (hk : 1 ≤ k ∧ k ≤ 8) (hl : 300 < len + k ∧ len ≤ 300) : SP 1 yX7_feed cX7_feed 5 (some .int) [.ref 0, .long v, .int (nI k)] n h (some (.int (-1000003))) h := by
  refine q_SPi RX7 rfl (by decide +kernel) (la := _) rfl rfl (fun Γ ad C F => ?_)
  refine g_iload_n (pc := 0) C (hl := rfl) dX7_feed_0 ?_
  refine g_iconst (pc := 1) C qk_iconst_1 dX7_feed_1 ?_
  refine g_bipush (pc := 2) C qk_bipush_8 dX7_feed_2 ?_
  refine g_S3v (pc := 4) C ls7_59 dX7_feed_4 (s7_withinN k 1 8 (by omega)) (by decide) (Nat.le_of_ble_eq_true rfl) ?_
  refine g_if_neN (pc := 7) C 13 dX7_feed_7 (by decide) (by decide) (fun _ => ?_) (fun q => absurd q (by decide))
  refine g_aload_n (pc := 13) C (hl := rfl) dX7_feed_13 ?_
  refine g_get (pc := 14) C fl7_26 dX7_feed_14 h0 rfl ?_
  refine g_get (pc := 17) C fl7_103 dX7_feed_17 hrd rfl ?_
  refine g_get (pc := 20) C fl7_107 dX7_feed_20 htp rfl ?_
  refine g_iload_n (pc := 23) C (hl := rfl) dX7_feed_23 ?_
  refine g_iaddN (pc := 24) C dX7_feed_24 ?_
  refine g_sipush (pc := 25) C qk_sipush_300 dX7_feed_25 ?_
  refine g_ic_leN (pc := 28) C 34 dX7_feed_28 (by decide) (by omega) (fun q => absurd q (by omega)) (fun _ => ?_)
  refine g_ldc (pc := 31) C (v := -1000003) zk7_110 dX7_feed_31 ?_
  exact g_iret (pc := 33) C F dX7_feed_33 rfl rfl (rfl) (rfl)
set_option maxHeartbeats 2000000 in
set_option maxRecDepth 20000 in
theorem l7_fd {Γ : q_X} {ad : Nat → Nat} {n k : Nat} {lf ld di fa : Nat} {K : mK} {v : Int64} {rz : Int32} {hF : q_H} (C : q_C Γ ad 1 0 0 RX7 yX7_feed cX7_feed 5 (some .int)) (F : q_N Γ ad n (some (.int rz)) hF) : ∀ (m len : Nat) (f : Nat → Nat) (w : Int32) (H : q_H), w = nI m + Int32.ofInt (-1) → H 0 = DO lf ld → H 23 = XK 24 26 K di fa → H 24 = PO 25 len → H 25 = PA f → len + m ≤ 300 → rz = nI (mFd v m (f, len)).2 → hF = q_up (q_up H 25 (PA (mFd v m (f, len)).1)) 24 (PO 25 (mFd v m (f, len)).2) → q_G Γ ad 5 39 [some (.ref 0), some (.long v), none, some (.int (nI k)), some (.int w)] [] n H 0 0 := by
  have n45 : (24 : Nat) ≠ 25 := by decide
  intro m
  induction m with
  | zero =>
    intro len f w H hw h0 hrd htp hby hl hz hH
    subst hw
    refine g_iload (pc := 39) C (hl := rfl) dX7_feed_39 ?_
    refine g_if_lt (pc := 41) C 72 dX7_feed_41 (by decide) (fun _ => ?_) (fun q => absurd (by decide) q)
    refine g_aload_n (pc := 72) C (hl := rfl) dX7_feed_72 ?_
    refine g_get (pc := 73) C fl7_26 dX7_feed_73 h0 rfl ?_
    refine g_get (pc := 76) C fl7_103 dX7_feed_76 hrd rfl ?_
    refine g_get (pc := 79) C fl7_107 dX7_feed_79 htp rfl ?_
    exact g_iret (pc := 82) C F dX7_feed_82 rfl rfl (by rw [hz]; rfl) (by rw [hH]; show H = q_up (q_up H 25 (PA f)) 24 (PO 25 len); rw [q_upI hby, q_upI htp])
  | succ m ih =>
    intro len f w H hw h0 hrd htp hby hl hz hH
    rw [q_dn1] at hw
    subst hw
    refine g_iload (pc := 39) C (hl := rfl) dX7_feed_39 ?_
    refine g_if_ltN (pc := 41) C 72 dX7_feed_41 (by decide) (by omega) ?_
    refine g_aload_n (pc := 44) C (hl := rfl) dX7_feed_44 ?_
    refine g_get (pc := 45) C fl7_26 dX7_feed_45 h0 rfl ?_
    refine g_get (pc := 48) C fl7_103 dX7_feed_48 hrd rfl ?_
    refine g_lload_n (pc := 51) C (hl := rfl) dX7_feed_51 ?_
    refine g_bipush (pc := 52) C qk_bipush_8 dX7_feed_52 ?_
    refine g_iload (pc := 54) C (hl := rfl) dX7_feed_54 ?_
    refine g_imulN (pc := 56) C dX7_feed_56 ?_
    refine g_lshr (pc := 57) C rfl dX7_feed_57 ?_
    refine g_l2i (pc := 58) C rfl dX7_feed_58 ?_
    refine g_sipush (pc := 59) C qk_sipush_255 dX7_feed_59 ?_
    refine g_iandE (pc := 62) C (mBy_e v m).1 dX7_feed_62 ?_
    refine g_V1u (pc := 63) C lv7_111 dX7_feed_63 (s6_add _ (htp) (hby) (by omega)) htp (by decide) (Nat.le_of_ble_eq_true rfl) ?_
    refine g_iinc (pc := 66) C (hl := rfl) rfl rfl dX7_feed_66 ?_
    refine g_goto (pc := 69) C 39 dX7_feed_69 (by decide) ?_
    refine ih _ _ _ _ rfl (((q_up_n _ _ (by omega)).trans ((q_up_n _ _ (by omega)).trans h0))) (((q_up_n _ _ (by omega)).trans ((q_up_n _ _ (by omega)).trans hrd))) ((q_up_s _ _ _)) (((q_up_n _ _ (by omega)).trans (q_up_s _ _ _))) (by omega) ?_ ?_
    · rw [hz]; rfl
    · rw [hH]; simp only [q_up_u, q_up_c _ n45]; rfl
set_option maxHeartbeats 2000000 in
set_option maxRecDepth 20000 in
theorem s7_feedT {n : Nat} {h : q_H} {lf ld : Nat} {di fa len : Nat} {K : mK} {f : Nat → Nat} (v : Int64) (k : Nat) (h0 : h 0 = DO lf ld) (hrd : h 23 = XK 24 26 K di fa) (htp : h 24 = PO 25 len) (hby : h 25 = PA f) (hk : 1 ≤ k ∧ k ≤ 8) (hl : len + k ≤ 300) : SP 1 yX7_feed cX7_feed 5 (some .int) [.ref 0, .long v, .int (nI k)] n h (some (.int (nI (mFd v k (f, len)).2))) (q_up (q_up h 25 (PA (mFd v k (f, len)).1)) 24 (PO 25 (mFd v k (f, len)).2)) := by
  refine q_SPi RX7 rfl (by decide +kernel) (la := _) rfl rfl (fun Γ ad C F => ?_)
  refine g_iload_n (pc := 0) C (hl := rfl) dX7_feed_0 ?_
  refine g_iconst (pc := 1) C qk_iconst_1 dX7_feed_1 ?_
  refine g_bipush (pc := 2) C qk_bipush_8 dX7_feed_2 ?_
  refine g_S3v (pc := 4) C ls7_59 dX7_feed_4 (s7_withinN k 1 8 (by omega)) (by decide) (Nat.le_of_ble_eq_true rfl) ?_
  refine g_if_neN (pc := 7) C 13 dX7_feed_7 (by decide) (by decide) (fun _ => ?_) (fun q => absurd q (by decide))
  refine g_aload_n (pc := 13) C (hl := rfl) dX7_feed_13 ?_
  refine g_get (pc := 14) C fl7_26 dX7_feed_14 h0 rfl ?_
  refine g_get (pc := 17) C fl7_103 dX7_feed_17 hrd rfl ?_
  refine g_get (pc := 20) C fl7_107 dX7_feed_20 htp rfl ?_
  refine g_iload_n (pc := 23) C (hl := rfl) dX7_feed_23 ?_
  refine g_iaddN (pc := 24) C dX7_feed_24 ?_
  refine g_sipush (pc := 25) C qk_sipush_300 dX7_feed_25 ?_
  refine g_ic_leN (pc := 28) C 34 dX7_feed_28 (by decide) (by omega) (fun _ => ?_) (fun q => absurd (by omega) q)
  refine g_iload_n (pc := 34) C (hl := rfl) dX7_feed_34 ?_
  refine g_iconst (pc := 35) C qk_iconst_1 dX7_feed_35 ?_
  refine g_isubN (pc := 36) C dX7_feed_36 (by omega) ?_
  refine g_istore (pc := 37) C rfl dX7_feed_37 ?_
  exact l7_fd C F k len f _ h (by have := q_dn1 (k - 1); rw [show k - 1 + 1 = k by omega] at this; exact this.symm) h0 hrd htp hby (by omega) rfl rfl
set_option maxHeartbeats 2000000 in
set_option maxRecDepth 20000 in
theorem s7_tableF {n : Nat} {h : q_H} {lf ld : Nat} {di fa len g2 tu2 mi2 o2 p2 e2 b2 g nx k : Nat} {K : mK} {f T2 : Nat → Nat} {x : mX} (h0 : h 0 = DO lf ld) (hrd : h 23 = XK 24 26 K di fa) (htp : h 24 = PO 25 len) (hby : h 25 = PA f) (htl : h 26 = TO 27 g2 tu2 mi2 o2 p2 e2 b2) (htc : h 27 = TA T2) (hlen : len ≤ 300) (hf : ∀ k, k < len → f k < 256) (hK : K.2.2.2 < 1000) (ht : h 28 = TX 29 g x) (hc : h 29 = TA x.1) (hA : h 30 = AO 31 nx k) (hq : ¬ (mRead f len K).2.1 = 0) (hq2 : (mRead f len K).2.1 < 10) : SP 8 yX7_table cX7_table 1 (some .int) [.ref 0] n h (some (.int (-1000100 - nI (mRead f len K).1.2.1))) (q_up (q_up (q_rd h 23 26 27 24 0 0 o2 p2 e2 b2 (mRead f len K)) 24 (PO 25 0)) 0 (DO (mRead f len K).2.1 ld)) := by
  refine q_SPi RX7 rfl (by decide +kernel) (la := _) rfl rfl (fun Γ ad C F => ?_)
  refine g_aload_n (pc := 0) C (hl := rfl) dX7_table_0 ?_
  refine g_get (pc := 1) C fl7_26 dX7_table_1 h0 rfl ?_
  refine g_V0u (pc := 4) C lv7_115 dX7_table_4 (s5_read hrd htp hby htl htc hlen hf (by decide) hK) hrd (by decide) (Nat.le_of_ble_eq_true rfl) ?_
  refine g_aload_n (pc := 7) C (hl := rfl) dX7_table_7 ?_
  refine g_get (pc := 8) C fl7_26 dX7_table_8 ((q_rd_n (by decide) (by decide) (by decide)).trans h0) rfl ?_
  refine g_get (pc := 11) C fl7_103 dX7_table_11 (q_rd_r (by decide) (by decide)) rfl ?_
  refine g_V0u (pc := 14) C lv7_118 dX7_table_14 (s6_clear (((q_rd_n (by decide) (by decide) (by decide)).trans htp))) ((q_rd_n (by decide) (by decide) (by decide)).trans htp) (by decide) (Nat.le_of_ble_eq_true rfl) ?_
  refine g_aload_n (pc := 17) C (hl := rfl) dX7_table_17 ?_
  refine g_get (pc := 18) C fl7_26 dX7_table_18 ((q_up_n _ _ (by omega)).trans ((q_rd_n (by decide) (by decide) (by decide)).trans h0)) rfl ?_
  refine g_get (pc := 21) C fl7_121 dX7_table_21 ((q_up_n _ _ (by omega)).trans (q_rd_r (by decide) (by decide))) rfl ?_
  refine g_if_eqN (pc := 24) C 49 dX7_table_24 (by decide) (by omega) (fun q => absurd q (hq)) (fun _ => ?_)
  refine g_aload_n (pc := 27) C (hl := rfl) dX7_table_27 ?_
  refine g_aload_n (pc := 28) C (hl := rfl) dX7_table_28 ?_
  refine g_get (pc := 29) C fl7_26 dX7_table_29 ((q_up_n _ _ (by omega)).trans ((q_rd_n (by decide) (by decide) (by decide)).trans h0)) rfl ?_
  refine g_get (pc := 32) C fl7_121 dX7_table_32 ((q_up_n _ _ (by omega)).trans (q_rd_r (by decide) (by decide))) rfl ?_
  refine g_put (pc := 35) C fp7_124 dX7_table_35 ((q_up_n _ _ (by omega)).trans ((q_rd_n (by decide) (by decide) (by decide)).trans h0)) (Nat.le_of_ble_eq_true rfl) ?_
  refine g_ldc (pc := 38) C (v := -1000100) zk7_127 dX7_table_38 ?_
  refine g_aload_n (pc := 40) C (hl := rfl) dX7_table_40 ?_
  refine g_get (pc := 41) C fl7_26 dX7_table_41 (q_up_s _ _ _) rfl ?_
  refine g_get (pc := 44) C fl7_128 dX7_table_44 ((q_up_n _ _ (by omega)).trans ((q_up_n _ _ (by omega)).trans (q_rd_r (by decide) (by decide)))) rfl ?_
  refine g_isub (pc := 47) C dX7_table_47 ?_
  exact g_iret (pc := 48) C F dX7_table_48 rfl rfl (rfl) (rfl)
set_option maxHeartbeats 2000000 in
set_option maxRecDepth 20000 in
theorem s7_tableT {n : Nat} {h : q_H} {lf ld : Nat} {di fa len g2 tu2 mi2 o2 p2 e2 b2 g nx k : Nat} {K : mK} {f T2 : Nat → Nat} {x : mX} (h0 : h 0 = DO lf ld) (hrd : h 23 = XK 24 26 K di fa) (htp : h 24 = PO 25 len) (hby : h 25 = PA f) (htl : h 26 = TO 27 g2 tu2 mi2 o2 p2 e2 b2) (htc : h 27 = TA T2) (hlen : len ≤ 300) (hf : ∀ k, k < len → f k < 256) (hK : K.2.2.2 < 1000) (ht : h 28 = TX 29 g x) (hc : h 29 = TA x.1) (hA : h 30 = AO 31 nx k) (hq : (mRead f len K).2.1 = 0) : SP 8 yX7_table cX7_table 1 (some .int) [.ref 0] n h (some (.int (nI (mRead f len K).2.2.1))) (q_up (q_up (q_up (q_up (q_rd h 23 26 27 24 0 0 o2 p2 e2 b2 (mRead f len K)) 24 (PO 25 0)) 29 (TA (mRead f len K).2.2.2.2)) 28 (TO 29 (mRead f len K).2.2.1 0 0 x.2.2.2.1 x.2.2.2.2.1 x.2.2.2.2.2.1 x.2.2.2.2.2.2)) 30 (AO 31 nx 0)) := by
  refine q_SPi RX7 rfl (by decide +kernel) (la := _) rfl rfl (fun Γ ad C F => ?_)
  refine g_aload_n (pc := 0) C (hl := rfl) dX7_table_0 ?_
  refine g_get (pc := 1) C fl7_26 dX7_table_1 h0 rfl ?_
  refine g_V0u (pc := 4) C lv7_115 dX7_table_4 (s5_read hrd htp hby htl htc hlen hf (by decide) hK) hrd (by decide) (Nat.le_of_ble_eq_true rfl) ?_
  refine g_aload_n (pc := 7) C (hl := rfl) dX7_table_7 ?_
  refine g_get (pc := 8) C fl7_26 dX7_table_8 ((q_rd_n (by decide) (by decide) (by decide)).trans h0) rfl ?_
  refine g_get (pc := 11) C fl7_103 dX7_table_11 (q_rd_r (by decide) (by decide)) rfl ?_
  refine g_V0u (pc := 14) C lv7_118 dX7_table_14 (s6_clear (((q_rd_n (by decide) (by decide) (by decide)).trans htp))) ((q_rd_n (by decide) (by decide) (by decide)).trans htp) (by decide) (Nat.le_of_ble_eq_true rfl) ?_
  refine g_aload_n (pc := 17) C (hl := rfl) dX7_table_17 ?_
  refine g_get (pc := 18) C fl7_26 dX7_table_18 ((q_up_n _ _ (by omega)).trans ((q_rd_n (by decide) (by decide) (by decide)).trans h0)) rfl ?_
  refine g_get (pc := 21) C fl7_121 dX7_table_21 ((q_up_n _ _ (by omega)).trans (q_rd_r (by decide) (by decide))) rfl ?_
  refine g_if_eqN (pc := 24) C 49 dX7_table_24 (by decide) (by omega) (fun _ => ?_) (fun q => absurd (hq) q)
  refine g_aload_n (pc := 49) C (hl := rfl) dX7_table_49 ?_
  refine g_get (pc := 50) C fl7_30 dX7_table_50 ((q_up_n _ _ (by omega)).trans ((q_rd_n (by decide) (by decide) (by decide)).trans h0)) rfl ?_
  refine g_aload_n (pc := 53) C (hl := rfl) dX7_table_53 ?_
  refine g_get (pc := 54) C fl7_26 dX7_table_54 ((q_up_n _ _ (by omega)).trans ((q_rd_n (by decide) (by decide) (by decide)).trans h0)) rfl ?_
  refine g_get (pc := 57) C fl7_131 dX7_table_57 ((q_up_n _ _ (by omega)).trans (q_rd_r (by decide) (by decide))) rfl ?_
  refine g_V1u (pc := 60) C lv7_134 dX7_table_60 (s4_become (((q_up_n _ _ (by omega)).trans ((q_rd_n (by decide) (by decide) (by decide)).trans ht))) (((q_up_n _ _ (by omega)).trans ((q_rd_n (by decide) (by decide) (by decide)).trans hc))) (((q_up_n _ _ (by omega)).trans q_rd_t)) (((q_up_n _ _ (by omega)).trans (q_rd_c (by decide)))) (by decide)) ((q_up_n _ _ (by omega)).trans ((q_rd_n (by decide) (by decide) (by decide)).trans ht)) (by decide) (Nat.le_of_ble_eq_true rfl) ?_
  refine g_aload_n (pc := 63) C (hl := rfl) dX7_table_63 ?_
  refine g_get (pc := 64) C fl7_37 dX7_table_64 ((q_up_n _ _ (by omega)).trans ((q_up_n _ _ (by omega)).trans ((q_up_n _ _ (by omega)).trans ((q_rd_n (by decide) (by decide) (by decide)).trans h0)))) rfl ?_
  refine g_V0u (pc := 67) C lv7_138 dX7_table_67 (s0_forget (((q_up_n _ _ (by omega)).trans ((q_up_n _ _ (by omega)).trans ((q_up_n _ _ (by omega)).trans ((q_rd_n (by decide) (by decide) (by decide)).trans hA)))))) ((q_up_n _ _ (by omega)).trans ((q_up_n _ _ (by omega)).trans ((q_up_n _ _ (by omega)).trans ((q_rd_n (by decide) (by decide) (by decide)).trans hA)))) (by decide) (Nat.le_of_ble_eq_true rfl) ?_
  refine g_aload_n (pc := 70) C (hl := rfl) dX7_table_70 ?_
  refine g_get (pc := 71) C fl7_30 dX7_table_71 ((q_up_n _ _ (by omega)).trans ((q_up_n _ _ (by omega)).trans ((q_up_n _ _ (by omega)).trans ((q_up_n _ _ (by omega)).trans ((q_rd_n (by decide) (by decide) (by decide)).trans h0))))) rfl ?_
  refine g_get (pc := 74) C fl7_141 dX7_table_74 ((q_up_n _ _ (by omega)).trans (q_up_s _ _ _)) rfl ?_
  exact g_iret (pc := 77) C F dX7_table_77 rfl rfl (rfl) (rfl)
