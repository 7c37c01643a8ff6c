theorem mLg_ok {f : Nat → Nat} {len : Nat} (hf : ∀ k, k < len → f k < 256) : ∀ (m : Nat) (S : mP), mPo len S → mPo len (mLg f len m S)
  | 0, _, h => h
  | m + 1, S, h => by
    show mPo len (if S.2.1 = 0 ∧ mWd f S.1 0 = true then mLg f len m (mRg f len S) else S)
    split
    · exact mLg_ok hf m _ (mRg_ok hf h)
    · exact h
theorem mLd_ok {f : Nat → Nat} {len : Nat} (hf : ∀ k, k < len → f k < 256) : ∀ (m : Nat) (S : mP), mPo len S → mPo len (mLd f len m S)
  | 0, _, h => h
  | m + 1, S, h => by
    show mPo len (if S.2.1 = 0 ∧ mWd f S.1 6 = true then mLd f len m (mRd f len S) else S)
    split
    · exact mLd_ok hf m _ (mRd_ok hf h)
    · exact h
set_option maxHeartbeats 2000000 in
set_option maxRecDepth 20000 in
theorem l5_end {Γ : q_X} {ad : Nat → Nat} {n r t c pt pb tu mi o p e b len : Nat} {f : Nat → Nat} {hF : q_H} (hlen : len ≤ 300) (hf : ∀ k, k < len → f k < 256) (hbc : pb ≠ c) (C : q_C Γ ad 7 0 0 RX5 yX5_read cX5_read 2 none) (F : q_N Γ ad n none hF) (S : mP) (v1 : Option Value) (H : q_H) (hr : H r = XK pt t S.1 S.2.2.2.1 S.2.1) (hpt : H pt = PO pb len) (hpb : H pb = PA f) (ht : H t = TO c S.2.2.1 tu mi o p e b) (hc : H c = TA S.2.2.2.2) (hS : mPo len S) (hF_ : hF = q_rd H r t c pt tu mi o p e b (mFin S)) : q_G Γ ad 2 107 [some (.ref r), v1] [] n H 0 0 := by
  have nrp : r ≠ pt := fun q => by rw [q, hpt] at hr; cases hr
  have nrb : r ≠ pb := fun q => by rw [q, hpb] at hr; cases hr
  have nrt : r ≠ t := fun q => by rw [q, ht] at hr; cases hr
  have nrc : r ≠ c := fun q => by rw [q, hc] at hr; cases hr
  have npt : pt ≠ t := fun q => by rw [q, ht] at hpt; cases hpt
  have npc : pt ≠ c := fun q => by rw [q, hc] at hpt; cases hpt
  have nbt : pb ≠ t := fun q => by rw [q, ht] at hpb; cases hpb
  have ntc : t ≠ c := fun q => by rw [q, hc] at ht; cases ht
  obtain ⟨⟨k1, k2, k3, k4⟩, hfa, hg, hd⟩ := hS
  refine g_aload_n (pc := 107) C (hl := rfl) dX5_read_107 ?_
  refine g_get (pc := 108) C fl5_44 dX5_read_108 hr rfl ?_
  refine g_if_neN (pc := 111) C 127 dX5_read_111 (by decide) (by omega) (fun c111 => ?_) (fun c111 => ?_)
  · exact g_vret (pc := 127) C F dX5_read_127 rfl rfl (by rw [hF_]; unfold mFin; rw [if_neg (fun z => c111 z.1)]; exact (q_rd_0 hr hc ht).symm)
  · refine g_aload_n (pc := 114) C (hl := rfl) dX5_read_114 ?_
    refine g_get (pc := 115) C fl5_55 dX5_read_115 hr rfl ?_
    refine g_iconst (pc := 118) C qk_iconst_3 dX5_read_118 ?_
    refine g_ic_eqN (pc := 119) C 127 dX5_read_119 (by decide) (by omega) (fun c119 => ?_) (fun c119 => ?_)
    · exact g_vret (pc := 127) C F dX5_read_127 rfl rfl (by rw [hF_]; unfold mFin; rw [if_neg (fun z => z.2 c119)]; exact (q_rd_0 hr hc ht).symm)
    · refine g_aload_n (pc := 122) C (hl := rfl) dX5_read_122 ?_
      refine g_iconst (pc := 123) C qk_iconst_1 dX5_read_123 ?_
      refine g_put (pc := 124) C fp5_44 dX5_read_124 hr (Nat.le_of_ble_eq_true rfl) ?_
      exact g_vret (pc := 127) C F dX5_read_127 rfl rfl (by rw [hF_]; unfold q_rd mFin; rw [if_pos ⟨c111, c119⟩]; (try simp only [q_up_u]); rw [q_upI (h := q_up H r _) ((q_up_n _ _ (Ne.symm nrc)).trans hc), q_upI (h := q_up H r _) ((q_up_n _ _ (Ne.symm nrt)).trans ht)]; first | done | rfl)
set_option maxHeartbeats 2000000 in
set_option maxRecDepth 20000 in
theorem l5_ds {Γ : q_X} {ad : Nat → Nat} {n r t c pt pb tu mi o p e b len : Nat} {f : Nat → Nat} {hF : q_H} (hlen : len ≤ 300) (hf : ∀ k, k < len → f k < 256) (hbc : pb ≠ c) (C : q_C Γ ad 7 0 0 RX5 yX5_read cX5_read 2 none) (F : q_N Γ ad n none hF) : ∀ (m i : Nat) (S : mP) (H : q_H), i + m = 7 → i ≤ 7 → H r = XK pt t S.1 S.2.2.2.1 S.2.1 → H pt = PO pb len → H pb = PA f → H t = TO c S.2.2.1 tu mi o p e b → H c = TA S.2.2.2.2 → mPo len S → hF = q_rd H r t c pt tu mi o p e b (mFin (mLd f len m S)) → q_G Γ ad 2 75 [some (.ref r), some (.int (nI i))] [] n H 0 0 := by
  intro m
  induction m with
  | zero =>
    intro i S H hm hi hr hpt hpb ht hc hS hF_
    have e3 : mLd f len 0 S = S := rfl
    rw [e3] at hF_
    refine g_iload_n (pc := 75) C (hl := rfl) dX5_read_75 ?_
    refine g_bipush (pc := 76) C qk_bipush_6 dX5_read_76 ?_
    refine g_ic_gtN (pc := 78) C 107 dX5_read_78 (by decide) (by omega) (fun _ => ?_) (fun q => absurd (by omega) q)
    exact l5_end hlen hf hbc C F S _ H hr hpt hpb ht hc hS hF_
  | succ m ih =>
    intro i S H hm hi hr hpt hpb ht hc hS hF_
    have nrp : r ≠ pt := fun q => by rw [q, hpt] at hr; cases hr
    have nrb : r ≠ pb := fun q => by rw [q, hpb] at hr; cases hr
    have nrt : r ≠ t := fun q => by rw [q, ht] at hr; cases hr
    have nrc : r ≠ c := fun q => by rw [q, hc] at hr; cases hr
    have npt : pt ≠ t := fun q => by rw [q, ht] at hpt; cases hpt
    have npc : pt ≠ c := fun q => by rw [q, hc] at hpt; cases hpt
    have nbt : pb ≠ t := fun q => by rw [q, ht] at hpb; cases hpb
    have ntc : t ≠ c := fun q => by rw [q, hc] at ht; cases ht
    have hfa := hS.2.1
    refine g_iload_n (pc := 75) C (hl := rfl) dX5_read_75 ?_
    refine g_bipush (pc := 76) C qk_bipush_6 dX5_read_76 ?_
    refine g_ic_gtN (pc := 78) C 107 dX5_read_78 (by decide) (by omega) (fun q => absurd q (by omega)) (fun _ => ?_)
    refine g_aload_n (pc := 81) C (hl := rfl) dX5_read_81 ?_
    refine g_get (pc := 82) C fl5_44 dX5_read_82 hr rfl ?_
    refine g_if_neN (pc := 85) C 107 dX5_read_85 (by decide) (by omega) (fun c85 => ?_) (fun c85 => ?_)
    · have e3 : mLd f len (m + 1) S = S := if_neg (fun z => c85 z.1)
      rw [e3] at hF_
      exact l5_end hlen hf hbc C F S _ H hr hpt hpb ht hc hS hF_
    · refine g_aload_n (pc := 88) C (hl := rfl) dX5_read_88 ?_
      refine g_ldcS (pc := 89) C (i := 6) zstr_50 dX5_read_89 ?_
      by_cases e6 : mWd f S.1 6 = true
      · refine g_V1v (pc := 91) C lv5_40 dX5_read_91 (s5_isWordT 6 (hr) (hpt) (hpb) hlen hf hS.1 (by decide) e6) hr (by decide) (Nat.le_of_ble_eq_true rfl) ?_
        refine g_if_eqN (pc := 94) C 107 dX5_read_94 (by decide) (by decide) (fun q => absurd q (by decide)) (fun _ => ?_)
        refine g_aload_n (pc := 97) C (hl := rfl) dX5_read_97 ?_
        refine g_V0u (pc := 98) C lv5_52 dX5_read_98 (s5_rd (hr) (hpt) (hpb) (ht) (hc) hlen hf hbc hS) hr (by decide) (Nat.le_of_ble_eq_true rfl) ?_
        refine g_iincN (pc := 101) C (hl := rfl) (q_inc1 _) rfl dX5_read_101 ?_
        refine g_goto (pc := 104) C 75 dX5_read_104 (by decide) ?_
        have e3 : mLd f len (m + 1) S = mLd f len m (mRd f len S) := if_pos ⟨c85, e6⟩
        rw [e3] at hF_
        exact ih (i + 1) _ _ (by omega) (by omega) ((q_rd_r nrt nrc)) (((q_rd_n (Ne.symm nrp) npt npc).trans hpt)) (((q_rd_n (Ne.symm nrb) nbt hbc).trans hpb)) (q_rd_t) ((q_rd_c ntc)) (mRd_ok hf hS) (by rw [hF_, q_rd_rd nrt nrc ntc])
      · refine g_V1v (pc := 91) C lv5_40 dX5_read_91 (s5_isWordF 6 (hr) (hpt) (hpb) hlen hf hS.1 (by decide) e6) hr (by decide) (Nat.le_of_ble_eq_true rfl) ?_
        refine g_if_eqN (pc := 94) C 107 dX5_read_94 (by decide) (by decide) (fun _ => ?_) (fun q => absurd q (by decide))
        have e3 : mLd f len (m + 1) S = S := if_neg (fun z => e6 z.2)
        rw [e3] at hF_
        exact l5_end hlen hf hbc C F S _ H hr hpt hpb ht hc hS hF_
set_option maxHeartbeats 2000000 in
set_option maxRecDepth 20000 in
theorem l5_mid {Γ : q_X} {ad : Nat → Nat} {n r t c pt pb tu mi o p e b len : Nat} {f : Nat → Nat} {hF : q_H} (hlen : len ≤ 300) (hf : ∀ k, k < len → f k < 256) (hbc : pb ≠ c) (C : q_C Γ ad 7 0 0 RX5 yX5_read cX5_read 2 none) (F : q_N Γ ad n none hF) (S : mP) (i : Nat) (H : q_H) (hr : H r = XK pt t S.1 S.2.2.2.1 S.2.1) (hpt : H pt = PO pb len) (hpb : H pb = PA f) (ht : H t = TO c S.2.2.1 tu mi o p e b) (hc : H c = TA S.2.2.2.2) (hS : mPo len S) (hF_ : hF = q_rd H r t c pt tu mi o p e b (mFin (mLd f len 7 S))) : q_G Γ ad 2 73 [some (.ref r), some (.int (nI i))] [] n H 0 0 := by
  refine g_iconst (pc := 73) C qk_iconst_0 dX5_read_73 ?_
  refine g_istore_n (pc := 74) C rfl dX5_read_74 ?_
  exact l5_ds hlen hf hbc C F 7 0 S H (by omega) (by omega) hr hpt hpb ht hc hS hF_
set_option maxHeartbeats 2000000 in
set_option maxRecDepth 20000 in
theorem l5_gs {Γ : q_X} {ad : Nat → Nat} {n r t c pt pb tu mi o p e b len : Nat} {f : Nat → Nat} {hF : q_H} (hlen : len ≤ 300) (hf : ∀ k, k < len → f k < 256) (hbc : pb ≠ c) (C : q_C Γ ad 7 0 0 RX5 yX5_read cX5_read 2 none) (F : q_N Γ ad n none hF) : ∀ (m i : Nat) (S : mP) (H : q_H), i + m = 7 → i ≤ 7 → H r = XK pt t S.1 S.2.2.2.1 S.2.1 → H pt = PO pb len → H pb = PA f → H t = TO c S.2.2.1 tu mi o p e b → H c = TA S.2.2.2.2 → mPo len S → hF = q_rd H r t c pt tu mi o p e b ((fun S => mFin (mLd f len 7 S)) (mLg f len m S)) → q_G Γ ad 2 41 [some (.ref r), some (.int (nI i))] [] n H 0 0 := by
  intro m
  induction m with
  | zero =>
    intro i S H hm hi hr hpt hpb ht hc hS hF_
    have e3 : mLg f len 0 S = S := rfl
    rw [e3] at hF_
    refine g_iload_n (pc := 41) C (hl := rfl) dX5_read_41 ?_
    refine g_bipush (pc := 42) C qk_bipush_6 dX5_read_42 ?_
    refine g_ic_gtN (pc := 44) C 73 dX5_read_44 (by decide) (by omega) (fun _ => ?_) (fun q => absurd (by omega) q)
    exact l5_mid hlen hf hbc C F S _ H hr hpt hpb ht hc hS hF_
  | succ m ih =>
    intro i S H hm hi hr hpt hpb ht hc hS hF_
    have nrp : r ≠ pt := fun q => by rw [q, hpt] at hr; cases hr
    have nrb : r ≠ pb := fun q => by rw [q, hpb] at hr; cases hr
    have nrt : r ≠ t := fun q => by rw [q, ht] at hr; cases hr
    have nrc : r ≠ c := fun q => by rw [q, hc] at hr; cases hr
    have npt : pt ≠ t := fun q => by rw [q, ht] at hpt; cases hpt
    have npc : pt ≠ c := fun q => by rw [q, hc] at hpt; cases hpt
    have nbt : pb ≠ t := fun q => by rw [q, ht] at hpb; cases hpb
    have ntc : t ≠ c := fun q => by rw [q, hc] at ht; cases ht
    have hfa := hS.2.1
    refine g_iload_n (pc := 41) C (hl := rfl) dX5_read_41 ?_
    refine g_bipush (pc := 42) C qk_bipush_6 dX5_read_42 ?_
    refine g_ic_gtN (pc := 44) C 73 dX5_read_44 (by decide) (by omega) (fun q => absurd q (by omega)) (fun _ => ?_)
    refine g_aload_n (pc := 47) C (hl := rfl) dX5_read_47 ?_
    refine g_get (pc := 48) C fl5_44 dX5_read_48 hr rfl ?_
    refine g_if_neN (pc := 51) C 73 dX5_read_51 (by decide) (by omega) (fun c51 => ?_) (fun c51 => ?_)
    · have e3 : mLg f len (m + 1) S = S := if_neg (fun z => c51 z.1)
      rw [e3] at hF_
      exact l5_mid hlen hf hbc C F S _ H hr hpt hpb ht hc hS hF_
    · refine g_aload_n (pc := 54) C (hl := rfl) dX5_read_54 ?_
      refine g_ldcS (pc := 55) C (i := 0) zstr_38 dX5_read_55 ?_
      by_cases e0 : mWd f S.1 0 = true
      · refine g_V1v (pc := 57) C lv5_40 dX5_read_57 (s5_isWordT 0 (hr) (hpt) (hpb) hlen hf hS.1 (by decide) e0) hr (by decide) (Nat.le_of_ble_eq_true rfl) ?_
        refine g_if_eqN (pc := 60) C 73 dX5_read_60 (by decide) (by decide) (fun q => absurd q (by decide)) (fun _ => ?_)
        refine g_aload_n (pc := 63) C (hl := rfl) dX5_read_63 ?_
        refine g_V0u (pc := 64) C lv5_47 dX5_read_64 (s5_rg (hr) (hpt) (hpb) (ht) (hc) hlen hf hbc hS) hr (by decide) (Nat.le_of_ble_eq_true rfl) ?_
        refine g_iincN (pc := 67) C (hl := rfl) (q_inc1 _) rfl dX5_read_67 ?_
        refine g_goto (pc := 70) C 41 dX5_read_70 (by decide) ?_
        have e3 : mLg f len (m + 1) S = mLg f len m (mRg f len S) := if_pos ⟨c51, e0⟩
        rw [e3] at hF_
        exact ih (i + 1) _ _ (by omega) (by omega) ((q_rd_r nrt nrc)) (((q_rd_n (Ne.symm nrp) npt npc).trans hpt)) (((q_rd_n (Ne.symm nrb) nbt hbc).trans hpb)) (q_rd_t) ((q_rd_c ntc)) (mRg_ok hf hS) (by rw [hF_, q_rd_rd nrt nrc ntc])
      · refine g_V1v (pc := 57) C lv5_40 dX5_read_57 (s5_isWordF 0 (hr) (hpt) (hpb) hlen hf hS.1 (by decide) e0) hr (by decide) (Nat.le_of_ble_eq_true rfl) ?_
        refine g_if_eqN (pc := 60) C 73 dX5_read_60 (by decide) (by decide) (fun _ => ?_) (fun q => absurd q (by decide))
        have e3 : mLg f len (m + 1) S = S := if_neg (fun z => e0 z.2)
        rw [e3] at hF_
        exact l5_mid hlen hf hbc C F S _ H hr hpt hpb ht hc hS hF_
set_option maxHeartbeats 2000000 in
set_option maxRecDepth 20000 in
theorem s5_read {n : Nat} {h : q_H} {r t c pt pb g tu mi o p e b len di fa : Nat} {K : mK} {T f : Nat → Nat} (hr : h r = XK pt t K di fa) (hpt : h pt = PO pb len) (hpb : h pb = PA f) (ht : h t = TO c g tu mi o p e b) (hc : h c = TA T) (hlen : len ≤ 300) (hf : ∀ k, k < len → f k < 256) (hbc : pb ≠ c) (hK : K.2.2.2 < 1000) : SP 7 yX5_read cX5_read 2 none [.ref r] n h none (q_rd h r t c pt 0 0 o p e b (mRead f len K)) := by
  have nrp : r ≠ pt := fun q => by rw [q, hpt] at hr; cases hr
  have nrb : r ≠ pb := fun q => by rw [q, hpb] at hr; cases hr
  have nrt : r ≠ t := fun q => by rw [q, ht] at hr; cases hr
  have nrc : r ≠ c := fun q => by rw [q, hc] at hr; cases hr
  have npt : pt ≠ t := fun q => by rw [q, ht] at hpt; cases hpt
  have npc : pt ≠ c := fun q => by rw [q, hc] at hpt; cases hpt
  have nbt : pb ≠ t := fun q => by rw [q, ht] at hpb; cases hpb
  have ntc : t ≠ c := fun q => by rw [q, hc] at ht; cases ht
  have hn := mNxt_ok (f := f) (len := len) (K := (K.1, K.2.1, 0, K.2.2.2)) hf ⟨Nat.zero_le _, hK⟩
  refine q_SPi RX5 rfl (by decide +kernel) (la := _) rfl rfl (fun Γ ad C F => ?_)
  refine g_aload_n (pc := 0) C (hl := rfl) dX5_read_0 ?_
  refine g_get (pc := 1) C fl5_21 dX5_read_1 hr rfl ?_
  refine g_V0u (pc := 4) C lv5_25 dX5_read_4 (s4_clear (ht) (hc)) ht (by decide) (Nat.le_of_ble_eq_true rfl) ?_
  refine g_aload_n (pc := 7) C (hl := rfl) dX5_read_7 ?_
  refine g_iconst (pc := 8) C qk_iconst_0 dX5_read_8 ?_
  refine g_put (pc := 9) C fp5_28 dX5_read_9 ((q_up_n _ _ nrc).trans ((q_up_n _ _ nrt).trans hr)) (Nat.le_of_ble_eq_true rfl) ?_
  refine g_aload_n (pc := 12) C (hl := rfl) dX5_read_12 ?_
  refine g_iconst (pc := 13) C qk_iconst_0 dX5_read_13 ?_
  refine g_put (pc := 14) C fp5_32 dX5_read_14 (q_up_s _ _ _) (Nat.le_of_ble_eq_true rfl) ?_
  refine g_aload_n (pc := 17) C (hl := rfl) dX5_read_17 ?_
  refine g_V0u (pc := 18) C lv5_35 dX5_read_18 (s5_next (K := (K.1, K.2.1, 0, K.2.2.2)) ((q_up_s _ _ _)) (((q_up_n _ _ (Ne.symm nrp)).trans ((q_up_n _ _ (Ne.symm nrp)).trans ((q_up_n _ _ npc).trans ((q_up_n _ _ npt).trans hpt))))) (((q_up_n _ _ (Ne.symm nrb)).trans ((q_up_n _ _ (Ne.symm nrb)).trans ((q_up_n _ _ hbc).trans ((q_up_n _ _ nbt).trans hpb))))) hlen hf (Nat.zero_le _)) (q_up_s _ _ _) (by decide) (Nat.le_of_ble_eq_true rfl) ?_
  refine g_aload_n (pc := 21) C (hl := rfl) dX5_read_21 ?_
  refine g_aload_n (pc := 22) C (hl := rfl) dX5_read_22 ?_
  refine g_ldcS (pc := 23) C (i := 0) zstr_38 dX5_read_23 ?_
  by_cases e0 : mWd f (mNxt f len (K.1, K.2.1, 0, K.2.2.2)) 0 = true
  · refine g_V1v (pc := 25) C lv5_40 dX5_read_25 (s5_isWordT 0 ((q_up_s _ _ _)) (((q_up_n _ _ (Ne.symm nrp)).trans ((q_up_n _ _ (Ne.symm nrp)).trans ((q_up_n _ _ (Ne.symm nrp)).trans ((q_up_n _ _ npc).trans ((q_up_n _ _ npt).trans hpt)))))) (((q_up_n _ _ (Ne.symm nrb)).trans ((q_up_n _ _ (Ne.symm nrb)).trans ((q_up_n _ _ (Ne.symm nrb)).trans ((q_up_n _ _ hbc).trans ((q_up_n _ _ nbt).trans hpb)))))) hlen hf hn (by decide) e0) (q_up_s _ _ _) (by decide) (Nat.le_of_ble_eq_true rfl) ?_
    refine g_if_eqN (pc := 28) C 35 dX5_read_28 (by decide) (by decide) (fun q => absurd q (by decide)) (fun _ => ?_)
    refine g_iconst (pc := 31) C qk_iconst_0 dX5_read_31 ?_
    refine g_goto (pc := 32) C 36 dX5_read_32 (by decide) ?_
    refine g_put (pc := 36) C fp5_44 dX5_read_36 (q_up_s _ _ _) (Nat.le_of_ble_eq_true rfl) ?_
    refine g_iconst (pc := 39) C qk_iconst_0 dX5_read_39 ?_
    refine g_istore_n (pc := 40) C rfl dX5_read_40 ?_
    exact l5_gs (tu := 0) (mi := 0) hlen hf hbc C F 7 0 ((mNxt f len (K.1, K.2.1, 0, K.2.2.2)), 0, 0, 0, fun _ => 0) _ (by omega) (by omega) ((q_up_s _ _ _)) (((q_up_n _ _ (Ne.symm nrp)).trans ((q_up_n _ _ (Ne.symm nrp)).trans ((q_up_n _ _ (Ne.symm nrp)).trans ((q_up_n _ _ (Ne.symm nrp)).trans ((q_up_n _ _ npc).trans ((q_up_n _ _ npt).trans hpt))))))) (((q_up_n _ _ (Ne.symm nrb)).trans ((q_up_n _ _ (Ne.symm nrb)).trans ((q_up_n _ _ (Ne.symm nrb)).trans ((q_up_n _ _ (Ne.symm nrb)).trans ((q_up_n _ _ hbc).trans ((q_up_n _ _ nbt).trans hpb))))))) (((q_up_n _ _ (Ne.symm nrt)).trans ((q_up_n _ _ (Ne.symm nrt)).trans ((q_up_n _ _ (Ne.symm nrt)).trans ((q_up_n _ _ (Ne.symm nrt)).trans ((q_up_n _ _ ntc).trans (q_up_s _ _ _))))))) (((q_up_n _ _ (Ne.symm nrc)).trans ((q_up_n _ _ (Ne.symm nrc)).trans ((q_up_n _ _ (Ne.symm nrc)).trans ((q_up_n _ _ (Ne.symm nrc)).trans (q_up_s _ _ _)))))) ⟨hn, Nat.le_of_ble_eq_true rfl, Nat.zero_le _, Nat.zero_le _⟩ (by unfold mRead q_rd; rw [if_pos e0]; simp only [q_up_u, q_up_c _ (Ne.symm nrc), q_up_c _ (Ne.symm nrt), q_up_c _ ntc])
  · refine g_V1v (pc := 25) C lv5_40 dX5_read_25 (s5_isWordF 0 ((q_up_s _ _ _)) (((q_up_n _ _ (Ne.symm nrp)).trans ((q_up_n _ _ (Ne.symm nrp)).trans ((q_up_n _ _ (Ne.symm nrp)).trans ((q_up_n _ _ npc).trans ((q_up_n _ _ npt).trans hpt)))))) (((q_up_n _ _ (Ne.symm nrb)).trans ((q_up_n _ _ (Ne.symm nrb)).trans ((q_up_n _ _ (Ne.symm nrb)).trans ((q_up_n _ _ hbc).trans ((q_up_n _ _ nbt).trans hpb)))))) hlen hf hn (by decide) e0) (q_up_s _ _ _) (by decide) (Nat.le_of_ble_eq_true rfl) ?_
    refine g_if_eqN (pc := 28) C 35 dX5_read_28 (by decide) (by decide) (fun _ => ?_) (fun q => absurd q (by decide))
    refine g_iconst (pc := 35) C qk_iconst_1 dX5_read_35 ?_
    refine g_put (pc := 36) C fp5_44 dX5_read_36 (q_up_s _ _ _) (Nat.le_of_ble_eq_true rfl) ?_
    refine g_iconst (pc := 39) C qk_iconst_0 dX5_read_39 ?_
    refine g_istore_n (pc := 40) C rfl dX5_read_40 ?_
    exact l5_gs (tu := 0) (mi := 0) hlen hf hbc C F 7 0 ((mNxt f len (K.1, K.2.1, 0, K.2.2.2)), 1, 0, 0, fun _ => 0) _ (by omega) (by omega) ((q_up_s _ _ _)) (((q_up_n _ _ (Ne.symm nrp)).trans ((q_up_n _ _ (Ne.symm nrp)).trans ((q_up_n _ _ (Ne.symm nrp)).trans ((q_up_n _ _ (Ne.symm nrp)).trans ((q_up_n _ _ npc).trans ((q_up_n _ _ npt).trans hpt))))))) (((q_up_n _ _ (Ne.symm nrb)).trans ((q_up_n _ _ (Ne.symm nrb)).trans ((q_up_n _ _ (Ne.symm nrb)).trans ((q_up_n _ _ (Ne.symm nrb)).trans ((q_up_n _ _ hbc).trans ((q_up_n _ _ nbt).trans hpb))))))) (((q_up_n _ _ (Ne.symm nrt)).trans ((q_up_n _ _ (Ne.symm nrt)).trans ((q_up_n _ _ (Ne.symm nrt)).trans ((q_up_n _ _ (Ne.symm nrt)).trans ((q_up_n _ _ ntc).trans (q_up_s _ _ _))))))) (((q_up_n _ _ (Ne.symm nrc)).trans ((q_up_n _ _ (Ne.symm nrc)).trans ((q_up_n _ _ (Ne.symm nrc)).trans ((q_up_n _ _ (Ne.symm nrc)).trans (q_up_s _ _ _)))))) ⟨hn, Nat.le_of_ble_eq_true rfl, Nat.zero_le _, Nat.zero_le _⟩ (by unfold mRead q_rd; rw [if_neg e0]; simp only [q_up_u, q_up_c _ (Ne.symm nrc), q_up_c _ (Ne.symm nrt), q_up_c _ ntc])
