def mSumP (f : Nat → Nat) : Nat → Nat
  | 0 => 0
  | k + 1 => mSumP f k + f (24 + k)
set_option maxHeartbeats 2000000 in
set_option maxRecDepth 20000 in
theorem l4_sum {Γ : q_X} {ad : Nat → Nat} {n : Nat} {h : q_H} {t c g tu mi o p e b : Nat} {f : Nat → Nat} {rz : Int32} (ht : h t = TO c g tu mi o p e b) (hc : h c = TA f) (hg : g ≤ 6) (hz : rz = nI (mSumP f g)) (C : q_C Γ ad 1 0 0 RX4 yX4_portionsOfAll cX4_portionsOfAll 3 (some .int)) (F : q_N Γ ad n (some (.int rz)) h) : ∀ (k i : Nat), g < i + k → i ≤ g → q_G Γ ad 3 4 [some (.ref t), some (.int (nI (mSumP f i))), some (.int (nI i))] [] n h 0 0 := by
  intro k
  induction k with
  | zero => intro i; intros; omega
  | succ k ih =>
    intro i hk hi
    refine g_iload_n (pc := 4) C (hl := rfl) dX4_portionsOfAll_4 ?_
    refine g_aload_n (pc := 5) C (hl := rfl) dX4_portionsOfAll_5 ?_
    refine g_get (pc := 6) C fl4_23 dX4_portionsOfAll_6 ht rfl ?_
    refine g_ic_geN (pc := 9) C 27 dX4_portionsOfAll_9 (by decide) (by omega) (fun c9 => ?_) (fun c9 => ?_)
    · refine g_iload_n (pc := 27) C (hl := rfl) dX4_portionsOfAll_27 ?_
      exact g_iret (pc := 28) C F dX4_portionsOfAll_28 rfl rfl (by rw [hz, show i = g by omega]) (rfl)
    · refine g_iload_n (pc := 12) C (hl := rfl) dX4_portionsOfAll_12 ?_
      refine g_aload_n (pc := 13) C (hl := rfl) dX4_portionsOfAll_13 ?_
      refine g_iconst (pc := 14) C qk_iconst_4 dX4_portionsOfAll_14 ?_
      refine g_iload_n (pc := 15) C (hl := rfl) dX4_portionsOfAll_15 ?_
      refine g_V2v (pc := 16) C lv4_15 dX4_portionsOfAll_16 (s4_of4 _ ht hc (by omega)) ht (by decide) (Nat.le_of_ble_eq_true rfl) ?_
      refine g_iaddN (pc := 19) C dX4_portionsOfAll_19 ?_
      refine g_istore_n (pc := 20) C rfl dX4_portionsOfAll_20 ?_
      refine g_iincN (pc := 21) C (hl := rfl) (q_inc1 _) rfl dX4_portionsOfAll_21 ?_
      refine g_goto (pc := 24) C 4 dX4_portionsOfAll_24 (by decide) ?_
      exact ih (i + 1) (by omega) (by omega)
set_option maxHeartbeats 2000000 in
set_option maxRecDepth 20000 in
theorem s4_sum {n : Nat} {h : q_H} {t c g tu mi o p e b : Nat} {f : Nat → Nat} (ht : h t = TO c g tu mi o p e b) (hc : h c = TA f) (hg : g ≤ 6) : SP 1 yX4_portionsOfAll cX4_portionsOfAll 3 (some .int) [.ref t] n h (some (.int (nI (mSumP f g)))) h := by
  refine q_SPi RX4 rfl (by decide +kernel) (la := _) rfl rfl (fun Γ ad C F => ?_)
  refine g_iconst (pc := 0) C qk_iconst_0 dX4_portionsOfAll_0 ?_
  refine g_istore_n (pc := 1) C rfl dX4_portionsOfAll_1 ?_
  refine g_iconst (pc := 2) C qk_iconst_0 dX4_portionsOfAll_2 ?_
  refine g_istore_n (pc := 3) C rfl dX4_portionsOfAll_3 ?_
  exact l4_sum ht hc hg rfl C F (g + 1) 0 (by omega) (by omega)
set_option maxHeartbeats 2000000 in
set_option maxRecDepth 20000 in
theorem l4_hun {Γ : q_X} {ad : Nat → Nat} {n : Nat} {h : q_H} {t c g tu mi o p e b : Nat} {f : Nat → Nat} {rz : Int32} (ht : h t = TO c g tu mi o p e b) (hc : h c = TA f) (hg : g ≤ 6) (hb : ∀ k, k < 6 → f (18 + k) < 1000000000) (hz : rz = nI (mBits (fun k => f (18 + k) = 0) g)) (C : q_C Γ ad 1 0 0 RX4 yX4_whoAteNothing cX4_whoAteNothing 3 (some .int)) (F : q_N Γ ad n (some (.int rz)) h) : ∀ (k i S : Nat), g < i + k → i ≤ g → S = mBits (fun k => f (18 + k) = 0) i → q_G Γ ad 3 4 [some (.ref t), some (.int (nI S)), some (.int (nI i))] [] n h 0 0 := by
  intro k
  induction k with
  | zero => intro i; intros; omega
  | succ k ih =>
    intro i S hk hi hS
    refine g_iload_n (pc := 4) C (hl := rfl) dX4_whoAteNothing_4 ?_
    refine g_aload_n (pc := 5) C (hl := rfl) dX4_whoAteNothing_5 ?_
    refine g_get (pc := 6) C fl4_23 dX4_whoAteNothing_6 ht rfl ?_
    refine g_ic_geN (pc := 9) C 33 dX4_whoAteNothing_9 (by decide) (by omega) (fun c9 => ?_) (fun c9 => ?_)
    · refine g_iload_n (pc := 33) C (hl := rfl) dX4_whoAteNothing_33 ?_
      exact g_iret (pc := 34) C F dX4_whoAteNothing_34 rfl rfl (by rw [hz, hS, show i = g by omega]) (rfl)
    · refine g_aload_n (pc := 12) C (hl := rfl) dX4_whoAteNothing_12 ?_
      refine g_iconst (pc := 13) C qk_iconst_3 dX4_whoAteNothing_13 ?_
      refine g_iload_n (pc := 14) C (hl := rfl) dX4_whoAteNothing_14 ?_
      refine g_V2v (pc := 15) C lv4_15 dX4_whoAteNothing_15 (s4_of3 _ ht hc (by omega)) ht (by decide) (Nat.le_of_ble_eq_true rfl) ?_
      refine g_if_neN (pc := 18) C 27 dX4_whoAteNothing_18 (by decide) (by have := hb i (by omega); omega) (fun c18 => ?_) (fun c18 => ?_)
      · refine g_iincN (pc := 27) C (hl := rfl) (q_inc1 _) rfl dX4_whoAteNothing_27 ?_
        refine g_goto (pc := 30) C 4 dX4_whoAteNothing_30 (by decide) ?_
        exact ih (i + 1) _ (by omega) (by omega) (by first | exact hS.trans (mBits_n (p := fun k => f (18 + k) = 0) c18).symm | rfl)
      · refine g_iload_n (pc := 21) C (hl := rfl) dX4_whoAteNothing_21 ?_
        refine g_iconst (pc := 22) C qk_iconst_1 dX4_whoAteNothing_22 ?_
        refine g_iload_n (pc := 23) C (hl := rfl) dX4_whoAteNothing_23 ?_
        refine g_ishl (pc := 24) C dX4_whoAteNothing_24 ?_
        refine g_iorE (pc := 25) C (w := nI (mBits (fun k => f (18 + k) = 0) (i + 1))) (by rw [hS]; exact q_bitE (by omega) c18) dX4_whoAteNothing_25 ?_
        refine g_istore_n (pc := 26) C rfl dX4_whoAteNothing_26 ?_
        refine g_iincN (pc := 27) C (hl := rfl) (q_inc1 _) rfl dX4_whoAteNothing_27 ?_
        refine g_goto (pc := 30) C 4 dX4_whoAteNothing_30 (by decide) ?_
        exact ih (i + 1) _ (by omega) (by omega) (by first | exact hS.trans (mBits_n (p := fun k => f (18 + k) = 0) c18).symm | rfl)
set_option maxHeartbeats 2000000 in
set_option maxRecDepth 20000 in
theorem s4_hun {n : Nat} {h : q_H} {t c g tu mi o p e b : Nat} {f : Nat → Nat} (ht : h t = TO c g tu mi o p e b) (hc : h c = TA f) (hg : g ≤ 6) (hb : ∀ k, k < 6 → f (18 + k) < 1000000000) : SP 1 yX4_whoAteNothing cX4_whoAteNothing 3 (some .int) [.ref t] n h (some (.int (nI (mBits (fun k => f (18 + k) = 0) g)))) h := by
  refine q_SPi RX4 rfl (by decide +kernel) (la := _) rfl rfl (fun Γ ad C F => ?_)
  refine g_iconst (pc := 0) C qk_iconst_0 dX4_whoAteNothing_0 ?_
  refine g_istore_n (pc := 1) C rfl dX4_whoAteNothing_1 ?_
  refine g_iconst (pc := 2) C qk_iconst_0 dX4_whoAteNothing_2 ?_
  refine g_istore_n (pc := 3) C rfl dX4_whoAteNothing_3 ?_
  exact l4_hun ht hc hg hb rfl C F (g + 1) 0 0 (by omega) (by omega) rfl
set_option maxHeartbeats 2000000 in
set_option maxRecDepth 20000 in
theorem l2_leftt {Γ : q_X} {ad : Nat → Nat} {n : Nat} {h : q_H} {w t s bs c g r ri len : Nat} {lane : Int32} {R : Nat → Int32} {x : mX} {i0 : Nat} (hw : h w = FO t s bs) (ht : h t = TX c g x) (hc : h c = TA x.1) (hr : h r = RO ri lane len) (hri : h ri = RA R) (hi0 : i0 + g ≤ 40) (hg : g ≤ 6) (hq : ∀ k, k < g → R (i0 + k) = nI (x.1 (24 + k))) (C : q_C Γ ad 1 0 0 RX2 yX2_isLeft cX2_isLeft 4 (some .boolean)) (F : q_N Γ ad n (some (.int (nI 1))) h) : ∀ (k i : Nat), g < i + k → i ≤ g → (∀ k, k < i → R (i0 + k) = nI (x.1 (24 + k))) → q_G Γ ad 4 2 [some (.ref w), some (.ref r), some (.int (nI i0)), some (.int (nI i))] [] n h 0 0 := by
  intro k
  induction k with
  | zero => intro i; intros; omega
  | succ k ih =>
    intro i hk hi hp
    refine g_iload_n (pc := 2) C (hl := rfl) dX2_isLeft_2 ?_
    refine g_aload_n (pc := 3) C (hl := rfl) dX2_isLeft_3 ?_
    refine g_get (pc := 4) C fl2_12 dX2_isLeft_4 hw rfl ?_
    refine g_get (pc := 7) C fl2_48 dX2_isLeft_7 ht rfl ?_
    refine g_ic_geN (pc := 10) C 40 dX2_isLeft_10 (by decide) (by omega) (fun c10 => ?_) (fun c10 => ?_)
    · refine g_iconst (pc := 40) C qk_iconst_1 dX2_isLeft_40 ?_
      exact g_iret (pc := 41) C F dX2_isLeft_41 rfl rfl (rfl) (rfl)
    · refine g_aload_n (pc := 13) C (hl := rfl) dX2_isLeft_13 ?_
      refine g_iload_n (pc := 14) C (hl := rfl) dX2_isLeft_14 ?_
      refine g_iload_n (pc := 15) C (hl := rfl) dX2_isLeft_15 ?_
      refine g_iaddN (pc := 16) C dX2_isLeft_16 ?_
      refine g_V1v (pc := 17) C lv2_111 dX2_isLeft_17 (s3_item _ hr hri (by omega)) hr (by decide) (Nat.le_of_ble_eq_true rfl) ?_
      refine g_aload_n (pc := 20) C (hl := rfl) dX2_isLeft_20 ?_
      refine g_get (pc := 21) C fl2_12 dX2_isLeft_21 hw rfl ?_
      refine g_iconst (pc := 24) C qk_iconst_4 dX2_isLeft_24 ?_
      refine g_iload_n (pc := 25) C (hl := rfl) dX2_isLeft_25 ?_
      refine g_V2v (pc := 26) C lv2_45 dX2_isLeft_26 (s4_of4 _ ht hc (by omega)) ht (by decide) (Nat.le_of_ble_eq_true rfl) ?_
      refine g_ic_eq (pc := 29) C 34 dX2_isLeft_29 (by decide) (fun c29 => ?_) (fun c29 => ?_)
      · refine g_iincN (pc := 34) C (hl := rfl) (q_inc1 _) rfl dX2_isLeft_34 ?_
        refine g_goto (pc := 37) C 2 dX2_isLeft_37 (by decide) ?_
        exact ih (i + 1) (by omega) (by omega) (fun k hk => by rcases Nat.lt_succ_iff_lt_or_eq.mp hk with z | z; exact hp k z; rw [z]; exact c29)
      · refine g_iconst (pc := 32) C qk_iconst_0 dX2_isLeft_32 ?_
        exact absurd (hq i (by omega)) c29
set_option maxHeartbeats 2000000 in
set_option maxRecDepth 20000 in
theorem s2_leftt {n : Nat} {h : q_H} {w t s bs c g r ri len : Nat} {lane : Int32} {R : Nat → Int32} {x : mX} (i0 : Nat) (hw : h w = FO t s bs) (ht : h t = TX c g x) (hc : h c = TA x.1) (hr : h r = RO ri lane len) (hri : h ri = RA R) (hi0 : i0 + g ≤ 40) (hg : g ≤ 6) (hq : ∀ k, k < g → R (i0 + k) = nI (x.1 (24 + k))) : SP 1 yX2_isLeft cX2_isLeft 4 (some .boolean) [.ref w, .ref r, .int (nI i0)] n h (some (.int (nI 1))) h := by
  refine q_SPi RX2 rfl (by decide +kernel) (la := _) rfl rfl (fun Γ ad C F => ?_)
  refine g_iconst (pc := 0) C qk_iconst_0 dX2_isLeft_0 ?_
  refine g_istore_n (pc := 1) C rfl dX2_isLeft_1 ?_
  exact l2_leftt hw ht hc hr hri hi0 hg hq C F (g + 1) 0 (by omega) (by omega) (fun k hk => absurd hk (by omega))
set_option maxHeartbeats 2000000 in
set_option maxRecDepth 20000 in
theorem l2_leftf {Γ : q_X} {ad : Nat → Nat} {n : Nat} {h : q_H} {w t s bs c g r ri len : Nat} {lane : Int32} {R : Nat → Int32} {x : mX} {i0 : Nat} (hw : h w = FO t s bs) (ht : h t = TX c g x) (hc : h c = TA x.1) (hr : h r = RO ri lane len) (hri : h ri = RA R) (hi0 : i0 + g ≤ 40) (hg : g ≤ 6) (hq : ¬ ∀ k, k < g → R (i0 + k) = nI (x.1 (24 + k))) (C : q_C Γ ad 1 0 0 RX2 yX2_isLeft cX2_isLeft 4 (some .boolean)) (F : q_N Γ ad n (some (.int (nI 0))) h) : ∀ (k i : Nat), g < i + k → i ≤ g → (∀ k, k < i → R (i0 + k) = nI (x.1 (24 + k))) → q_G Γ ad 4 2 [some (.ref w), some (.ref r), some (.int (nI i0)), some (.int (nI i))] [] n h 0 0 := by
  intro k
  induction k with
  | zero => intro i; intros; omega
  | succ k ih =>
    intro i hk hi hp
    refine g_iload_n (pc := 2) C (hl := rfl) dX2_isLeft_2 ?_
    refine g_aload_n (pc := 3) C (hl := rfl) dX2_isLeft_3 ?_
    refine g_get (pc := 4) C fl2_12 dX2_isLeft_4 hw rfl ?_
    refine g_get (pc := 7) C fl2_48 dX2_isLeft_7 ht rfl ?_
    refine g_ic_geN (pc := 10) C 40 dX2_isLeft_10 (by decide) (by omega) (fun c10 => ?_) (fun c10 => ?_)
    · refine g_iconst (pc := 40) C qk_iconst_1 dX2_isLeft_40 ?_
      exact absurd (fun k hk => hp k (by omega)) hq
    · refine g_aload_n (pc := 13) C (hl := rfl) dX2_isLeft_13 ?_
      refine g_iload_n (pc := 14) C (hl := rfl) dX2_isLeft_14 ?_
      refine g_iload_n (pc := 15) C (hl := rfl) dX2_isLeft_15 ?_
      refine g_iaddN (pc := 16) C dX2_isLeft_16 ?_
      refine g_V1v (pc := 17) C lv2_111 dX2_isLeft_17 (s3_item _ hr hri (by omega)) hr (by decide) (Nat.le_of_ble_eq_true rfl) ?_
      refine g_aload_n (pc := 20) C (hl := rfl) dX2_isLeft_20 ?_
      refine g_get (pc := 21) C fl2_12 dX2_isLeft_21 hw rfl ?_
      refine g_iconst (pc := 24) C qk_iconst_4 dX2_isLeft_24 ?_
      refine g_iload_n (pc := 25) C (hl := rfl) dX2_isLeft_25 ?_
      refine g_V2v (pc := 26) C lv2_45 dX2_isLeft_26 (s4_of4 _ ht hc (by omega)) ht (by decide) (Nat.le_of_ble_eq_true rfl) ?_
      refine g_ic_eq (pc := 29) C 34 dX2_isLeft_29 (by decide) (fun c29 => ?_) (fun c29 => ?_)
      · refine g_iincN (pc := 34) C (hl := rfl) (q_inc1 _) rfl dX2_isLeft_34 ?_
        refine g_goto (pc := 37) C 2 dX2_isLeft_37 (by decide) ?_
        exact ih (i + 1) (by omega) (by omega) (fun k hk => by rcases Nat.lt_succ_iff_lt_or_eq.mp hk with z | z; exact hp k z; rw [z]; exact c29)
      · refine g_iconst (pc := 32) C qk_iconst_0 dX2_isLeft_32 ?_
        exact g_iret (pc := 33) C F dX2_isLeft_33 rfl rfl (rfl) (rfl)
set_option maxHeartbeats 2000000 in
set_option maxRecDepth 20000 in
theorem s2_leftf {n : Nat} {h : q_H} {w t s bs c g r ri len : Nat} {lane : Int32} {R : Nat → Int32} {x : mX} (i0 : Nat) (hw : h w = FO t s bs) (ht : h t = TX c g x) (hc : h c = TA x.1) (hr : h r = RO ri lane len) (hri : h ri = RA R) (hi0 : i0 + g ≤ 40) (hg : g ≤ 6) (hq : ¬ ∀ k, k < g → R (i0 + k) = nI (x.1 (24 + k))) : SP 1 yX2_isLeft cX2_isLeft 4 (some .boolean) [.ref w, .ref r, .int (nI i0)] n h (some (.int (nI 0))) h := by
  refine q_SPi RX2 rfl (by decide +kernel) (la := _) rfl rfl (fun Γ ad C F => ?_)
  refine g_iconst (pc := 0) C qk_iconst_0 dX2_isLeft_0 ?_
  refine g_istore_n (pc := 1) C rfl dX2_isLeft_1 ?_
  exact l2_leftf hw ht hc hr hri hi0 hg hq C F (g + 1) 0 (by omega) (by omega) (fun k hk => absurd hk (by omega))
def mRt (f : Nat → Nat) (g tu left : Nat) : Nat → Nat
  | 0 => 0
  | k + 1 => if f (6 + k) < g ∧ left < mLeft f g tu k (f (6 + k)) then max (mRt f g tu left k) (g - mLeft f g tu k (f (6 + k))) else mRt f g tu left k
theorem mRt_le (f : Nat → Nat) (g tu left : Nat) : ∀ k, mRt f g tu left k ≤ g
  | 0 => Nat.zero_le _
  | k + 1 => by
    have h := mRt_le f g tu left k
    show (if _ then _ else _) ≤ g
    split
    · exact Nat.max_le.mpr ⟨h, Nat.sub_le _ _⟩
    · exact h
def mSv (f : Nat → Nat) (g tu : Nat) : Nat → Nat
  | 0 => 2 * g
  | k + 1 => min (mSv f g tu k) (k + mRt f g tu k g + min k (mRt f g tu k g))
set_option maxHeartbeats 2000000 in
set_option maxRecDepth 20000 in
theorem l2_rt {Γ : q_X} {ad : Nat → Nat} {n : Nat} {h : q_H} {t c g tu mi o p e b : Nat} {f : Nat → Nat} {rz : Int32} {left : Nat} (ht : h t = TO c g tu mi o p e b) (hc : h c = TA f) (hv : mV f g tu mi) (hl : left < 1000) (hz : rz = nI (mRt f g tu left g)) (C : q_C Γ ad 3 0 0 RX2 yX2_toTheRightForOthers cX2_toTheRightForOthers 6 (some .int)) (F : q_N Γ ad n (some (.int rz)) h) : ∀ (k i : Nat) (v4 v5 : Option Value) (R : Nat), g < i + k → i ≤ g → R = mRt f g tu left i → q_G Γ ad 6 4 [some (.ref t), some (.int (nI left)), some (.int (nI R)), some (.int (nI i)), v4, v5] [] n h 0 0 := by
  intro k
  induction k with
  | zero => intro i; intros; omega
  | succ k ih =>
    intro i v4 v5 R hk hi hr
    have hg0 := hv.1
    subst hr
    refine g_iload_n (pc := 4) C (hl := rfl) dX2_toTheRightForOthers_4 ?_
    refine g_aload_n (pc := 5) C (hl := rfl) dX2_toTheRightForOthers_5 ?_
    refine g_get (pc := 6) C fl2_48 dX2_toTheRightForOthers_6 ht rfl ?_
    refine g_ic_geN (pc := 9) C 62 dX2_toTheRightForOthers_9 (by decide) (by omega) (fun c9 => ?_) (fun c9 => ?_)
    · refine g_iload_n (pc := 62) C (hl := rfl) dX2_toTheRightForOthers_62 ?_
      exact g_iret (pc := 63) C F dX2_toTheRightForOthers_63 rfl rfl (by rw [hz, show i = g by omega]) (rfl)
    · refine g_aload_n (pc := 12) C (hl := rfl) dX2_toTheRightForOthers_12 ?_
      refine g_iconst (pc := 13) C qk_iconst_1 dX2_toTheRightForOthers_13 ?_
      refine g_iload_n (pc := 14) C (hl := rfl) dX2_toTheRightForOthers_14 ?_
      refine g_V2v (pc := 15) C lv2_45 dX2_toTheRightForOthers_15 (s4_of1 _ ht hc (by omega)) ht (by decide) (Nat.le_of_ble_eq_true rfl) ?_
      refine g_istore (pc := 18) C rfl dX2_toTheRightForOthers_18 ?_
      refine g_aload_n (pc := 20) C (hl := rfl) dX2_toTheRightForOthers_20 ?_
      refine g_iload_n (pc := 21) C (hl := rfl) dX2_toTheRightForOthers_21 ?_
      refine g_iload (pc := 22) C (hl := rfl) dX2_toTheRightForOthers_22 ?_
      refine g_V2v (pc := 24) C lv2_71 dX2_toTheRightForOthers_24 (s4_toTheLeft _ _ ht hc (by have a1 := hv.2.2 i (by omega); have a2 := hv.2.2 (f (6 + i)) (by omega); omega)) ht (by decide) (Nat.le_of_ble_eq_true rfl) ?_
      refine g_istore (pc := 27) C rfl dX2_toTheRightForOthers_27 ?_
      refine g_aload_n (pc := 29) C (hl := rfl) dX2_toTheRightForOthers_29 ?_
      refine g_iload (pc := 30) C (hl := rfl) dX2_toTheRightForOthers_30 ?_
      refine g_V1v (pc := 32) C lv2_74 dX2_toTheRightForOthers_32 (s4_hasN _ ht (by have := hv.2.2 i (by omega); omega) (by have := hv.2.2 i (by omega); omega)) ht (by decide) (Nat.le_of_ble_eq_true rfl) ?_
      refine g_if_eq (pc := 35) C 56 dX2_toTheRightForOthers_35 (by decide) (fun c35 => ?_) (fun c35 => ?_)
      · refine g_iincN (pc := 56) C (hl := rfl) (q_inc1 _) rfl dX2_toTheRightForOthers_56 ?_
        refine g_goto (pc := 59) C 4 dX2_toTheRightForOthers_59 (by decide) ?_
        have e : mRt f g tu left (i + 1) = mRt f g tu left i := if_neg (fun z => q_be.mp c35 z.1)
        exact ih (i + 1) _ _ _ (by omega) (by omega) (by rw [e])
      · refine g_iload (pc := 38) C (hl := rfl) dX2_toTheRightForOthers_38 ?_
        refine g_iload_n (pc := 40) C (hl := rfl) dX2_toTheRightForOthers_40 ?_
        refine g_ic_leN (pc := 41) C 56 dX2_toTheRightForOthers_41 (by decide) (by have := mLeft_lt f g tu i (f (6 + i)) hv.1.1; omega) (fun c41 => ?_) (fun c41 => ?_)
        · refine g_iincN (pc := 56) C (hl := rfl) (q_inc1 _) rfl dX2_toTheRightForOthers_56 ?_
          refine g_goto (pc := 59) C 4 dX2_toTheRightForOthers_59 (by decide) ?_
          have e : mRt f g tu left (i + 1) = mRt f g tu left i := if_neg (fun z => by omega)
          exact ih (i + 1) _ _ _ (by omega) (by omega) (by rw [e])
        · refine g_iload_n (pc := 44) C (hl := rfl) dX2_toTheRightForOthers_44 ?_
          refine g_aload_n (pc := 45) C (hl := rfl) dX2_toTheRightForOthers_45 ?_
          refine g_get (pc := 46) C fl2_48 dX2_toTheRightForOthers_46 ht rfl ?_
          refine g_iload (pc := 49) C (hl := rfl) dX2_toTheRightForOthers_49 ?_
          refine g_isubN (pc := 51) C dX2_toTheRightForOthers_51 (by exact Nat.le_of_lt (mLeft_lt _ _ _ _ _ hv.1.1)) ?_
          refine g_maxN (pc := 52) C lm2_78 dX2_toTheRightForOthers_52 (by have := mRt_le f g tu left i; omega) (by decide) (Nat.le_of_ble_eq_true rfl) ⟨Nat.zero_le _, Nat.zero_le _⟩ ?_
          refine g_istore_n (pc := 55) C rfl dX2_toTheRightForOthers_55 ?_
          refine g_iincN (pc := 56) C (hl := rfl) (q_inc1 _) rfl dX2_toTheRightForOthers_56 ?_
          refine g_goto (pc := 59) C 4 dX2_toTheRightForOthers_59 (by decide) ?_
          have e : mRt f g tu left (i + 1) = max (mRt f g tu left i) (g - mLeft f g tu i (f (6 + i))) := if_pos ⟨by first | exact Decidable.not_not.mp (fun z => c35 (q_be.mpr z)) | omega, by omega⟩
          exact ih (i + 1) _ _ _ (by omega) (by omega) (by rw [e])
set_option maxHeartbeats 2000000 in
set_option maxRecDepth 20000 in
theorem s2_rt {n : Nat} {h : q_H} {t c g tu mi o p e b : Nat} {f : Nat → Nat} (left : Nat) (ht : h t = TO c g tu mi o p e b) (hc : h c = TA f) (hv : mV f g tu mi) (hl : left < 1000) : SP 3 yX2_toTheRightForOthers cX2_toTheRightForOthers 6 (some .int) [.ref t, .int (nI left)] n h (some (.int (nI (mRt f g tu left g)))) h := by
  refine q_SPi RX2 rfl (by decide +kernel) (la := _) rfl rfl (fun Γ ad C F => ?_)
  refine g_iconst (pc := 0) C qk_iconst_0 dX2_toTheRightForOthers_0 ?_
  refine g_istore_n (pc := 1) C rfl dX2_toTheRightForOthers_1 ?_
  refine g_iconst (pc := 2) C qk_iconst_0 dX2_toTheRightForOthers_2 ?_
  refine g_istore_n (pc := 3) C rfl dX2_toTheRightForOthers_3 ?_
  exact l2_rt ht hc hv hl rfl C F (g + 1) 0 _ _ 0 (by omega) (by omega) rfl
theorem mSv_le (f : Nat → Nat) (g tu : Nat) : ∀ k, mSv f g tu k ≤ 2 * g
  | 0 => Nat.le_refl _
  | k + 1 => Nat.le_trans (Nat.min_le_left _ _) (mSv_le f g tu k)
set_option maxHeartbeats 2000000 in
set_option maxRecDepth 20000 in
theorem l2_sv {Γ : q_X} {ad : Nat → Nat} {n : Nat} {h : q_H} {t c g tu mi o p e b : Nat} {f : Nat → Nat} {rz : Int32} {w : Nat} (ht : h t = TO c g tu mi o p e b) (hc : h c = TA f) (hv : mV f g tu mi) (hz : rz = nI (mSv f g tu g)) (C : q_C Γ ad 4 0 0 RX2 yX2_turnsToServe cX2_turnsToServe 5 (some .int)) (F : q_N Γ ad n (some (.int rz)) h) : ∀ (k i : Nat) (v4 : Option Value) (R : Nat), g < i + k → i ≤ g → R = mSv f g tu i → q_G Γ ad 5 9 [some (.ref w), some (.ref t), some (.int (nI R)), some (.int (nI i)), v4] [] n h 0 0 := by
  intro k
  induction k with
  | zero => intro i; intros; omega
  | succ k ih =>
    intro i v4 R hk hi hr
    have hg0 := hv.1
    have hmin := mSv_le f g tu
    subst hr
    refine g_iload_n (pc := 9) C (hl := rfl) dX2_turnsToServe_9 ?_
    refine g_aload_n (pc := 10) C (hl := rfl) dX2_turnsToServe_10 ?_
    refine g_get (pc := 11) C fl2_48 dX2_turnsToServe_11 ht rfl ?_
    refine g_ic_geN (pc := 14) C 46 dX2_turnsToServe_14 (by decide) (by omega) (fun c14 => ?_) (fun c14 => ?_)
    · refine g_iload_n (pc := 46) C (hl := rfl) dX2_turnsToServe_46 ?_
      exact g_iret (pc := 47) C F dX2_turnsToServe_47 rfl rfl (by rw [hz, show i = g by omega]) (rfl)
    · refine g_aload_n (pc := 17) C (hl := rfl) dX2_turnsToServe_17 ?_
      refine g_iload_n (pc := 18) C (hl := rfl) dX2_turnsToServe_18 ?_
      refine g_S2v (pc := 19) C ls2_62 dX2_turnsToServe_19 (s2_rt i ht hc hv (by omega)) (by decide) (Nat.le_of_ble_eq_true rfl) ?_
      refine g_istore (pc := 22) C rfl dX2_turnsToServe_22 ?_
      refine g_iload_n (pc := 24) C (hl := rfl) dX2_turnsToServe_24 ?_
      refine g_iload_n (pc := 25) C (hl := rfl) dX2_turnsToServe_25 ?_
      refine g_iload (pc := 26) C (hl := rfl) dX2_turnsToServe_26 ?_
      refine g_iaddN (pc := 28) C dX2_turnsToServe_28 ?_
      refine g_iload_n (pc := 29) C (hl := rfl) dX2_turnsToServe_29 ?_
      refine g_iload (pc := 30) C (hl := rfl) dX2_turnsToServe_30 ?_
      refine g_minN (pc := 32) C lm2_66 dX2_turnsToServe_32 (by have := mRt_le f g tu i g; omega) (by decide) (Nat.le_of_ble_eq_true rfl) ⟨Nat.zero_le _, Nat.zero_le _⟩ ?_
      refine g_iaddN (pc := 35) C dX2_turnsToServe_35 ?_
      refine g_minN (pc := 36) C lm2_66 dX2_turnsToServe_36 (by have := mRt_le f g tu i g; have := hmin i; omega) (by decide) (Nat.le_of_ble_eq_true rfl) ⟨Nat.zero_le _, Nat.zero_le _⟩ ?_
      refine g_istore_n (pc := 39) C rfl dX2_turnsToServe_39 ?_
      refine g_iincN (pc := 40) C (hl := rfl) (q_inc1 _) rfl dX2_turnsToServe_40 ?_
      refine g_goto (pc := 43) C 9 dX2_turnsToServe_43 (by decide) ?_
      exact ih (i + 1) _ _ (by omega) (by omega) rfl
set_option maxHeartbeats 2000000 in
set_option maxRecDepth 20000 in
theorem s2_serve {n : Nat} {h : q_H} {t c g tu mi o p e b : Nat} {f : Nat → Nat} {w : Nat} (ht : h t = TO c g tu mi o p e b) (hc : h c = TA f) (hv : mV f g tu mi) : SP 4 yX2_turnsToServe cX2_turnsToServe 5 (some .int) [.ref w, .ref t] n h (some (.int (nI (mSv f g tu g)))) h := by
  refine q_SPi RX2 rfl (by decide +kernel) (la := _) rfl rfl (fun Γ ad C F => ?_)
  refine g_iconst (pc := 0) C qk_iconst_2 dX2_turnsToServe_0 ?_
  refine g_aload_n (pc := 1) C (hl := rfl) dX2_turnsToServe_1 ?_
  refine g_get (pc := 2) C fl2_48 dX2_turnsToServe_2 ht rfl ?_
  refine g_imulN (pc := 5) C dX2_turnsToServe_5 ?_
  refine g_istore_n (pc := 6) C rfl dX2_turnsToServe_6 ?_
  refine g_iconst (pc := 7) C qk_iconst_0 dX2_turnsToServe_7 ?_
  refine g_istore_n (pc := 8) C rfl dX2_turnsToServe_8 ?_
  exact l2_sv ht hc hv rfl C F (g + 1) 0 _ (2 * g) (by omega) (by omega) rfl
