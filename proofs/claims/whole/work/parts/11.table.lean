theorem s7_leftOverZ {n : Nat} {h : q_H} (z : Int) (g : Nat) (hg : 0 < g ∧ g < 2147483648) (hz : -2147483648 ≤ z ∧ z < 2147483648) : SP 0 yX7_leftOver cX7_leftOver 3 (some .int) [.int (qI z), .int (nI g)] n h (some (.int (nI ((z % g).toNat)))) h := by
  have := s7_leftOver (n := n) (h := h) (qI z) g hg.1 hg.2
  rw [qI_toInt hz.1 hz.2] at this
  exact this
theorem s7_leftOverN {n : Nat} {h : q_H} (a g : Nat) (hg : 0 < g ∧ g < 2147483648) (hz : a < 2147483648) : SP 0 yX7_leftOver cX7_leftOver 3 (some .int) [.int (nI a), .int (nI g)] n h (some (.int (nI (a % g)))) h := by
  have := s7_leftOverZ (n := n) (h := h) (a : Int) g hg ⟨by omega, by omega⟩
  rw [← qI_N, ← Int.natCast_emod, Int.toNat_natCast] at this
  exact this
def mLeft (f : Nat → Nat) (g tu guest dish : Nat) : Nat := (((f (30 + dish) : Int) - (f (12 + guest) : Int) - (tu : Int)) % (g : Int)).toNat
def mPush (f : Nat → Nat) (g tu guest : Nat) : Int :=
  if f (0 + guest) = 5 then 1 else if f (0 + guest) = 4 ∨ g ≤ f (6 + guest) ∨ f (24 + f (6 + guest)) = 0 then 0
  else if mLeft f g tu guest (f (6 + guest)) ≤ g - mLeft f g tu guest (f (6 + guest)) then (min (mLeft f g tu guest (f (6 + guest))) (max 1 (g / 4)) : Nat) else -(min (g - mLeft f g tu guest (f (6 + guest))) (max 1 (g / 4)) : Nat)
def mTurn (g tu : Nat) (z : Int) : Nat := (((tu : Int) + z) % (g : Int)).toNat
def mDish (f : Nat → Nat) (g tu guest : Nat) : Nat := f (42 + (f (12 + guest) + tu) % g)
def mBite (f : Nat → Nat) (guest dish : Nat) : Nat :=
  if ¬ (f (0 + guest) = 3 ∨ f (0 + guest) = 5) ∧ ¬ f (6 + guest) = dish then 0 else min (f (24 + dish)) (if f (0 + guest) = 2 then 2 else 1)
theorem mLeft_lt (f : Nat → Nat) (g tu guest dish : Nat) (hg : 0 < g) : mLeft f g tu guest dish < g := by
  unfold mLeft
  have h1 := Int.emod_nonneg ((f (30 + dish) : Int) - (f (12 + guest) : Int) - (tu : Int)) (by omega : (g : Int) ≠ 0)
  have h2 := Int.emod_lt_of_pos ((f (30 + dish) : Int) - (f (12 + guest) : Int) - (tu : Int)) (by omega : (0 : Int) < g)
  omega
theorem mTurn_lt (g tu : Nat) (z : Int) (hg : 0 < g) : mTurn g tu z < g := by
  unfold mTurn
  have h1 := Int.emod_nonneg ((tu : Int) + z) (by omega : (g : Int) ≠ 0)
  have h2 := Int.emod_lt_of_pos ((tu : Int) + z) (by omega : (0 : Int) < g)
  omega
theorem mPush_b (f : Nat → Nat) (g tu guest : Nat) (hg : 0 < g) : -(g : Int) ≤ mPush f g tu guest ∧ mPush f g tu guest ≤ g := by
  have h1 := mLeft_lt f g tu guest (f (6 + guest)) hg
  unfold mPush
  split
  · omega
  · split
    · omega
    · split <;> omega
theorem q_be {P : Prop} [Decidable P] : ((if P then nI 1 else nI 0) = 0) ↔ ¬ P := by
  by_cases h : P
  · rw [if_pos h]; exact ⟨fun q => absurd q (by decide), fun q => absurd h q⟩
  · rw [if_neg h]; exact ⟨fun _ => h, fun _ => rfl⟩
theorem q_be2 {P : Prop} [Decidable P] : ((if P then nI 0 else nI 1) = 0) ↔ P := by
  by_cases h : P
  · rw [if_pos h]; exact ⟨fun _ => h, fun _ => rfl⟩
  · rw [if_neg h]; exact ⟨fun q => absurd q (by decide), fun q => absurd q h⟩
theorem mPush_1 {f : Nat → Nat} {g tu j : Nat} (h : f (0 + j) = 5) : mPush f g tu j = 1 := if_pos h
theorem mPush_0 {f : Nat → Nat} {g tu j : Nat} (h : ¬ f (0 + j) = 5) (h2 : f (0 + j) = 4 ∨ g ≤ f (6 + j) ∨ f (24 + f (6 + j)) = 0) : mPush f g tu j = 0 := by unfold mPush; rw [if_neg h, if_pos h2]
theorem mPush_L {f : Nat → Nat} {g tu j : Nat} (h : ¬ f (0 + j) = 5) (h2 : ¬ (f (0 + j) = 4 ∨ g ≤ f (6 + j) ∨ f (24 + f (6 + j)) = 0)) (h3 : mLeft f g tu j (f (6 + j)) ≤ g - mLeft f g tu j (f (6 + j))) : mPush f g tu j = (min (mLeft f g tu j (f (6 + j))) (max 1 (g / 4)) : Nat) := by unfold mPush; rw [if_neg h, if_neg h2, if_pos h3]
theorem mPush_R {f : Nat → Nat} {g tu j : Nat} (h : ¬ f (0 + j) = 5) (h2 : ¬ (f (0 + j) = 4 ∨ g ≤ f (6 + j) ∨ f (24 + f (6 + j)) = 0)) (h3 : ¬ mLeft f g tu j (f (6 + j)) ≤ g - mLeft f g tu j (f (6 + j))) : mPush f g tu j = -(min (g - mLeft f g tu j (f (6 + j))) (max 1 (g / 4)) : Nat) := by unfold mPush; rw [if_neg h, if_neg h2, if_neg h3]
set_option maxHeartbeats 2000000 in
set_option maxRecDepth 20000 in
theorem l4_clear {Γ : q_X} {ad : Nat → Nat} {n t c g tu mi o p e b : Nat} {hF : q_H} (C : q_C Γ ad 0 0 0 RX4 yX4_clear cX4_clear 2 none) (F : q_N Γ ad n none hF) : ∀ (m i : Nat) (K : Nat → Nat) (H : q_H), 48 < i + m → i ≤ 48 → H t = TO c g tu mi o p e b → H c = TA K → (∀ j, j < i → K j = 0) → hF = q_up H c (TA fun _ => 0) → q_G Γ ad 2 17 [some (.ref t), some (.int (nI i))] [] n H 0 0 := by
  intro m
  induction m with
  | zero => intro i; intros; omega
  | succ m ih =>
    intro i K H hm hi ht hc h0 hH
    refine g_iload_n (pc := 17) C (hl := rfl) dX4_clear_17 ?_
    refine g_aload_n (pc := 18) C (hl := rfl) dX4_clear_18 ?_
    refine g_get (pc := 19) C fl4_11 dX4_clear_19 ht rfl ?_
    refine g_alenN (pc := 22) C dX4_clear_22 hc ?_
    refine g_ic_geN (pc := 23) C 39 dX4_clear_23 (by decide) (by omega) (fun c23 => ?_) (fun c23 => ?_)
    · refine g_arr (F := qN fun _ => 0) hc (fun j hj => by show nI (K j) = nI 0; rw [h0 j (by omega)]) ?_
      exact g_vret (pc := 39) C F dX4_clear_39 rfl rfl hH.symm
    · refine g_aload_n (pc := 26) C (hl := rfl) dX4_clear_26 ?_
      refine g_get (pc := 27) C fl4_11 dX4_clear_27 ht rfl ?_
      refine g_iload_n (pc := 30) C (hl := rfl) dX4_clear_30 ?_
      refine g_iconst (pc := 31) C qk_iconst_0 dX4_clear_31 ?_
      refine g_iastN (pc := 32) C dX4_clear_32 hc (by omega) ?_
      refine g_iincN (pc := 33) C (hl := rfl) (q_inc1 _) rfl dX4_clear_33 ?_
      refine g_goto (pc := 36) C 17 dX4_clear_36 (by decide) ?_
      exact ih (i + 1) _ _ (by omega) (by omega) (by rw [q_up_n _ _ (fun q => by rw [q, hc] at ht; cases ht)]; exact ht) (q_up_s _ _ _) (fun j hj => by unfold va_up; split; rfl; exact h0 j (by omega)) (by rw [q_up_u]; exact hH)
set_option maxHeartbeats 2000000 in
set_option maxRecDepth 20000 in
theorem s4_clear {n : Nat} {h : q_H} {t c g tu mi o p e b : Nat} {f : Nat → Nat} (ht : h t = TO c g tu mi o p e b) (hc : h c = TA f) : SP 0 yX4_clear cX4_clear 2 none [.ref t] n h none (q_up (q_up h t (TO c 0 0 0 o p e b)) c (TA fun _ => 0)) := by
  have hne : t ≠ c := fun q => by rw [q, hc] at ht; cases ht
  refine q_SPi RX4 rfl (by decide +kernel) (la := _) rfl rfl (fun Γ ad C F => ?_)
  refine g_aload_n (pc := 0) C (hl := rfl) dX4_clear_0 ?_
  refine g_iconst (pc := 1) C qk_iconst_0 dX4_clear_1 ?_
  refine g_put (pc := 2) C fp4_23 dX4_clear_2 ht (Nat.le_of_ble_eq_true rfl) ?_
  refine g_aload_n (pc := 5) C (hl := rfl) dX4_clear_5 ?_
  refine g_iconst (pc := 6) C qk_iconst_0 dX4_clear_6 ?_
  refine g_put (pc := 7) C fp4_27 dX4_clear_7 (q_up_s _ _ _) (Nat.le_of_ble_eq_true rfl) ?_
  refine g_aload_n (pc := 10) C (hl := rfl) dX4_clear_10 ?_
  refine g_iconst (pc := 11) C qk_iconst_0 dX4_clear_11 ?_
  refine g_put (pc := 12) C fp4_30 dX4_clear_12 (q_up_s _ _ _) (Nat.le_of_ble_eq_true rfl) ?_
  refine g_iconst (pc := 15) C qk_iconst_0 dX4_clear_15 ?_
  refine g_istore_n (pc := 16) C rfl dX4_clear_16 ?_
  exact l4_clear C F 49 0 f _ (by omega) (by omega) (c := c) (g := 0) (tu := 0) (mi := 0) (o := o) (p := p) (e := e) (b := b) (q_up_s _ _ _) ((q_up_n _ _ (Ne.symm hne)).trans ((q_up_n _ _ (Ne.symm hne)).trans ((q_up_n _ _ (Ne.symm hne)).trans hc))) (fun j hj => absurd hj (Nat.not_lt_zero _)) (by rw [q_up_u, q_up_u]; rfl)
set_option maxHeartbeats 2000000 in
set_option maxRecDepth 20000 in
theorem s4_layIn {n : Nat} {h : q_H} {t c g tu mi o p e b : Nat} {f : Nat → Nat} (j k : Nat) (ht : h t = TO c g tu mi o p e b) (hc : h c = TA f) (hj : j < 6 ∧ k < 6) : SP 1 yX4_layIn cX4_layIn 3 none [.ref t, .int (nI j), .int (nI k)] n h none (q_up h c (TA (va_up (va_up f (30 + j) k) (42 + k) j))) := by
  have hne : t ≠ c := fun q => by rw [q, hc] at ht; cases ht
  refine q_SPi RX4 rfl (by decide +kernel) (la := _) rfl rfl (fun Γ ad C F => ?_)
  refine g_aload_n (pc := 0) C (hl := rfl) dX4_layIn_0 ?_
  refine g_iconst (pc := 1) C qk_iconst_5 dX4_layIn_1 ?_
  refine g_iload_n (pc := 2) C (hl := rfl) dX4_layIn_2 ?_
  refine g_iload_n (pc := 3) C (hl := rfl) dX4_layIn_3 ?_
  refine g_V3u (pc := 4) C lv4_19 dX4_layIn_4 (s4_put5 _ _ ht hc (by omega)) ht (by decide) (Nat.le_of_ble_eq_true rfl) ?_
  refine g_aload_n (pc := 7) C (hl := rfl) dX4_layIn_7 ?_
  refine g_bipush (pc := 8) C qk_bipush_7 dX4_layIn_8 ?_
  refine g_iload_n (pc := 10) C (hl := rfl) dX4_layIn_10 ?_
  refine g_iload_n (pc := 11) C (hl := rfl) dX4_layIn_11 ?_
  refine g_V3u (pc := 12) C lv4_19 dX4_layIn_12 (s4_put7 _ _ ((q_up_n _ _ hne).trans ht) (q_up_s _ _ _) (by omega)) ((q_up_n _ _ hne).trans ht) (by decide) (Nat.le_of_ble_eq_true rfl) ?_
  exact g_vret (pc := 15) C F dX4_layIn_15 rfl rfl (q_up_u _ _ _ _)
set_option maxHeartbeats 2000000 in
set_option maxRecDepth 20000 in
theorem s4_swapSeats {n : Nat} {h : q_H} {t c g tu mi o p e b : Nat} {f : Nat → Nat} (j k : Nat) (ht : h t = TO c g tu mi o p e b) (hc : h c = TA f) (hj : j < 6 ∧ k < 6 ∧ f (12 + j) < 6 ∧ f (12 + k) < 6) : SP 1 yX4_swapSeats cX4_swapSeats 5 none [.ref t, .int (nI j), .int (nI k)] n h none (q_up h c (TA (va_up (va_up (va_up (va_up f (12 + j) (f (12 + k))) (12 + k) (f (12 + j))) (36 + f (12 + k)) j) (36 + f (12 + j)) k))) := by
  have hne : t ≠ c := fun q => by rw [q, hc] at ht; cases ht
  refine q_SPi RX4 rfl (by decide +kernel) (la := _) rfl rfl (fun Γ ad C F => ?_)
  refine g_aload_n (pc := 0) C (hl := rfl) dX4_swapSeats_0 ?_
  refine g_iconst (pc := 1) C qk_iconst_2 dX4_swapSeats_1 ?_
  refine g_iload_n (pc := 2) C (hl := rfl) dX4_swapSeats_2 ?_
  refine g_V2v (pc := 3) C lv4_15 dX4_swapSeats_3 (s4_of2 _ ht hc (by omega)) ht (by decide) (Nat.le_of_ble_eq_true rfl) ?_
  refine g_istore_n (pc := 6) C rfl dX4_swapSeats_6 ?_
  refine g_aload_n (pc := 7) C (hl := rfl) dX4_swapSeats_7 ?_
  refine g_iconst (pc := 8) C qk_iconst_2 dX4_swapSeats_8 ?_
  refine g_iload_n (pc := 9) C (hl := rfl) dX4_swapSeats_9 ?_
  refine g_V2v (pc := 10) C lv4_15 dX4_swapSeats_10 (s4_of2 _ ht hc (by omega)) ht (by decide) (Nat.le_of_ble_eq_true rfl) ?_
  refine g_istore (pc := 13) C rfl dX4_swapSeats_13 ?_
  refine g_aload_n (pc := 15) C (hl := rfl) dX4_swapSeats_15 ?_
  refine g_iconst (pc := 16) C qk_iconst_2 dX4_swapSeats_16 ?_
  refine g_iload_n (pc := 17) C (hl := rfl) dX4_swapSeats_17 ?_
  refine g_iload (pc := 18) C (hl := rfl) dX4_swapSeats_18 ?_
  refine g_V3u (pc := 20) C lv4_19 dX4_swapSeats_20 (s4_put2 _ _ ht hc (by omega)) ht (by decide) (Nat.le_of_ble_eq_true rfl) ?_
  refine g_aload_n (pc := 23) C (hl := rfl) dX4_swapSeats_23 ?_
  refine g_iconst (pc := 24) C qk_iconst_2 dX4_swapSeats_24 ?_
  refine g_iload_n (pc := 25) C (hl := rfl) dX4_swapSeats_25 ?_
  refine g_iload_n (pc := 26) C (hl := rfl) dX4_swapSeats_26 ?_
  refine g_V3u (pc := 27) C lv4_19 dX4_swapSeats_27 (s4_put2 _ _ ((q_up_n _ _ hne).trans ht) (q_up_s _ _ _) (by omega)) ((q_up_n _ _ hne).trans ht) (by decide) (Nat.le_of_ble_eq_true rfl) ?_
  refine g_aload_n (pc := 30) C (hl := rfl) dX4_swapSeats_30 ?_
  refine g_bipush (pc := 31) C qk_bipush_6 dX4_swapSeats_31 ?_
  refine g_iload (pc := 33) C (hl := rfl) dX4_swapSeats_33 ?_
  refine g_iload_n (pc := 35) C (hl := rfl) dX4_swapSeats_35 ?_
  refine g_V3u (pc := 36) C lv4_19 dX4_swapSeats_36 (s4_put6 _ _ ((q_up_n _ _ hne).trans ((q_up_n _ _ hne).trans ht)) (q_up_s _ _ _) (by omega)) ((q_up_n _ _ hne).trans ((q_up_n _ _ hne).trans ht)) (by decide) (Nat.le_of_ble_eq_true rfl) ?_
  refine g_aload_n (pc := 39) C (hl := rfl) dX4_swapSeats_39 ?_
  refine g_bipush (pc := 40) C qk_bipush_6 dX4_swapSeats_40 ?_
  refine g_iload_n (pc := 42) C (hl := rfl) dX4_swapSeats_42 ?_
  refine g_iload_n (pc := 43) C (hl := rfl) dX4_swapSeats_43 ?_
  refine g_V3u (pc := 44) C lv4_19 dX4_swapSeats_44 (s4_put6 _ _ ((q_up_n _ _ hne).trans ((q_up_n _ _ hne).trans ((q_up_n _ _ hne).trans ht))) (q_up_s _ _ _) (by omega)) ((q_up_n _ _ hne).trans ((q_up_n _ _ hne).trans ((q_up_n _ _ hne).trans ht))) (by decide) (Nat.le_of_ble_eq_true rfl) ?_
  exact g_vret (pc := 47) C F dX4_swapSeats_47 rfl rfl (by simp only [q_up_u])
set_option maxHeartbeats 2000000 in
set_option maxRecDepth 20000 in
theorem s4_swapSlots {n : Nat} {h : q_H} {t c g tu mi o p e b : Nat} {f : Nat → Nat} (j k : Nat) (ht : h t = TO c g tu mi o p e b) (hc : h c = TA f) (hj : j < 6 ∧ k < 6 ∧ f (30 + j) < 6 ∧ f (30 + k) < 6) : SP 2 yX4_swapSlots cX4_swapSlots 4 none [.ref t, .int (nI j), .int (nI k)] n h none (q_up h c (TA (va_up (va_up (va_up (va_up f (30 + j) (f (30 + k))) (42 + f (30 + k)) j) (30 + k) (f (30 + j))) (42 + f (30 + j)) k))) := by
  have hne : t ≠ c := fun q => by rw [q, hc] at ht; cases ht
  refine q_SPi RX4 rfl (by decide +kernel) (la := _) rfl rfl (fun Γ ad C F => ?_)
  refine g_aload_n (pc := 0) C (hl := rfl) dX4_swapSlots_0 ?_
  refine g_iconst (pc := 1) C qk_iconst_5 dX4_swapSlots_1 ?_
  refine g_iload_n (pc := 2) C (hl := rfl) dX4_swapSlots_2 ?_
  refine g_V2v (pc := 3) C lv4_15 dX4_swapSlots_3 (s4_of5 _ ht hc (by omega)) ht (by decide) (Nat.le_of_ble_eq_true rfl) ?_
  refine g_istore_n (pc := 6) C rfl dX4_swapSlots_6 ?_
  refine g_aload_n (pc := 7) C (hl := rfl) dX4_swapSlots_7 ?_
  refine g_iload_n (pc := 8) C (hl := rfl) dX4_swapSlots_8 ?_
  refine g_aload_n (pc := 9) C (hl := rfl) dX4_swapSlots_9 ?_
  refine g_iconst (pc := 10) C qk_iconst_5 dX4_swapSlots_10 ?_
  refine g_iload_n (pc := 11) C (hl := rfl) dX4_swapSlots_11 ?_
  refine g_V2v (pc := 12) C lv4_15 dX4_swapSlots_12 (s4_of5 _ ht hc (by omega)) ht (by decide) (Nat.le_of_ble_eq_true rfl) ?_
  refine g_V2u (pc := 15) C lv4_39 dX4_swapSlots_15 (s4_layIn _ _ ht hc (by omega)) ht (by decide) (Nat.le_of_ble_eq_true rfl) ?_
  refine g_aload_n (pc := 18) C (hl := rfl) dX4_swapSlots_18 ?_
  refine g_iload_n (pc := 19) C (hl := rfl) dX4_swapSlots_19 ?_
  refine g_iload_n (pc := 20) C (hl := rfl) dX4_swapSlots_20 ?_
  refine g_V2u (pc := 21) C lv4_39 dX4_swapSlots_21 (s4_layIn _ _ ((q_up_n _ _ hne).trans ht) (q_up_s _ _ _) (by omega)) ((q_up_n _ _ hne).trans ht) (by decide) (Nat.le_of_ble_eq_true rfl) ?_
  exact g_vret (pc := 24) C F dX4_swapSlots_24 rfl rfl (by simp only [q_up_u])
set_option maxHeartbeats 2000000 in
set_option maxRecDepth 20000 in
theorem s4_seat {n : Nat} {h : q_H} {t c g tu mi o p e b : Nat} {f : Nat → Nat} (so wa : Nat) (ht : h t = TO c g tu mi o p e b) (hc : h c = TA f) (hj : g < 6) : SP 2 yX4_seat cX4_seat 3 none [.ref t, .int (nI so), .int (nI wa)] n h none (q_up (q_up h c (TA (va_up (va_up (va_up (va_up (va_up (va_up f (0 + g) so) (6 + g) wa) (12 + g) g) (36 + g) g) (30 + g) g) (42 + g) g))) t (TO c (g + 1) tu mi o p e b)) := by
  have hne : t ≠ c := fun q => by rw [q, hc] at ht; cases ht
  refine q_SPi RX4 rfl (by decide +kernel) (la := _) rfl rfl (fun Γ ad C F => ?_)
  refine g_aload_n (pc := 0) C (hl := rfl) dX4_seat_0 ?_
  refine g_iconst (pc := 1) C qk_iconst_0 dX4_seat_1 ?_
  refine g_aload_n (pc := 2) C (hl := rfl) dX4_seat_2 ?_
  refine g_get (pc := 3) C fl4_23 dX4_seat_3 ht rfl ?_
  refine g_iload_n (pc := 6) C (hl := rfl) dX4_seat_6 ?_
  refine g_V3u (pc := 7) C lv4_19 dX4_seat_7 (s4_put0 _ _ ht hc (by omega)) ht (by decide) (Nat.le_of_ble_eq_true rfl) ?_
  refine g_aload_n (pc := 10) C (hl := rfl) dX4_seat_10 ?_
  refine g_iconst (pc := 11) C qk_iconst_1 dX4_seat_11 ?_
  refine g_aload_n (pc := 12) C (hl := rfl) dX4_seat_12 ?_
  refine g_get (pc := 13) C fl4_23 dX4_seat_13 ((q_up_n _ _ hne).trans ht) rfl ?_
  refine g_iload_n (pc := 16) C (hl := rfl) dX4_seat_16 ?_
  refine g_V3u (pc := 17) C lv4_19 dX4_seat_17 (s4_put1 _ _ ((q_up_n _ _ hne).trans ht) (q_up_s _ _ _) (by omega)) ((q_up_n _ _ hne).trans ht) (by decide) (Nat.le_of_ble_eq_true rfl) ?_
  refine g_aload_n (pc := 20) C (hl := rfl) dX4_seat_20 ?_
  refine g_iconst (pc := 21) C qk_iconst_2 dX4_seat_21 ?_
  refine g_aload_n (pc := 22) C (hl := rfl) dX4_seat_22 ?_
  refine g_get (pc := 23) C fl4_23 dX4_seat_23 ((q_up_n _ _ hne).trans ((q_up_n _ _ hne).trans ht)) rfl ?_
  refine g_aload_n (pc := 26) C (hl := rfl) dX4_seat_26 ?_
  refine g_get (pc := 27) C fl4_23 dX4_seat_27 ((q_up_n _ _ hne).trans ((q_up_n _ _ hne).trans ht)) rfl ?_
  refine g_V3u (pc := 30) C lv4_19 dX4_seat_30 (s4_put2 _ _ ((q_up_n _ _ hne).trans ((q_up_n _ _ hne).trans ht)) (q_up_s _ _ _) (by omega)) ((q_up_n _ _ hne).trans ((q_up_n _ _ hne).trans ht)) (by decide) (Nat.le_of_ble_eq_true rfl) ?_
  refine g_aload_n (pc := 33) C (hl := rfl) dX4_seat_33 ?_
  refine g_bipush (pc := 34) C qk_bipush_6 dX4_seat_34 ?_
  refine g_aload_n (pc := 36) C (hl := rfl) dX4_seat_36 ?_
  refine g_get (pc := 37) C fl4_23 dX4_seat_37 ((q_up_n _ _ hne).trans ((q_up_n _ _ hne).trans ((q_up_n _ _ hne).trans ht))) rfl ?_
  refine g_aload_n (pc := 40) C (hl := rfl) dX4_seat_40 ?_
  refine g_get (pc := 41) C fl4_23 dX4_seat_41 ((q_up_n _ _ hne).trans ((q_up_n _ _ hne).trans ((q_up_n _ _ hne).trans ht))) rfl ?_
  refine g_V3u (pc := 44) C lv4_19 dX4_seat_44 (s4_put6 _ _ ((q_up_n _ _ hne).trans ((q_up_n _ _ hne).trans ((q_up_n _ _ hne).trans ht))) (q_up_s _ _ _) (by omega)) ((q_up_n _ _ hne).trans ((q_up_n _ _ hne).trans ((q_up_n _ _ hne).trans ht))) (by decide) (Nat.le_of_ble_eq_true rfl) ?_
  refine g_aload_n (pc := 47) C (hl := rfl) dX4_seat_47 ?_
  refine g_aload_n (pc := 48) C (hl := rfl) dX4_seat_48 ?_
  refine g_get (pc := 49) C fl4_23 dX4_seat_49 ((q_up_n _ _ hne).trans ((q_up_n _ _ hne).trans ((q_up_n _ _ hne).trans ((q_up_n _ _ hne).trans ht)))) rfl ?_
  refine g_aload_n (pc := 52) C (hl := rfl) dX4_seat_52 ?_
  refine g_get (pc := 53) C fl4_23 dX4_seat_53 ((q_up_n _ _ hne).trans ((q_up_n _ _ hne).trans ((q_up_n _ _ hne).trans ((q_up_n _ _ hne).trans ht)))) rfl ?_
  refine g_V2u (pc := 56) C lv4_39 dX4_seat_56 (s4_layIn _ _ ((q_up_n _ _ hne).trans ((q_up_n _ _ hne).trans ((q_up_n _ _ hne).trans ((q_up_n _ _ hne).trans ht)))) (q_up_s _ _ _) (by omega)) ((q_up_n _ _ hne).trans ((q_up_n _ _ hne).trans ((q_up_n _ _ hne).trans ((q_up_n _ _ hne).trans ht)))) (by decide) (Nat.le_of_ble_eq_true rfl) ?_
  refine g_aload_n (pc := 59) C (hl := rfl) dX4_seat_59 ?_
  refine g_dup (pc := 60) C rfl dX4_seat_60 ?_
  refine g_get (pc := 61) C fl4_23 dX4_seat_61 ((q_up_n _ _ hne).trans ((q_up_n _ _ hne).trans ((q_up_n _ _ hne).trans ((q_up_n _ _ hne).trans ((q_up_n _ _ hne).trans ht))))) rfl ?_
  refine g_iconst (pc := 64) C qk_iconst_1 dX4_seat_64 ?_
  refine g_iaddN (pc := 65) C dX4_seat_65 ?_
  refine g_put (pc := 66) C fp4_23 dX4_seat_66 ((q_up_n _ _ hne).trans ((q_up_n _ _ hne).trans ((q_up_n _ _ hne).trans ((q_up_n _ _ hne).trans ((q_up_n _ _ hne).trans ht))))) (Nat.le_of_ble_eq_true rfl) ?_
  exact g_vret (pc := 69) C F dX4_seat_69 rfl rfl (by simp only [q_up_u]; rfl)
set_option maxHeartbeats 2000000 in
set_option maxRecDepth 20000 in
theorem s4_turnLeft {n : Nat} {h : q_H} {t c g tu mi o p e b : Nat} (z : Int) (ht : h t = TO c g tu mi o p e b) (hg : 0 < g ∧ g < 100 ∧ tu < 1000000 ∧ -1000000 < z ∧ z < 1000000) : SP 1 yX4_turnLeft cX4_turnLeft 2 none [.ref t, .int (qI z)] n h none (q_up h t (TO c g (mTurn g tu z) mi o p e b)) := by
  refine q_SPi RX4 rfl (by decide +kernel) (la := _) rfl rfl (fun Γ ad C F => ?_)
  refine g_aload_n (pc := 0) C (hl := rfl) dX4_turnLeft_0 ?_
  refine g_aload_n (pc := 1) C (hl := rfl) dX4_turnLeft_1 ?_
  refine g_get (pc := 2) C fl4_27 dX4_turnLeft_2 ht rfl ?_
  refine g_iload_n (pc := 5) C (hl := rfl) dX4_turnLeft_5 ?_
  refine g_iaddE (pc := 6) C (w := qI ((tu : Int) + z)) (by rw [qI_N, qI_add]) dX4_turnLeft_6 ?_
  refine g_aload_n (pc := 7) C (hl := rfl) dX4_turnLeft_7 ?_
  refine g_get (pc := 8) C fl4_23 dX4_turnLeft_8 ht rfl ?_
  refine g_S2v (pc := 11) C ls4_43 dX4_turnLeft_11 (s7_leftOverZ _ _ (by omega) (by omega)) (by decide) (Nat.le_of_ble_eq_true rfl) ?_
  refine g_put (pc := 14) C fp4_27 dX4_turnLeft_14 ht (Nat.le_of_ble_eq_true rfl) ?_
  exact g_vret (pc := 17) C F dX4_turnLeft_17 rfl rfl (rfl)
set_option maxHeartbeats 2000000 in
set_option maxRecDepth 20000 in
theorem s4_dishBefore {n : Nat} {h : q_H} {t c g tu mi o p e b : Nat} {f : Nat → Nat} (j : Nat) (ht : h t = TO c g tu mi o p e b) (hc : h c = TA f) (hg : 0 < g ∧ g < 100 ∧ tu < 1000000 ∧ j < 6 ∧ f (12 + j) < 6) (hd : (f (12 + j) + tu) % g < 6) : SP 1 yX4_dishBefore cX4_dishBefore 2 (some .int) [.ref t, .int (nI j)] n h (some (.int (nI (mDish f g tu j)))) h := by
  refine q_SPi RX4 rfl (by decide +kernel) (la := _) rfl rfl (fun Γ ad C F => ?_)
  refine g_aload_n (pc := 0) C (hl := rfl) dX4_dishBefore_0 ?_
  refine g_bipush (pc := 1) C qk_bipush_7 dX4_dishBefore_1 ?_
  refine g_aload_n (pc := 3) C (hl := rfl) dX4_dishBefore_3 ?_
  refine g_iconst (pc := 4) C qk_iconst_2 dX4_dishBefore_4 ?_
  refine g_iload_n (pc := 5) C (hl := rfl) dX4_dishBefore_5 ?_
  refine g_V2v (pc := 6) C lv4_15 dX4_dishBefore_6 (s4_of2 _ ht hc (by omega)) ht (by decide) (Nat.le_of_ble_eq_true rfl) ?_
  refine g_aload_n (pc := 9) C (hl := rfl) dX4_dishBefore_9 ?_
  refine g_get (pc := 10) C fl4_27 dX4_dishBefore_10 ht rfl ?_
  refine g_iaddN (pc := 13) C dX4_dishBefore_13 ?_
  refine g_aload_n (pc := 14) C (hl := rfl) dX4_dishBefore_14 ?_
  refine g_get (pc := 15) C fl4_23 dX4_dishBefore_15 ht rfl ?_
  refine g_S2v (pc := 18) C ls4_43 dX4_dishBefore_18 (s7_leftOverN _ _ (by omega) (by omega)) (by decide) (Nat.le_of_ble_eq_true rfl) ?_
  refine g_V2v (pc := 21) C lv4_15 dX4_dishBefore_21 (s4_of7 _ ht hc (by exact hd)) ht (by decide) (Nat.le_of_ble_eq_true rfl) ?_
  exact g_iret (pc := 24) C F dX4_dishBefore_24 rfl rfl (rfl) (rfl)
set_option maxHeartbeats 2000000 in
set_option maxRecDepth 20000 in
theorem s4_toTheLeft {n : Nat} {h : q_H} {t c g tu mi o p e b : Nat} {f : Nat → Nat} (j k : Nat) (ht : h t = TO c g tu mi o p e b) (hc : h c = TA f) (hg : 0 < g ∧ g < 100 ∧ tu < 1000000 ∧ j < 6 ∧ k < 6 ∧ f (12 + j) < 1000000 ∧ f (30 + k) < 1000000) : SP 1 yX4_toTheLeft cX4_toTheLeft 3 (some .int) [.ref t, .int (nI j), .int (nI k)] n h (some (.int (nI (mLeft f g tu j k)))) h := by
  refine q_SPi RX4 rfl (by decide +kernel) (la := _) rfl rfl (fun Γ ad C F => ?_)
  refine g_aload_n (pc := 0) C (hl := rfl) dX4_toTheLeft_0 ?_
  refine g_iconst (pc := 1) C qk_iconst_5 dX4_toTheLeft_1 ?_
  refine g_iload_n (pc := 2) C (hl := rfl) dX4_toTheLeft_2 ?_
  refine g_V2v (pc := 3) C lv4_15 dX4_toTheLeft_3 (s4_of5 _ ht hc (by omega)) ht (by decide) (Nat.le_of_ble_eq_true rfl) ?_
  refine g_aload_n (pc := 6) C (hl := rfl) dX4_toTheLeft_6 ?_
  refine g_iconst (pc := 7) C qk_iconst_2 dX4_toTheLeft_7 ?_
  refine g_iload_n (pc := 8) C (hl := rfl) dX4_toTheLeft_8 ?_
  refine g_V2v (pc := 9) C lv4_15 dX4_toTheLeft_9 (s4_of2 _ ht hc (by omega)) ht (by decide) (Nat.le_of_ble_eq_true rfl) ?_
  refine g_isubE (pc := 12) C (w := qI ((f (30 + k) : Int) - f (12 + j))) (by rw [qI_N, qI_N, qI_sub]) dX4_toTheLeft_12 ?_
  refine g_aload_n (pc := 13) C (hl := rfl) dX4_toTheLeft_13 ?_
  refine g_get (pc := 14) C fl4_27 dX4_toTheLeft_14 ht rfl ?_
  refine g_isubE (pc := 17) C (w := qI ((f (30 + k) : Int) - f (12 + j) - tu)) (by rw [qI_N, qI_sub]) dX4_toTheLeft_17 ?_
  refine g_aload_n (pc := 18) C (hl := rfl) dX4_toTheLeft_18 ?_
  refine g_get (pc := 19) C fl4_23 dX4_toTheLeft_19 ht rfl ?_
  refine g_S2v (pc := 22) C ls4_43 dX4_toTheLeft_22 (s7_leftOverZ _ _ (by omega) (by omega)) (by decide) (Nat.le_of_ble_eq_true rfl) ?_
  exact g_iret (pc := 25) C F dX4_toTheLeft_25 rfl rfl (rfl) (rfl)
set_option maxHeartbeats 2000000 in
set_option maxRecDepth 20000 in
theorem s4_pushBy {n : Nat} {h : q_H} {t c g tu mi o p e b : Nat} {f : Nat → Nat} (j : Nat) (ht : h t = TO c g tu mi o p e b) (hc : h c = TA f) (hg : 0 < g ∧ g < 100 ∧ tu < 1000000 ∧ j < 6 ∧ f (0 + j) < 6 ∧ f (6 + j) < 6 ∧ f (12 + j) < 1000000 ∧ f (30 + f (6 + j)) < 1000000 ∧ f (24 + f (6 + j)) < 1000000) : SP 2 yX4_pushBy cX4_pushBy 7 (some .int) [.ref t, .int (nI j)] n h (some (.int (qI (mPush f g tu j)))) h := by
  refine q_SPi RX4 rfl (by decide +kernel) (la := _) rfl rfl (fun Γ ad C F => ?_)
  refine g_aload_n (pc := 0) C (hl := rfl) dX4_pushBy_0 ?_
  refine g_iconst (pc := 1) C qk_iconst_0 dX4_pushBy_1 ?_
  refine g_iload_n (pc := 2) C (hl := rfl) dX4_pushBy_2 ?_
  refine g_V2v (pc := 3) C lv4_15 dX4_pushBy_3 (s4_of0 _ ht hc (by omega)) ht (by decide) (Nat.le_of_ble_eq_true rfl) ?_
  refine g_istore_n (pc := 6) C rfl dX4_pushBy_6 ?_
  refine g_aload_n (pc := 7) C (hl := rfl) dX4_pushBy_7 ?_
  refine g_iconst (pc := 8) C qk_iconst_1 dX4_pushBy_8 ?_
  refine g_iload_n (pc := 9) C (hl := rfl) dX4_pushBy_9 ?_
  refine g_V2v (pc := 10) C lv4_15 dX4_pushBy_10 (s4_of1 _ ht hc (by omega)) ht (by decide) (Nat.le_of_ble_eq_true rfl) ?_
  refine g_istore_n (pc := 13) C rfl dX4_pushBy_13 ?_
  refine g_iload_n (pc := 14) C (hl := rfl) dX4_pushBy_14 ?_
  refine g_iconst (pc := 15) C qk_iconst_5 dX4_pushBy_15 ?_
  refine g_ic_neN (pc := 16) C 21 dX4_pushBy_16 (by decide) (by omega) (fun c16 => ?_) (fun c16 => ?_)
  · refine g_iload_n (pc := 21) C (hl := rfl) dX4_pushBy_21 ?_
    refine g_iconst (pc := 22) C qk_iconst_4 dX4_pushBy_22 ?_
    refine g_ic_eqN (pc := 23) C 43 dX4_pushBy_23 (by decide) (by omega) (fun c23 => ?_) (fun c23 => ?_)
    · refine g_iconst (pc := 43) C qk_iconst_0 dX4_pushBy_43 ?_
      exact g_iret (pc := 44) C F dX4_pushBy_44 rfl rfl (by rw [mPush_0 c16 (by first | exact Or.inl c23 | exact Or.inr (Or.inl (Nat.le_of_not_lt (q_be.mp c31))) | exact Or.inr (Or.inr c40))]; rfl) (rfl)
    · refine g_aload_n (pc := 26) C (hl := rfl) dX4_pushBy_26 ?_
      refine g_iload_n (pc := 27) C (hl := rfl) dX4_pushBy_27 ?_
      refine g_V1v (pc := 28) C lv4_80 dX4_pushBy_28 (s4_hasN _ ht (by omega) (by omega)) ht (by decide) (Nat.le_of_ble_eq_true rfl) ?_
      refine g_if_eq (pc := 31) C 43 dX4_pushBy_31 (by decide) (fun c31 => ?_) (fun c31 => ?_)
      · refine g_iconst (pc := 43) C qk_iconst_0 dX4_pushBy_43 ?_
        exact g_iret (pc := 44) C F dX4_pushBy_44 rfl rfl (by rw [mPush_0 c16 (by first | exact Or.inl c23 | exact Or.inr (Or.inl (Nat.le_of_not_lt (q_be.mp c31))) | exact Or.inr (Or.inr c40))]; rfl) (rfl)
      · refine g_aload_n (pc := 34) C (hl := rfl) dX4_pushBy_34 ?_
        refine g_iconst (pc := 35) C qk_iconst_4 dX4_pushBy_35 ?_
        refine g_iload_n (pc := 36) C (hl := rfl) dX4_pushBy_36 ?_
        refine g_V2v (pc := 37) C lv4_15 dX4_pushBy_37 (s4_of4 _ ht hc (by omega)) ht (by decide) (Nat.le_of_ble_eq_true rfl) ?_
        refine g_if_neN (pc := 40) C 45 dX4_pushBy_40 (by decide) (by omega) (fun c40 => ?_) (fun c40 => ?_)
        · refine g_iconst (pc := 45) C qk_iconst_1 dX4_pushBy_45 ?_
          refine g_aload_n (pc := 46) C (hl := rfl) dX4_pushBy_46 ?_
          refine g_get (pc := 47) C fl4_23 dX4_pushBy_47 ht rfl ?_
          refine g_iconst (pc := 50) C qk_iconst_4 dX4_pushBy_50 ?_
          refine g_idivN (pc := 51) C dX4_pushBy_51 (by omega) ?_
          refine g_maxN (pc := 52) C lm4_84 dX4_pushBy_52 (by omega) (by decide) (Nat.le_of_ble_eq_true rfl) ⟨Nat.zero_le _, Nat.zero_le _⟩ ?_
          refine g_istore (pc := 55) C rfl dX4_pushBy_55 ?_
          refine g_aload_n (pc := 57) C (hl := rfl) dX4_pushBy_57 ?_
          refine g_iload_n (pc := 58) C (hl := rfl) dX4_pushBy_58 ?_
          refine g_iload_n (pc := 59) C (hl := rfl) dX4_pushBy_59 ?_
          refine g_V2v (pc := 60) C lv4_87 dX4_pushBy_60 (s4_toTheLeft _ _ ht hc (by omega)) ht (by decide) (Nat.le_of_ble_eq_true rfl) ?_
          refine g_istore (pc := 63) C rfl dX4_pushBy_63 ?_
          refine g_aload_n (pc := 65) C (hl := rfl) dX4_pushBy_65 ?_
          refine g_get (pc := 66) C fl4_23 dX4_pushBy_66 ht rfl ?_
          refine g_iload (pc := 69) C (hl := rfl) dX4_pushBy_69 ?_
          refine g_isubN (pc := 71) C dX4_pushBy_71 (by exact Nat.le_of_lt (mLeft_lt _ _ _ _ _ hg.1)) ?_
          refine g_istore (pc := 72) C rfl dX4_pushBy_72 ?_
          refine g_iload (pc := 74) C (hl := rfl) dX4_pushBy_74 ?_
          refine g_iload (pc := 76) C (hl := rfl) dX4_pushBy_76 ?_
          refine g_ic_gtN (pc := 78) C 91 dX4_pushBy_78 (by decide) (by have := mLeft_lt f g tu j (f (6 + j)) hg.1; omega) (fun c78 => ?_) (fun c78 => ?_)
          · refine g_iload (pc := 91) C (hl := rfl) dX4_pushBy_91 ?_
            refine g_iload (pc := 93) C (hl := rfl) dX4_pushBy_93 ?_
            refine g_minN (pc := 95) C lm4_90 dX4_pushBy_95 (by have := mLeft_lt f g tu j (f (6 + j)) hg.1; omega) (by decide) (Nat.le_of_ble_eq_true rfl) ⟨Nat.zero_le _, Nat.zero_le _⟩ ?_
            refine g_ineg (pc := 98) C dX4_pushBy_98 ?_
            exact g_iret (pc := 99) C F dX4_pushBy_99 rfl rfl (by first | rw [mPush_L c16 (fun q => q.elim c23 (fun q => q.elim (fun q => c31 (q_be.mpr (by omega))) c40)) (by omega), qI_N] | rw [mPush_R c16 (fun q => q.elim c23 (fun q => q.elim (fun q => c31 (q_be.mpr (by omega))) c40)) (by omega), qI_N, qI_neg]) (rfl)
          · refine g_iload (pc := 81) C (hl := rfl) dX4_pushBy_81 ?_
            refine g_iload (pc := 83) C (hl := rfl) dX4_pushBy_83 ?_
            refine g_minN (pc := 85) C lm4_90 dX4_pushBy_85 (by have := mLeft_lt f g tu j (f (6 + j)) hg.1; omega) (by decide) (Nat.le_of_ble_eq_true rfl) ⟨Nat.zero_le _, Nat.zero_le _⟩ ?_
            refine g_goto (pc := 88) C 99 dX4_pushBy_88 (by decide) ?_
            exact g_iret (pc := 99) C F dX4_pushBy_99 rfl rfl (by first | rw [mPush_L c16 (fun q => q.elim c23 (fun q => q.elim (fun q => c31 (q_be.mpr (by omega))) c40)) (by omega), qI_N] | rw [mPush_R c16 (fun q => q.elim c23 (fun q => q.elim (fun q => c31 (q_be.mpr (by omega))) c40)) (by omega), qI_N, qI_neg]) (rfl)
        · refine g_iconst (pc := 43) C qk_iconst_0 dX4_pushBy_43 ?_
          exact g_iret (pc := 44) C F dX4_pushBy_44 rfl rfl (by rw [mPush_0 c16 (by first | exact Or.inl c23 | exact Or.inr (Or.inl (Nat.le_of_not_lt (q_be.mp c31))) | exact Or.inr (Or.inr c40))]; rfl) (rfl)
  · refine g_iconst (pc := 19) C qk_iconst_1 dX4_pushBy_19 ?_
    exact g_iret (pc := 20) C F dX4_pushBy_20 rfl rfl (by rw [mPush_1 c16]; rfl) (rfl)
set_option maxHeartbeats 2000000 in
set_option maxRecDepth 20000 in
theorem s4_biteOf {n : Nat} {h : q_H} {t c g tu mi o p e b : Nat} {f : Nat → Nat} (j k : Nat) (ht : h t = TO c g tu mi o p e b) (hc : h c = TA f) (hg : j < 6 ∧ k < 6 ∧ f (0 + j) < 6 ∧ f (6 + j) < 6 ∧ f (24 + k) < 1000000) : SP 1 yX4_biteOf cX4_biteOf 6 (some .int) [.ref t, .int (nI j), .int (nI k)] n h (some (.int (nI (mBite f j k)))) h := by
  refine q_SPi RX4 rfl (by decide +kernel) (la := _) rfl rfl (fun Γ ad C F => ?_)
  refine g_aload_n (pc := 0) C (hl := rfl) dX4_biteOf_0 ?_
  refine g_iconst (pc := 1) C qk_iconst_0 dX4_biteOf_1 ?_
  refine g_iload_n (pc := 2) C (hl := rfl) dX4_biteOf_2 ?_
  refine g_V2v (pc := 3) C lv4_15 dX4_biteOf_3 (s4_of0 _ ht hc (by omega)) ht (by decide) (Nat.le_of_ble_eq_true rfl) ?_
  refine g_istore_n (pc := 6) C rfl dX4_biteOf_6 ?_
  refine g_aload_n (pc := 7) C (hl := rfl) dX4_biteOf_7 ?_
  refine g_iconst (pc := 8) C qk_iconst_4 dX4_biteOf_8 ?_
  refine g_iload_n (pc := 9) C (hl := rfl) dX4_biteOf_9 ?_
  refine g_V2v (pc := 10) C lv4_15 dX4_biteOf_10 (s4_of4 _ ht hc (by omega)) ht (by decide) (Nat.le_of_ble_eq_true rfl) ?_
  refine g_istore (pc := 13) C rfl dX4_biteOf_13 ?_
  refine g_iload_n (pc := 15) C (hl := rfl) dX4_biteOf_15 ?_
  refine g_iconst (pc := 16) C qk_iconst_3 dX4_biteOf_16 ?_
  refine g_ic_eqN (pc := 17) C 25 dX4_biteOf_17 (by decide) (by omega) (fun c17 => ?_) (fun c17 => ?_)
  · refine g_iconst (pc := 25) C qk_iconst_1 dX4_biteOf_25 ?_
    refine g_goto (pc := 26) C 30 dX4_biteOf_26 (by decide) ?_
    refine g_istore (pc := 30) C rfl dX4_biteOf_30 ?_
    refine g_iload (pc := 32) C (hl := rfl) dX4_biteOf_32 ?_
    refine g_if_neN (pc := 34) C 49 dX4_biteOf_34 (by decide) (by omega) (fun c34 => ?_) (fun c34 => ?_)
    · refine g_iload (pc := 49) C (hl := rfl) dX4_biteOf_49 ?_
      refine g_iload_n (pc := 51) C (hl := rfl) dX4_biteOf_51 ?_
      refine g_iconst (pc := 52) C qk_iconst_2 dX4_biteOf_52 ?_
      refine g_ic_neN (pc := 53) C 60 dX4_biteOf_53 (by decide) (by omega) (fun c53 => ?_) (fun c53 => ?_)
      · refine g_iconst (pc := 60) C qk_iconst_1 dX4_biteOf_60 ?_
        refine g_minN (pc := 61) C lm4_90 dX4_biteOf_61 (by omega) (by decide) (Nat.le_of_ble_eq_true rfl) ⟨Nat.zero_le _, Nat.zero_le _⟩ ?_
        exact g_iret (pc := 64) C F dX4_biteOf_64 rfl rfl (by unfold mBite; simp_all) (rfl)
      · refine g_iconst (pc := 56) C qk_iconst_2 dX4_biteOf_56 ?_
        refine g_goto (pc := 57) C 61 dX4_biteOf_57 (by decide) ?_
        refine g_minN (pc := 61) C lm4_90 dX4_biteOf_61 (by omega) (by decide) (Nat.le_of_ble_eq_true rfl) ⟨Nat.zero_le _, Nat.zero_le _⟩ ?_
        exact g_iret (pc := 64) C F dX4_biteOf_64 rfl rfl (by unfold mBite; simp_all) (rfl)
    · refine g_aload_n (pc := 37) C (hl := rfl) dX4_biteOf_37 ?_
      refine g_iconst (pc := 38) C qk_iconst_1 dX4_biteOf_38 ?_
      refine g_iload_n (pc := 39) C (hl := rfl) dX4_biteOf_39 ?_
      refine g_V2v (pc := 40) C lv4_15 dX4_biteOf_40 (s4_of1 _ ht hc (by omega)) ht (by decide) (Nat.le_of_ble_eq_true rfl) ?_
      refine g_iload_n (pc := 43) C (hl := rfl) dX4_biteOf_43 ?_
      refine g_ic_eqN (pc := 44) C 49 dX4_biteOf_44 (by decide) (by omega) (fun c44 => ?_) (fun c44 => ?_)
      · refine g_iload (pc := 49) C (hl := rfl) dX4_biteOf_49 ?_
        refine g_iload_n (pc := 51) C (hl := rfl) dX4_biteOf_51 ?_
        refine g_iconst (pc := 52) C qk_iconst_2 dX4_biteOf_52 ?_
        refine g_ic_neN (pc := 53) C 60 dX4_biteOf_53 (by decide) (by omega) (fun c53 => ?_) (fun c53 => ?_)
        · refine g_iconst (pc := 60) C qk_iconst_1 dX4_biteOf_60 ?_
          refine g_minN (pc := 61) C lm4_90 dX4_biteOf_61 (by omega) (by decide) (Nat.le_of_ble_eq_true rfl) ⟨Nat.zero_le _, Nat.zero_le _⟩ ?_
          exact g_iret (pc := 64) C F dX4_biteOf_64 rfl rfl (by unfold mBite; simp_all) (rfl)
        · refine g_iconst (pc := 56) C qk_iconst_2 dX4_biteOf_56 ?_
          refine g_goto (pc := 57) C 61 dX4_biteOf_57 (by decide) ?_
          refine g_minN (pc := 61) C lm4_90 dX4_biteOf_61 (by omega) (by decide) (Nat.le_of_ble_eq_true rfl) ⟨Nat.zero_le _, Nat.zero_le _⟩ ?_
          exact g_iret (pc := 64) C F dX4_biteOf_64 rfl rfl (by unfold mBite; simp_all) (rfl)
      · refine g_iconst (pc := 47) C qk_iconst_0 dX4_biteOf_47 ?_
        exact g_iret (pc := 48) C F dX4_biteOf_48 rfl rfl (by unfold mBite; simp_all) (rfl)
  · refine g_iload_n (pc := 20) C (hl := rfl) dX4_biteOf_20 ?_
    refine g_iconst (pc := 21) C qk_iconst_5 dX4_biteOf_21 ?_
    refine g_ic_neN (pc := 22) C 29 dX4_biteOf_22 (by decide) (by omega) (fun c22 => ?_) (fun c22 => ?_)
    · refine g_iconst (pc := 29) C qk_iconst_0 dX4_biteOf_29 ?_
      refine g_istore (pc := 30) C rfl dX4_biteOf_30 ?_
      refine g_iload (pc := 32) C (hl := rfl) dX4_biteOf_32 ?_
      refine g_if_neN (pc := 34) C 49 dX4_biteOf_34 (by decide) (by omega) (fun c34 => ?_) (fun c34 => ?_)
      · refine g_iload (pc := 49) C (hl := rfl) dX4_biteOf_49 ?_
        refine g_iload_n (pc := 51) C (hl := rfl) dX4_biteOf_51 ?_
        refine g_iconst (pc := 52) C qk_iconst_2 dX4_biteOf_52 ?_
        refine g_ic_neN (pc := 53) C 60 dX4_biteOf_53 (by decide) (by omega) (fun c53 => ?_) (fun c53 => ?_)
        · refine g_iconst (pc := 60) C qk_iconst_1 dX4_biteOf_60 ?_
          refine g_minN (pc := 61) C lm4_90 dX4_biteOf_61 (by omega) (by decide) (Nat.le_of_ble_eq_true rfl) ⟨Nat.zero_le _, Nat.zero_le _⟩ ?_
          exact g_iret (pc := 64) C F dX4_biteOf_64 rfl rfl (by unfold mBite; simp_all) (rfl)
        · refine g_iconst (pc := 56) C qk_iconst_2 dX4_biteOf_56 ?_
          refine g_goto (pc := 57) C 61 dX4_biteOf_57 (by decide) ?_
          refine g_minN (pc := 61) C lm4_90 dX4_biteOf_61 (by omega) (by decide) (Nat.le_of_ble_eq_true rfl) ⟨Nat.zero_le _, Nat.zero_le _⟩ ?_
          exact g_iret (pc := 64) C F dX4_biteOf_64 rfl rfl (by unfold mBite; simp_all) (rfl)
      · refine g_aload_n (pc := 37) C (hl := rfl) dX4_biteOf_37 ?_
        refine g_iconst (pc := 38) C qk_iconst_1 dX4_biteOf_38 ?_
        refine g_iload_n (pc := 39) C (hl := rfl) dX4_biteOf_39 ?_
        refine g_V2v (pc := 40) C lv4_15 dX4_biteOf_40 (s4_of1 _ ht hc (by omega)) ht (by decide) (Nat.le_of_ble_eq_true rfl) ?_
        refine g_iload_n (pc := 43) C (hl := rfl) dX4_biteOf_43 ?_
        refine g_ic_eqN (pc := 44) C 49 dX4_biteOf_44 (by decide) (by omega) (fun c44 => ?_) (fun c44 => ?_)
        · refine g_iload (pc := 49) C (hl := rfl) dX4_biteOf_49 ?_
          refine g_iload_n (pc := 51) C (hl := rfl) dX4_biteOf_51 ?_
          refine g_iconst (pc := 52) C qk_iconst_2 dX4_biteOf_52 ?_
          refine g_ic_neN (pc := 53) C 60 dX4_biteOf_53 (by decide) (by omega) (fun c53 => ?_) (fun c53 => ?_)
          · refine g_iconst (pc := 60) C qk_iconst_1 dX4_biteOf_60 ?_
            refine g_minN (pc := 61) C lm4_90 dX4_biteOf_61 (by omega) (by decide) (Nat.le_of_ble_eq_true rfl) ⟨Nat.zero_le _, Nat.zero_le _⟩ ?_
            exact g_iret (pc := 64) C F dX4_biteOf_64 rfl rfl (by unfold mBite; simp_all) (rfl)
          · refine g_iconst (pc := 56) C qk_iconst_2 dX4_biteOf_56 ?_
            refine g_goto (pc := 57) C 61 dX4_biteOf_57 (by decide) ?_
            refine g_minN (pc := 61) C lm4_90 dX4_biteOf_61 (by omega) (by decide) (Nat.le_of_ble_eq_true rfl) ⟨Nat.zero_le _, Nat.zero_le _⟩ ?_
            exact g_iret (pc := 64) C F dX4_biteOf_64 rfl rfl (by unfold mBite; simp_all) (rfl)
        · refine g_iconst (pc := 47) C qk_iconst_0 dX4_biteOf_47 ?_
          exact g_iret (pc := 48) C F dX4_biteOf_48 rfl rfl (by unfold mBite; simp_all) (rfl)
    · refine g_iconst (pc := 25) C qk_iconst_1 dX4_biteOf_25 ?_
      refine g_goto (pc := 26) C 30 dX4_biteOf_26 (by decide) ?_
      refine g_istore (pc := 30) C rfl dX4_biteOf_30 ?_
      refine g_iload (pc := 32) C (hl := rfl) dX4_biteOf_32 ?_
      refine g_if_neN (pc := 34) C 49 dX4_biteOf_34 (by decide) (by omega) (fun c34 => ?_) (fun c34 => ?_)
      · refine g_iload (pc := 49) C (hl := rfl) dX4_biteOf_49 ?_
        refine g_iload_n (pc := 51) C (hl := rfl) dX4_biteOf_51 ?_
        refine g_iconst (pc := 52) C qk_iconst_2 dX4_biteOf_52 ?_
        refine g_ic_neN (pc := 53) C 60 dX4_biteOf_53 (by decide) (by omega) (fun c53 => ?_) (fun c53 => ?_)
        · refine g_iconst (pc := 60) C qk_iconst_1 dX4_biteOf_60 ?_
          refine g_minN (pc := 61) C lm4_90 dX4_biteOf_61 (by omega) (by decide) (Nat.le_of_ble_eq_true rfl) ⟨Nat.zero_le _, Nat.zero_le _⟩ ?_
          exact g_iret (pc := 64) C F dX4_biteOf_64 rfl rfl (by unfold mBite; simp_all) (rfl)
        · refine g_iconst (pc := 56) C qk_iconst_2 dX4_biteOf_56 ?_
          refine g_goto (pc := 57) C 61 dX4_biteOf_57 (by decide) ?_
          refine g_minN (pc := 61) C lm4_90 dX4_biteOf_61 (by omega) (by decide) (Nat.le_of_ble_eq_true rfl) ⟨Nat.zero_le _, Nat.zero_le _⟩ ?_
          exact g_iret (pc := 64) C F dX4_biteOf_64 rfl rfl (by unfold mBite; simp_all) (rfl)
      · refine g_aload_n (pc := 37) C (hl := rfl) dX4_biteOf_37 ?_
        refine g_iconst (pc := 38) C qk_iconst_1 dX4_biteOf_38 ?_
        refine g_iload_n (pc := 39) C (hl := rfl) dX4_biteOf_39 ?_
        refine g_V2v (pc := 40) C lv4_15 dX4_biteOf_40 (s4_of1 _ ht hc (by omega)) ht (by decide) (Nat.le_of_ble_eq_true rfl) ?_
        refine g_iload_n (pc := 43) C (hl := rfl) dX4_biteOf_43 ?_
        refine g_ic_eqN (pc := 44) C 49 dX4_biteOf_44 (by decide) (by omega) (fun c44 => ?_) (fun c44 => ?_)
        · refine g_iload (pc := 49) C (hl := rfl) dX4_biteOf_49 ?_
          refine g_iload_n (pc := 51) C (hl := rfl) dX4_biteOf_51 ?_
          refine g_iconst (pc := 52) C qk_iconst_2 dX4_biteOf_52 ?_
          refine g_ic_neN (pc := 53) C 60 dX4_biteOf_53 (by decide) (by omega) (fun c53 => ?_) (fun c53 => ?_)
          · refine g_iconst (pc := 60) C qk_iconst_1 dX4_biteOf_60 ?_
            refine g_minN (pc := 61) C lm4_90 dX4_biteOf_61 (by omega) (by decide) (Nat.le_of_ble_eq_true rfl) ⟨Nat.zero_le _, Nat.zero_le _⟩ ?_
            exact g_iret (pc := 64) C F dX4_biteOf_64 rfl rfl (by unfold mBite; simp_all) (rfl)
          · refine g_iconst (pc := 56) C qk_iconst_2 dX4_biteOf_56 ?_
            refine g_goto (pc := 57) C 61 dX4_biteOf_57 (by decide) ?_
            refine g_minN (pc := 61) C lm4_90 dX4_biteOf_61 (by omega) (by decide) (Nat.le_of_ble_eq_true rfl) ⟨Nat.zero_le _, Nat.zero_le _⟩ ?_
            exact g_iret (pc := 64) C F dX4_biteOf_64 rfl rfl (by unfold mBite; simp_all) (rfl)
        · refine g_iconst (pc := 47) C qk_iconst_0 dX4_biteOf_47 ?_
          exact g_iret (pc := 48) C F dX4_biteOf_48 rfl rfl (by unfold mBite; simp_all) (rfl)
