abbrev aG : Type := Nat → Nat × mX
def cG (H : q_H) (G : aG) : Prop := ∀ i, i < 24 → H (32 + 2 * i) = TX (33 + 2 * i) (G i).1 (G i).2 ∧ H (33 + 2 * i) = TA (G i).2.1
def q_ov (h : q_H) (g : Nat) (x : mX) (nx k : Nat) (G : aG) : q_H := fun a => if a = 29 then TA x.1 else if a = 28 then TX 29 g x else if a = 30 then AO 31 nx k else if 32 ≤ a ∧ a < 80 then (if a % 2 = 0 then TX (a + 1) (G ((a - 32) / 2)).1 (G ((a - 32) / 2)).2 else TA (G ((a - 32) / 2)).2.1) else h a
theorem q_ov_c {h h' : q_H} {g : Nat} {x : mX} {nx k : Nat} {G : aG} (e : ∀ a, (a < 28 ∨ a = 31 ∨ 80 ≤ a) → h a = h' a) : q_ov h g x nx k G = q_ov h' g x nx k G := by
  funext a
  unfold q_ov
  split
  · rfl
  · split
    · rfl
    · split
      · rfl
      · split
        · rfl
        · exact e a (by omega)
theorem q_ov_28 {h : q_H} {g : Nat} {x : mX} {nx k : Nat} {G : aG} : q_ov h g x nx k G 28 = TX 29 g x := rfl
theorem q_ov_29 {h : q_H} {g : Nat} {x : mX} {nx k : Nat} {G : aG} : q_ov h g x nx k G 29 = TA x.1 := rfl
theorem q_ov_30 {h : q_H} {g : Nat} {x : mX} {nx k : Nat} {G : aG} : q_ov h g x nx k G 30 = AO 31 nx k := rfl
theorem q_ov_o {h : q_H} {g : Nat} {x : mX} {nx k : Nat} {G : aG} {a : Nat} (e : a < 28 ∨ a = 31 ∨ 80 ≤ a) : q_ov h g x nx k G a = h a := by
  unfold q_ov
  rw [if_neg (by omega), if_neg (by omega), if_neg (by omega), if_neg (by omega)]
theorem q_ov_G {h : q_H} {g : Nat} {x : mX} {nx k : Nat} {G : aG} : cG (q_ov h g x nx k G) G := by
  intro i hi
  unfold q_ov
  constructor
  · rw [if_neg (by omega), if_neg (by omega), if_neg (by omega), if_pos (by omega), if_pos (by omega), show (32 + 2 * i - 32) / 2 = i by omega, show 32 + 2 * i + 1 = 33 + 2 * i by omega]
  · rw [if_neg (by omega), if_neg (by omega), if_neg (by omega), if_pos (by omega), if_neg (by omega), show (33 + 2 * i - 32) / 2 = i by omega]
theorem q_ov_0 {h : q_H} {g : Nat} {x : mX} {nx k : Nat} {G : aG} (h1 : h 28 = TX 29 g x) (h2 : h 29 = TA x.1) (h3 : h 30 = AO 31 nx k) (h4 : cG h G) : q_ov h g x nx k G = h := by
  funext a
  unfold q_ov
  split
  · subst a; exact h2.symm
  · split
    · subst a; exact h1.symm
    · split
      · subst a; exact h3.symm
      · split
        · split
          · have q := (h4 ((a - 32) / 2) (by omega)).1
            rw [show 32 + 2 * ((a - 32) / 2) = a by omega, show 33 + 2 * ((a - 32) / 2) = a + 1 by omega] at q
            exact q.symm
          · have q := (h4 ((a - 32) / 2) (by omega)).2
            rw [show 33 + 2 * ((a - 32) / 2) = a by omega] at q
            exact q.symm
        · rfl
theorem cG_up {H H' : q_H} {G : aG} {nx : Nat} {E : Nat × mX} (hG : cG H G) (e1 : H' (32 + 2 * nx) = TX (33 + 2 * nx) E.1 E.2) (e2 : H' (33 + 2 * nx) = TA E.2.1) (e3 : ∀ a, 32 ≤ a → a < 80 → a ≠ 32 + 2 * nx → a ≠ 33 + 2 * nx → H' a = H a) : cG H' (va_up G nx E) := by
  intro i hi
  by_cases h : i = nx
  · subst h
    unfold va_up
    rw [if_pos rfl]
    exact ⟨e1, e2⟩
  · unfold va_up
    rw [if_neg h, e3 _ (by omega) (by omega) (by omega) (by omega), e3 _ (by omega) (by omega) (by omega) (by omega)]
    exact hG i hi
def mMin (g : Nat) : Nat → mX × Nat × Nat × aG → mX × Nat × Nat × aG
  | 0, s => s
  | m + 1, s => mMin g m (mNext g s.1, (s.2.1 + 1) % 24, min (s.2.2.1 + 1) 24, va_up s.2.2.2 s.2.1 (g, mCopy s.1 (s.2.2.2 s.2.1).2))
set_option maxHeartbeats 2000000 in
set_option maxRecDepth 20000 in
theorem l7_mi {Γ : q_X} {ad : Nat → Nat} {n N g lf ld : Nat} {fa : Nat → Option Nat} {rz : Int32} {hF : q_H} (hN : N ≤ 24) (hfa : ∀ i, i < 24 → fa i = some (32 + 2 * i)) (C : q_C Γ ad 4 0 0 RX7 yX7_minutes cX7_minutes 3 (some .int)) (F : q_N Γ ad n (some (.int rz)) hF) : ∀ (m i : Nat) (x : mX) (nx k : Nat) (G : aG) (H : q_H), i + m = N → i ≤ N → H 0 = DO lf ld → H 28 = TX 29 g x → H 29 = TA x.1 → H 30 = AO 31 nx k → H 31 = TLs 24 fa → cG H G → (nx < 24 ∧ k ≤ 24) → mW g x → x.2.2.1 + m ≤ 999 → rz = nI (mMin g m (x, nx, k, G)).1.2.1 → hF = q_ov H g (mMin g m (x, nx, k, G)).1 (mMin g m (x, nx, k, G)).2.1 (mMin g m (x, nx, k, G)).2.2.1 (mMin g m (x, nx, k, G)).2.2.2 → q_G Γ ad 3 46 [some (.ref 0), some (.int (nI N)), some (.int (nI i))] [] n H 0 0 := by
  intro m
  induction m with
  | zero =>
    intro i x nx k G H hm hi h0 ht hc hA hB hG hnx hv_ hmi hz hH
    refine g_iload_n (pc := 46) C (hl := rfl) dX7_minutes_46 ?_
    refine g_iload_n (pc := 47) C (hl := rfl) dX7_minutes_47 ?_
    refine g_ic_geN (pc := 48) C 75 dX7_minutes_48 (by decide) (by omega) (fun _ => ?_) (fun q => absurd (by omega) q)
    refine g_aload_n (pc := 75) C (hl := rfl) dX7_minutes_75 ?_
    refine g_get (pc := 76) C fl7_30 dX7_minutes_76 h0 rfl ?_
    refine g_get (pc := 79) C fl7_157 dX7_minutes_79 ht rfl ?_
    exact g_iret (pc := 82) C F dX7_minutes_82 rfl rfl (by rw [hz]; rfl) (by rw [hH]; exact (q_ov_0 ht hc hA hG).symm)
  | succ m ih =>
    intro i x nx k G H hm hi h0 ht hc hA hB hG hnx hv_ hmi hz hH
    obtain ⟨hv, hvc⟩ := hG nx hnx.1
    refine g_iload_n (pc := 46) C (hl := rfl) dX7_minutes_46 ?_
    refine g_iload_n (pc := 47) C (hl := rfl) dX7_minutes_47 ?_
    refine g_ic_geN (pc := 48) C 75 dX7_minutes_48 (by decide) (by omega) (fun q => absurd q (by omega)) (fun _ => ?_)
    refine g_aload_n (pc := 51) C (hl := rfl) dX7_minutes_51 ?_
    refine g_get (pc := 52) C fl7_37 dX7_minutes_52 h0 rfl ?_
    refine g_aload_n (pc := 55) C (hl := rfl) dX7_minutes_55 ?_
    refine g_get (pc := 56) C fl7_30 dX7_minutes_56 h0 rfl ?_
    refine g_V1u (pc := 59) C lv7_151 dX7_minutes_59 (s0_keep (hA) (hB) hnx (hfa nx hnx.1) (ht) (hc) (hv) (hvc) (by omega)) hA (by decide) (Nat.le_of_ble_eq_true rfl) ?_
    refine g_aload_n (pc := 62) C (hl := rfl) dX7_minutes_62 ?_
    refine g_get (pc := 63) C fl7_30 dX7_minutes_63 ((q_up_n _ _ (by omega)).trans ((q_up_n _ _ (by omega)).trans ((q_up_n _ _ (by omega)).trans h0))) rfl ?_
    refine g_V0u (pc := 66) C lv7_154 dX7_minutes_66 (s4_passX (x := x) (((q_up_n _ _ (by omega)).trans ((q_up_n _ _ (by omega)).trans ((q_up_n _ _ (by omega)).trans ht)))) (((q_up_n _ _ (by omega)).trans ((q_up_n _ _ (by omega)).trans ((q_up_n _ _ (by omega)).trans hc)))) hv_ (by omega)) ((q_up_n _ _ (by omega)).trans ((q_up_n _ _ (by omega)).trans ((q_up_n _ _ (by omega)).trans ht))) (by decide) (Nat.le_of_ble_eq_true rfl) ?_
    refine g_iincN (pc := 69) C (hl := rfl) (q_inc1 _) rfl dX7_minutes_69 ?_
    refine g_goto (pc := 72) C 46 dX7_minutes_72 (by decide) ?_
    refine ih (i + 1) _ _ _ _ _ (by omega) (by omega) (((q_up_n _ _ (by omega)).trans ((q_up_n _ _ (by omega)).trans ((q_up_n _ _ (by omega)).trans ((q_up_n _ _ (by omega)).trans ((q_up_n _ _ (by omega)).trans h0)))))) ((q_up_s _ _ _)) (((q_up_n _ _ (by omega)).trans (q_up_s _ _ _))) (((q_up_n _ _ (by omega)).trans ((q_up_n _ _ (by omega)).trans (q_up_s _ _ _)))) (((q_up_n _ _ (by omega)).trans ((q_up_n _ _ (by omega)).trans ((q_up_n _ _ (by omega)).trans ((q_up_n _ _ (by omega)).trans ((q_up_n _ _ (by omega)).trans hB)))))) (cG_up (E := (g, mCopy x (G nx).2)) hG ((q_up_n _ _ (by omega)).trans ((q_up_n _ _ (by omega)).trans ((q_up_n _ _ (by omega)).trans (q_up_s _ _ _)))) ((q_up_n _ _ (by omega)).trans ((q_up_n _ _ (by omega)).trans ((q_up_n _ _ (by omega)).trans ((q_up_n _ _ (by omega)).trans (q_up_s _ _ _))))) (fun a h1 h2 h3 h4 => ((q_up_n _ _ (by omega)).trans ((q_up_n _ _ (by omega)).trans ((q_up_n _ _ (by omega)).trans ((q_up_n _ _ (by omega)).trans (q_up_n _ _ (by omega)))))))) ⟨Nat.mod_lt _ (by decide), Nat.min_le_right _ _⟩ (mNext_V hv_) (by show x.2.2.1 + 1 + m ≤ 999; omega) ?_ ?_
    · rw [hz]; rfl
    · rw [hH]; exact q_ov_c (fun a ha => ((q_up_n _ _ (by omega)).trans ((q_up_n _ _ (by omega)).trans ((q_up_n _ _ (by omega)).trans ((q_up_n _ _ (by omega)).trans (q_up_n _ _ (by omega)))))).symm)
set_option maxHeartbeats 2000000 in
set_option maxRecDepth 20000 in
theorem s7_minutesN {n : Nat} {h : q_H} {lf ld : Nat} {g : Nat} {x : mX} (h0 : h 0 = DO lf ld) (ht : h 28 = TX 29 g x) (hc : h 29 = TA x.1) (z : Int32) (hg : g = 0) : SP 1 yX7_minutes cX7_minutes 3 (some .int) [.ref 0, .int z] n h (some (.int (-1000002))) h := by
  refine q_SPi RX7 rfl (by decide +kernel) (la := _) rfl rfl (fun Γ ad C F => ?_)
  refine g_aload_n (pc := 0) C (hl := rfl) dX7_minutes_0 ?_
  refine g_get (pc := 1) C fl7_30 dX7_minutes_1 h0 rfl ?_
  refine g_V0v (pc := 4) C lv7_144 dX7_minutes_4 (s4_standsZ (ht) hg) ht (by decide) (Nat.le_of_ble_eq_true rfl) ?_
  refine g_if_neN (pc := 7) C 13 dX7_minutes_7 (by decide) (by decide) (fun q => absurd q (by decide)) (fun _ => ?_)
  refine g_ldc (pc := 10) C (v := -1000002) zk7_147 dX7_minutes_10 ?_
  exact g_iret (pc := 12) C F dX7_minutes_12 rfl rfl (rfl) (rfl)
set_option maxHeartbeats 2000000 in
set_option maxRecDepth 20000 in
theorem s7_minutesB {n : Nat} {h : q_H} {lf ld : Nat} {g : Nat} {x : mX} (h0 : h 0 = DO lf ld) (ht : h 28 = TX 29 g x) (hc : h 29 = TA x.1) (z : Int32) (hg : 0 < g ∧ g ≤ 6) (hz : z < nI 1 ∨ nI 24 < z) : SP 1 yX7_minutes cX7_minutes 3 (some .int) [.ref 0, .int z] n h (some (.int (-1000001))) h := by
  refine q_SPi RX7 rfl (by decide +kernel) (la := _) rfl rfl (fun Γ ad C F => ?_)
  refine g_aload_n (pc := 0) C (hl := rfl) dX7_minutes_0 ?_
  refine g_get (pc := 1) C fl7_30 dX7_minutes_1 h0 rfl ?_
  refine g_V0v (pc := 4) C lv7_144 dX7_minutes_4 (s4_standsT (ht) hg) ht (by decide) (Nat.le_of_ble_eq_true rfl) ?_
  refine g_if_neN (pc := 7) C 13 dX7_minutes_7 (by decide) (by decide) (fun _ => ?_) (fun q => absurd q (by decide))
  refine g_iload_n (pc := 13) C (hl := rfl) dX7_minutes_13 ?_
  refine g_iconst (pc := 14) C qk_iconst_1 dX7_minutes_14 ?_
  refine g_bipush (pc := 15) C qk_bipush_24 dX7_minutes_15 ?_
  refine g_S3v (pc := 17) C ls7_59 dX7_minutes_17 (s7_withinF _ _ _ hz) (by decide) (Nat.le_of_ble_eq_true rfl) ?_
  refine g_if_neN (pc := 20) C 26 dX7_minutes_20 (by decide) (by decide) (fun q => absurd q (by decide)) (fun _ => ?_)
  refine g_ldc (pc := 23) C (v := -1000001) zk7_63 dX7_minutes_23 ?_
  exact g_iret (pc := 25) C F dX7_minutes_25 rfl rfl (rfl) (rfl)
set_option maxHeartbeats 2000000 in
set_option maxRecDepth 20000 in
theorem s7_minutesM {n : Nat} {h : q_H} {lf ld : Nat} {g : Nat} {x : mX} (h0 : h 0 = DO lf ld) (ht : h 28 = TX 29 g x) (hc : h 29 = TA x.1) (N : Nat) (hg : 0 < g ∧ g ≤ 6) (hN : 1 ≤ N ∧ N ≤ 24) (hm : x.2.2.1 ≤ 999 ∧ 999 < x.2.2.1 + N) : SP 1 yX7_minutes cX7_minutes 3 (some .int) [.ref 0, .int (nI N)] n h (some (.int (-1000003))) h := by
  refine q_SPi RX7 rfl (by decide +kernel) (la := _) rfl rfl (fun Γ ad C F => ?_)
  refine g_aload_n (pc := 0) C (hl := rfl) dX7_minutes_0 ?_
  refine g_get (pc := 1) C fl7_30 dX7_minutes_1 h0 rfl ?_
  refine g_V0v (pc := 4) C lv7_144 dX7_minutes_4 (s4_standsT (ht) hg) ht (by decide) (Nat.le_of_ble_eq_true rfl) ?_
  refine g_if_neN (pc := 7) C 13 dX7_minutes_7 (by decide) (by decide) (fun _ => ?_) (fun q => absurd q (by decide))
  refine g_iload_n (pc := 13) C (hl := rfl) dX7_minutes_13 ?_
  refine g_iconst (pc := 14) C qk_iconst_1 dX7_minutes_14 ?_
  refine g_bipush (pc := 15) C qk_bipush_24 dX7_minutes_15 ?_
  refine g_S3v (pc := 17) C ls7_59 dX7_minutes_17 (s7_withinN N 1 24 (by omega)) (by decide) (Nat.le_of_ble_eq_true rfl) ?_
  refine g_if_neN (pc := 20) C 26 dX7_minutes_20 (by decide) (by decide) (fun _ => ?_) (fun q => absurd q (by decide))
  refine g_aload_n (pc := 26) C (hl := rfl) dX7_minutes_26 ?_
  refine g_get (pc := 27) C fl7_30 dX7_minutes_27 h0 rfl ?_
  refine g_get (pc := 30) C fl7_148 dX7_minutes_30 ht rfl ?_
  refine g_iload_n (pc := 33) C (hl := rfl) dX7_minutes_33 ?_
  refine g_iaddN (pc := 34) C dX7_minutes_34 ?_
  refine g_sipush (pc := 35) C qk_sipush_999 dX7_minutes_35 ?_
  refine g_ic_leN (pc := 38) C 44 dX7_minutes_38 (by decide) (by omega) (fun q => absurd q (by omega)) (fun _ => ?_)
  refine g_ldc (pc := 41) C (v := -1000003) zk7_110 dX7_minutes_41 ?_
  exact g_iret (pc := 43) C F dX7_minutes_43 rfl rfl (rfl) (rfl)
set_option maxHeartbeats 2000000 in
set_option maxRecDepth 20000 in
theorem s7_minutesT {n : Nat} {h : q_H} {lf ld : Nat} {g : Nat} {x : mX} (h0 : h 0 = DO lf ld) (ht : h 28 = TX 29 g x) (hc : h 29 = TA x.1) {nx k : Nat} {fa : Nat → Option Nat} {G : aG} (N : Nat) (hg : 0 < g ∧ g ≤ 6) (hN : 1 ≤ N ∧ N ≤ 24) (hm : x.2.2.1 + N ≤ 999) (hA : h 30 = AO 31 nx k) (hB : h 31 = TLs 24 fa) (hfa : ∀ i, i < 24 → fa i = some (32 + 2 * i)) (hG : cG h G) (hnx : nx < 24 ∧ k ≤ 24) (hv_ : mW g x) : SP 4 yX7_minutes cX7_minutes 3 (some .int) [.ref 0, .int (nI N)] n h (some (.int (nI (mMin g N (x, nx, k, G)).1.2.1))) (q_ov h g (mMin g N (x, nx, k, G)).1 (mMin g N (x, nx, k, G)).2.1 (mMin g N (x, nx, k, G)).2.2.1 (mMin g N (x, nx, k, G)).2.2.2) := by
  refine q_SPi RX7 rfl (by decide +kernel) (la := _) rfl rfl (fun Γ ad C F => ?_)
  refine g_aload_n (pc := 0) C (hl := rfl) dX7_minutes_0 ?_
  refine g_get (pc := 1) C fl7_30 dX7_minutes_1 h0 rfl ?_
  refine g_V0v (pc := 4) C lv7_144 dX7_minutes_4 (s4_standsT (ht) hg) ht (by decide) (Nat.le_of_ble_eq_true rfl) ?_
  refine g_if_neN (pc := 7) C 13 dX7_minutes_7 (by decide) (by decide) (fun _ => ?_) (fun q => absurd q (by decide))
  refine g_iload_n (pc := 13) C (hl := rfl) dX7_minutes_13 ?_
  refine g_iconst (pc := 14) C qk_iconst_1 dX7_minutes_14 ?_
  refine g_bipush (pc := 15) C qk_bipush_24 dX7_minutes_15 ?_
  refine g_S3v (pc := 17) C ls7_59 dX7_minutes_17 (s7_withinN N 1 24 (by omega)) (by decide) (Nat.le_of_ble_eq_true rfl) ?_
  refine g_if_neN (pc := 20) C 26 dX7_minutes_20 (by decide) (by decide) (fun _ => ?_) (fun q => absurd q (by decide))
  refine g_aload_n (pc := 26) C (hl := rfl) dX7_minutes_26 ?_
  refine g_get (pc := 27) C fl7_30 dX7_minutes_27 h0 rfl ?_
  refine g_get (pc := 30) C fl7_148 dX7_minutes_30 ht rfl ?_
  refine g_iload_n (pc := 33) C (hl := rfl) dX7_minutes_33 ?_
  refine g_iaddN (pc := 34) C dX7_minutes_34 ?_
  refine g_sipush (pc := 35) C qk_sipush_999 dX7_minutes_35 ?_
  refine g_ic_leN (pc := 38) C 44 dX7_minutes_38 (by decide) (by omega) (fun _ => ?_) (fun q => absurd (by omega) q)
  refine g_iconst (pc := 44) C qk_iconst_0 dX7_minutes_44 ?_
  refine g_istore_n (pc := 45) C rfl dX7_minutes_45 ?_
  exact l7_mi hN.2 hfa C F N 0 x nx k G h (by omega) (by omega) h0 ht hc hA hB hG hnx hv_ (by omega) rfl rfl
set_option maxHeartbeats 2000000 in
set_option maxRecDepth 20000 in
theorem s7_imageB {n : Nat} {h : q_H} {lf ld : Nat} (z : Int32) (h0 : h 0 = DO lf ld) {fi : Nat → Option Nat} (hI : h 18 = TLs 2 fi) (hfi : ∀ i, i < 2 → fi i = some (19 + 2 * i)) (hz : z < 0 ∨ nI 2 ≤ z) : SP 1 yX7_image cX7_image 3 (some .int) [.ref 0, .int z] n h (some (.int (-1000001))) h := by
  refine q_SPi RX7 rfl (by decide +kernel) (la := _) rfl rfl (fun Γ ad C F => ?_)
  refine g_aload_n (pc := 0) C (hl := rfl) dX7_image_0 ?_
  refine g_iload_n (pc := 1) C (hl := rfl) dX7_image_1 ?_
  refine g_V1v (pc := 2) C lv7_232 dX7_image_2 (s7_imageAtO z (h0) (hI) hz) h0 (by decide) (Nat.le_of_ble_eq_true rfl) ?_
  refine g_astore_nN (pc := 5) C rfl dX7_image_5 ?_
  refine g_aload_nN (pc := 6) C (hl := rfl) dX7_image_6 ?_
  refine g_ifnonnullN (pc := 7) C dX7_image_7 ?_
  refine g_ldc (pc := 10) C (v := -1000001) zk7_63 dX7_image_10 ?_
  exact g_iret (pc := 12) C F dX7_image_12 rfl rfl (rfl) (rfl)
set_option maxHeartbeats 2000000 in
set_option maxRecDepth 20000 in
theorem s7_restoreB {n : Nat} {h : q_H} {lf ld : Nat} (z : Int32) (h0 : h 0 = DO lf ld) {fi : Nat → Option Nat} (hI : h 18 = TLs 2 fi) (hfi : ∀ i, i < 2 → fi i = some (19 + 2 * i)) (hz : z < 0 ∨ nI 2 ≤ z) : SP 1 yX7_restore cX7_restore 3 (some .int) [.ref 0, .int z] n h (some (.int (-1000001))) h := by
  refine q_SPi RX7 rfl (by decide +kernel) (la := _) rfl rfl (fun Γ ad C F => ?_)
  refine g_aload_n (pc := 0) C (hl := rfl) dX7_restore_0 ?_
  refine g_iload_n (pc := 1) C (hl := rfl) dX7_restore_1 ?_
  refine g_V1v (pc := 2) C lv7_232 dX7_restore_2 (s7_imageAtO z (h0) (hI) hz) h0 (by decide) (Nat.le_of_ble_eq_true rfl) ?_
  refine g_astore_nN (pc := 5) C rfl dX7_restore_5 ?_
  refine g_aload_nN (pc := 6) C (hl := rfl) dX7_restore_6 ?_
  refine g_ifnonnullN (pc := 7) C dX7_restore_7 ?_
  refine g_ldc (pc := 10) C (v := -1000001) zk7_63 dX7_restore_10 ?_
  exact g_iret (pc := 12) C F dX7_restore_12 rfl rfl (rfl) (rfl)
set_option maxHeartbeats 2000000 in
set_option maxRecDepth 20000 in
theorem s7_imageN {n : Nat} {h : q_H} {lf ld : Nat} {g : Nat} {x : mX} (h0 : h 0 = DO lf ld) (ht : h 28 = TX 29 g x) (hc : h 29 = TA x.1) (i : Nat) {fi : Nat → Option Nat} (hI : h 18 = TLs 2 fi) (hfi : ∀ i, i < 2 → fi i = some (19 + 2 * i)) {g2 : Nat} {x2 : mX} (hq : h (19 + 2 * i) = TX (20 + 2 * i) g2 x2) (hqc : h (20 + 2 * i) = TA x2.1) (hi : i < 2) (hg : g = 0) : SP 1 yX7_image cX7_image 3 (some .int) [.ref 0, .int (nI i)] n h (some (.int (-1000002))) h := by
  refine q_SPi RX7 rfl (by decide +kernel) (la := _) rfl rfl (fun Γ ad C F => ?_)
  refine g_aload_n (pc := 0) C (hl := rfl) dX7_image_0 ?_
  refine g_iload_n (pc := 1) C (hl := rfl) dX7_image_1 ?_
  refine g_V1v (pc := 2) C lv7_232 dX7_image_2 (s7_imageAtI i (h0) (hI) hfi hi) h0 (by decide) (Nat.le_of_ble_eq_true rfl) ?_
  refine g_astore_n (pc := 5) C rfl dX7_image_5 ?_
  refine g_aload_n (pc := 6) C (hl := rfl) dX7_image_6 ?_
  refine g_ifnonnull (pc := 7) C 13 dX7_image_7 (by decide) ?_
  refine g_aload_n (pc := 13) C (hl := rfl) dX7_image_13 ?_
  refine g_get (pc := 14) C fl7_30 dX7_image_14 h0 rfl ?_
  refine g_V0v (pc := 17) C lv7_144 dX7_image_17 (s4_standsZ (ht) hg) ht (by decide) (Nat.le_of_ble_eq_true rfl) ?_
  refine g_if_neN (pc := 20) C 26 dX7_image_20 (by decide) (by decide) (fun q => absurd q (by decide)) (fun _ => ?_)
  refine g_ldc (pc := 23) C (v := -1000002) zk7_147 dX7_image_23 ?_
  exact g_iret (pc := 25) C F dX7_image_25 rfl rfl (rfl) (rfl)
set_option maxHeartbeats 2000000 in
set_option maxRecDepth 20000 in
theorem s7_imageT {n : Nat} {h : q_H} {lf ld : Nat} {g : Nat} {x : mX} (h0 : h 0 = DO lf ld) (ht : h 28 = TX 29 g x) (hc : h 29 = TA x.1) (i : Nat) {fi : Nat → Option Nat} (hI : h 18 = TLs 2 fi) (hfi : ∀ i, i < 2 → fi i = some (19 + 2 * i)) {g2 : Nat} {x2 : mX} (hq : h (19 + 2 * i) = TX (20 + 2 * i) g2 x2) (hqc : h (20 + 2 * i) = TA x2.1) (hi : i < 2) (hg : 0 < g ∧ g ≤ 6) : SP 2 yX7_image cX7_image 3 (some .int) [.ref 0, .int (nI i)] n h (some (.int (nI 1))) (q_up (q_up h (20 + 2 * i) (TA (mCopy x x2).1)) (19 + 2 * i) (TX (20 + 2 * i) g (mCopy x x2))) := by
  refine q_SPi RX7 rfl (by decide +kernel) (la := _) rfl rfl (fun Γ ad C F => ?_)
  refine g_aload_n (pc := 0) C (hl := rfl) dX7_image_0 ?_
  refine g_iload_n (pc := 1) C (hl := rfl) dX7_image_1 ?_
  refine g_V1v (pc := 2) C lv7_232 dX7_image_2 (s7_imageAtI i (h0) (hI) hfi hi) h0 (by decide) (Nat.le_of_ble_eq_true rfl) ?_
  refine g_astore_n (pc := 5) C rfl dX7_image_5 ?_
  refine g_aload_n (pc := 6) C (hl := rfl) dX7_image_6 ?_
  refine g_ifnonnull (pc := 7) C 13 dX7_image_7 (by decide) ?_
  refine g_aload_n (pc := 13) C (hl := rfl) dX7_image_13 ?_
  refine g_get (pc := 14) C fl7_30 dX7_image_14 h0 rfl ?_
  refine g_V0v (pc := 17) C lv7_144 dX7_image_17 (s4_standsT (ht) hg) ht (by decide) (Nat.le_of_ble_eq_true rfl) ?_
  refine g_if_neN (pc := 20) C 26 dX7_image_20 (by decide) (by decide) (fun _ => ?_) (fun q => absurd q (by decide))
  refine g_aload_n (pc := 26) C (hl := rfl) dX7_image_26 ?_
  refine g_aload_n (pc := 27) C (hl := rfl) dX7_image_27 ?_
  refine g_get (pc := 28) C fl7_30 dX7_image_28 h0 rfl ?_
  refine g_V1u (pc := 31) C lv7_134 dX7_image_31 (s4_becomeX (x := x2) (x2 := x) (hq) (hqc) (ht) (hc) (by omega)) hq (by decide) (Nat.le_of_ble_eq_true rfl) ?_
  refine g_iconst (pc := 34) C qk_iconst_1 dX7_image_34 ?_
  exact g_iret (pc := 35) C F dX7_image_35 rfl rfl (rfl) (rfl)
set_option maxHeartbeats 2000000 in
set_option maxRecDepth 20000 in
theorem s7_restoreN {n : Nat} {h : q_H} {lf ld : Nat} (i : Nat) (h0 : h 0 = DO lf ld) {fi : Nat → Option Nat} (hI : h 18 = TLs 2 fi) (hfi : ∀ i, i < 2 → fi i = some (19 + 2 * i)) {g2 : Nat} {x2 : mX} (hq : h (19 + 2 * i) = TX (20 + 2 * i) g2 x2) (hqc : h (20 + 2 * i) = TA x2.1) (hi : i < 2) (hg : g2 = 0) : SP 1 yX7_restore cX7_restore 3 (some .int) [.ref 0, .int (nI i)] n h (some (.int (-1000002))) h := by
  refine q_SPi RX7 rfl (by decide +kernel) (la := _) rfl rfl (fun Γ ad C F => ?_)
  refine g_aload_n (pc := 0) C (hl := rfl) dX7_restore_0 ?_
  refine g_iload_n (pc := 1) C (hl := rfl) dX7_restore_1 ?_
  refine g_V1v (pc := 2) C lv7_232 dX7_restore_2 (s7_imageAtI i (h0) (hI) hfi hi) h0 (by decide) (Nat.le_of_ble_eq_true rfl) ?_
  refine g_astore_n (pc := 5) C rfl dX7_restore_5 ?_
  refine g_aload_n (pc := 6) C (hl := rfl) dX7_restore_6 ?_
  refine g_ifnonnull (pc := 7) C 13 dX7_restore_7 (by decide) ?_
  refine g_aload_n (pc := 13) C (hl := rfl) dX7_restore_13 ?_
  refine g_V0v (pc := 14) C lv7_144 dX7_restore_14 (s4_standsZ (hq) hg) hq (by decide) (Nat.le_of_ble_eq_true rfl) ?_
  refine g_if_neN (pc := 17) C 23 dX7_restore_17 (by decide) (by decide) (fun q => absurd q (by decide)) (fun _ => ?_)
  refine g_ldc (pc := 20) C (v := -1000002) zk7_147 dX7_restore_20 ?_
  exact g_iret (pc := 22) C F dX7_restore_22 rfl rfl (rfl) (rfl)
set_option maxHeartbeats 2000000 in
set_option maxRecDepth 20000 in
theorem s7_restoreT {n : Nat} {h : q_H} {lf ld : Nat} {g : Nat} {x : mX} (h0 : h 0 = DO lf ld) (ht : h 28 = TX 29 g x) (hc : h 29 = TA x.1) {nx k : Nat} (hA : h 30 = AO 31 nx k) (i : Nat) {fi : Nat → Option Nat} (hI : h 18 = TLs 2 fi) (hfi : ∀ i, i < 2 → fi i = some (19 + 2 * i)) {g2 : Nat} {x2 : mX} (hq : h (19 + 2 * i) = TX (20 + 2 * i) g2 x2) (hqc : h (20 + 2 * i) = TA x2.1) (hi : i < 2) (hg : 0 < g2 ∧ g2 ≤ 6) : SP 2 yX7_restore cX7_restore 3 (some .int) [.ref 0, .int (nI i)] n h (some (.int (nI 1))) (q_up (q_up (q_up h 29 (TA (mCopy x2 x).1)) 28 (TX 29 g2 (mCopy x2 x))) 30 (AO 31 nx 0)) := by
  refine q_SPi RX7 rfl (by decide +kernel) (la := _) rfl rfl (fun Γ ad C F => ?_)
  refine g_aload_n (pc := 0) C (hl := rfl) dX7_restore_0 ?_
  refine g_iload_n (pc := 1) C (hl := rfl) dX7_restore_1 ?_
  refine g_V1v (pc := 2) C lv7_232 dX7_restore_2 (s7_imageAtI i (h0) (hI) hfi hi) h0 (by decide) (Nat.le_of_ble_eq_true rfl) ?_
  refine g_astore_n (pc := 5) C rfl dX7_restore_5 ?_
  refine g_aload_n (pc := 6) C (hl := rfl) dX7_restore_6 ?_
  refine g_ifnonnull (pc := 7) C 13 dX7_restore_7 (by decide) ?_
  refine g_aload_n (pc := 13) C (hl := rfl) dX7_restore_13 ?_
  refine g_V0v (pc := 14) C lv7_144 dX7_restore_14 (s4_standsT (hq) hg) hq (by decide) (Nat.le_of_ble_eq_true rfl) ?_
  refine g_if_neN (pc := 17) C 23 dX7_restore_17 (by decide) (by decide) (fun _ => ?_) (fun q => absurd q (by decide))
  refine g_aload_n (pc := 23) C (hl := rfl) dX7_restore_23 ?_
  refine g_get (pc := 24) C fl7_30 dX7_restore_24 h0 rfl ?_
  refine g_aload_n (pc := 27) C (hl := rfl) dX7_restore_27 ?_
  refine g_V1u (pc := 28) C lv7_134 dX7_restore_28 (s4_becomeX (x := x) (x2 := x2) (ht) (hc) (hq) (hqc) (by omega)) ht (by decide) (Nat.le_of_ble_eq_true rfl) ?_
  refine g_aload_n (pc := 31) C (hl := rfl) dX7_restore_31 ?_
  refine g_get (pc := 32) C fl7_37 dX7_restore_32 ((q_up_n _ _ (by omega)).trans ((q_up_n _ _ (by omega)).trans h0)) rfl ?_
  refine g_V0u (pc := 35) C lv7_138 dX7_restore_35 (s0_forget (((q_up_n _ _ (by omega)).trans ((q_up_n _ _ (by omega)).trans hA)))) ((q_up_n _ _ (by omega)).trans ((q_up_n _ _ (by omega)).trans hA)) (by decide) (Nat.le_of_ble_eq_true rfl) ?_
  refine g_iconst (pc := 38) C qk_iconst_1 dX7_restore_38 ?_
  exact g_iret (pc := 39) C F dX7_restore_39 rfl rfl (rfl) (rfl)
