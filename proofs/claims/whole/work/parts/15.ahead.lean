abbrev mX : Type := (Nat → Nat) × Nat × Nat × Nat × Nat × Nat × Nat
abbrev TX (c g : Nat) (x : mX) : q_E := TO c g x.2.1 x.2.2.1 x.2.2.2.1 x.2.2.2.2.1 x.2.2.2.2.2.1 x.2.2.2.2.2.2
def mW (g : Nat) (x : mX) : Prop := mV x.1 g x.2.1 x.2.2.1
def mNext (g : Nat) (x : mX) : mX := (mF x.1 g x.2.1 x.2.2.1, mTu x.1 g x.2.1 x.2.2.1, x.2.2.1 + 1, mOn x.1 g x.2.2.1, (mZ x.1 g x.2.1 x.2.2.1).natAbs, mE x.1 g x.2.1 x.2.2.1, mB x.1 g x.2.1 x.2.2.1)
def mRun (g : Nat) (x : mX) : Nat → mX
  | 0 => x
  | k + 1 => mNext g (mRun g x k)
theorem mRun_s (g : Nat) (x : mX) (k : Nat) : mRun g (mNext g x) k = mRun g x (k + 1) := by
  induction k with
  | zero => rfl
  | succ k ih => show mNext g _ = mNext g _; rw [ih]
def mPass (g lim : Nat) : Nat → Nat → mX → Nat × mX
  | 0, s, x => (s, x)
  | m + 1, s, x => if s < lim then mPass g lim m (s + (mNext g x).2.2.2.2.1) (mNext g x) else (s, x)
theorem mNext_p {g : Nat} {x : mX} (hv : mW g x) : (mNext g x).2.2.2.2.1 ≤ 6 := by
  have h := mPush_b x.1 g x.2.1 (mOn x.1 g x.2.2.1) hv.1.1
  have h2 := hv.1.2.1
  show (mZ _ _ _ _).natAbs ≤ 6
  unfold mZ
  omega
theorem mNext_V {g : Nat} {x : mX} (hv : mW g x) : mW g (mNext g x) := by
  obtain ⟨f, tu, mi, o, p, e, b⟩ := x
  have hv : mV f g tu mi := hv
  show mV (mF f g tu mi) g (mTu f g tu mi) (mi + 1)
  have ho := mOn_lt hv
  have he := mE_lt hv
  have hg := hv.1.2.1
  have hb := mBite_le f (mOn f g mi) (mE f g tu mi)
  have hb1 : mB f g tu mi ≤ f (24 + mE f g tu mi) := hb.1
  have hb2 : mB f g tu mi ≤ 2 := hb.2
  have key : ∀ k, k ≠ 18 + mOn f g mi → k ≠ 24 + mE f g tu mi → mF f g tu mi k = f k := fun k h1 h2 => by unfold mF; rw [va_up_n h1, va_up_n h2]
  have k1 : mF f g tu mi (18 + mOn f g mi) = f (18 + mOn f g mi) + mB f g tu mi := by unfold mF; exact va_up_self _ _ _
  have k2 : mF f g tu mi (24 + mE f g tu mi) = f (24 + mE f g tu mi) - mB f g tu mi := by unfold mF; rw [va_up_n (by omega)]; exact va_up_self _ _ _
  refine ⟨⟨hv.1.1, hg, mTurn_lt _ _ _ hv.1.1⟩, fun i hi => ?_, fun i hi => ?_⟩
  · obtain ⟨a1, a2, a3, a4, a5, a6, a7, a8, a9⟩ := hv.2.1 i hi
    rw [key (12 + i) (by omega) (by omega), key (36 + i) (by omega) (by omega), key (30 + i) (by omega) (by omega), key (42 + i) (by omega) (by omega), key (0 + i) (by omega) (by omega), key (36 + f (12 + i)) (by omega) (by omega), key (12 + f (36 + i)) (by omega) (by omega), key (42 + f (30 + i)) (by omega) (by omega), key (30 + f (42 + i)) (by omega) (by omega)]
    exact ⟨a1, a2, a3, a4, a5, a6, a7, a8, a9⟩
  · obtain ⟨b1, b2, b3, b4, b5, b6⟩ := hv.2.2 i hi
    rw [key (0 + i) (by omega) (by omega), key (6 + i) (by omega) (by omega), key (12 + i) (by omega) (by omega), key (30 + i) (by omega) (by omega)]
    refine ⟨b1, b2, ?_, ?_, b5, b6⟩
    · by_cases h : i = mOn f g mi
      · rw [h, k1]; have := (hv.2.2 _ (by omega : mOn f g mi < 6)).2.2.1; omega
      · rw [key (18 + i) (by omega) (by omega)]; omega
    · by_cases h : i = mE f g tu mi
      · rw [h, k2]; have := (hv.2.2 _ (by omega : mE f g tu mi < 6)).2.2.2.1; omega
      · rw [key (24 + i) (by omega) (by omega)]; omega
theorem q_upI {h : q_H} {a : Nat} {e : q_E} (hh : h a = e) : q_up h a e = h := by
  funext k
  by_cases hk : k = a
  · rw [hk, q_up_s, hh]
  · rw [q_up_n _ _ hk]
theorem s4_passX {n : Nat} {h : q_H} {t c g : Nat} {x : mX} (ht : h t = TX c g x) (hc : h c = TA x.1) (hv : mW g x) (hm : x.2.2.1 < 1000000) : SP 3 yX4_passMinute cX4_passMinute 2 none [.ref t] n h none (q_up (q_up h c (TA (mNext g x).1)) t (TX c g (mNext g x))) := s4_passMinute ht hc hv hm
abbrev FO (l s b : Nat) : q_E := .inr (.inr (2, [.ref l, .ref s, .ref b]))
/-- a table that becomes another -/
def mCopy (x2 x : mX) : mX := (x2.1, x2.2.1, x2.2.2.1, x.2.2.2)
theorem s4_becomeX {n : Nat} {h : q_H} {t c g u cu g2 : Nat} {x x2 : mX} (ht : h t = TX c g x) (hc : h c = TA x.1) (hu : h u = TX cu g2 x2) (hcu : h cu = TA x2.1) (hn3 : u ≠ t) : SP 1 yX4_become cX4_become 2 none [.ref t, .ref u] n h none (q_up (q_up h c (TA (mCopy x2 x).1)) t (TX c g2 (mCopy x2 x))) := s4_become ht hc hu hcu hn3
set_option maxHeartbeats 2000000 in
set_option maxRecDepth 20000 in
theorem l2_pass {Γ : q_X} {ad : Nat → Nat} {n w t s bs c g N lim : Nat} {rz : Int32} {hF : q_H} (hlim : lim < 2147483648) (hN : N < 1000000) (C : q_C Γ ad 4 0 0 RX2 yX2_passMinutes cX2_passMinutes 5 (some .int)) (F : q_N Γ ad n (some (.int rz)) hF) : ∀ (k m i S : Nat) (x : mX) (H : q_H), m < k → i + m = N → H w = FO t s bs → H t = TX c g x → H c = TA x.1 → mW g x → x.2.2.1 + m < 1000000 → S + 6 * m < 1000000000 → rz = nI (mPass g lim m S x).1 → hF = q_up (q_up H c (TA (mPass g lim m S x).2.1)) t (TX c g (mPass g lim m S x).2) → q_G Γ ad 5 5 [some (.ref w), some (.int (nI N)), some (.int (nI lim)), some (.int (nI S)), some (.int (nI i))] [] n H 0 0 := by
  intro k
  induction k with
  | zero => intro m i S x H hm; omega
  | succ k ih =>
    intro m i S x H hk hN2 hw ht hc hv hm hS hz hH
    have wt : w ≠ t := fun q => by rw [q, ht] at hw; cases hw
    have wc : w ≠ c := fun q => by rw [q, hc] at hw; cases hw
    have tc : t ≠ c := fun q => by rw [q, hc] at ht; cases ht
    refine g_iload (pc := 5) C (hl := rfl) dX2_passMinutes_5 ?_
    refine g_iload_n (pc := 7) C (hl := rfl) dX2_passMinutes_7 ?_
    refine g_ic_geN (pc := 8) C 39 dX2_passMinutes_8 (by decide) (by omega) (fun c8 => ?_) (fun c8 => ?_)
    · refine g_iload_n (pc := 39) C (hl := rfl) dX2_passMinutes_39 ?_
      have e : mPass g lim m S x = (S, x) := by
        cases m with
        | zero => rfl
        | succ m => exact if_neg (by omega)
      rw [e] at hz hH
      exact g_iret (pc := 40) C F dX2_passMinutes_40 rfl rfl (by rw [hz]) (by rw [hH, q_upI hc, q_upI ht])
    · refine g_iload_n (pc := 11) C (hl := rfl) dX2_passMinutes_11 ?_
      refine g_iload_n (pc := 12) C (hl := rfl) dX2_passMinutes_12 ?_
      refine g_ic_geN (pc := 13) C 39 dX2_passMinutes_13 (by decide) (by omega) (fun c13 => ?_) (fun c13 => ?_)
      · refine g_iload_n (pc := 39) C (hl := rfl) dX2_passMinutes_39 ?_
        have e : mPass g lim m S x = (S, x) := by
          cases m with
          | zero => rfl
          | succ m => exact if_neg (by omega)
        rw [e] at hz hH
        exact g_iret (pc := 40) C F dX2_passMinutes_40 rfl rfl (by rw [hz]) (by rw [hH, q_upI hc, q_upI ht])
      · refine g_aload_n (pc := 16) C (hl := rfl) dX2_passMinutes_16 ?_
        refine g_get (pc := 17) C fl2_12 dX2_passMinutes_17 hw rfl ?_
        refine g_V0u (pc := 20) C lv2_34 dX2_passMinutes_20 (s4_passX ht hc hv (by omega)) ht (by decide) (Nat.le_of_ble_eq_true rfl) ?_
        refine g_iload_n (pc := 23) C (hl := rfl) dX2_passMinutes_23 ?_
        refine g_aload_n (pc := 24) C (hl := rfl) dX2_passMinutes_24 ?_
        refine g_get (pc := 25) C fl2_12 dX2_passMinutes_25 ((q_up_n _ _ wt).trans ((q_up_n _ _ wc).trans hw)) rfl ?_
        refine g_get (pc := 28) C fl2_37 dX2_passMinutes_28 (q_up_s _ _ _) rfl ?_
        refine g_iaddN (pc := 31) C dX2_passMinutes_31 ?_
        refine g_istore_n (pc := 32) C rfl dX2_passMinutes_32 ?_
        refine g_iincN (pc := 33) C (hl := rfl) (q_inc1 _) rfl dX2_passMinutes_33 ?_
        refine g_goto (pc := 36) C 5 dX2_passMinutes_36 (by decide) ?_
        obtain ⟨m2, rfl⟩ : ∃ m2, m = m2 + 1 := ⟨m - 1, by omega⟩
        have hp := mNext_p hv
        refine ih m2 (i + 1) _ (mNext g x) _ (by omega) (by omega) ((q_up_n _ _ wt).trans ((q_up_n _ _ wc).trans hw)) (q_up_s _ _ _) ((q_up_n _ _ (Ne.symm tc)).trans (q_up_s _ _ _)) (mNext_V hv) (by show x.2.2.1 + 1 + m2 < 1000000; omega) (by omega) ?_ ?_
        · rw [hz]; show nI (if S < lim then mPass g lim m2 _ _ else _).1 = _; rw [if_pos (Nat.not_le.mp c13)]
        · rw [hH]; show q_up (q_up H c (TA (if S < lim then mPass g lim m2 _ _ else _).2.1)) t (TX c g (if S < lim then mPass g lim m2 _ _ else _).2) = _; rw [if_pos (Nat.not_le.mp c13)]; simp only [q_up_u, q_up_c _ tc]
set_option maxHeartbeats 2000000 in
set_option maxRecDepth 20000 in
theorem s2_pass {n : Nat} {h : q_H} {w t s bs c g : Nat} {x : mX} (N lim : Nat) (hw : h w = FO t s bs) (ht : h t = TX c g x) (hc : h c = TA x.1) (hv : mW g x) (hlim : lim < 2147483648) (hN : N < 1000000) (hm : x.2.2.1 + N < 1000000) : SP 4 yX2_passMinutes cX2_passMinutes 5 (some .int) [.ref w, .int (nI N), .int (nI lim)] n h (some (.int (nI (mPass g lim N 0 x).1))) (q_up (q_up h c (TA (mPass g lim N 0 x).2.1)) t (TX c g (mPass g lim N 0 x).2)) := by
  refine q_SPi RX2 rfl (by decide +kernel) (la := _) rfl rfl (fun Γ ad C F => ?_)
  refine g_iconst (pc := 0) C qk_iconst_0 dX2_passMinutes_0 ?_
  refine g_istore_n (pc := 1) C rfl dX2_passMinutes_1 ?_
  refine g_iconst (pc := 2) C qk_iconst_0 dX2_passMinutes_2 ?_
  refine g_istore (pc := 3) C rfl dX2_passMinutes_3 ?_
  exact l2_pass hlim hN C F (N + 1) N 0 0 x _ (by omega) (by omega) hw ht hc hv hm (by omega) rfl rfl
set_option maxHeartbeats 2000000 in
set_option maxRecDepth 20000 in
theorem s2_look {n : Nat} {h : q_H} {w t s bs c g : Nat} {x : mX} {u cu gu : Nat} {xu : mX} (N : Nat) (hw : h w = FO t s bs) (ht : h t = TX c g x) (hc : h c = TA x.1) (hu : h u = TX cu gu xu) (hcu : h cu = TA xu.1) (hut : u ≠ t) (hv : mW gu (mCopy xu x)) (hN : N < 1000) (hm : (mCopy xu x).2.2.1 + N < 1000000) : SP 5 yX2_look cX2_look 3 (some .int) [.ref w, .ref u, .int (nI N)] n h (some (.int (nI (mPass gu 1000000 N 0 (mCopy xu x)).1))) (q_up (q_up h c (TA (mPass gu 1000000 N 0 (mCopy xu x)).2.1)) t (TX c gu (mPass gu 1000000 N 0 (mCopy xu x)).2)) := by
  have wt : w ≠ t := fun q => by rw [q, ht] at hw; cases hw
  have wc : w ≠ c := fun q => by rw [q, hc] at hw; cases hw
  have tc : t ≠ c := fun q => by rw [q, hc] at ht; cases ht
  have uc : u ≠ c := fun q => by rw [q, hc] at hu; cases hu
  have cut : cu ≠ t := fun q => by rw [q, ht] at hcu; cases hcu
  refine q_SPi RX2 rfl (by decide +kernel) (la := _) rfl rfl (fun Γ ad C F => ?_)
  refine g_aload_n (pc := 0) C (hl := rfl) dX2_look_0 ?_
  refine g_get (pc := 1) C fl2_12 dX2_look_1 hw rfl ?_
  refine g_aload_n (pc := 4) C (hl := rfl) dX2_look_4 ?_
  refine g_V1u (pc := 5) C lv2_25 dX2_look_5 (s4_becomeX ht hc hu hcu hut) ht (by decide) (Nat.le_of_ble_eq_true rfl) ?_
  refine g_aload_n (pc := 8) C (hl := rfl) dX2_look_8 ?_
  refine g_iload_n (pc := 9) C (hl := rfl) dX2_look_9 ?_
  refine g_ldc (pc := 10) C (v := nI 1000000) zk2_29 dX2_look_10 ?_
  refine g_V2v (pc := 12) C lv2_30 dX2_look_12 (s2_pass _ _ ((q_up_n _ _ wt).trans ((q_up_n _ _ wc).trans hw)) (q_up_s _ _ _) ((q_up_n _ _ (Ne.symm tc)).trans (q_up_s _ _ _)) hv (by decide) (by omega) hm) ((q_up_n _ _ wt).trans ((q_up_n _ _ wc).trans hw)) (by decide) (Nat.le_of_ble_eq_true rfl) ?_
  exact g_iret (pc := 15) C F dX2_look_15 rfl rfl (rfl) (by simp only [q_up_u, q_up_c _ tc])
