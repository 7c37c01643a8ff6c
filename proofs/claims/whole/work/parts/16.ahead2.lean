def mSwS (f : Nat → Nat) (j k : Nat) : Nat → Nat := va_up (va_up (va_up (va_up f (12 + j) (f (12 + k))) (12 + k) (f (12 + j))) (36 + f (12 + k)) j) (36 + f (12 + j)) k
def mSeat (j k : Nat) (x : mX) : mX := if j = k then x else (mSwS x.1 j k, x.2)
def mSat (gu N j k : Nat) (xu x : mX) : mX := (mPass gu 1000000 N 0 (mSeat j k (mCopy xu x))).2
noncomputable def mQ (p : Prop) : Nat := @ite Nat p (Classical.propDecidable p) 1 0
theorem mQ_t {p : Prop} (h : p) : mQ p = 1 := @if_pos p (Classical.propDecidable p) h Nat 1 0
theorem mQ_f {p : Prop} (h : ¬ p) : mQ p = 0 := @if_neg p (Classical.propDecidable p) h Nat 1 0
noncomputable def mBits (p : Nat → Prop) : Nat → Nat
  | 0 => 0
  | d + 1 => mBits p d + mQ (p d) * 2 ^ d
theorem mBits_lt (p : Nat → Prop) : ∀ d, mBits p d < 2 ^ d
  | 0 => Nat.one_pos
  | d + 1 => by
    have h := mBits_lt p d
    show mBits p d + mQ (p d) * 2 ^ d < 2 ^ (d + 1)
    have : mQ (p d) * 2 ^ d ≤ 2 ^ d := by
      by_cases hp : p d
      · rw [mQ_t hp]; omega
      · rw [mQ_f hp]; omega
    rw [Nat.pow_succ]
    omega
theorem q_bit : ∀ d, d < 6 → ∀ S, S < 2 ^ d → nI S ||| (nI 1 <<< (nI d &&& 31)) = nI (S + 1 * 2 ^ d) := by decide +kernel
theorem q_bitE {p : Nat → Prop} {d : Nat} (hd : d < 6) (hp : p d) : nI (mBits p d) ||| (nI 1 <<< (nI d &&& 31)) = nI (mBits p (d + 1)) := by
  rw [q_bit d hd _ (mBits_lt p d)]
  show _ = nI (mBits p d + mQ (p d) * 2 ^ d)
  rw [mQ_t hp]
theorem mBits_n {p : Nat → Prop} {d : Nat} (hp : ¬ p d) : mBits p (d + 1) = mBits p d := by
  show mBits p d + mQ (p d) * 2 ^ d = _
  rw [mQ_f hp]; omega
theorem g_iorE {Γ : q_X} {ad : Nat → Nat} {d mc ms : Nat} {own : String} {y : MethodName} {cc : ByteArray} {nL : Nat} {ret : Option FieldType} {pc : Nat} {la : List (Option Value)} {st : List Value} {n : Nat} {h : q_H} {k1 k2 : Nat} (C : q_C Γ ad d mc ms own y cc nL ret) {x z w : Int32} (hw : x ||| z = w) (hdg : decode cc pc = .ok (.ior, 1)) (kk : q_G Γ ad nL (pc + 1) la (.int w :: st) n h k1 k2) : q_G Γ ad nL pc la (.int z :: .int x :: st) n h k1 k2 := g_ior C hdg (by rw [hw]; exact kk)
set_option maxHeartbeats 2000000 in
set_option maxRecDepth 20000 in
theorem s2_seat {n : Nat} {h : q_H} {w t s bs c g : Nat} {x : mX} {u cu gu : Nat} {xu : mX} (j k N : Nat) (hw : h w = FO t s bs) (ht : h t = TX c g x) (hc : h c = TA x.1) (hu : h u = TX cu gu xu) (hcu : h cu = TA xu.1) (hut : u ≠ t) (hj : j < 6 ∧ k < 6 ∧ xu.1 (12 + j) < 6 ∧ xu.1 (12 + k) < 6) (hv : mW gu (mSeat j k (mCopy xu x))) (hN : N < 1000) (hm : xu.2.2.1 + N < 1000000) (hcc0 : cu ≠ c) : SP 5 yX2_eatsSeatedAs cX2_eatsSeatedAs 5 (some .int) [.ref w, .ref u, .int (nI j), .int (nI k), .int (nI N)] n h (some (.int (nI ((mSat gu N j k xu x).1 (18 + j)) - nI (xu.1 (18 + j))))) (q_up (q_up h c (TA (mSat gu N j k xu x).1)) t (TX c gu (mSat gu N j k xu x))) := by
  have wt : w ≠ t := fun q => by rw [q, ht] at hw; cases hw
  have wc : w ≠ c := fun q => by rw [q, hc] at hw; cases hw
  have tc : t ≠ c := fun q => by rw [q, hc] at ht; cases ht
  have uc : u ≠ c := fun q => by rw [q, hc] at hu; cases hu
  have cut : cu ≠ t := fun q => by rw [q, ht] at hcu; cases hcu
  have hcc : cu ≠ c := hcc0
  refine q_SPi RX2 rfl (by decide +kernel) (la := _) rfl rfl (fun Γ ad C F => ?_)
  refine g_aload_n (pc := 0) C (hl := rfl) dX2_eatsSeatedAs_0 ?_
  refine g_get (pc := 1) C fl2_12 dX2_eatsSeatedAs_1 hw rfl ?_
  refine g_aload_n (pc := 4) C (hl := rfl) dX2_eatsSeatedAs_4 ?_
  refine g_V1u (pc := 5) C lv2_25 dX2_eatsSeatedAs_5 (s4_becomeX ht hc hu hcu hut) ht (by decide) (Nat.le_of_ble_eq_true rfl) ?_
  refine g_iload_n (pc := 8) C (hl := rfl) dX2_eatsSeatedAs_8 ?_
  refine g_iload_n (pc := 9) C (hl := rfl) dX2_eatsSeatedAs_9 ?_
  refine g_ic_eqN (pc := 10) C 22 dX2_eatsSeatedAs_10 (by decide) (by omega) (fun c10 => ?_) (fun c10 => ?_)
  · refine g_aload_n (pc := 22) C (hl := rfl) dX2_eatsSeatedAs_22 ?_
    refine g_iload (pc := 23) C (hl := rfl) dX2_eatsSeatedAs_23 ?_
    refine g_ldc (pc := 25) C (v := nI 1000000) zk2_29 dX2_eatsSeatedAs_25 ?_
    refine g_V2v (pc := 27) C lv2_30 dX2_eatsSeatedAs_27 (s2_pass (x := mCopy xu x) (g := gu) _ _ ((q_up_n _ _ wt).trans ((q_up_n _ _ wc).trans hw)) (q_up_s _ _ _) ((q_up_n _ _ (Ne.symm tc)).trans (q_up_s _ _ _)) (by have := hv; unfold mSeat at this; rw [if_pos c10] at this; exact this) (by decide) (by omega) hm) ((q_up_n _ _ wt).trans ((q_up_n _ _ wc).trans hw)) (by decide) (Nat.le_of_ble_eq_true rfl) ?_
    refine g_pop (pc := 30) C rfl dX2_eatsSeatedAs_30 ?_
    refine g_aload_n (pc := 31) C (hl := rfl) dX2_eatsSeatedAs_31 ?_
    refine g_get (pc := 32) C fl2_12 dX2_eatsSeatedAs_32 ((q_up_n _ _ wt).trans ((q_up_n _ _ wc).trans ((q_up_n _ _ wt).trans ((q_up_n _ _ wc).trans hw)))) rfl ?_
    refine g_iconst (pc := 35) C qk_iconst_3 dX2_eatsSeatedAs_35 ?_
    refine g_iload_n (pc := 36) C (hl := rfl) dX2_eatsSeatedAs_36 ?_
    refine g_V2v (pc := 37) C lv2_45 dX2_eatsSeatedAs_37 (s4_of3 _ (q_up_s _ _ _) ((q_up_n _ _ (Ne.symm tc)).trans (q_up_s _ _ _)) (by omega)) (q_up_s _ _ _) (by decide) (Nat.le_of_ble_eq_true rfl) ?_
    refine g_aload_n (pc := 40) C (hl := rfl) dX2_eatsSeatedAs_40 ?_
    refine g_iconst (pc := 41) C qk_iconst_3 dX2_eatsSeatedAs_41 ?_
    refine g_iload_n (pc := 42) C (hl := rfl) dX2_eatsSeatedAs_42 ?_
    refine g_V2v (pc := 43) C lv2_45 dX2_eatsSeatedAs_43 (s4_of3 _ ((q_up_n _ _ hut).trans ((q_up_n _ _ uc).trans ((q_up_n _ _ hut).trans ((q_up_n _ _ uc).trans hu)))) ((q_up_n _ _ cut).trans ((q_up_n _ _ hcc).trans ((q_up_n _ _ cut).trans ((q_up_n _ _ hcc).trans hcu)))) (by omega)) ((q_up_n _ _ hut).trans ((q_up_n _ _ uc).trans ((q_up_n _ _ hut).trans ((q_up_n _ _ uc).trans hu)))) (by decide) (Nat.le_of_ble_eq_true rfl) ?_
    refine g_isubE (pc := 46) C rfl dX2_eatsSeatedAs_46 ?_
    have e : mSeat j k (mCopy xu x) = mCopy xu x := if_pos c10
    have e2 : mSat gu N j k xu x = (mPass gu 1000000 N 0 (mCopy xu x)).2 := by unfold mSat; rw [e]
    exact g_iret (pc := 47) C F dX2_eatsSeatedAs_47 rfl rfl (by rw [e2]) (by rw [e2]; simp only [q_up_u, q_up_c _ tc])
  · refine g_aload_n (pc := 13) C (hl := rfl) dX2_eatsSeatedAs_13 ?_
    refine g_get (pc := 14) C fl2_12 dX2_eatsSeatedAs_14 ((q_up_n _ _ wt).trans ((q_up_n _ _ wc).trans hw)) rfl ?_
    refine g_iload_n (pc := 17) C (hl := rfl) dX2_eatsSeatedAs_17 ?_
    refine g_iload_n (pc := 18) C (hl := rfl) dX2_eatsSeatedAs_18 ?_
    refine g_V2u (pc := 19) C lv2_41 dX2_eatsSeatedAs_19 (s4_swapSeats _ _ (q_up_s _ _ _) ((q_up_n _ _ (Ne.symm tc)).trans (q_up_s _ _ _)) (by exact hj)) (q_up_s _ _ _) (by decide) (Nat.le_of_ble_eq_true rfl) ?_
    refine g_aload_n (pc := 22) C (hl := rfl) dX2_eatsSeatedAs_22 ?_
    refine g_iload (pc := 23) C (hl := rfl) dX2_eatsSeatedAs_23 ?_
    refine g_ldc (pc := 25) C (v := nI 1000000) zk2_29 dX2_eatsSeatedAs_25 ?_
    refine g_V2v (pc := 27) C lv2_30 dX2_eatsSeatedAs_27 (s2_pass (x := (mSwS (mCopy xu x).1 j k, (mCopy xu x).2)) (g := gu) _ _ ((q_up_n _ _ wc).trans ((q_up_n _ _ wt).trans ((q_up_n _ _ wc).trans hw))) ((q_up_n _ _ tc).trans (q_up_s _ _ _)) (q_up_s _ _ _) (by have := hv; unfold mSeat at this; rw [if_neg c10] at this; exact this) (by decide) (by omega) hm) ((q_up_n _ _ wc).trans ((q_up_n _ _ wt).trans ((q_up_n _ _ wc).trans hw))) (by decide) (Nat.le_of_ble_eq_true rfl) ?_
    refine g_pop (pc := 30) C rfl dX2_eatsSeatedAs_30 ?_
    refine g_aload_n (pc := 31) C (hl := rfl) dX2_eatsSeatedAs_31 ?_
    refine g_get (pc := 32) C fl2_12 dX2_eatsSeatedAs_32 ((q_up_n _ _ wt).trans ((q_up_n _ _ wc).trans ((q_up_n _ _ wc).trans ((q_up_n _ _ wt).trans ((q_up_n _ _ wc).trans hw))))) rfl ?_
    refine g_iconst (pc := 35) C qk_iconst_3 dX2_eatsSeatedAs_35 ?_
    refine g_iload_n (pc := 36) C (hl := rfl) dX2_eatsSeatedAs_36 ?_
    refine g_V2v (pc := 37) C lv2_45 dX2_eatsSeatedAs_37 (s4_of3 _ (q_up_s _ _ _) ((q_up_n _ _ (Ne.symm tc)).trans (q_up_s _ _ _)) (by omega)) (q_up_s _ _ _) (by decide) (Nat.le_of_ble_eq_true rfl) ?_
    refine g_aload_n (pc := 40) C (hl := rfl) dX2_eatsSeatedAs_40 ?_
    refine g_iconst (pc := 41) C qk_iconst_3 dX2_eatsSeatedAs_41 ?_
    refine g_iload_n (pc := 42) C (hl := rfl) dX2_eatsSeatedAs_42 ?_
    refine g_V2v (pc := 43) C lv2_45 dX2_eatsSeatedAs_43 (s4_of3 _ ((q_up_n _ _ hut).trans ((q_up_n _ _ uc).trans ((q_up_n _ _ uc).trans ((q_up_n _ _ hut).trans ((q_up_n _ _ uc).trans hu))))) ((q_up_n _ _ cut).trans ((q_up_n _ _ hcc).trans ((q_up_n _ _ hcc).trans ((q_up_n _ _ cut).trans ((q_up_n _ _ hcc).trans hcu))))) (by omega)) ((q_up_n _ _ hut).trans ((q_up_n _ _ uc).trans ((q_up_n _ _ uc).trans ((q_up_n _ _ hut).trans ((q_up_n _ _ uc).trans hu))))) (by decide) (Nat.le_of_ble_eq_true rfl) ?_
    refine g_isubE (pc := 46) C rfl dX2_eatsSeatedAs_46 ?_
    have e : mSeat j k (mCopy xu x) = (mSwS (mCopy xu x).1 j k, (mCopy xu x).2) := if_neg c10
    have e2 : mSat gu N j k xu x = (mPass gu 1000000 N 0 ((mSwS (mCopy xu x).1 j k, (mCopy xu x).2))).2 := by unfold mSat; rw [e]
    exact g_iret (pc := 47) C F dX2_eatsSeatedAs_47 rfl rfl (by rw [e2]) (by rw [e2]; simp only [q_up_u, q_up_c _ tc])
def mLast (g dish : Nat) : Nat → Nat → mX → Int32 × mX
  | 0, _, x => (-1000000, x)
  | m + 1, i, x => if 0 < (mNext g x).2.2.2.2.2.2 ∧ (mNext g x).2.2.2.2.2.1 = dish ∧ (mNext g x).1 (24 + dish) = 0 then (nI i, mNext g x) else mLast g dish m (i + 1) (mNext g x)
def mRest (g : Nat) : Nat → Nat → Nat → mX → Int32 × mX
  | 0, _, _, x => (-1000000, x)
  | m + 1, i, q, x => if (if (mNext g x).2.2.2.2.1 = 0 ∧ (mNext g x).2.2.2.2.2.2 = 0 then q + 1 else 0) = g then (nI (i - (if (mNext g x).2.2.2.2.1 = 0 ∧ (mNext g x).2.2.2.2.2.2 = 0 then q + 1 else 0)), mNext g x) else mRest g m (i + 1) (if (mNext g x).2.2.2.2.1 = 0 ∧ (mNext g x).2.2.2.2.2.2 = 0 then q + 1 else 0) (mNext g x)
set_option maxHeartbeats 2000000 in
set_option maxRecDepth 20000 in
theorem l2_last {Γ : q_X} {ad : Nat → Nat} {n w t s bs c g u dish : Nat} {rz : Int32} {hF : q_H} (hd : dish < 6) (C : q_C Γ ad 4 0 0 RX2 yX2_minuteOfLastPortion cX2_minuteOfLastPortion 5 (some .int)) (F : q_N Γ ad n (some (.int rz)) hF) : ∀ (k m i : Nat) (x : mX) (H : q_H) (v4 : Option Value), m < k → i + m = 201 ∧ 0 < i → H w = FO t s bs → H t = TX c g x → H c = TA x.1 → mW g x → x.2.2.1 + m < 1000000 → rz = (mLast g dish m i x).1 → hF = q_up (q_up H c (TA (mLast g dish m i x).2.1)) t (TX c g (mLast g dish m i x).2) → q_G Γ ad 5 10 [some (.ref w), some (.ref u), some (.int (nI dish)), some (.int (nI i)), v4] [] n H 0 0 := by
  intro k
  induction k with
  | zero => intro m i x H v4 hm; omega
  | succ k ih =>
    intro m i x H v4 hk hN2 hw ht hc hv hm hz hH
    have wt : w ≠ t := fun q => by rw [q, ht] at hw; cases hw
    have wc : w ≠ c := fun q => by rw [q, hc] at hw; cases hw
    have tc : t ≠ c := fun q => by rw [q, hc] at ht; cases ht
    refine g_iload_n (pc := 10) C (hl := rfl) dX2_minuteOfLastPortion_10 ?_
    refine g_sipush (pc := 11) C qk_sipush_200 dX2_minuteOfLastPortion_11 ?_
    refine g_ic_gtN (pc := 14) C 77 dX2_minuteOfLastPortion_14 (by decide) (by omega) (fun c14 => ?_) (fun c14 => ?_)
    · refine g_ldc (pc := 77) C (v := -1000000) zk2_61 dX2_minuteOfLastPortion_77 ?_
      have e : m = 0 := by omega
      subst e
      exact g_iret (pc := 79) C F dX2_minuteOfLastPortion_79 rfl rfl (by rw [hz]; rfl) (by rw [hH]; show H = q_up (q_up H c (TA x.1)) t (TX c g x); rw [q_upI hc, q_upI ht])
    · obtain ⟨m2, rfl⟩ : ∃ m2, m = m2 + 1 := ⟨m - 1, by omega⟩
      refine g_aload_n (pc := 17) C (hl := rfl) dX2_minuteOfLastPortion_17 ?_
      refine g_get (pc := 18) C fl2_12 dX2_minuteOfLastPortion_18 hw rfl ?_
      refine g_V0u (pc := 21) C lv2_34 dX2_minuteOfLastPortion_21 (s4_passX ht hc hv (by omega)) ht (by decide) (Nat.le_of_ble_eq_true rfl) ?_
      refine g_aload_n (pc := 24) C (hl := rfl) dX2_minuteOfLastPortion_24 ?_
      refine g_get (pc := 25) C fl2_12 dX2_minuteOfLastPortion_25 ((q_up_n _ _ wt).trans ((q_up_n _ _ wc).trans hw)) rfl ?_
      refine g_get (pc := 28) C fl2_55 dX2_minuteOfLastPortion_28 (q_up_s _ _ _) rfl ?_
      refine g_if_leN (pc := 31) C 49 dX2_minuteOfLastPortion_31 (by decide) (by exact Nat.lt_of_le_of_lt (mBite_le _ _ _).2 (by decide)) (fun c31 => ?_) (fun c31 => ?_)
      · refine g_iconst (pc := 49) C qk_iconst_0 dX2_minuteOfLastPortion_49 ?_
        refine g_istore (pc := 50) C rfl dX2_minuteOfLastPortion_50 ?_
        refine g_iload (pc := 52) C (hl := rfl) dX2_minuteOfLastPortion_52 ?_
        refine g_if_eqN (pc := 54) C 71 dX2_minuteOfLastPortion_54 (by decide) (by decide) (fun _ => ?_) (fun q => absurd q (by decide))
        refine g_iincN (pc := 71) C (hl := rfl) (q_inc1 _) rfl dX2_minuteOfLastPortion_71 ?_
        refine g_goto (pc := 74) C 10 dX2_minuteOfLastPortion_74 (by decide) ?_
        have e : mLast g dish (m2 + 1) i x = mLast g dish m2 (i + 1) (mNext g x) := if_neg (by first | omega | exact fun q => absurd q.1 c31 | exact fun q => c42 q.2.1 | exact fun q => c66 q.2.2)
        rw [e] at hz hH
        exact ih m2 (i + 1) (mNext g x) _ _ (by omega) (by omega) ((q_up_n _ _ wt).trans ((q_up_n _ _ wc).trans hw)) (q_up_s _ _ _) ((q_up_n _ _ (Ne.symm tc)).trans (q_up_s _ _ _)) (mNext_V hv) (by show x.2.2.1 + 1 + m2 < 1000000; omega) hz (by rw [hH]; simp only [q_up_u, q_up_c _ tc])
      · refine g_aload_n (pc := 34) C (hl := rfl) dX2_minuteOfLastPortion_34 ?_
        refine g_get (pc := 35) C fl2_12 dX2_minuteOfLastPortion_35 ((q_up_n _ _ wt).trans ((q_up_n _ _ wc).trans hw)) rfl ?_
        refine g_get (pc := 38) C fl2_58 dX2_minuteOfLastPortion_38 (q_up_s _ _ _) rfl ?_
        refine g_iload_n (pc := 41) C (hl := rfl) dX2_minuteOfLastPortion_41 ?_
        refine g_ic_neN (pc := 42) C 49 dX2_minuteOfLastPortion_42 (by decide) (by exact ⟨Nat.lt_of_lt_of_le (mE_lt hv) (by have := hv.1.2.1; omega), by omega⟩) (fun c42 => ?_) (fun c42 => ?_)
        · refine g_iconst (pc := 49) C qk_iconst_0 dX2_minuteOfLastPortion_49 ?_
          refine g_istore (pc := 50) C rfl dX2_minuteOfLastPortion_50 ?_
          refine g_iload (pc := 52) C (hl := rfl) dX2_minuteOfLastPortion_52 ?_
          refine g_if_eqN (pc := 54) C 71 dX2_minuteOfLastPortion_54 (by decide) (by decide) (fun _ => ?_) (fun q => absurd q (by decide))
          refine g_iincN (pc := 71) C (hl := rfl) (q_inc1 _) rfl dX2_minuteOfLastPortion_71 ?_
          refine g_goto (pc := 74) C 10 dX2_minuteOfLastPortion_74 (by decide) ?_
          have e : mLast g dish (m2 + 1) i x = mLast g dish m2 (i + 1) (mNext g x) := if_neg (by first | omega | exact fun q => absurd q.1 c31 | exact fun q => c42 q.2.1 | exact fun q => c66 q.2.2)
          rw [e] at hz hH
          exact ih m2 (i + 1) (mNext g x) _ _ (by omega) (by omega) ((q_up_n _ _ wt).trans ((q_up_n _ _ wc).trans hw)) (q_up_s _ _ _) ((q_up_n _ _ (Ne.symm tc)).trans (q_up_s _ _ _)) (mNext_V hv) (by show x.2.2.1 + 1 + m2 < 1000000; omega) hz (by rw [hH]; simp only [q_up_u, q_up_c _ tc])
        · refine g_iconst (pc := 45) C qk_iconst_1 dX2_minuteOfLastPortion_45 ?_
          refine g_goto (pc := 46) C 50 dX2_minuteOfLastPortion_46 (by decide) ?_
          refine g_istore (pc := 50) C rfl dX2_minuteOfLastPortion_50 ?_
          refine g_iload (pc := 52) C (hl := rfl) dX2_minuteOfLastPortion_52 ?_
          refine g_if_eqN (pc := 54) C 71 dX2_minuteOfLastPortion_54 (by decide) (by decide) (fun q => absurd q (by decide)) (fun _ => ?_)
          refine g_aload_n (pc := 57) C (hl := rfl) dX2_minuteOfLastPortion_57 ?_
          refine g_get (pc := 58) C fl2_12 dX2_minuteOfLastPortion_58 ((q_up_n _ _ wt).trans ((q_up_n _ _ wc).trans hw)) rfl ?_
          refine g_iconst (pc := 61) C qk_iconst_4 dX2_minuteOfLastPortion_61 ?_
          refine g_iload_n (pc := 62) C (hl := rfl) dX2_minuteOfLastPortion_62 ?_
          refine g_V2v (pc := 63) C lv2_45 dX2_minuteOfLastPortion_63 (s4_of4 _ (q_up_s _ _ _) ((q_up_n _ _ (Ne.symm tc)).trans (q_up_s _ _ _)) (by omega)) (q_up_s _ _ _) (by decide) (Nat.le_of_ble_eq_true rfl) ?_
          refine g_if_neN (pc := 66) C 71 dX2_minuteOfLastPortion_66 (by decide) (by exact Nat.lt_of_le_of_lt ((mNext_V hv).2.2 dish (by omega)).2.2.2.1 (by decide)) (fun c66 => ?_) (fun c66 => ?_)
          · refine g_iincN (pc := 71) C (hl := rfl) (q_inc1 _) rfl dX2_minuteOfLastPortion_71 ?_
            refine g_goto (pc := 74) C 10 dX2_minuteOfLastPortion_74 (by decide) ?_
            have e : mLast g dish (m2 + 1) i x = mLast g dish m2 (i + 1) (mNext g x) := if_neg (by first | omega | exact fun q => absurd q.1 c31 | exact fun q => c42 q.2.1 | exact fun q => c66 q.2.2)
            rw [e] at hz hH
            exact ih m2 (i + 1) (mNext g x) _ _ (by omega) (by omega) ((q_up_n _ _ wt).trans ((q_up_n _ _ wc).trans hw)) (q_up_s _ _ _) ((q_up_n _ _ (Ne.symm tc)).trans (q_up_s _ _ _)) (mNext_V hv) (by show x.2.2.1 + 1 + m2 < 1000000; omega) hz (by rw [hH]; simp only [q_up_u, q_up_c _ tc])
          · refine g_iload_n (pc := 69) C (hl := rfl) dX2_minuteOfLastPortion_69 ?_
            have e : mLast g dish (m2 + 1) i x = (nI i, mNext g x) := if_pos ⟨by omega, c42, c66⟩
            rw [e] at hz hH
            exact g_iret (pc := 70) C F dX2_minuteOfLastPortion_70 rfl rfl (by rw [hz]) (by rw [hH])
set_option maxHeartbeats 2000000 in
set_option maxRecDepth 20000 in
theorem s2_last {n : Nat} {h : q_H} {w t s bs c g : Nat} {x : mX} {u cu gu : Nat} {xu : mX} (dish : Nat) (hw : h w = FO t s bs) (ht : h t = TX c g x) (hc : h c = TA x.1) (hu : h u = TX cu gu xu) (hcu : h cu = TA xu.1) (hut : u ≠ t) (hv : mW gu (mCopy xu x)) (hd : dish < 6) (hm : xu.2.2.1 + 200 < 1000000) : SP 4 yX2_minuteOfLastPortion cX2_minuteOfLastPortion 5 (some .int) [.ref w, .ref u, .int (nI dish)] n h (some (.int (mLast gu dish 200 1 (mCopy xu x)).1)) (q_up (q_up h c (TA (mLast gu dish 200 1 (mCopy xu x)).2.1)) t (TX c gu (mLast gu dish 200 1 (mCopy xu x)).2)) := by
  have wt : w ≠ t := fun q => by rw [q, ht] at hw; cases hw
  have wc : w ≠ c := fun q => by rw [q, hc] at hw; cases hw
  have tc : t ≠ c := fun q => by rw [q, hc] at ht; cases ht
  have uc : u ≠ c := fun q => by rw [q, hc] at hu; cases hu
  have cut : cu ≠ t := fun q => by rw [q, ht] at hcu; cases hcu
  refine q_SPi RX2 rfl (by decide +kernel) (la := _) rfl rfl (fun Γ ad C F => ?_)
  refine g_aload_n (pc := 0) C (hl := rfl) dX2_minuteOfLastPortion_0 ?_
  refine g_get (pc := 1) C fl2_12 dX2_minuteOfLastPortion_1 hw rfl ?_
  refine g_aload_n (pc := 4) C (hl := rfl) dX2_minuteOfLastPortion_4 ?_
  refine g_V1u (pc := 5) C lv2_25 dX2_minuteOfLastPortion_5 (s4_becomeX ht hc hu hcu hut) ht (by decide) (Nat.le_of_ble_eq_true rfl) ?_
  refine g_iconst (pc := 8) C qk_iconst_1 dX2_minuteOfLastPortion_8 ?_
  refine g_istore_n (pc := 9) C rfl dX2_minuteOfLastPortion_9 ?_
  exact l2_last hd C F 201 200 1 (mCopy xu x) _ _ (by omega) (by omega) ((q_up_n _ _ wt).trans ((q_up_n _ _ wc).trans hw)) (q_up_s _ _ _) ((q_up_n _ _ (Ne.symm tc)).trans (q_up_s _ _ _)) hv hm rfl (by simp only [q_up_u, q_up_c _ tc])
theorem mRest_y {g m i q q2 : Nat} {x : mX} (h : (if (mNext g x).2.2.2.2.1 = 0 ∧ (mNext g x).2.2.2.2.2.2 = 0 then q + 1 else 0) = q2) (hg : q2 = g) : mRest g (m + 1) i q x = (nI (i - q2), mNext g x) := by
  unfold mRest; rw [h, if_pos hg]
theorem mRest_n {g m i q q2 : Nat} {x : mX} (h : (if (mNext g x).2.2.2.2.1 = 0 ∧ (mNext g x).2.2.2.2.2.2 = 0 then q + 1 else 0) = q2) (hg : ¬ q2 = g) : mRest g (m + 1) i q x = mRest g m (i + 1) q2 (mNext g x) := by
  conv => lhs; unfold mRest
  rw [h, if_neg hg]
set_option maxHeartbeats 2000000 in
set_option maxRecDepth 20000 in
theorem l2_rest {Γ : q_X} {ad : Nat → Nat} {n w t s bs c g u cu : Nat} {xu : mX} {rz : Int32} {hF : q_H} (C : q_C Γ ad 4 0 0 RX2 yX2_minutesToRest cX2_minutesToRest 4 (some .int)) (F : q_N Γ ad n (some (.int rz)) hF) (hut : u ≠ t) (uc : u ≠ c) : ∀ (k m i q : Nat) (x : mX) (H : q_H), m < k → i + m = 201 + g ∧ q < i → H w = FO t s bs → H t = TX c g x → H c = TA x.1 → mW g x → H u = TX cu g xu → x.2.2.1 + m < 1000000 → rz = (mRest g m i q x).1 → hF = q_up (q_up H c (TA (mRest g m i q x).2.1)) t (TX c g (mRest g m i q x).2) → q_G Γ ad 4 12 [some (.ref w), some (.ref u), some (.int (nI q)), some (.int (nI i))] [] n H 0 0 := by
  intro k
  induction k with
  | zero => intro m i q x H hm; omega
  | succ k ih =>
    intro m i q x H hk hN2 hw ht hc hv hu hm hz hH
    have wt : w ≠ t := fun q => by rw [q, ht] at hw; cases hw
    have wc : w ≠ c := fun q => by rw [q, hc] at hw; cases hw
    have tc : t ≠ c := fun q => by rw [q, hc] at ht; cases ht
    refine g_iload_n (pc := 12) C (hl := rfl) dX2_minutesToRest_12 ?_
    refine g_sipush (pc := 13) C qk_sipush_200 dX2_minutesToRest_13 ?_
    refine g_aload_n (pc := 16) C (hl := rfl) dX2_minutesToRest_16 ?_
    refine g_get (pc := 17) C fl2_48 dX2_minutesToRest_17 hu rfl ?_
    refine g_iaddN (pc := 20) C dX2_minutesToRest_20 ?_
    refine g_ic_gtN (pc := 21) C 77 dX2_minutesToRest_21 (by decide) (by have := hv.1.2.1; omega) (fun c21 => ?_) (fun c21 => ?_)
    · refine g_ldc (pc := 77) C (v := -1000000) zk2_61 dX2_minutesToRest_77 ?_
      have e : m = 0 := by omega
      subst e
      exact g_iret (pc := 79) C F dX2_minutesToRest_79 rfl rfl (by rw [hz]; rfl) (by rw [hH]; show H = q_up (q_up H c (TA x.1)) t (TX c g x); rw [q_upI hc, q_upI ht])
    · obtain ⟨m2, rfl⟩ : ∃ m2, m = m2 + 1 := ⟨m - 1, by omega⟩
      refine g_aload_n (pc := 24) C (hl := rfl) dX2_minutesToRest_24 ?_
      refine g_get (pc := 25) C fl2_12 dX2_minutesToRest_25 hw rfl ?_
      refine g_V0u (pc := 28) C lv2_34 dX2_minutesToRest_28 (s4_passX ht hc hv (by omega)) ht (by decide) (Nat.le_of_ble_eq_true rfl) ?_
      refine g_aload_n (pc := 31) C (hl := rfl) dX2_minutesToRest_31 ?_
      refine g_get (pc := 32) C fl2_12 dX2_minutesToRest_32 ((q_up_n _ _ wt).trans ((q_up_n _ _ wc).trans hw)) rfl ?_
      refine g_get (pc := 35) C fl2_37 dX2_minutesToRest_35 (q_up_s _ _ _) rfl ?_
      refine g_if_neN (pc := 38) C 57 dX2_minutesToRest_38 (by decide) (by exact Nat.lt_of_le_of_lt (mNext_p hv) (by decide)) (fun c38 => ?_) (fun c38 => ?_)
      · refine g_iconst (pc := 57) C qk_iconst_0 dX2_minutesToRest_57 ?_
        refine g_istore_n (pc := 58) C rfl dX2_minutesToRest_58 ?_
        refine g_iload_n (pc := 59) C (hl := rfl) dX2_minutesToRest_59 ?_
        refine g_aload_n (pc := 60) C (hl := rfl) dX2_minutesToRest_60 ?_
        refine g_get (pc := 61) C fl2_48 dX2_minutesToRest_61 ((q_up_n _ _ hut).trans ((q_up_n _ _ uc).trans hu)) rfl ?_
        refine g_ic_neN (pc := 64) C 71 dX2_minutesToRest_64 (by decide) (by have := hv.1.2.1; omega) (fun c64 => ?_) (fun c64 => ?_)
        · refine g_iincN (pc := 71) C (hl := rfl) (q_inc1 _) rfl dX2_minutesToRest_71 ?_
          refine g_goto (pc := 74) C 12 dX2_minutesToRest_74 (by decide) ?_
          rw [mRest_n (q := q) (if_neg (fun z => c38 z.1) : (if (mNext g x).2.2.2.2.1 = 0 ∧ (mNext g x).2.2.2.2.2.2 = 0 then q + 1 else 0) = 0) (by omega)] at hz hH
          exact ih m2 (i + 1) _ (mNext g x) _ (by omega) (by omega) ((q_up_n _ _ wt).trans ((q_up_n _ _ wc).trans hw)) (q_up_s _ _ _) ((q_up_n _ _ (Ne.symm tc)).trans (q_up_s _ _ _)) (mNext_V hv) ((q_up_n _ _ hut).trans ((q_up_n _ _ uc).trans hu)) (by show x.2.2.1 + 1 + m2 < 1000000; omega) hz (by rw [hH]; simp only [q_up_u, q_up_c _ tc])
        · refine g_iload_n (pc := 67) C (hl := rfl) dX2_minutesToRest_67 ?_
          refine g_iload_n (pc := 68) C (hl := rfl) dX2_minutesToRest_68 ?_
          refine g_isubN (pc := 69) C dX2_minutesToRest_69 (by omega) ?_
          rw [mRest_y (q := q) (if_neg (fun z => c38 z.1) : (if (mNext g x).2.2.2.2.1 = 0 ∧ (mNext g x).2.2.2.2.2.2 = 0 then q + 1 else 0) = 0) (by omega)] at hz hH
          exact g_iret (pc := 70) C F dX2_minutesToRest_70 rfl rfl (by rw [hz]) (by rw [hH])
      · refine g_aload_n (pc := 41) C (hl := rfl) dX2_minutesToRest_41 ?_
        refine g_get (pc := 42) C fl2_12 dX2_minutesToRest_42 ((q_up_n _ _ wt).trans ((q_up_n _ _ wc).trans hw)) rfl ?_
        refine g_get (pc := 45) C fl2_55 dX2_minutesToRest_45 (q_up_s _ _ _) rfl ?_
        refine g_if_neN (pc := 48) C 57 dX2_minutesToRest_48 (by decide) (by exact Nat.lt_of_le_of_lt (mBite_le _ _ _).2 (by decide)) (fun c48 => ?_) (fun c48 => ?_)
        · refine g_iconst (pc := 57) C qk_iconst_0 dX2_minutesToRest_57 ?_
          refine g_istore_n (pc := 58) C rfl dX2_minutesToRest_58 ?_
          refine g_iload_n (pc := 59) C (hl := rfl) dX2_minutesToRest_59 ?_
          refine g_aload_n (pc := 60) C (hl := rfl) dX2_minutesToRest_60 ?_
          refine g_get (pc := 61) C fl2_48 dX2_minutesToRest_61 ((q_up_n _ _ hut).trans ((q_up_n _ _ uc).trans hu)) rfl ?_
          refine g_ic_neN (pc := 64) C 71 dX2_minutesToRest_64 (by decide) (by have := hv.1.2.1; omega) (fun c64 => ?_) (fun c64 => ?_)
          · refine g_iincN (pc := 71) C (hl := rfl) (q_inc1 _) rfl dX2_minutesToRest_71 ?_
            refine g_goto (pc := 74) C 12 dX2_minutesToRest_74 (by decide) ?_
            rw [mRest_n (q := q) (if_neg (fun z => c48 z.2) : (if (mNext g x).2.2.2.2.1 = 0 ∧ (mNext g x).2.2.2.2.2.2 = 0 then q + 1 else 0) = 0) (by omega)] at hz hH
            exact ih m2 (i + 1) _ (mNext g x) _ (by omega) (by omega) ((q_up_n _ _ wt).trans ((q_up_n _ _ wc).trans hw)) (q_up_s _ _ _) ((q_up_n _ _ (Ne.symm tc)).trans (q_up_s _ _ _)) (mNext_V hv) ((q_up_n _ _ hut).trans ((q_up_n _ _ uc).trans hu)) (by show x.2.2.1 + 1 + m2 < 1000000; omega) hz (by rw [hH]; simp only [q_up_u, q_up_c _ tc])
          · refine g_iload_n (pc := 67) C (hl := rfl) dX2_minutesToRest_67 ?_
            refine g_iload_n (pc := 68) C (hl := rfl) dX2_minutesToRest_68 ?_
            refine g_isubN (pc := 69) C dX2_minutesToRest_69 (by omega) ?_
            rw [mRest_y (q := q) (if_neg (fun z => c48 z.2) : (if (mNext g x).2.2.2.2.1 = 0 ∧ (mNext g x).2.2.2.2.2.2 = 0 then q + 1 else 0) = 0) (by omega)] at hz hH
            exact g_iret (pc := 70) C F dX2_minutesToRest_70 rfl rfl (by rw [hz]) (by rw [hH])
        · refine g_iload_n (pc := 51) C (hl := rfl) dX2_minutesToRest_51 ?_
          refine g_iconst (pc := 52) C qk_iconst_1 dX2_minutesToRest_52 ?_
          refine g_iaddN (pc := 53) C dX2_minutesToRest_53 ?_
          refine g_goto (pc := 54) C 58 dX2_minutesToRest_54 (by decide) ?_
          refine g_istore_n (pc := 58) C rfl dX2_minutesToRest_58 ?_
          refine g_iload_n (pc := 59) C (hl := rfl) dX2_minutesToRest_59 ?_
          refine g_aload_n (pc := 60) C (hl := rfl) dX2_minutesToRest_60 ?_
          refine g_get (pc := 61) C fl2_48 dX2_minutesToRest_61 ((q_up_n _ _ hut).trans ((q_up_n _ _ uc).trans hu)) rfl ?_
          refine g_ic_neN (pc := 64) C 71 dX2_minutesToRest_64 (by decide) (by have := hv.1.2.1; omega) (fun c64 => ?_) (fun c64 => ?_)
          · refine g_iincN (pc := 71) C (hl := rfl) (q_inc1 _) rfl dX2_minutesToRest_71 ?_
            refine g_goto (pc := 74) C 12 dX2_minutesToRest_74 (by decide) ?_
            rw [mRest_n (q := q) (if_pos ⟨c38, c48⟩ : (if (mNext g x).2.2.2.2.1 = 0 ∧ (mNext g x).2.2.2.2.2.2 = 0 then q + 1 else 0) = q + 1) (by omega)] at hz hH
            exact ih m2 (i + 1) _ (mNext g x) _ (by omega) (by omega) ((q_up_n _ _ wt).trans ((q_up_n _ _ wc).trans hw)) (q_up_s _ _ _) ((q_up_n _ _ (Ne.symm tc)).trans (q_up_s _ _ _)) (mNext_V hv) ((q_up_n _ _ hut).trans ((q_up_n _ _ uc).trans hu)) (by show x.2.2.1 + 1 + m2 < 1000000; omega) hz (by rw [hH]; simp only [q_up_u, q_up_c _ tc])
          · refine g_iload_n (pc := 67) C (hl := rfl) dX2_minutesToRest_67 ?_
            refine g_iload_n (pc := 68) C (hl := rfl) dX2_minutesToRest_68 ?_
            refine g_isubN (pc := 69) C dX2_minutesToRest_69 (by omega) ?_
            rw [mRest_y (q := q) (if_pos ⟨c38, c48⟩ : (if (mNext g x).2.2.2.2.1 = 0 ∧ (mNext g x).2.2.2.2.2.2 = 0 then q + 1 else 0) = q + 1) (by omega)] at hz hH
            exact g_iret (pc := 70) C F dX2_minutesToRest_70 rfl rfl (by rw [hz]) (by rw [hH])
set_option maxHeartbeats 2000000 in
set_option maxRecDepth 20000 in
theorem s2_rest {n : Nat} {h : q_H} {w t s bs c g : Nat} {x : mX} {u cu gu : Nat} {xu : mX} (hw : h w = FO t s bs) (ht : h t = TX c g x) (hc : h c = TA x.1) (hu : h u = TX cu gu xu) (hcu : h cu = TA xu.1) (hut : u ≠ t) (hv : mW gu (mCopy xu x)) (hm : xu.2.2.1 + 300 < 1000000) : SP 4 yX2_minutesToRest cX2_minutesToRest 4 (some .int) [.ref w, .ref u] n h (some (.int (mRest gu (200 + gu) 1 0 (mCopy xu x)).1)) (q_up (q_up h c (TA (mRest gu (200 + gu) 1 0 (mCopy xu x)).2.1)) t (TX c gu (mRest gu (200 + gu) 1 0 (mCopy xu x)).2)) := by
  have wt : w ≠ t := fun q => by rw [q, ht] at hw; cases hw
  have wc : w ≠ c := fun q => by rw [q, hc] at hw; cases hw
  have tc : t ≠ c := fun q => by rw [q, hc] at ht; cases ht
  have uc : u ≠ c := fun q => by rw [q, hc] at hu; cases hu
  have cut : cu ≠ t := fun q => by rw [q, ht] at hcu; cases hcu
  refine q_SPi RX2 rfl (by decide +kernel) (la := _) rfl rfl (fun Γ ad C F => ?_)
  refine g_aload_n (pc := 0) C (hl := rfl) dX2_minutesToRest_0 ?_
  refine g_get (pc := 1) C fl2_12 dX2_minutesToRest_1 hw rfl ?_
  refine g_aload_n (pc := 4) C (hl := rfl) dX2_minutesToRest_4 ?_
  refine g_V1u (pc := 5) C lv2_25 dX2_minutesToRest_5 (s4_becomeX ht hc hu hcu hut) ht (by decide) (Nat.le_of_ble_eq_true rfl) ?_
  refine g_iconst (pc := 8) C qk_iconst_0 dX2_minutesToRest_8 ?_
  refine g_istore_n (pc := 9) C rfl dX2_minutesToRest_9 ?_
  refine g_iconst (pc := 10) C qk_iconst_1 dX2_minutesToRest_10 ?_
  refine g_istore_n (pc := 11) C rfl dX2_minutesToRest_11 ?_
  exact l2_rest C F hut uc (201 + gu) (200 + gu) 1 0 (mCopy xu x) _ (by omega) (by omega) ((q_up_n _ _ wt).trans ((q_up_n _ _ wc).trans hw)) (q_up_s _ _ _) ((q_up_n _ _ (Ne.symm tc)).trans (q_up_s _ _ _)) hv ((q_up_n _ _ hut).trans ((q_up_n _ _ uc).trans hu)) (by have := hv.1.2.1; show xu.2.2.1 + _ < _; omega) rfl (by simp only [q_up_u, q_up_c _ tc])
