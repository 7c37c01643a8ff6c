def mWn (j d : Nat) (x : mX) : mX := (va_up x.1 (6 + j) d, x.2)
theorem mWn_V {g j d : Nat} {x : mX} (hv : mW g x) (hj : j < 6) (hd : d < 6) : mW g (mWn j d x) := by
  have hg := hv.1.2.1
  have key : ∀ k, k ≠ 6 + j → (mWn j d x).1 k = x.1 k := fun k h => va_up_n h
  refine ⟨hv.1, fun i hi => ?_, fun i hi => ?_⟩
  · obtain ⟨a1, a2, a3, a4, a5, a6, a7, a8, a9⟩ := hv.2.1 i hi
    rw [key (12 + i) (by omega), key (36 + i) (by omega), key (30 + i) (by omega), key (42 + i) (by omega), key (0 + i) (by omega), key (36 + x.1 (12 + i)) (by omega), key (12 + x.1 (36 + i)) (by omega), key (42 + x.1 (30 + i)) (by omega), key (30 + x.1 (42 + i)) (by omega)]
    exact ⟨a1, a2, a3, a4, a5, a6, a7, a8, a9⟩
  · obtain ⟨b1, b2, b3, b4, b5, b6⟩ := hv.2.2 i hi
    rw [key (0 + i) (by omega), key (12 + i) (by omega), key (18 + i) (by omega), key (24 + i) (by omega), key (30 + i) (by omega)]
    refine ⟨b1, ?_, b3, b4, b5, b6⟩
    by_cases h : i = j
    · subst h; show va_up x.1 (6 + i) d (6 + i) < 6; rw [va_up_self]; exact hd
    · rw [key (6 + i) (by omega)]; exact b2
def mWt (g N j : Nat) (xu x : mX) : Nat → mX
  | 0 => x
  | d + 1 => (mPass g 1000000 N 0 (mWn j d (mCopy xu (mWt g N j xu x d)))).2
def mWP (g N j i0 : Nat) (R : Nat → Int32) (xu x : mX) (d : Nat) : Prop := ∀ k, k < g → R (i0 + k) = nI ((mWt g N j xu x (d + 1)).1 (24 + k))
set_option maxHeartbeats 2000000 in
set_option maxRecDepth 20000 in
theorem l2_want {Γ : q_X} {ad : Nat → Nat} {n w t s bs c u cu gu N j r ri len i0 : Nat} {lane : Int32} {R : Nat → Int32} {x xu : mX} {rz : Int32} {hF : q_H} (C : q_C Γ ad 6 0 0 RX2 yX2_dishesToWant cX2_dishesToWant 8 (some .int)) (F : q_N Γ ad n (some (.int rz)) hF) (hut : u ≠ t) (hcc : cu ≠ c) (hv : mW gu xu) (hj : j < gu) (hN : N < 1000) (hm : xu.2.2.1 + N < 1000000) (hi0 : i0 + gu ≤ 40) (hrt : r ≠ t) (hric : ri ≠ c) (hz : rz = nI (mBits (mWP gu N j i0 R xu x) gu)) : ∀ (k i gg S : Nat) (H : q_H), gu < i + k → i ≤ gu → (0 < i → gg = gu) → H w = FO t s bs → H t = TX c gg (mWt gu N j xu x i) → H c = TA (mWt gu N j xu x i).1 → H u = TX cu gu xu → H cu = TA xu.1 → H r = RO ri lane len → H ri = RA R → S = mBits (mWP gu N j i0 R xu x) i → hF = q_up (q_up H c (TA (mWt gu N j xu x gu).1)) t (TX c gu (mWt gu N j xu x gu)) → q_G Γ ad 8 6 [some (.ref w), some (.ref u), some (.int (nI j)), some (.int (nI N)), some (.ref r), some (.int (nI i0)), some (.int (nI S)), some (.int (nI i))] [] n H 0 0 := by
  intro k
  induction k with
  | zero => intro i; intros; omega
  | succ k ih =>
    intro i gg S H hk hi hgg hw ht hc hu hcu hr hri hS hH
    have hg6 := hv.1.2.1
    have hg0 := hv.1.1
    have hrc : r ≠ c := fun q => by rw [q, hc] at hr; cases hr
    have hrit : ri ≠ t := fun q => by rw [q, ht] at hri; cases hri
    have wt : w ≠ t := fun q => by rw [q, ht] at hw; cases hw
    have wc : w ≠ c := fun q => by rw [q, hc] at hw; cases hw
    have tc : t ≠ c := fun q => by rw [q, hc] at ht; cases ht
    have uc : u ≠ c := fun q => by rw [q, hc] at hu; cases hu
    have cut : cu ≠ t := fun q => by rw [q, ht] at hcu; cases hcu
    refine g_iload (pc := 6) C (hl := rfl) dX2_dishesToWant_6 ?_
    refine g_aload_n (pc := 8) C (hl := rfl) dX2_dishesToWant_8 ?_
    refine g_get (pc := 9) C fl2_48 dX2_dishesToWant_9 hu rfl ?_
    refine g_ic_geN (pc := 12) C 68 dX2_dishesToWant_12 (by decide) (by omega) (fun c12 => ?_) (fun c12 => ?_)
    · refine g_iload (pc := 68) C (hl := rfl) dX2_dishesToWant_68 ?_
      obtain rfl : i = gu := by omega
      obtain rfl := hgg (by omega)
      exact g_iret (pc := 70) C F dX2_dishesToWant_70 rfl rfl (by rw [hz, hS]) (by rw [hH, q_upI hc, q_upI ht])
    · refine g_aload_n (pc := 15) C (hl := rfl) dX2_dishesToWant_15 ?_
      refine g_get (pc := 16) C fl2_12 dX2_dishesToWant_16 hw rfl ?_
      refine g_aload_n (pc := 19) C (hl := rfl) dX2_dishesToWant_19 ?_
      refine g_V1u (pc := 20) C lv2_25 dX2_dishesToWant_20 (s4_becomeX ht hc hu hcu hut) ht (by decide) (Nat.le_of_ble_eq_true rfl) ?_
      refine g_aload_n (pc := 23) C (hl := rfl) dX2_dishesToWant_23 ?_
      refine g_get (pc := 24) C fl2_12 dX2_dishesToWant_24 ((q_up_n _ _ wt).trans ((q_up_n _ _ wc).trans hw)) rfl ?_
      refine g_iconst (pc := 27) C qk_iconst_1 dX2_dishesToWant_27 ?_
      refine g_iload_n (pc := 28) C (hl := rfl) dX2_dishesToWant_28 ?_
      refine g_iload (pc := 29) C (hl := rfl) dX2_dishesToWant_29 ?_
      refine g_V3u (pc := 31) C lv2_103 dX2_dishesToWant_31 (s4_put1 _ _ (q_up_s _ _ _) ((q_up_n _ _ (Ne.symm tc)).trans (q_up_s _ _ _)) (by omega)) (q_up_s _ _ _) (by decide) (Nat.le_of_ble_eq_true rfl) ?_
      refine g_aload_n (pc := 34) C (hl := rfl) dX2_dishesToWant_34 ?_
      refine g_iload_n (pc := 35) C (hl := rfl) dX2_dishesToWant_35 ?_
      refine g_ldc (pc := 36) C (v := nI 1000000) zk2_29 dX2_dishesToWant_36 ?_
      refine g_V2v (pc := 38) C lv2_30 dX2_dishesToWant_38 (s2_pass (x := (mWn j i (mCopy xu (mWt gu N j xu x i)))) (g := gu) _ _ ((q_up_n _ _ wc).trans ((q_up_n _ _ wt).trans ((q_up_n _ _ wc).trans hw))) ((q_up_n _ _ tc).trans (q_up_s _ _ _)) (q_up_s _ _ _) (mWn_V hv (by omega) (by omega)) (by decide) (by omega) hm) ((q_up_n _ _ wc).trans ((q_up_n _ _ wt).trans ((q_up_n _ _ wc).trans hw))) (by decide) (Nat.le_of_ble_eq_true rfl) ?_
      refine g_pop (pc := 41) C rfl dX2_dishesToWant_41 ?_
      refine g_aload_n (pc := 42) C (hl := rfl) dX2_dishesToWant_42 ?_
      refine g_aload (pc := 43) C (hl := rfl) dX2_dishesToWant_43 ?_
      refine g_iload (pc := 45) C (hl := rfl) dX2_dishesToWant_45 ?_
      by_cases hp : mWP gu N j i0 R xu x i
      · refine g_V2v (pc := 47) C lv2_107 dX2_dishesToWant_47 (s2_leftt (x := mWt gu N j xu x (i + 1)) i0 ((q_up_n _ _ wt).trans ((q_up_n _ _ wc).trans ((q_up_n _ _ wc).trans ((q_up_n _ _ wt).trans ((q_up_n _ _ wc).trans hw))))) (q_up_s _ _ _) ((q_up_n _ _ (Ne.symm tc)).trans (q_up_s _ _ _)) ((q_up_n _ _ hrt).trans ((q_up_n _ _ hrc).trans ((q_up_n _ _ hrc).trans ((q_up_n _ _ hrt).trans ((q_up_n _ _ hrc).trans hr))))) ((q_up_n _ _ hrit).trans ((q_up_n _ _ hric).trans ((q_up_n _ _ hric).trans ((q_up_n _ _ hrit).trans ((q_up_n _ _ hric).trans hri))))) hi0 (by omega) hp) ((q_up_n _ _ wt).trans ((q_up_n _ _ wc).trans ((q_up_n _ _ wc).trans ((q_up_n _ _ wt).trans ((q_up_n _ _ wc).trans hw))))) (by decide) (Nat.le_of_ble_eq_true rfl) ?_
        refine g_if_eqN (pc := 50) C 62 dX2_dishesToWant_50 (by decide) (by decide) (fun q => absurd q (by decide)) (fun _ => ?_)
        refine g_iload (pc := 53) C (hl := rfl) dX2_dishesToWant_53 ?_
        refine g_iconst (pc := 55) C qk_iconst_1 dX2_dishesToWant_55 ?_
        refine g_iload (pc := 56) C (hl := rfl) dX2_dishesToWant_56 ?_
        refine g_ishl (pc := 58) C dX2_dishesToWant_58 ?_
        refine g_iorE (pc := 59) C (w := nI (mBits (mWP gu N j i0 R xu x) (i + 1))) (by rw [hS]; exact q_bitE (by omega) hp) dX2_dishesToWant_59 ?_
        refine g_istore (pc := 60) C rfl dX2_dishesToWant_60 ?_
        refine g_iincN (pc := 62) C (hl := rfl) (q_inc1 _) rfl dX2_dishesToWant_62 ?_
        refine g_goto (pc := 65) C 6 dX2_dishesToWant_65 (by decide) ?_
        exact ih (i + 1) gu _ _ (by omega) (by omega) (fun _ => rfl) (((q_up_n _ _ wt).trans ((q_up_n _ _ wc).trans ((q_up_n _ _ wc).trans ((q_up_n _ _ wt).trans ((q_up_n _ _ wc).trans hw)))))) (q_up_s _ _ _) (((q_up_n _ _ (Ne.symm tc)).trans (q_up_s _ _ _))) (((q_up_n _ _ hut).trans ((q_up_n _ _ uc).trans ((q_up_n _ _ uc).trans ((q_up_n _ _ hut).trans ((q_up_n _ _ uc).trans hu)))))) (((q_up_n _ _ cut).trans ((q_up_n _ _ hcc).trans ((q_up_n _ _ hcc).trans ((q_up_n _ _ cut).trans ((q_up_n _ _ hcc).trans hcu)))))) (((q_up_n _ _ hrt).trans ((q_up_n _ _ hrc).trans ((q_up_n _ _ hrc).trans ((q_up_n _ _ hrt).trans ((q_up_n _ _ hrc).trans hr)))))) (((q_up_n _ _ hrit).trans ((q_up_n _ _ hric).trans ((q_up_n _ _ hric).trans ((q_up_n _ _ hrit).trans ((q_up_n _ _ hric).trans hri)))))) (by first | rfl | exact hS.trans (mBits_n hp).symm) (by rw [hH]; simp only [q_up_u, q_up_c _ tc])
      · refine g_V2v (pc := 47) C lv2_107 dX2_dishesToWant_47 (s2_leftf (x := mWt gu N j xu x (i + 1)) i0 ((q_up_n _ _ wt).trans ((q_up_n _ _ wc).trans ((q_up_n _ _ wc).trans ((q_up_n _ _ wt).trans ((q_up_n _ _ wc).trans hw))))) (q_up_s _ _ _) ((q_up_n _ _ (Ne.symm tc)).trans (q_up_s _ _ _)) ((q_up_n _ _ hrt).trans ((q_up_n _ _ hrc).trans ((q_up_n _ _ hrc).trans ((q_up_n _ _ hrt).trans ((q_up_n _ _ hrc).trans hr))))) ((q_up_n _ _ hrit).trans ((q_up_n _ _ hric).trans ((q_up_n _ _ hric).trans ((q_up_n _ _ hrit).trans ((q_up_n _ _ hric).trans hri))))) hi0 (by omega) hp) ((q_up_n _ _ wt).trans ((q_up_n _ _ wc).trans ((q_up_n _ _ wc).trans ((q_up_n _ _ wt).trans ((q_up_n _ _ wc).trans hw))))) (by decide) (Nat.le_of_ble_eq_true rfl) ?_
        refine g_if_eqN (pc := 50) C 62 dX2_dishesToWant_50 (by decide) (by decide) (fun _ => ?_) (fun q => absurd q (by decide))
        refine g_iincN (pc := 62) C (hl := rfl) (q_inc1 _) rfl dX2_dishesToWant_62 ?_
        refine g_goto (pc := 65) C 6 dX2_dishesToWant_65 (by decide) ?_
        exact ih (i + 1) gu _ _ (by omega) (by omega) (fun _ => rfl) (((q_up_n _ _ wt).trans ((q_up_n _ _ wc).trans ((q_up_n _ _ wc).trans ((q_up_n _ _ wt).trans ((q_up_n _ _ wc).trans hw)))))) (q_up_s _ _ _) (((q_up_n _ _ (Ne.symm tc)).trans (q_up_s _ _ _))) (((q_up_n _ _ hut).trans ((q_up_n _ _ uc).trans ((q_up_n _ _ uc).trans ((q_up_n _ _ hut).trans ((q_up_n _ _ uc).trans hu)))))) (((q_up_n _ _ cut).trans ((q_up_n _ _ hcc).trans ((q_up_n _ _ hcc).trans ((q_up_n _ _ cut).trans ((q_up_n _ _ hcc).trans hcu)))))) (((q_up_n _ _ hrt).trans ((q_up_n _ _ hrc).trans ((q_up_n _ _ hrc).trans ((q_up_n _ _ hrt).trans ((q_up_n _ _ hrc).trans hr)))))) (((q_up_n _ _ hrit).trans ((q_up_n _ _ hric).trans ((q_up_n _ _ hric).trans ((q_up_n _ _ hrit).trans ((q_up_n _ _ hric).trans hri)))))) (by first | rfl | exact hS.trans (mBits_n hp).symm) (by rw [hH]; simp only [q_up_u, q_up_c _ tc])
set_option maxHeartbeats 2000000 in
set_option maxRecDepth 20000 in
theorem s2_want {n : Nat} {h : q_H} {w t s bs c g : Nat} {x : mX} {u cu gu : Nat} {xu : mX} {r ri len : Nat} {lane : Int32} {R : Nat → Int32} (j N i0 : Nat) (hw : h w = FO t s bs) (ht : h t = TX c g x) (hc : h c = TA x.1) (hu : h u = TX cu gu xu) (hcu : h cu = TA xu.1) (hr : h r = RO ri lane len) (hri : h ri = RA R) (hut : u ≠ t) (hcc : cu ≠ c) (hv : mW gu xu) (hj : j < gu) (hN : N < 1000) (hm : xu.2.2.1 + N < 1000000) (hi0 : i0 + gu ≤ 40) (hrt : r ≠ t) (hric : ri ≠ c) : SP 6 yX2_dishesToWant cX2_dishesToWant 8 (some .int) [.ref w, .ref u, .int (nI j), .int (nI N), .ref r, .int (nI i0)] n h (some (.int (nI (mBits (mWP gu N j i0 R xu x) gu)))) (q_up (q_up h c (TA (mWt gu N j xu x gu).1)) t (TX c gu (mWt gu N j xu x gu))) := by
  refine q_SPi RX2 rfl (by decide +kernel) (la := _) rfl rfl (fun Γ ad C F => ?_)
  refine g_iconst (pc := 0) C qk_iconst_0 dX2_dishesToWant_0 ?_
  refine g_istore (pc := 1) C rfl dX2_dishesToWant_1 ?_
  refine g_iconst (pc := 3) C qk_iconst_0 dX2_dishesToWant_3 ?_
  refine g_istore (pc := 4) C rfl dX2_dishesToWant_4 ?_
  exact l2_want C F hut hcc hv hj hN hm hi0 hrt hric (x := x) rfl (gu + 1) 0 g 0 _ (by omega) (by omega) (fun q => absurd q (by decide)) hw ht hc hu hcu hr hri rfl rfl
abbrev SA (f : Nat → Nat) : q_E := .inl (0, 6, qN f)
def mLay (sl : Nat → Nat) (f : Nat → Nat) : Nat → (Nat → Nat)
  | 0 => f
  | k + 1 => va_up (va_up (mLay sl f k) (30 + k) (sl k)) (42 + sl k) k
def mSw (f : Nat → Nat) (i j : Nat) : Nat → Nat := va_up (va_up f i (f j)) j (f i)
/-- the rise, one more than its place -/
def mRi (f : Nat → Nat) : Nat → Nat
  | 0 => 0
  | R + 1 => if f (R + 1) < f R then mRi f R else R + 1
def mGr (f : Nat → Nat) (ri : Nat) : Nat → Nat
  | 0 => 0
  | k + 1 => if ri + 1 < k + 1 ∧ f (k + 1) < f ri then mGr f ri k else k + 1
def mRv : Nat → (Nat → Nat) → Nat → Nat → (Nat → Nat)
  | 0, f, _, _ => f
  | m + 1, f, lo, hi => if lo < hi then mRv m (mSw f lo hi) (lo + 1) (hi - 1) else f
theorem mRi_le (f : Nat → Nat) : ∀ R, mRi f R ≤ R
  | 0 => Nat.le_refl _
  | R + 1 => by
    have h := mRi_le f R
    show (if f (R + 1) < f R then mRi f R else R + 1) ≤ R + 1
    split <;> omega
theorem mGr_b (f : Nat → Nat) (ri : Nat) : ∀ k, mGr f ri k ≤ k ∧ (ri + 1 ≤ k → ri + 1 ≤ mGr f ri k)
  | 0 => ⟨Nat.le_refl _, fun h => by omega⟩
  | k + 1 => by
    have h := mGr_b f ri k
    show (if ri + 1 < k + 1 ∧ f (k + 1) < f ri then mGr f ri k else k + 1) ≤ k + 1 ∧ (ri + 1 ≤ k + 1 → ri + 1 ≤ (if ri + 1 < k + 1 ∧ f (k + 1) < f ri then mGr f ri k else k + 1))
    split
    · exact ⟨by omega, fun _ => h.2 (by omega)⟩
    · exact ⟨by omega, fun q => by omega⟩
/-- the next order of the first g places: none, or that one -/
def mNx (g : Nat) (f : Nat → Nat) : Option (Nat → Nat) :=
  if mRi f (g - 1) = 0 then none
  else some (mRv 6 (mSw f (mRi f (g - 1) - 1) (mGr f (mRi f (g - 1) - 1) (g - 1))) (mRi f (g - 1)) (g - 1))
set_option maxHeartbeats 2000000 in
set_option maxRecDepth 20000 in
theorem l2_lay {Γ : q_X} {ad : Nat → Nat} {n w t s bs c g tu mi o p e b : Nat} {f sl : Nat → Nat} {hF : q_H} (hg : g ≤ 6) (hsl : ∀ k, k < g → sl k < 6) (sc : s ≠ c) (C : q_C Γ ad 2 0 0 RX2 yX2_layAsTried cX2_layAsTried 2 none) (F : q_N Γ ad n none hF) : ∀ (k i : Nat) (H : q_H), g < i + k → i ≤ g → H w = FO t s bs → H t = TO c g tu mi o p e b → H c = TA (mLay sl f i) → H s = SA sl → hF = q_up H c (TA (mLay sl f g)) → q_G Γ ad 2 2 [some (.ref w), some (.int (nI i))] [] n H 0 0 := by
  intro k
  induction k with
  | zero => intro i; intros; omega
  | succ k ih =>
    intro i H hk hi hw ht hc hs hH
    have wc : w ≠ c := fun q => by rw [q, hc] at hw; cases hw
    have tc : t ≠ c := fun q => by rw [q, hc] at ht; cases ht
    refine g_iload_n (pc := 2) C (hl := rfl) dX2_layAsTried_2 ?_
    refine g_aload_n (pc := 3) C (hl := rfl) dX2_layAsTried_3 ?_
    refine g_get (pc := 4) C fl2_12 dX2_layAsTried_4 hw rfl ?_
    refine g_get (pc := 7) C fl2_48 dX2_layAsTried_7 ht rfl ?_
    refine g_ic_geN (pc := 10) C 42 dX2_layAsTried_10 (by decide) (by omega) (fun c10 => ?_) (fun c10 => ?_)
    · obtain rfl : i = g := by omega
      exact g_vret (pc := 42) C F dX2_layAsTried_42 rfl rfl (by rw [hH, q_upI hc])
    · refine g_iload_n (pc := 13) C (hl := rfl) dX2_layAsTried_13 ?_
      refine g_aload_n (pc := 14) C (hl := rfl) dX2_layAsTried_14 ?_
      refine g_get (pc := 15) C fl2_18 dX2_layAsTried_15 hw rfl ?_
      refine g_alenN (pc := 18) C dX2_layAsTried_18 hs ?_
      refine g_ic_geN (pc := 19) C 42 dX2_layAsTried_19 (by decide) (by omega) (fun c19 => ?_) (fun c19 => ?_)
      · obtain rfl : i = g := by omega
        exact g_vret (pc := 42) C F dX2_layAsTried_42 rfl rfl (by rw [hH, q_upI hc])
      · refine g_aload_n (pc := 22) C (hl := rfl) dX2_layAsTried_22 ?_
        refine g_get (pc := 23) C fl2_12 dX2_layAsTried_23 hw rfl ?_
        refine g_iload_n (pc := 26) C (hl := rfl) dX2_layAsTried_26 ?_
        refine g_aload_n (pc := 27) C (hl := rfl) dX2_layAsTried_27 ?_
        refine g_get (pc := 28) C fl2_18 dX2_layAsTried_28 hw rfl ?_
        refine g_iload_n (pc := 31) C (hl := rfl) dX2_layAsTried_31 ?_
        refine g_ialdN (pc := 32) C dX2_layAsTried_32 hs (by omega) ?_
        refine g_V2u (pc := 33) C lv2_93 dX2_layAsTried_33 (s4_layIn _ _ ht hc (by have := hsl i (by omega); omega)) ht (by decide) (Nat.le_of_ble_eq_true rfl) ?_
        refine g_iincN (pc := 36) C (hl := rfl) (q_inc1 _) rfl dX2_layAsTried_36 ?_
        refine g_goto (pc := 39) C 2 dX2_layAsTried_39 (by decide) ?_
        exact ih (i + 1) _ (by omega) (by omega) (((q_up_n _ _ wc).trans hw)) (((q_up_n _ _ tc).trans ht)) (q_up_s _ _ _) (((q_up_n _ _ sc).trans hs)) (by rw [hH, q_up_u])
set_option maxHeartbeats 2000000 in
set_option maxRecDepth 20000 in
theorem s2_lay {n : Nat} {h : q_H} {w t s bs c g tu mi o p e b : Nat} {f sl : Nat → Nat} (hw : h w = FO t s bs) (ht : h t = TO c g tu mi o p e b) (hc : h c = TA f) (hs : h s = SA sl) (hg : g ≤ 6) (hsl : ∀ k, k < g → sl k < 6) (sc : s ≠ c) : SP 2 yX2_layAsTried cX2_layAsTried 2 none [.ref w] n h none (q_up h c (TA (mLay sl f g))) := by
  refine q_SPi RX2 rfl (by decide +kernel) (la := _) rfl rfl (fun Γ ad C F => ?_)
  refine g_iconst (pc := 0) C qk_iconst_0 dX2_layAsTried_0 ?_
  refine g_istore_n (pc := 1) C rfl dX2_layAsTried_1 ?_
  exact l2_lay hg hsl sc C F (g + 1) 0 _ (by omega) (by omega) hw ht hc hs rfl
theorem s7_withinN {n : Nat} {h : q_H} (x a b : Nat) (hq : x < 2147483648 ∧ a ≤ x ∧ x ≤ b ∧ b < 2147483648) : SP 0 yX7_within cX7_within 3 (some .boolean) [.int (nI x), .int (nI a), .int (nI b)] n h (some (.int (nI 1))) h := by
  have h1 := s7_within (n := n) (h := h) (nI x) (nI a) (nI b)
  rw [if_neg (fun q => q.elim (fun q => by have := (nI_ltI (by omega) (by omega)).mp q; omega) (fun q => by have := (nI_ltI (by omega) (by omega)).mp q; omega))] at h1
  exact h1
set_option maxHeartbeats 2000000 in
set_option maxRecDepth 20000 in
theorem s2_sw {n : Nat} {h : q_H} {w t s bs : Nat} {f : Nat → Nat} (i j : Nat) (hw : h w = FO t s bs) (hs : h s = SA f) (hi : i < 6 ∧ j < 6) : SP 1 yX2_swapTried cX2_swapTried 4 none [.ref w, .int (nI i), .int (nI j)] n h none (q_up h s (SA (mSw f i j))) := by
  have ws : w ≠ s := fun q => by rw [q, hs] at hw; cases hw
  refine q_SPi RX2 rfl (by decide +kernel) (la := _) rfl rfl (fun Γ ad C F => ?_)
  refine g_iload_n (pc := 0) C (hl := rfl) dX2_swapTried_0 ?_
  refine g_iconst (pc := 1) C qk_iconst_0 dX2_swapTried_1 ?_
  refine g_aload_n (pc := 2) C (hl := rfl) dX2_swapTried_2 ?_
  refine g_get (pc := 3) C fl2_18 dX2_swapTried_3 hw rfl ?_
  refine g_alenN (pc := 6) C dX2_swapTried_6 hs ?_
  refine g_iconst (pc := 7) C qk_iconst_1 dX2_swapTried_7 ?_
  refine g_isubN (pc := 8) C dX2_swapTried_8 (by omega) ?_
  refine g_S3v (pc := 9) C ls2_99 dX2_swapTried_9 (s7_withinN _ _ _ (by omega)) (by decide) (Nat.le_of_ble_eq_true rfl) ?_
  refine g_if_eqN (pc := 12) C 56 dX2_swapTried_12 (by decide) (by decide) (fun q => absurd q (by decide)) (fun _ => ?_)
  refine g_iload_n (pc := 15) C (hl := rfl) dX2_swapTried_15 ?_
  refine g_iconst (pc := 16) C qk_iconst_0 dX2_swapTried_16 ?_
  refine g_aload_n (pc := 17) C (hl := rfl) dX2_swapTried_17 ?_
  refine g_get (pc := 18) C fl2_18 dX2_swapTried_18 hw rfl ?_
  refine g_alenN (pc := 21) C dX2_swapTried_21 hs ?_
  refine g_iconst (pc := 22) C qk_iconst_1 dX2_swapTried_22 ?_
  refine g_isubN (pc := 23) C dX2_swapTried_23 (by omega) ?_
  refine g_S3v (pc := 24) C ls2_99 dX2_swapTried_24 (s7_withinN _ _ _ (by omega)) (by decide) (Nat.le_of_ble_eq_true rfl) ?_
  refine g_if_eqN (pc := 27) C 56 dX2_swapTried_27 (by decide) (by decide) (fun q => absurd q (by decide)) (fun _ => ?_)
  refine g_aload_n (pc := 30) C (hl := rfl) dX2_swapTried_30 ?_
  refine g_get (pc := 31) C fl2_18 dX2_swapTried_31 hw rfl ?_
  refine g_iload_n (pc := 34) C (hl := rfl) dX2_swapTried_34 ?_
  refine g_ialdN (pc := 35) C dX2_swapTried_35 hs (by omega) ?_
  refine g_istore_n (pc := 36) C rfl dX2_swapTried_36 ?_
  refine g_aload_n (pc := 37) C (hl := rfl) dX2_swapTried_37 ?_
  refine g_get (pc := 38) C fl2_18 dX2_swapTried_38 hw rfl ?_
  refine g_iload_n (pc := 41) C (hl := rfl) dX2_swapTried_41 ?_
  refine g_aload_n (pc := 42) C (hl := rfl) dX2_swapTried_42 ?_
  refine g_get (pc := 43) C fl2_18 dX2_swapTried_43 hw rfl ?_
  refine g_iload_n (pc := 46) C (hl := rfl) dX2_swapTried_46 ?_
  refine g_ialdN (pc := 47) C dX2_swapTried_47 hs (by omega) ?_
  refine g_iastN (pc := 48) C dX2_swapTried_48 hs (by omega) ?_
  refine g_aload_n (pc := 49) C (hl := rfl) dX2_swapTried_49 ?_
  refine g_get (pc := 50) C fl2_18 dX2_swapTried_50 ((q_up_n _ _ ws).trans hw) rfl ?_
  refine g_iload_n (pc := 53) C (hl := rfl) dX2_swapTried_53 ?_
  refine g_iload_n (pc := 54) C (hl := rfl) dX2_swapTried_54 ?_
  refine g_iastN (pc := 55) C dX2_swapTried_55 (q_up_s _ _ _) (by omega) ?_
  exact g_vret (pc := 56) C F dX2_swapTried_56 rfl rfl (by simp only [q_up_u]; rfl)
set_option maxHeartbeats 2000000 in
set_option maxRecDepth 20000 in
theorem s2_bs {n : Nat} {h : q_H} {w t s bs : Nat} {f : Nat → Nat} (k : Nat) (hw : h w = FO t s bs) (hbs : h bs = SA f) (hk : k < 6) : SP 0 yX2_bestSlot cX2_bestSlot 2 (some .int) [.ref w, .int (nI k)] n h (some (.int (nI (f k)))) h := by
  refine q_SPi RX2 rfl (by decide +kernel) (la := _) rfl rfl (fun Γ ad C F => ?_)
  refine g_iload_n (pc := 0) C (hl := rfl) dX2_bestSlot_0 ?_
  refine g_if_ltN (pc := 1) C 22 dX2_bestSlot_1 (by decide) (by omega) ?_
  refine g_iload_n (pc := 4) C (hl := rfl) dX2_bestSlot_4 ?_
  refine g_aload_n (pc := 5) C (hl := rfl) dX2_bestSlot_5 ?_
  refine g_get (pc := 6) C fl2_22 dX2_bestSlot_6 hw rfl ?_
  refine g_alenN (pc := 9) C dX2_bestSlot_9 hbs ?_
  refine g_ic_geN (pc := 10) C 22 dX2_bestSlot_10 (by decide) (by omega) (fun q => absurd q (by omega)) (fun _ => ?_)
  refine g_aload_n (pc := 13) C (hl := rfl) dX2_bestSlot_13 ?_
  refine g_get (pc := 14) C fl2_22 dX2_bestSlot_14 hw rfl ?_
  refine g_iload_n (pc := 17) C (hl := rfl) dX2_bestSlot_17 ?_
  refine g_ialdN (pc := 18) C dX2_bestSlot_18 hbs (by omega) ?_
  refine g_goto (pc := 19) C 23 dX2_bestSlot_19 (by decide) ?_
  exact g_iret (pc := 23) C F dX2_bestSlot_23 rfl rfl (rfl) (rfl)
