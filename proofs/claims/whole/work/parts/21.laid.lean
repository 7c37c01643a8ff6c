def mOf (l : List Nat) : Nat → Nat := fun k => l.getD k 0
def mNl (g : Nat) (l : List Nat) : Option (List Nat) := (mNx g (mOf l)).map fun f => (List.range 6).map f
def mTry (g M L : Nat) (xu : mX) (l : List Nat) (x : mX) : Nat × mX := mPass g L M 0 (mLay (mOf l) (mCopy xu x).1 g, (mCopy xu x).2)
def mFb (g M : Nat) (xu : mX) : Nat → Nat → List Nat → List Nat → mX → Nat × List Nat × List Nat × mX
  | 0, L, l, b, x => (L, l, b, x)
  | k + 1, L, l, b, x => if 0 < L then
      (match mNl g l with
      | none => ((if (mTry g M L xu l x).1 < L then (mTry g M L xu l x).1 else L), l, (if (mTry g M L xu l x).1 < L then l else b), (mTry g M L xu l x).2)
      | some l' => mFb g M xu k (if (mTry g M L xu l x).1 < L then (mTry g M L xu l x).1 else L) l' (if (mTry g M L xu l x).1 < L then l else b) (mTry g M L xu l x).2)
    else (L, l, b, x)
def mPm (g : Nat) (sl : Nat → Nat) : Prop := (∀ k, k < g → sl k < g) ∧ (∀ i, i < g → ∃ k, k < g ∧ sl k = i) ∧ ∀ a b, a < g → b < g → sl a = sl b → a = b
theorem mLay_n {sl f : Nat → Nat} : ∀ (m i : Nat), m ≤ 6 → (∀ k, k < m → sl k < 6) → i < 30 ∨ 48 ≤ i ∨ (36 ≤ i ∧ i < 42) → mLay sl f m i = f i
  | 0, _, _, _, _ => rfl
  | m + 1, i, hm, hs, hi => by
    show va_up (va_up (mLay sl f m) (30 + m) (sl m)) (42 + sl m) m i = f i
    have := hs m (by omega)
    rw [va_up_n (by omega), va_up_n (by omega)]
    exact mLay_n m i (by omega) (fun k hk => hs k (by omega)) hi
theorem mLay_30 {sl f : Nat → Nat} : ∀ (m i : Nat), m ≤ 6 → (∀ k, k < m → sl k < 6) → i < m → mLay sl f m (30 + i) = sl i
  | 0, _, _, _, h => absurd h (by omega)
  | m + 1, i, hm, hs, hi => by
    show va_up (va_up (mLay sl f m) (30 + m) (sl m)) (42 + sl m) m (30 + i) = sl i
    rw [va_up_n (by omega)]
    by_cases h : i = m
    · rw [h]; exact va_up_self _ _ _
    · rw [va_up_n (by omega)]
      exact mLay_30 m i (by omega) (fun k hk => hs k (by omega)) (by omega)
theorem mLay_30n {sl f : Nat → Nat} : ∀ (m i : Nat), m ≤ 6 → (∀ k, k < m → sl k < 6) → m ≤ i → i < 6 → mLay sl f m (30 + i) = f (30 + i)
  | 0, _, _, _, _, _ => rfl
  | m + 1, i, hm, hs, hi, h6 => by
    show va_up (va_up (mLay sl f m) (30 + m) (sl m)) (42 + sl m) m (30 + i) = _
    rw [va_up_n (by omega), va_up_n (by omega)]
    exact mLay_30n m i (by omega) (fun k hk => hs k (by omega)) (by omega) h6
theorem mLay_42 {sl f : Nat → Nat} : ∀ (m i : Nat), m ≤ 6 → (∀ k, k < m → sl k < 6) → (∀ a b, a < m → b < m → sl a = sl b → a = b) → i < m → mLay sl f m (42 + sl i) = i
  | 0, _, _, _, _, h => absurd h (by omega)
  | m + 1, i, hm, hs, hj, hi => by
    show va_up (va_up (mLay sl f m) (30 + m) (sl m)) (42 + sl m) m (42 + sl i) = i
    by_cases h : i = m
    · rw [h]; exact va_up_self _ _ _
    · have h1 := hs i hi
      have h2 : sl i ≠ sl m := fun q => h (hj i m hi (by omega) q)
      rw [va_up_n (by omega), va_up_n (by omega)]
      exact mLay_42 m i (by omega) (fun k hk => hs k (by omega)) (fun a b ha hb => hj a b (by omega) (by omega)) (by omega)
theorem mLay_V {sl f : Nat → Nat} {g tu mi : Nat} (hv : mV f g tu mi) (hp : mPm g sl) : mV (mLay sl f g) g tu mi := by
  have hg := hv.1.2.1
  have hs : ∀ k, k < g → sl k < 6 := fun k hk => Nat.lt_of_lt_of_le (hp.1 k hk) hg
  have n_ : ∀ i, i < 30 ∨ 48 ≤ i ∨ (36 ≤ i ∧ i < 42) → mLay sl f g i = f i := fun i hi => mLay_n g i hg hs hi
  have e30 : ∀ i, i < g → mLay sl f g (30 + i) = sl i := fun i hi => mLay_30 g i hg hs hi
  have e42 : ∀ i, i < g → mLay sl f g (42 + sl i) = i := fun i hi => mLay_42 g i hg hs hp.2.2 hi
  refine ⟨hv.1, fun i hi => ?_, fun i hi => ?_⟩
  · obtain ⟨a1, a2, a3, a4, a5, a6, a7, a8, a9⟩ := hv.2.1 i hi
    obtain ⟨k, hk, rfl⟩ := hp.2.1 i hi
    rw [n_ (12 + sl k) (by omega), n_ (36 + sl k) (by omega), n_ (0 + sl k) (by omega), n_ (36 + f (12 + sl k)) (by omega), n_ (12 + f (36 + sl k)) (by omega), e30 _ hi, e42 k hk, e42 _ hi, e30 k hk]
    exact ⟨a1, a2, hp.1 _ hi, hk, a5, a6, rfl, rfl, a9⟩
  · obtain ⟨b1, b2, b3, b4, b5, b6⟩ := hv.2.2 i hi
    rw [n_ (0 + i) (by omega), n_ (6 + i) (by omega), n_ (18 + i) (by omega), n_ (24 + i) (by omega), n_ (12 + i) (by omega)]
    refine ⟨b1, b2, b3, b4, b5, ?_⟩
    by_cases h : i < g
    · rw [e30 i h]; exact hs i h
    · rw [mLay_30n g i hg hs (by omega) hi]; exact b6
theorem mTry_le {g M L : Nat} {xu : mX} {l : List Nat} {x : mX} : True := trivial
theorem mOf_r {f : Nat → Nat} {j : Nat} (hj : j < 6) : f j = mOf ((List.range 6).map f) j := by
  unfold mOf
  rw [List.getD_eq_getElem?_getD, List.getElem?_map, List.getElem?_range hj]
  rfl
theorem mPass_s {g lim : Nat} : ∀ (m S : Nat) (x : mX), mW g x → (mPass g lim m S x).1 ≤ S + 6 * m
  | 0, _, _, _ => Nat.le_refl _
  | m + 1, S, x, h => by
    show (if S < lim then mPass g lim m _ _ else (S, x)).1 ≤ _
    split
    · have h1 := mPass_s (g := g) (lim := lim) m (S + (mNext g x).2.2.2.2.1) (mNext g x) (mNext_V h)
      have h2 := mNext_p h
      omega
    · show S ≤ _; omega
set_option maxHeartbeats 2000000 in
set_option maxRecDepth 20000 in
theorem l2_fb {Γ : q_X} {ad : Nat → Nat} {n w t s bs c u cu gu M : Nat} {xu : mX} {rz : Int32} {hF : q_H} {PP : List Nat → Prop} (C : q_C Γ ad 5 0 0 RX2 yX2_findBestSlots cX2_findBestSlots 7 (some .int)) (F : q_N Γ ad n (some (.int rz)) hF) (hut : u ≠ t) (hcc : cu ≠ c) (sbs : s ≠ bs) (sc : s ≠ c) (bc : bs ≠ c) (cus : cu ≠ s) (cub : cu ≠ bs) (hv : mW gu xu) (hM : M < 1000) (hm : xu.2.2.1 + M < 1000000) (hP : ∀ l, PP l → (∀ k, k < 6 → mOf l k < 6) ∧ mPm gu (mOf l)) (hS : ∀ l l', PP l → mNl gu l = some l' → PP l') : ∀ (k T L : Nat) (l b : List Nat) (x : mX) (gg : Nat) (v6 : Option Value) (H : q_H), T + k = 1000000 → L ≤ 1000000 → (0 < T → gg = gu) → PP l → H w = FO t s bs → H t = TX c gg x → H c = TA x.1 → H s = SA (mOf l) → H bs = SA (mOf b) → H u = TX cu gu xu → H cu = TA xu.1 → (T = 0 → 0 < L) → rz = nI (mFb gu M xu k L l b x).1 → hF = q_up (q_up (q_up (q_up H s (SA (mOf (mFb gu M xu k L l b x).2.1))) bs (SA (mOf (mFb gu M xu k L l b x).2.2.1))) c (TA (mFb gu M xu k L l b x).2.2.2.1)) t (TX c gu (mFb gu M xu k L l b x).2.2.2) → q_G Γ ad 7 37 [some (.ref w), some (.ref u), some (.int (nI M)), some (.int (nI L)), some (.int (nI 1)), some (.int (nI T)), v6] [] n H 0 0 := by
  intro k
  induction k with
  | zero =>
    intro T L l b x gg v6 H hT hL hgg hl hw ht hc hs hbs hu hcu hT0 hz hH
    refine g_iload (pc := 37) C (hl := rfl) dX2_findBestSlots_37 ?_
    refine g_if_eqN (pc := 39) C 116 dX2_findBestSlots_39 (by decide) (by decide) (fun q => absurd q (by decide)) (fun _ => ?_)
    refine g_iload (pc := 42) C (hl := rfl) dX2_findBestSlots_42 ?_
    refine g_ldc (pc := 44) C (v := nI 1000000) zk2_29 dX2_findBestSlots_44 ?_
    refine g_ic_geN (pc := 46) C 116 dX2_findBestSlots_46 (by decide) (by omega) (fun _ => ?_) (fun q => absurd (by omega) q)
    refine g_iload_n (pc := 116) C (hl := rfl) dX2_findBestSlots_116 ?_
    have e3 : mFb gu M xu 0 L l b x = (L, l, b, x) := rfl
    rw [e3] at hz hH
    obtain rfl := hgg (by omega)
    exact g_iret (pc := 117) C F dX2_findBestSlots_117 rfl rfl (by rw [hz]) (by rw [hH, q_upI hs, q_upI hbs, q_upI hc, q_upI ht])
  | succ k ih =>
    intro T L l b x gg v6 H hT hL hgg hl hw ht hc hs hbs hu hcu hT0 hz hH
    have hg := hv.1
    have hg6 := hv.1.2.1
    have hpl : ∀ l x, PP l → (mTry gu M L xu l x).1 ≤ 6 * M := fun l x hl => by have := mPass_s (lim := L) M 0 _ (mLay_V (sl := mOf l) (f := (mCopy xu x).1) hv (hP l hl).2 : mW gu (mLay (mOf l) (mCopy xu x).1 gu, (mCopy xu x).2)); rw [Nat.zero_add] at this; exact this
    have ws : w ≠ s := fun q => by rw [q, hs] at hw; cases hw
    have wbs : w ≠ bs := fun q => by rw [q, hbs] at hw; cases hw
    have wt : w ≠ t := fun q => by rw [q, ht] at hw; cases hw
    have wc : w ≠ c := fun q => by rw [q, hc] at hw; cases hw
    have tc : t ≠ c := fun q => by rw [q, hc] at ht; cases ht
    have st_ : s ≠ t := fun q => by rw [q, ht] at hs; cases hs
    have bst : bs ≠ t := fun q => by rw [q, ht] at hbs; cases hbs
    have uc : u ≠ c := fun q => by rw [q, hc] at hu; cases hu
    have us : u ≠ s := fun q => by rw [q, hs] at hu; cases hu
    have ubs : u ≠ bs := fun q => by rw [q, hbs] at hu; cases hu
    have cut : cu ≠ t := fun q => by rw [q, ht] at hcu; cases hcu
    refine g_iload (pc := 37) C (hl := rfl) dX2_findBestSlots_37 ?_
    refine g_if_eqN (pc := 39) C 116 dX2_findBestSlots_39 (by decide) (by decide) (fun q => absurd q (by decide)) (fun _ => ?_)
    refine g_iload (pc := 42) C (hl := rfl) dX2_findBestSlots_42 ?_
    refine g_ldc (pc := 44) C (v := nI 1000000) zk2_29 dX2_findBestSlots_44 ?_
    refine g_ic_geN (pc := 46) C 116 dX2_findBestSlots_46 (by decide) (by omega) (fun q => absurd q (by omega)) (fun _ => ?_)
    refine g_iload_n (pc := 49) C (hl := rfl) dX2_findBestSlots_49 ?_
    refine g_if_leN (pc := 50) C 116 dX2_findBestSlots_50 (by decide) (by omega) (fun c50 => ?_) (fun c50 => ?_)
    · refine g_iload_n (pc := 116) C (hl := rfl) dX2_findBestSlots_116 ?_
      have e3 : mFb gu M xu (k + 1) L l b x = (L, l, b, x) := by
        conv => lhs; unfold mFb
        rw [if_neg (by omega)]
      rw [e3] at hz hH
      obtain rfl := hgg (by omega)
      exact g_iret (pc := 117) C F dX2_findBestSlots_117 rfl rfl (by rw [hz]) (by rw [hH, q_upI hs, q_upI hbs, q_upI hc, q_upI ht])
    · refine g_aload_n (pc := 53) C (hl := rfl) dX2_findBestSlots_53 ?_
      refine g_get (pc := 54) C fl2_12 dX2_findBestSlots_54 hw rfl ?_
      refine g_aload_n (pc := 57) C (hl := rfl) dX2_findBestSlots_57 ?_
      refine g_V1u (pc := 58) C lv2_25 dX2_findBestSlots_58 (s4_becomeX ht hc hu hcu hut) ht (by decide) (Nat.le_of_ble_eq_true rfl) ?_
      refine g_aload_n (pc := 61) C (hl := rfl) dX2_findBestSlots_61 ?_
      refine g_V0u (pc := 62) C lv2_81 dX2_findBestSlots_62 (s2_lay (sl := mOf l) ((q_up_n _ _ wt).trans ((q_up_n _ _ wc).trans hw)) (q_up_s _ _ _) ((q_up_n _ _ (Ne.symm tc)).trans (q_up_s _ _ _)) ((q_up_n _ _ st_).trans ((q_up_n _ _ sc).trans hs)) hg6 (fun k hk => (hP l hl).1 k (by omega)) sc) ((q_up_n _ _ wt).trans ((q_up_n _ _ wc).trans hw)) (by decide) (Nat.le_of_ble_eq_true rfl) ?_
      refine g_aload_n (pc := 65) C (hl := rfl) dX2_findBestSlots_65 ?_
      refine g_iload_n (pc := 66) C (hl := rfl) dX2_findBestSlots_66 ?_
      refine g_iload_n (pc := 67) C (hl := rfl) dX2_findBestSlots_67 ?_
      refine g_V2v (pc := 68) C lv2_30 dX2_findBestSlots_68 (s2_pass (x := (mLay (mOf l) (mCopy xu x).1 gu, (mCopy xu x).2)) (g := gu) _ _ ((q_up_n _ _ wc).trans ((q_up_n _ _ wt).trans ((q_up_n _ _ wc).trans hw))) ((q_up_n _ _ tc).trans (q_up_s _ _ _)) (q_up_s _ _ _) (mLay_V hv (hP l hl).2) (by omega) (by omega) hm) ((q_up_n _ _ wc).trans ((q_up_n _ _ wt).trans ((q_up_n _ _ wc).trans hw))) (by decide) (Nat.le_of_ble_eq_true rfl) ?_
      refine g_istore (pc := 71) C rfl dX2_findBestSlots_71 ?_
      refine g_iload (pc := 73) C (hl := rfl) dX2_findBestSlots_73 ?_
      refine g_iload_n (pc := 75) C (hl := rfl) dX2_findBestSlots_75 ?_
      refine g_ic_geN (pc := 76) C 100 dX2_findBestSlots_76 (by decide) (by exact ⟨Nat.lt_of_le_of_lt (hpl l x hl) (by omega), by omega⟩) (fun c76 => ?_) (fun c76 => ?_)
      · refine g_aload_n (pc := 100) C (hl := rfl) dX2_findBestSlots_100 ?_
        refine g_aload_n (pc := 101) C (hl := rfl) dX2_findBestSlots_101 ?_
        refine g_get (pc := 102) C fl2_48 dX2_findBestSlots_102 ((q_up_n _ _ hut).trans ((q_up_n _ _ uc).trans ((q_up_n _ _ uc).trans ((q_up_n _ _ hut).trans ((q_up_n _ _ uc).trans hu))))) rfl ?_
        by_cases hq : mRi (mOf l) (gu - 1) = 0
        · refine g_V1v (pc := 105) C lv2_90 dX2_findBestSlots_105 (s2_nextN ((q_up_n _ _ wt).trans ((q_up_n _ _ wc).trans ((q_up_n _ _ wc).trans ((q_up_n _ _ wt).trans ((q_up_n _ _ wc).trans hw))))) ((q_up_n _ _ st_).trans ((q_up_n _ _ sc).trans ((q_up_n _ _ sc).trans ((q_up_n _ _ st_).trans ((q_up_n _ _ sc).trans hs))))) (hP l hl).1 ⟨hg.1, hg.2.1⟩ hq) ((q_up_n _ _ wt).trans ((q_up_n _ _ wc).trans ((q_up_n _ _ wc).trans ((q_up_n _ _ wt).trans ((q_up_n _ _ wc).trans hw))))) (by decide) (Nat.le_of_ble_eq_true rfl) ?_
          refine g_istore (pc := 108) C rfl dX2_findBestSlots_108 ?_
          refine g_iincN (pc := 110) C (hl := rfl) (q_inc1 _) rfl dX2_findBestSlots_110 ?_
          refine g_goto (pc := 113) C 37 dX2_findBestSlots_113 (by decide) ?_
          refine g_iload (pc := 37) C (hl := rfl) dX2_findBestSlots_37 ?_
          refine g_if_eqN (pc := 39) C 116 dX2_findBestSlots_39 (by decide) (by decide) (fun _ => ?_) (fun q => absurd q (by decide))
          refine g_iload_n (pc := 116) C (hl := rfl) dX2_findBestSlots_116 ?_
          have hnl : mNl gu l = none := by unfold mNl mNx; rw [if_pos hq]; rfl
          have e1 : (if (mTry gu M L xu l x).1 < L then (mTry gu M L xu l x).1 else L) = L := if_neg (Nat.not_lt.mpr c76)
          have e2 : (if (mTry gu M L xu l x).1 < L then l else b) = b := if_neg (Nat.not_lt.mpr c76)
          have e3 : mFb gu M xu (k + 1) L l b x = (L, l, b, (mTry gu M L xu l x).2) := by
            conv => lhs; unfold mFb
            rw [if_pos (by omega), hnl, e1, e2]
          rw [e3] at hz hH
          exact g_iret (pc := 117) C F dX2_findBestSlots_117 rfl rfl (by rw [hz]; try rfl) (by rw [hH, q_upI hs, q_upI hbs]; simp only [q_up_u, q_up_c _ (Ne.symm sbs), q_up_c _ (Ne.symm sc), q_up_c _ (Ne.symm st_), q_up_c _ (Ne.symm bc), q_up_c _ (Ne.symm bst), q_up_c _ tc]; first | done | rfl)
        · obtain ⟨ri, hri⟩ : ∃ ri, mRi (mOf l) (gu - 1) = ri + 1 := ⟨mRi (mOf l) (gu - 1) - 1, by omega⟩
          have hle := mRi_le (mOf l) (gu - 1)
          have hgr := mGr_b (mOf l) ri (gu - 1)
          refine g_V1v (pc := 105) C lv2_90 dX2_findBestSlots_105 (s2_nextS (ri := ri) ((q_up_n _ _ wt).trans ((q_up_n _ _ wc).trans ((q_up_n _ _ wc).trans ((q_up_n _ _ wt).trans ((q_up_n _ _ wc).trans hw))))) ((q_up_n _ _ st_).trans ((q_up_n _ _ sc).trans ((q_up_n _ _ sc).trans ((q_up_n _ _ st_).trans ((q_up_n _ _ sc).trans hs))))) (hP l hl).1 ⟨hg.1, hg.2.1⟩ hri (by omega)) ((q_up_n _ _ wt).trans ((q_up_n _ _ wc).trans ((q_up_n _ _ wc).trans ((q_up_n _ _ wt).trans ((q_up_n _ _ wc).trans hw))))) (by decide) (Nat.le_of_ble_eq_true rfl) ?_
          obtain ⟨l2, hnl, hl2⟩ : ∃ l2, mNl gu l = some l2 ∧ ∀ j, j < 6 → mRv 6 (mSw (mOf l) ri (mGr (mOf l) ri (gu - 1))) (ri + 1) (gu - 1) j = mOf l2 j := ⟨_, by unfold mNl mNx; rw [if_neg hq, hri]; rfl, fun j hj => mOf_r hj⟩
          refine g_arr (F := qN (mOf l2)) (q_up_s _ _ _) (fun j hj => congrArg nI (hl2 j hj)) ?_
          refine g_istore (pc := 108) C rfl dX2_findBestSlots_108 ?_
          refine g_iincN (pc := 110) C (hl := rfl) (q_inc1 _) rfl dX2_findBestSlots_110 ?_
          refine g_goto (pc := 113) C 37 dX2_findBestSlots_113 (by decide) ?_
          have e1 : (if (mTry gu M L xu l x).1 < L then (mTry gu M L xu l x).1 else L) = L := if_neg (Nat.not_lt.mpr c76)
          have e2 : (if (mTry gu M L xu l x).1 < L then l else b) = b := if_neg (Nat.not_lt.mpr c76)
          have e3 : mFb gu M xu (k + 1) L l b x = mFb gu M xu k L l2 b (mTry gu M L xu l x).2 := by
            conv => lhs; unfold mFb
            rw [if_pos (by omega), hnl, e1, e2]
          rw [e3] at hz hH
          exact ih (T + 1) _ _ _ _ gu _ _ (by omega) (by omega) (fun _ => rfl) (hS l _ hl hnl) (((q_up_n _ _ ws).trans ((q_up_n _ _ ws).trans ((q_up_n _ _ wt).trans ((q_up_n _ _ wc).trans ((q_up_n _ _ wc).trans ((q_up_n _ _ wt).trans ((q_up_n _ _ wc).trans hw)))))))) (((q_up_n _ _ (Ne.symm st_)).trans ((q_up_n _ _ (Ne.symm st_)).trans (q_up_s _ _ _)))) (((q_up_n _ _ (Ne.symm sc)).trans ((q_up_n _ _ (Ne.symm sc)).trans ((q_up_n _ _ (Ne.symm tc)).trans (q_up_s _ _ _))))) (q_up_s _ _ _) (((q_up_n _ _ (Ne.symm sbs)).trans ((q_up_n _ _ (Ne.symm sbs)).trans ((q_up_n _ _ bst).trans ((q_up_n _ _ bc).trans ((q_up_n _ _ bc).trans ((q_up_n _ _ bst).trans ((q_up_n _ _ bc).trans hbs)))))))) (((q_up_n _ _ us).trans ((q_up_n _ _ us).trans ((q_up_n _ _ hut).trans ((q_up_n _ _ uc).trans ((q_up_n _ _ uc).trans ((q_up_n _ _ hut).trans ((q_up_n _ _ uc).trans hu)))))))) (((q_up_n _ _ cus).trans ((q_up_n _ _ cus).trans ((q_up_n _ _ cut).trans ((q_up_n _ _ hcc).trans ((q_up_n _ _ hcc).trans ((q_up_n _ _ cut).trans ((q_up_n _ _ hcc).trans hcu)))))))) (by omega) hz (by rw [hH]; simp only [q_up_u, q_up_c _ (Ne.symm sbs), q_up_c _ (Ne.symm sc), q_up_c _ (Ne.symm st_), q_up_c _ (Ne.symm bc), q_up_c _ (Ne.symm bst), q_up_c _ tc]; first | done | rfl)
      · refine g_iload (pc := 79) C (hl := rfl) dX2_findBestSlots_79 ?_
        refine g_istore_n (pc := 81) C rfl dX2_findBestSlots_81 ?_
        refine g_aload_n (pc := 82) C (hl := rfl) dX2_findBestSlots_82 ?_
        refine g_get (pc := 83) C fl2_18 dX2_findBestSlots_83 ((q_up_n _ _ wt).trans ((q_up_n _ _ wc).trans ((q_up_n _ _ wc).trans ((q_up_n _ _ wt).trans ((q_up_n _ _ wc).trans hw))))) rfl ?_
        refine g_iconst (pc := 86) C qk_iconst_0 dX2_findBestSlots_86 ?_
        refine g_aload_n (pc := 87) C (hl := rfl) dX2_findBestSlots_87 ?_
        refine g_get (pc := 88) C fl2_22 dX2_findBestSlots_88 ((q_up_n _ _ wt).trans ((q_up_n _ _ wc).trans ((q_up_n _ _ wc).trans ((q_up_n _ _ wt).trans ((q_up_n _ _ wc).trans hw))))) rfl ?_
        refine g_iconst (pc := 91) C qk_iconst_0 dX2_findBestSlots_91 ?_
        refine g_aload_n (pc := 92) C (hl := rfl) dX2_findBestSlots_92 ?_
        refine g_get (pc := 93) C fl2_18 dX2_findBestSlots_93 ((q_up_n _ _ wt).trans ((q_up_n _ _ wc).trans ((q_up_n _ _ wc).trans ((q_up_n _ _ wt).trans ((q_up_n _ _ wc).trans hw))))) rfl ?_
        refine g_alenN (pc := 96) C dX2_findBestSlots_96 ((q_up_n _ _ st_).trans ((q_up_n _ _ sc).trans ((q_up_n _ _ sc).trans ((q_up_n _ _ st_).trans ((q_up_n _ _ sc).trans hs))))) ?_
        refine g_acopyN (pc := 97) C ly2_84 dX2_findBestSlots_97 ((q_up_n _ _ st_).trans ((q_up_n _ _ sc).trans ((q_up_n _ _ sc).trans ((q_up_n _ _ st_).trans ((q_up_n _ _ sc).trans hs))))) ((q_up_n _ _ bst).trans ((q_up_n _ _ bc).trans ((q_up_n _ _ bc).trans ((q_up_n _ _ bst).trans ((q_up_n _ _ bc).trans hbs))))) (F := qN (mOf l)) (by omega) (fun j hj => by rw [if_pos (by omega), Nat.zero_add, Nat.sub_zero]) (by decide) (Nat.le_of_ble_eq_true rfl) ?_
        refine g_aload_n (pc := 100) C (hl := rfl) dX2_findBestSlots_100 ?_
        refine g_aload_n (pc := 101) C (hl := rfl) dX2_findBestSlots_101 ?_
        refine g_get (pc := 102) C fl2_48 dX2_findBestSlots_102 ((q_up_n _ _ ubs).trans ((q_up_n _ _ hut).trans ((q_up_n _ _ uc).trans ((q_up_n _ _ uc).trans ((q_up_n _ _ hut).trans ((q_up_n _ _ uc).trans hu)))))) rfl ?_
        by_cases hq : mRi (mOf l) (gu - 1) = 0
        · refine g_V1v (pc := 105) C lv2_90 dX2_findBestSlots_105 (s2_nextN ((q_up_n _ _ wbs).trans ((q_up_n _ _ wt).trans ((q_up_n _ _ wc).trans ((q_up_n _ _ wc).trans ((q_up_n _ _ wt).trans ((q_up_n _ _ wc).trans hw)))))) ((q_up_n _ _ sbs).trans ((q_up_n _ _ st_).trans ((q_up_n _ _ sc).trans ((q_up_n _ _ sc).trans ((q_up_n _ _ st_).trans ((q_up_n _ _ sc).trans hs)))))) (hP l hl).1 ⟨hg.1, hg.2.1⟩ hq) ((q_up_n _ _ wbs).trans ((q_up_n _ _ wt).trans ((q_up_n _ _ wc).trans ((q_up_n _ _ wc).trans ((q_up_n _ _ wt).trans ((q_up_n _ _ wc).trans hw)))))) (by decide) (Nat.le_of_ble_eq_true rfl) ?_
          refine g_istore (pc := 108) C rfl dX2_findBestSlots_108 ?_
          refine g_iincN (pc := 110) C (hl := rfl) (q_inc1 _) rfl dX2_findBestSlots_110 ?_
          refine g_goto (pc := 113) C 37 dX2_findBestSlots_113 (by decide) ?_
          refine g_iload (pc := 37) C (hl := rfl) dX2_findBestSlots_37 ?_
          refine g_if_eqN (pc := 39) C 116 dX2_findBestSlots_39 (by decide) (by decide) (fun _ => ?_) (fun q => absurd q (by decide))
          refine g_iload_n (pc := 116) C (hl := rfl) dX2_findBestSlots_116 ?_
          have hnl : mNl gu l = none := by unfold mNl mNx; rw [if_pos hq]; rfl
          have e1 : (if (mTry gu M L xu l x).1 < L then (mTry gu M L xu l x).1 else L) = (mTry gu M L xu l x).1 := if_pos (Nat.not_le.mp c76)
          have e2 : (if (mTry gu M L xu l x).1 < L then l else b) = l := if_pos (Nat.not_le.mp c76)
          have e3 : mFb gu M xu (k + 1) L l b x = ((mTry gu M L xu l x).1, l, l, (mTry gu M L xu l x).2) := by
            conv => lhs; unfold mFb
            rw [if_pos (by omega), hnl, e1, e2]
          rw [e3] at hz hH
          exact g_iret (pc := 117) C F dX2_findBestSlots_117 rfl rfl (by rw [hz]; try rfl) (by rw [hH, q_upI hs]; simp only [q_up_u, q_up_c _ (Ne.symm sbs), q_up_c _ (Ne.symm sc), q_up_c _ (Ne.symm st_), q_up_c _ (Ne.symm bc), q_up_c _ (Ne.symm bst), q_up_c _ tc]; first | done | rfl)
        · obtain ⟨ri, hri⟩ : ∃ ri, mRi (mOf l) (gu - 1) = ri + 1 := ⟨mRi (mOf l) (gu - 1) - 1, by omega⟩
          have hle := mRi_le (mOf l) (gu - 1)
          have hgr := mGr_b (mOf l) ri (gu - 1)
          refine g_V1v (pc := 105) C lv2_90 dX2_findBestSlots_105 (s2_nextS (ri := ri) ((q_up_n _ _ wbs).trans ((q_up_n _ _ wt).trans ((q_up_n _ _ wc).trans ((q_up_n _ _ wc).trans ((q_up_n _ _ wt).trans ((q_up_n _ _ wc).trans hw)))))) ((q_up_n _ _ sbs).trans ((q_up_n _ _ st_).trans ((q_up_n _ _ sc).trans ((q_up_n _ _ sc).trans ((q_up_n _ _ st_).trans ((q_up_n _ _ sc).trans hs)))))) (hP l hl).1 ⟨hg.1, hg.2.1⟩ hri (by omega)) ((q_up_n _ _ wbs).trans ((q_up_n _ _ wt).trans ((q_up_n _ _ wc).trans ((q_up_n _ _ wc).trans ((q_up_n _ _ wt).trans ((q_up_n _ _ wc).trans hw)))))) (by decide) (Nat.le_of_ble_eq_true rfl) ?_
          obtain ⟨l2, hnl, hl2⟩ : ∃ l2, mNl gu l = some l2 ∧ ∀ j, j < 6 → mRv 6 (mSw (mOf l) ri (mGr (mOf l) ri (gu - 1))) (ri + 1) (gu - 1) j = mOf l2 j := ⟨_, by unfold mNl mNx; rw [if_neg hq, hri]; rfl, fun j hj => mOf_r hj⟩
          refine g_arr (F := qN (mOf l2)) (q_up_s _ _ _) (fun j hj => congrArg nI (hl2 j hj)) ?_
          refine g_istore (pc := 108) C rfl dX2_findBestSlots_108 ?_
          refine g_iincN (pc := 110) C (hl := rfl) (q_inc1 _) rfl dX2_findBestSlots_110 ?_
          refine g_goto (pc := 113) C 37 dX2_findBestSlots_113 (by decide) ?_
          have e1 : (if (mTry gu M L xu l x).1 < L then (mTry gu M L xu l x).1 else L) = (mTry gu M L xu l x).1 := if_pos (Nat.not_le.mp c76)
          have e2 : (if (mTry gu M L xu l x).1 < L then l else b) = l := if_pos (Nat.not_le.mp c76)
          have e3 : mFb gu M xu (k + 1) L l b x = mFb gu M xu k (mTry gu M L xu l x).1 l2 l (mTry gu M L xu l x).2 := by
            conv => lhs; unfold mFb
            rw [if_pos (by omega), hnl, e1, e2]
          rw [e3] at hz hH
          exact ih (T + 1) _ _ _ _ gu _ _ (by omega) (by omega) (fun _ => rfl) (hS l _ hl hnl) (((q_up_n _ _ ws).trans ((q_up_n _ _ ws).trans ((q_up_n _ _ wbs).trans ((q_up_n _ _ wt).trans ((q_up_n _ _ wc).trans ((q_up_n _ _ wc).trans ((q_up_n _ _ wt).trans ((q_up_n _ _ wc).trans hw))))))))) (((q_up_n _ _ (Ne.symm st_)).trans ((q_up_n _ _ (Ne.symm st_)).trans ((q_up_n _ _ (Ne.symm bst)).trans (q_up_s _ _ _))))) (((q_up_n _ _ (Ne.symm sc)).trans ((q_up_n _ _ (Ne.symm sc)).trans ((q_up_n _ _ (Ne.symm bc)).trans ((q_up_n _ _ (Ne.symm tc)).trans (q_up_s _ _ _)))))) (q_up_s _ _ _) (((q_up_n _ _ (Ne.symm sbs)).trans ((q_up_n _ _ (Ne.symm sbs)).trans (q_up_s _ _ _)))) (((q_up_n _ _ us).trans ((q_up_n _ _ us).trans ((q_up_n _ _ ubs).trans ((q_up_n _ _ hut).trans ((q_up_n _ _ uc).trans ((q_up_n _ _ uc).trans ((q_up_n _ _ hut).trans ((q_up_n _ _ uc).trans hu))))))))) (((q_up_n _ _ cus).trans ((q_up_n _ _ cus).trans ((q_up_n _ _ cub).trans ((q_up_n _ _ cut).trans ((q_up_n _ _ hcc).trans ((q_up_n _ _ hcc).trans ((q_up_n _ _ cut).trans ((q_up_n _ _ hcc).trans hcu))))))))) (by omega) hz (by rw [hH]; simp only [q_up_u, q_up_c _ (Ne.symm sbs), q_up_c _ (Ne.symm sc), q_up_c _ (Ne.symm st_), q_up_c _ (Ne.symm bc), q_up_c _ (Ne.symm bst), q_up_c _ tc]; first | done | rfl)
set_option maxHeartbeats 2000000 in
set_option maxRecDepth 20000 in
theorem l2_fi {Γ : q_X} {ad : Nat → Nat} {n w t s bs u M : Nat} (C : q_C Γ ad 5 0 0 RX2 yX2_findBestSlots cX2_findBestSlots 7 (some .int)) (v5 v6 : Option Value) : ∀ (k i : Nat) (K : Nat → Nat) (H : q_H), 6 < i + k → i ≤ 6 → H w = FO t s bs → H s = SA K → (∀ j, j < i → K j = j) → (q_G Γ ad 7 31 [some (.ref w), some (.ref u), some (.int (nI M)), some (.int (nI 1000000)), some (.int (nI 6)), v5, v6] [] n (q_up H s (SA (mOf [0, 1, 2, 3, 4, 5]))) 0 0) → q_G Γ ad 7 6 [some (.ref w), some (.ref u), some (.int (nI M)), some (.int (nI 1000000)), some (.int (nI i)), v5, v6] [] n H 0 0 := by
  intro k
  induction k with
  | zero => intro i; intros; omega
  | succ k ih =>
    intro i K H hk hi hw hs h0 kk
    have ws : w ≠ s := fun q => by rw [q, hs] at hw; cases hw
    refine g_iload (pc := 6) C (hl := rfl) dX2_findBestSlots_6 ?_
    refine g_aload_n (pc := 8) C (hl := rfl) dX2_findBestSlots_8 ?_
    refine g_get (pc := 9) C fl2_18 dX2_findBestSlots_9 hw rfl ?_
    refine g_alenN (pc := 12) C dX2_findBestSlots_12 hs ?_
    refine g_ic_geN (pc := 13) C 31 dX2_findBestSlots_13 (by decide) (by omega) (fun c13 => ?_) (fun c13 => ?_)
    · refine g_arr (F := qN (mOf [0, 1, 2, 3, 4, 5])) hs (fun j hj => by show nI (K j) = nI _; rw [h0 j (by omega)]; congr 1; revert j; decide) ?_
      obtain rfl : i = 6 := by omega
      exact kk
    · refine g_aload_n (pc := 16) C (hl := rfl) dX2_findBestSlots_16 ?_
      refine g_get (pc := 17) C fl2_18 dX2_findBestSlots_17 hw rfl ?_
      refine g_iload (pc := 20) C (hl := rfl) dX2_findBestSlots_20 ?_
      refine g_iload (pc := 22) C (hl := rfl) dX2_findBestSlots_22 ?_
      refine g_iastN (pc := 24) C dX2_findBestSlots_24 hs (by omega) ?_
      refine g_iincN (pc := 25) C (hl := rfl) (q_inc1 _) rfl dX2_findBestSlots_25 ?_
      refine g_goto (pc := 28) C 6 dX2_findBestSlots_28 (by decide) ?_
      exact ih (i + 1) _ _ (by omega) (by omega) (((q_up_n _ _ ws).trans hw)) (q_up_s _ _ _) (fun j hj => by unfold va_up; split; omega; exact h0 j (by omega)) (by rw [q_up_u]; exact kk)
set_option maxHeartbeats 2000000 in
set_option maxRecDepth 20000 in
theorem s2_fb {n : Nat} {h : q_H} {w t s bs c g u cu gu : Nat} {xu x : mX} {PP : List Nat → Prop} {f0 : Nat → Nat} (M : Nat) (b : List Nat) (hw : h w = FO t s bs) (ht : h t = TX c g x) (hc : h c = TA x.1) (hs0 : h s = SA f0) (hbs : h bs = SA (mOf b)) (hu : h u = TX cu gu xu) (hcu : h cu = TA xu.1) (hut : u ≠ t) (hcc : cu ≠ c) (sbs : s ≠ bs) (sc : s ≠ c) (bc : bs ≠ c) (cus : cu ≠ s) (cub : cu ≠ bs) (hv : mW gu xu) (hM : M < 1000) (hm : xu.2.2.1 + M < 1000000) (hP : ∀ l, PP l → (∀ k, k < 6 → mOf l k < 6) ∧ mPm gu (mOf l)) (hS : ∀ l l', PP l → mNl gu l = some l' → PP l') (hl0 : PP [0, 1, 2, 3, 4, 5]) : SP 5 yX2_findBestSlots cX2_findBestSlots 7 (some .int) [.ref w, .ref u, .int (nI M)] n h (some (.int (nI (mFb gu M xu 1000000 1000000 [0, 1, 2, 3, 4, 5] b x).1))) (q_up (q_up (q_up (q_up h s (SA (mOf (mFb gu M xu 1000000 1000000 [0, 1, 2, 3, 4, 5] b x).2.1))) bs (SA (mOf (mFb gu M xu 1000000 1000000 [0, 1, 2, 3, 4, 5] b x).2.2.1))) c (TA (mFb gu M xu 1000000 1000000 [0, 1, 2, 3, 4, 5] b x).2.2.2.1)) t (TX c gu (mFb gu M xu 1000000 1000000 [0, 1, 2, 3, 4, 5] b x).2.2.2)) := by
  have ws : w ≠ s := fun q => by rw [q, hs0] at hw; cases hw
  have wbs : w ≠ bs := fun q => by rw [q, hbs] at hw; cases hw
  have wt : w ≠ t := fun q => by rw [q, ht] at hw; cases hw
  have wc : w ≠ c := fun q => by rw [q, hc] at hw; cases hw
  have tc : t ≠ c := fun q => by rw [q, hc] at ht; cases ht
  have st_ : s ≠ t := fun q => by rw [q, ht] at hs0; cases hs0
  have bst : bs ≠ t := fun q => by rw [q, ht] at hbs; cases hbs
  have uc : u ≠ c := fun q => by rw [q, hc] at hu; cases hu
  have us : u ≠ s := fun q => by rw [q, hs0] at hu; cases hu
  have ubs : u ≠ bs := fun q => by rw [q, hbs] at hu; cases hu
  have cut : cu ≠ t := fun q => by rw [q, ht] at hcu; cases hcu
  refine q_SPi RX2 rfl (by decide +kernel) (la := _) rfl rfl (fun Γ ad C F => ?_)
  refine g_ldc (pc := 0) C (v := nI 1000000) zk2_29 dX2_findBestSlots_0 ?_
  refine g_istore_n (pc := 2) C rfl dX2_findBestSlots_2 ?_
  refine g_iconst (pc := 3) C qk_iconst_0 dX2_findBestSlots_3 ?_
  refine g_istore (pc := 4) C rfl dX2_findBestSlots_4 ?_
  refine l2_fi C _ _ 7 0 f0 _ (by omega) (by omega) hw hs0 (fun j hj => absurd hj (by omega)) ?_
  refine g_iconst (pc := 31) C qk_iconst_1 dX2_findBestSlots_31 ?_
  refine g_istore (pc := 32) C rfl dX2_findBestSlots_32 ?_
  refine g_iconst (pc := 34) C qk_iconst_0 dX2_findBestSlots_34 ?_
  refine g_istore (pc := 35) C rfl dX2_findBestSlots_35 ?_
  exact l2_fb C F hut hcc sbs sc bc cus cub hv hM hm hP hS 1000000 0 1000000 [0, 1, 2, 3, 4, 5] b x g _ _ (by omega) (by omega) (fun q => absurd q (by decide)) hl0 (((q_up_n _ _ ws).trans hw)) (((q_up_n _ _ (Ne.symm st_)).trans ht)) (((q_up_n _ _ (Ne.symm sc)).trans hc)) (q_up_s _ _ _) (((q_up_n _ _ (Ne.symm sbs)).trans hbs)) (((q_up_n _ _ us).trans hu)) (((q_up_n _ _ cus).trans hcu)) (fun _ => by decide) rfl (by rw [q_up_u])
