theorem mPass_V {g lim : Nat} : ∀ (m S : Nat) (x : mX), mW g x → mW g (mPass g lim m S x).2
  | 0, _, _, h => h
  | m + 1, S, x, h => by
    show mW g (if S < lim then mPass g lim m _ _ else (S, x)).2
    split
    · exact mPass_V m _ _ (mNext_V h)
    · exact h
theorem mPass_mi {g lim : Nat} : ∀ (m S : Nat) (x : mX), (mPass g lim m S x).2.2.2.1 ≤ x.2.2.1 + m
  | 0, _, _ => Nat.le_refl _
  | m + 1, S, x => by
    show (if S < lim then mPass g lim m _ _ else (S, x)).2.2.2.1 ≤ _
    split
    · have := mPass_mi (g := g) (lim := lim) m (S + (mNext g x).2.2.2.2.1) (mNext g x)
      have e : (mNext g x).2.2.1 = x.2.2.1 + 1 := rfl
      omega
    · show x.2.2.1 ≤ _; omega
theorem mSwS_12 {f : Nat → Nat} {j k i : Nat} (h : j < 6 ∧ k < 6 ∧ i < 6 ∧ f (12 + j) < 6 ∧ f (12 + k) < 6) : mSwS f j k (12 + i) = if i = k then f (12 + j) else if i = j then f (12 + k) else f (12 + i) := by
  unfold mSwS
  rw [va_up_n (by omega), va_up_n (by omega)]
  unfold va_up
  by_cases h1 : i = k
  · rw [if_pos (by omega), if_pos h1]
  · rw [if_neg (by omega), if_neg h1]
    by_cases h2 : i = j
    · rw [if_pos (by omega), if_pos h2]
    · rw [if_neg (by omega), if_neg h2]
theorem mSwS_36 {f : Nat → Nat} {j k i : Nat} (h : j < 6 ∧ k < 6 ∧ i < 6) : mSwS f j k (36 + i) = if i = f (12 + j) then k else if i = f (12 + k) then j else f (36 + i) := by
  unfold mSwS va_up
  by_cases h1 : i = f (12 + j)
  · rw [if_pos (by omega), if_pos h1]
  · rw [if_neg (by omega), if_neg h1]
    by_cases h2 : i = f (12 + k)
    · rw [if_pos (by omega), if_pos h2]
    · rw [if_neg (by omega), if_neg h2, if_neg (by omega), if_neg (by omega)]
theorem mSwS_n {f : Nat → Nat} {j k i : Nat} (h : j < 6 ∧ k < 6 ∧ f (12 + j) < 6 ∧ f (12 + k) < 6) (hi : (i < 12 ∨ 18 ≤ i) ∧ (i < 36 ∨ 42 ≤ i)) : mSwS f j k i = f i := by
  unfold mSwS
  rw [va_up_n (by omega), va_up_n (by omega), va_up_n (by omega), va_up_n (by omega)]
theorem mSwS_V {f : Nat → Nat} {g tu mi j k : Nat} (hv : mV f g tu mi) (hj : j < g) (hk : k < g) (hjk : j ≠ k) : mV (mSwS f j k) g tu mi := by
  have hg := hv.1.2.1
  have vj := hv.2.1 j hj
  have vk := hv.2.1 k hk
  have hs : j < 6 ∧ k < 6 ∧ f (12 + j) < 6 ∧ f (12 + k) < 6 := by omega
  have sn : ∀ i, (i < 12 ∨ 18 ≤ i) ∧ (i < 36 ∨ 42 ≤ i) → mSwS f j k i = f i := fun i hi => mSwS_n hs hi
  have s12 : ∀ i, i < 6 → mSwS f j k (12 + i) = if i = k then f (12 + j) else if i = j then f (12 + k) else f (12 + i) := fun i hi => mSwS_12 (by omega)
  have s36 : ∀ i, i < 6 → mSwS f j k (36 + i) = if i = f (12 + j) then k else if i = f (12 + k) then j else f (36 + i) := fun i hi => mSwS_36 (by omega)
  have inj : ∀ a b, a < g → b < g → f (12 + a) = f (12 + b) → a = b := fun a b ha hb e => by
    have h1 := (hv.2.1 a ha).2.2.2.2.1
    have h2 := (hv.2.1 b hb).2.2.2.2.1
    rw [e] at h1
    omega
  refine ⟨hv.1, fun i hi => ?_, fun i hi => ?_⟩
  · obtain ⟨a1, a2, a3, a4, a5, a6, a7, a8, a9⟩ := hv.2.1 i hi
    have e12 := s12 i (by omega)
    have e36 := s36 i (by omega)
    have p1 : mSwS f j k (12 + i) < g := by rw [e12]; split; omega; split; omega; omega
    have p2 : mSwS f j k (36 + i) < g := by rw [e36]; split; omega; split; omega; omega
    refine ⟨p1, p2, ?_, ?_, ?_, ?_, ?_, ?_, ?_⟩
    · rw [sn _ (by omega)]; exact a3
    · rw [sn _ (by omega)]; exact a4
    · rw [s36 _ (by omega), e12]
      by_cases h1 : i = k
      · rw [if_pos h1, if_pos rfl, h1]
      · rw [if_neg h1]
        by_cases h2 : i = j
        · rw [if_pos h2, if_neg (fun q => hjk (inj _ _ hk hj q).symm), if_pos rfl, h2]
        · rw [if_neg h2, if_neg (fun q => h2 (inj _ _ hi hj q)), if_neg (fun q => h1 (inj _ _ hi hk q))]; exact a5
    · rw [s12 _ (by omega), e36]
      by_cases h1 : i = f (12 + j)
      · rw [if_pos h1, if_pos rfl, h1]
      · rw [if_neg h1]
        by_cases h2 : i = f (12 + k)
        · rw [if_pos h2, if_neg hjk, if_pos rfl, h2]
        · rw [if_neg h2, if_neg (fun q => h2 (by rw [← q]; exact a6.symm)), if_neg (fun q => h1 (by rw [← q]; exact a6.symm))]; exact a6
    · rw [sn (30 + i) (by omega), sn _ (by omega)]; exact a7
    · rw [sn (42 + i) (by omega), sn _ (by omega)]; exact a8
    · rw [sn (0 + i) (by omega)]; exact a9
  · obtain ⟨b1, b2, b3, b4, b5, b6⟩ := hv.2.2 i hi
    rw [sn (0 + i) (by omega), sn (6 + i) (by omega), sn (18 + i) (by omega), sn (24 + i) (by omega), sn (30 + i) (by omega), s12 i hi]
    refine ⟨b1, b2, b3, b4, ?_, b6⟩
    split; omega; split; omega; omega
theorem mSeat_V {g j k : Nat} {x : mX} (hv : mW g x) (hj : j < g) (hk : k < g) : mW g (mSeat j k x) := by
  unfold mSeat
  split
  · exact hv
  · exact mSwS_V hv hj hk (by assumption)
theorem mSat_V {g N j k : Nat} {xu x : mX} (hv : mW g xu) (hj : j < g) (hk : k < g) : mW g (mSat g N j k xu x) := mPass_V _ _ _ (mSeat_V (x := mCopy xu x) hv hj hk)
theorem mSat_mi {g N j k : Nat} {xu x : mX} : (mSat g N j k xu x).2.2.1 ≤ xu.2.2.1 + N := by
  have h := mPass_mi (g := g) (lim := 1000000) N 0 (mSeat j k (mCopy xu x))
  have e : (mSeat j k (mCopy xu x)).2.2.1 = xu.2.2.1 := by unfold mSeat; split <;> rfl
  rw [e] at h
  exact h
def mEat (g N j k : Nat) (xu x : mX) : Int := ((mSat g N j k xu x).1 (18 + j) : Int) - (xu.1 (18 + j) : Int)
theorem mEat_b {g N j k : Nat} {xu x : mX} (hv : mW g xu) (hj : j < g) (hk : k < g) (hm : xu.2.2.1 + N < 1000000) : -2000000 ≤ mEat g N j k xu x ∧ mEat g N j k xu x ≤ 2000000 := by
  have h1 := ((mSat_V (N := N) (x := x) hv hj hk).2.2 j (by have := hv.1.2.1; omega)).2.2.1
  have h2 := (hv.2.2 j (by have := hv.1.2.1; omega)).2.2.1
  have h3 := mSat_mi (g := g) (N := N) (j := j) (k := k) (xu := xu) (x := x)
  unfold mEat
  omega
def mSit (g N j : Nat) (xu x : mX) : Nat → mX × Nat × Int
  | 0 => (x, 0, -1)
  | k + 1 => (mSat g N j k xu (mSit g N j xu x k).1, if (mSit g N j xu x k).2.2 < mEat g N j k xu (mSit g N j xu x k).1 then (k, mEat g N j k xu (mSit g N j xu x k).1) else (mSit g N j xu x k).2)
theorem mSit_b {g N j : Nat} {xu x : mX} (hv : mW g xu) (hj : j < g) (hm : xu.2.2.1 + N < 1000000) : ∀ k, k ≤ g → -1 ≤ (mSit g N j xu x k).2.2 ∧ (mSit g N j xu x k).2.2 ≤ 2000000 ∧ (mSit g N j xu x k).2.1 ≤ k
  | 0, _ => ⟨Int.le_refl _, by show (-1 : Int) ≤ 2000000; decide, Nat.le_refl _⟩
  | k + 1, hk => by
    have h := mSit_b (x := x) hv hj hm k (by omega)
    have h2 := mEat_b (k := k) (x := (mSit g N j xu x k).1) hv hj (by omega) hm
    by_cases hlt : (mSit g N j xu x k).2.2 < mEat g N j k xu (mSit g N j xu x k).1
    · rw [show (mSit g N j xu x (k + 1)).2 = (k, mEat g N j k xu (mSit g N j xu x k).1) from if_pos hlt]
      dsimp only
      omega
    · rw [show (mSit g N j xu x (k + 1)).2 = (mSit g N j xu x k).2 from if_neg hlt]
      omega
theorem s2_seatZ {n : Nat} {h : q_H} {w t s bs c g : Nat} {x : mX} {u cu gu : Nat} {xu : mX} (j k N : Nat) (hw : h w = FO t s bs) (ht : h t = TX c g x) (hc : h c = TA x.1) (hu : h u = TX cu gu xu) (hcu : h cu = TA xu.1) (hut : u ≠ t) (hv : mW gu xu) (hj : j < gu ∧ k < gu) (hN : N < 1000) (hm : xu.2.2.1 + N < 1000000) (hcc0 : cu ≠ c) : SP 5 yX2_eatsSeatedAs cX2_eatsSeatedAs 5 (some .int) [.ref w, .ref u, .int (nI j), .int (nI k), .int (nI N)] n h (some (.int (qI (mEat gu N j k xu x)))) (q_up (q_up h c (TA (mSat gu N j k xu x).1)) t (TX c gu (mSat gu N j k xu x))) := by
  have h1 := hv.1.2.1
  have h := s2_seat j k N hw ht hc hu hcu hut ⟨by omega, by omega, (hv.2.2 j (by omega)).2.2.2.2.1, (hv.2.2 k (by omega)).2.2.2.2.1⟩ (mSeat_V (x := mCopy xu x) hv hj.1 hj.2) hN hm hcc0 (n := n)
  rw [show nI ((mSat gu N j k xu x).1 (18 + j)) - nI (xu.1 (18 + j)) = qI (mEat gu N j k xu x) by rw [qI_N, qI_N, qI_sub]; rfl] at h
  exact h
set_option maxHeartbeats 2000000 in
set_option maxRecDepth 20000 in
theorem l2_best {Γ : q_X} {ad : Nat → Nat} {n w t s bs c u cu gu N j : Nat} {x xu : mX} {rz : Int32} {hF : q_H} (C : q_C Γ ad 6 0 0 RX2 yX2_bestToSitAs cX2_bestToSitAs 8 (some .int)) (F : q_N Γ ad n (some (.int rz)) hF) (hut : u ≠ t) (hcc : cu ≠ c) (hv : mW gu xu) (hj : j < gu) (hN : N < 1000) (hm : xu.2.2.1 + N < 1000000) (hz : rz = nI (mSit gu N j xu x gu).2.1) : ∀ (k i gg : Nat) (v7 : Option Value) (bb : Nat) (mo : Int) (H : q_H), gu < i + k → i ≤ gu → (0 < i → gg = gu) → H w = FO t s bs → H t = TX c gg (mSit gu N j xu x i).1 → H c = TA (mSit gu N j xu x i).1.1 → H u = TX cu gu xu → H cu = TA xu.1 → bb = (mSit gu N j xu x i).2.1 → mo = (mSit gu N j xu x i).2.2 → hF = q_up (q_up H c (TA (mSit gu N j xu x gu).1.1)) t (TX c gu (mSit gu N j xu x gu).1) → q_G Γ ad 8 9 [some (.ref w), some (.ref u), some (.int (nI j)), some (.int (nI N)), some (.int (nI bb)), some (.int (qI mo)), some (.int (nI i)), v7] [] n H 0 0 := by
  intro k
  induction k with
  | zero => intro i; intros; omega
  | succ k ih =>
    intro i gg v7 bb mo H hk hi hgg hw ht hc hu hcu hb hmo hH
    have hg6 := hv.1.2.1
    have hg0 := hv.1.1
    have wt : w ≠ t := fun q => by rw [q, ht] at hw; cases hw
    have wc : w ≠ c := fun q => by rw [q, hc] at hw; cases hw
    have tc : t ≠ c := fun q => by rw [q, hc] at ht; cases ht
    have uc : u ≠ c := fun q => by rw [q, hc] at hu; cases hu
    have cut : cu ≠ t := fun q => by rw [q, ht] at hcu; cases hcu
    refine g_iload (pc := 9) C (hl := rfl) dX2_bestToSitAs_9 ?_
    refine g_aload_n (pc := 11) C (hl := rfl) dX2_bestToSitAs_11 ?_
    refine g_get (pc := 12) C fl2_48 dX2_bestToSitAs_12 hu rfl ?_
    refine g_ic_geN (pc := 15) C 50 dX2_bestToSitAs_15 (by decide) (by omega) (fun c15 => ?_) (fun c15 => ?_)
    · refine g_iload (pc := 50) C (hl := rfl) dX2_bestToSitAs_50 ?_
      obtain rfl : i = gu := by omega
      obtain rfl := hgg (by omega)
      subst hb
      exact g_iret (pc := 52) C F dX2_bestToSitAs_52 rfl rfl (by rw [hz]) (by rw [hH, q_upI hc, q_upI ht])
    · have hb1 := mSit_b (x := x) hv hj hm i (by omega)
      have hb2 := mEat_b (k := i) (x := (mSit gu N j xu x i).1) hv hj (by omega) hm
      subst hb
      subst hmo
      refine g_aload_n (pc := 18) C (hl := rfl) dX2_bestToSitAs_18 ?_
      refine g_aload_n (pc := 19) C (hl := rfl) dX2_bestToSitAs_19 ?_
      refine g_iload_n (pc := 20) C (hl := rfl) dX2_bestToSitAs_20 ?_
      refine g_iload (pc := 21) C (hl := rfl) dX2_bestToSitAs_21 ?_
      refine g_iload_n (pc := 23) C (hl := rfl) dX2_bestToSitAs_23 ?_
      refine g_V4v (pc := 24) C lv2_51 dX2_bestToSitAs_24 (s2_seatZ j i N hw ht hc hu hcu hut hv (by omega) hN hm hcc) hw (by decide) (Nat.le_of_ble_eq_true rfl) ?_
      refine g_istore (pc := 27) C rfl dX2_bestToSitAs_27 ?_
      refine g_iload (pc := 29) C (hl := rfl) dX2_bestToSitAs_29 ?_
      refine g_iload (pc := 31) C (hl := rfl) dX2_bestToSitAs_31 ?_
      refine g_ic_le (pc := 33) C 44 dX2_bestToSitAs_33 (by decide) (fun c33 => ?_) (fun c33 => ?_)
      · refine g_iincN (pc := 44) C (hl := rfl) (q_inc1 _) rfl dX2_bestToSitAs_44 ?_
        refine g_goto (pc := 47) C 9 dX2_bestToSitAs_47 (by decide) ?_
        have e : (mSit gu N j xu x (i + 1)).2 = (mSit gu N j xu x i).2 := if_neg (fun z => absurd ((qI_le (by omega) (by omega) (by omega) (by omega)).mp c33) (by omega))
        refine ih (i + 1) gu _ _ _ _ (by omega) (by omega) (fun _ => rfl) (((q_up_n _ _ wt).trans ((q_up_n _ _ wc).trans hw))) (q_up_s _ _ _) (((q_up_n _ _ (Ne.symm tc)).trans (q_up_s _ _ _))) (((q_up_n _ _ hut).trans ((q_up_n _ _ uc).trans hu))) (((q_up_n _ _ cut).trans ((q_up_n _ _ hcc).trans hcu))) (by rw [e]) (by rw [e]) (by rw [hH]; simp only [q_up_u, q_up_c _ tc])
      · refine g_iload (pc := 36) C (hl := rfl) dX2_bestToSitAs_36 ?_
        refine g_istore (pc := 38) C rfl dX2_bestToSitAs_38 ?_
        refine g_iload (pc := 40) C (hl := rfl) dX2_bestToSitAs_40 ?_
        refine g_istore (pc := 42) C rfl dX2_bestToSitAs_42 ?_
        refine g_iincN (pc := 44) C (hl := rfl) (q_inc1 _) rfl dX2_bestToSitAs_44 ?_
        refine g_goto (pc := 47) C 9 dX2_bestToSitAs_47 (by decide) ?_
        have e : (mSit gu N j xu x (i + 1)).2 = (i, mEat gu N j i xu (mSit gu N j xu x i).1) := if_pos (Int.not_le.mp (fun z => c33 ((qI_le (by omega) (by omega) (by omega) (by omega)).mpr z)))
        refine ih (i + 1) gu _ _ _ _ (by omega) (by omega) (fun _ => rfl) (((q_up_n _ _ wt).trans ((q_up_n _ _ wc).trans hw))) (q_up_s _ _ _) (((q_up_n _ _ (Ne.symm tc)).trans (q_up_s _ _ _))) (((q_up_n _ _ hut).trans ((q_up_n _ _ uc).trans hu))) (((q_up_n _ _ cut).trans ((q_up_n _ _ hcc).trans hcu))) (by rw [e]) (by rw [e]) (by rw [hH]; simp only [q_up_u, q_up_c _ tc])
set_option maxHeartbeats 2000000 in
set_option maxRecDepth 20000 in
theorem s2_best {n : Nat} {h : q_H} {w t s bs c g : Nat} {x : mX} {u cu gu : Nat} {xu : mX} (j N : Nat) (hw : h w = FO t s bs) (ht : h t = TX c g x) (hc : h c = TA x.1) (hu : h u = TX cu gu xu) (hcu : h cu = TA xu.1) (hut : u ≠ t) (hv : mW gu xu) (hj : j < gu) (hN : N < 1000) (hm : xu.2.2.1 + N < 1000000) (hcc : cu ≠ c) : SP 6 yX2_bestToSitAs cX2_bestToSitAs 8 (some .int) [.ref w, .ref u, .int (nI j), .int (nI N)] n h (some (.int (nI (mSit gu N j xu x gu).2.1))) (q_up (q_up h c (TA (mSit gu N j xu x gu).1.1)) t (TX c gu (mSit gu N j xu x gu).1)) := by
  refine q_SPi RX2 rfl (by decide +kernel) (la := _) rfl rfl (fun Γ ad C F => ?_)
  refine g_iconst (pc := 0) C qk_iconst_0 dX2_bestToSitAs_0 ?_
  refine g_istore (pc := 1) C rfl dX2_bestToSitAs_1 ?_
  refine g_iconst (pc := 3) C qk_iconst_m1 dX2_bestToSitAs_3 ?_
  refine g_istore (pc := 4) C rfl dX2_bestToSitAs_4 ?_
  refine g_iconst (pc := 6) C qk_iconst_0 dX2_bestToSitAs_6 ?_
  refine g_istore (pc := 7) C rfl dX2_bestToSitAs_7 ?_
  exact l2_best C F hut hcc hv hj hN hm (x := x) rfl (gu + 1) 0 g _ 0 (-1) _ (by omega) (by omega) (fun q => absurd q (by decide)) hw ht hc hu hcu rfl rfl rfl
