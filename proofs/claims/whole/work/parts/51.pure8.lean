def mSlS (f : Nat → Nat) (j k : Nat) : Nat → Nat := va_up (va_up (va_up (va_up f (30 + j) (f (30 + k))) (30 + k) (f (30 + j))) (42 + f (30 + k)) j) (42 + f (30 + j)) k
theorem mSlS_e (f : Nat → Nat) {j k : Nat} (h : j < 6 ∧ k < 6 ∧ f (30 + j) < 6 ∧ f (30 + k) < 6) : va_up (va_up (va_up (va_up f (30 + j) (f (30 + k))) (42 + f (30 + k)) j) (30 + k) (f (30 + j))) (42 + f (30 + j)) k = mSlS f j k := by
  unfold mSlS
  congr 1
  funext i
  unfold va_up
  repeat' split
  all_goals first | rfl | omega
theorem mSlS_30 {f : Nat → Nat} {j k i : Nat} (h : j < 6 ∧ k < 6 ∧ i < 6 ∧ f (30 + j) < 6 ∧ f (30 + k) < 6) : mSlS f j k (30 + i) = if i = k then f (30 + j) else if i = j then f (30 + k) else f (30 + i) := by
  unfold mSlS
  rw [va_up_n (by omega), va_up_n (by omega)]
  unfold va_up
  by_cases h1 : i = k
  · rw [if_pos (by omega), if_pos h1]
  · rw [if_neg (by omega), if_neg h1]
    by_cases h2 : i = j
    · rw [if_pos (by omega), if_pos h2]
    · rw [if_neg (by omega), if_neg h2]
theorem mSlS_42 {f : Nat → Nat} {j k i : Nat} (h : j < 6 ∧ k < 6 ∧ i < 6) : mSlS f j k (42 + i) = if i = f (30 + j) then k else if i = f (30 + k) then j else f (42 + i) := by
  unfold mSlS va_up
  by_cases h1 : i = f (30 + j)
  · rw [if_pos (by omega), if_pos h1]
  · rw [if_neg (by omega), if_neg h1]
    by_cases h2 : i = f (30 + k)
    · rw [if_pos (by omega), if_pos h2]
    · rw [if_neg (by omega), if_neg h2, if_neg (by omega), if_neg (by omega)]
theorem mSlS_n {f : Nat → Nat} {j k i : Nat} (h : j < 6 ∧ k < 6 ∧ f (30 + j) < 6 ∧ f (30 + k) < 6) (hi : (i < 30 ∨ 36 ≤ i) ∧ (i < 42 ∨ 48 ≤ i)) : mSlS f j k i = f i := by
  unfold mSlS
  rw [va_up_n (by omega), va_up_n (by omega), va_up_n (by omega), va_up_n (by omega)]
theorem mSlS_V {f : Nat → Nat} {g tu mi j k : Nat} (hv : mV f g tu mi) (hj : j < g) (hk : k < g) (hjk : j ≠ k) : mV (mSlS f j k) g tu mi := by
  have hg := hv.1.2.1
  have vj := hv.2.1 j hj
  have vk := hv.2.1 k hk
  have hs : j < 6 ∧ k < 6 ∧ f (30 + j) < 6 ∧ f (30 + k) < 6 := by omega
  have sn : ∀ i, (i < 30 ∨ 36 ≤ i) ∧ (i < 42 ∨ 48 ≤ i) → mSlS f j k i = f i := fun i hi => mSlS_n hs hi
  have s30 : ∀ i, i < 6 → mSlS f j k (30 + i) = if i = k then f (30 + j) else if i = j then f (30 + k) else f (30 + i) := fun i hi => mSlS_30 (by omega)
  have s42 : ∀ i, i < 6 → mSlS f j k (42 + i) = if i = f (30 + j) then k else if i = f (30 + k) then j else f (42 + i) := fun i hi => mSlS_42 (by omega)
  have inj : ∀ a b, a < g → b < g → f (30 + a) = f (30 + b) → a = b := fun a b ha hb e => by
    have h1 := (hv.2.1 a ha).2.2.2.2.2.2.1
    have h2 := (hv.2.1 b hb).2.2.2.2.2.2.1
    rw [e] at h1
    omega
  refine ⟨hv.1, fun i hi => ?_, fun i hi => ?_⟩
  · obtain ⟨a1, a2, a3, a4, a5, a6, a7, a8, a9⟩ := hv.2.1 i hi
    have e30 := s30 i (by omega)
    have e42 := s42 i (by omega)
    have p1 : mSlS f j k (30 + i) < g := by rw [e30]; split; omega; split; omega; omega
    have p2 : mSlS f j k (42 + i) < g := by rw [e42]; split; omega; split; omega; omega
    refine ⟨?_, ?_, p1, p2, ?_, ?_, ?_, ?_, ?_⟩
    · rw [sn _ (by omega)]; exact a1
    · rw [sn _ (by omega)]; exact a2
    · rw [sn (12 + i) (by omega), sn _ (by omega)]; exact a5
    · rw [sn (36 + i) (by omega), sn _ (by omega)]; exact a6
    · rw [s42 _ (by omega), e30]
      by_cases h1 : i = k
      · rw [if_pos h1, if_pos rfl, h1]
      · rw [if_neg h1]
        by_cases h2 : i = j
        · rw [if_pos h2, if_neg (fun q => hjk (inj _ _ hk hj q).symm), if_pos rfl, h2]
        · rw [if_neg h2, if_neg (fun q => h2 (inj _ _ hi hj q)), if_neg (fun q => h1 (inj _ _ hi hk q))]; exact a7
    · rw [s30 _ (by omega), e42]
      by_cases h1 : i = f (30 + j)
      · rw [if_pos h1, if_pos rfl, h1]
      · rw [if_neg h1]
        by_cases h2 : i = f (30 + k)
        · rw [if_pos h2, if_neg hjk, if_pos rfl, h2]
        · rw [if_neg h2, if_neg (fun q => h2 (by rw [← q]; exact a8.symm)), if_neg (fun q => h1 (by rw [← q]; exact a8.symm))]; exact a8
    · rw [sn (0 + i) (by omega)]; exact a9
  · obtain ⟨b1, b2, b3, b4, b5, b6⟩ := hv.2.2 i hi
    rw [sn (0 + i) (by omega), sn (6 + i) (by omega), sn (18 + i) (by omega), sn (24 + i) (by omega), sn (12 + i) (by omega), s30 i hi]
    refine ⟨b1, b2, b3, b4, b5, ?_⟩
    split; omega; split; omega; omega
theorem mTurn_V {f : Nat → Nat} {g tu mi : Nat} (z : Int) (hv : mV f g tu mi) : mV f g (mTurn g tu z) mi := ⟨⟨hv.1.1, hv.1.2.1, mTurn_lt _ _ _ hv.1.1⟩, hv.2.1, hv.2.2⟩
theorem mFill_V {f : Nat → Nat} {g tu mi z v : Nat} (hz : z < 6) (hv2 : v ≤ 99) (hv : mV f g tu mi) : mV (va_up f (24 + z) v) g tu mi := by
  have hg := hv.1.2.1
  have key : ∀ i, i ≠ 24 + z → va_up f (24 + z) v i = f i := fun i hi => va_up_n hi
  refine ⟨hv.1, fun i hi => ?_, fun i hi => ?_⟩
  · obtain ⟨a1, a2, a3, a4, a5, a6, a7, a8, a9⟩ := hv.2.1 i hi
    rw [key (12 + i) (by omega), key (36 + i) (by omega), key (30 + i) (by omega), key (42 + i) (by omega), key (0 + i) (by omega), key (36 + f (12 + i)) (by omega), key (12 + f (36 + i)) (by omega), key (42 + f (30 + i)) (by omega), key (30 + f (42 + i)) (by omega)]
    exact ⟨a1, a2, a3, a4, a5, a6, a7, a8, a9⟩
  · obtain ⟨b1, b2, b3, b4, b5, b6⟩ := hv.2.2 i hi
    rw [key (0 + i) (by omega), key (6 + i) (by omega), key (18 + i) (by omega), key (12 + i) (by omega), key (30 + i) (by omega)]
    refine ⟨b1, b2, b3, ?_, b5, b6⟩
    by_cases h : i = z
    · subst h; rw [va_up_self]; exact hv2
    · rw [key (24 + i) (by omega)]; exact b4
/-- rows of numbers: two seats, two slots changed -/
theorem wE_se {f : Nat → Nat} {r : Nat × Nat × Nat × Nat × Nat × Nat} {y z : Nat} (h : f (12 + y) < 6 ∧ f (12 + z) < 6) : wE (va_up (va_up f (12 + y) (f (12 + z))) (12 + z) (f (12 + y)), r) (mSwS f y z, r) := by
  refine ⟨fun i hi => ?_, rfl, rfl⟩
  show va_up (va_up f (12 + y) (f (12 + z))) (12 + z) (f (12 + y)) i = mSwS f y z i
  unfold mSwS
  exact ((va_up_n (by omega)).trans (va_up_n (by omega))).symm
theorem wE_sl {f : Nat → Nat} {r : Nat × Nat × Nat × Nat × Nat × Nat} {y z : Nat} (h : f (30 + y) < 6 ∧ f (30 + z) < 6) : wE (va_up (va_up f (30 + y) (f (30 + z))) (30 + z) (f (30 + y)), r) (mSlS f y z, r) := by
  refine ⟨fun i hi => ?_, rfl, rfl⟩
  show va_up (va_up f (30 + y) (f (30 + z))) (30 + z) (f (30 + y)) i = mSlS f y z i
  unfold mSlS
  exact ((va_up_n (by omega)).trans (va_up_n (by omega))).symm
-- what comes of like tables
theorem mLast_Q {g d : Nat} {x y : mX} (h : wQ x y) (m i : Nat) : mLast g d (m + 1) i x = mLast g d (m + 1) i y := by
  unfold mLast
  rw [mNext_Q h]
theorem mRest_Q {g : Nat} {x y : mX} (h : wQ x y) (m i q : Nat) : mRest g (m + 1) i q x = mRest g (m + 1) i q y := by
  unfold mRest
  rw [mNext_Q h]
theorem mSeat_Q {j k : Nat} {x y : mX} (h : wQ x y) : wQ (mSeat j k x) (mSeat j k y) := by
  obtain ⟨h1, h2, h3⟩ := h
  unfold mSeat
  split
  · exact ⟨h1, h2, h3⟩
  · refine ⟨?_, h2, h3⟩
    show mSwS x.1 j k = mSwS y.1 j k
    rw [h1]
theorem mCopy_Q (xu x y : mX) : wQ (mCopy xu x) (mCopy xu y) := ⟨rfl, rfl, rfl⟩
theorem mEat_Q {g N j k : Nat} {xu x y : mX} : mEat g N j k xu x = mEat g N j k xu y := by
  unfold mEat mSat
  rw [(mPass_Q (mSeat_Q (j := j) (k := k) (mCopy_Q xu x y)) N 0).2.1]
theorem mEat_1 {g N j : Nat} {xu x y : mX} (h : wQ xu y) : mEat g N j j xu x = ((mPass g 1000000 N 0 y).2.1 (18 + j) : Int) - (xu.1 (18 + j) : Int) := by
  unfold mEat mSat
  have e : mSeat j j (mCopy xu x) = mCopy xu x := if_pos rfl
  rw [e, (mPass_Q (x := mCopy xu x) (z := y) ⟨h.1, h.2.1, h.2.2⟩ N 0).2.1]
theorem mSit_Q {g N j : Nat} {xu x y : mX} : ∀ k, (mSit g N j xu x k).2 = (mSit g N j xu y k).2
  | 0 => rfl
  | k + 1 => by
    unfold mSit
    dsimp only
    rw [mSit_Q k, mEat_Q (x := (mSit g N j xu x k).1) (y := (mSit g N j xu y k).1)]
theorem mNext_e {g j : Nat} {x : mX} (hv : mW g x) (hj : j < 6) : x.1 (18 + j) ≤ (mNext g x).1 (18 + j) := by
  have he := mE_lt hv
  have ho := mOn_lt hv
  have hg := hv.1.2.1
  show _ ≤ mF _ _ _ _ (18 + j)
  unfold mF
  by_cases h : 18 + j = 18 + mOn x.1 g x.2.2.1
  · rw [h, va_up_self]; omega
  · rw [va_up_n h, va_up_n (by omega)]; exact Nat.le_refl _
theorem mPass_e {g j : Nat} (hj : j < 6) : ∀ (m S : Nat) (x : mX), mW g x → x.1 (18 + j) ≤ (mPass g 1000000 m S x).2.1 (18 + j)
  | 0, _, _, _ => Nat.le_refl _
  | m + 1, S, x, hv => by
    show _ ≤ (if S < 1000000 then mPass g 1000000 m _ _ else (S, x)).2.1 (18 + j)
    split
    · exact Nat.le_trans (mNext_e hv hj) (mPass_e hj m _ _ (mNext_V hv))
    · exact Nat.le_refl _
theorem mSeat_18 {j k i : Nat} {x : mX} (h : x.1 (12 + j) < 6 ∧ x.1 (12 + k) < 6) (hj : j < 6 ∧ k < 6) (hi : i < 6) : (mSeat j k x).1 (18 + i) = x.1 (18 + i) := by
  unfold mSeat
  split
  · rfl
  · exact mSwS_n ⟨hj.1, hj.2, h.1, h.2⟩ (by omega)
theorem mEat_0 {g N j k : Nat} {xu x : mX} (hv : mW g xu) (hj : j < g) (hk : k < g) : 0 ≤ mEat g N j k xu x := by
  have hg := hv.1.2.1
  have h1 := mPass_e (g := g) (j := j) (by omega) N 0 (mSeat j k (mCopy xu x)) (mSeat_V (x := mCopy xu x) hv hj hk)
  rw [mSeat_18 (x := mCopy xu x) ⟨(hv.2.2 j (by omega)).2.2.2.2.1, (hv.2.2 k (by omega)).2.2.2.2.1⟩ ⟨by omega, by omega⟩ (by omega)] at h1
  unfold mEat mSat
  have h2 : (mCopy xu x).1 (18 + j) = xu.1 (18 + j) := rfl
  rw [h2] at h1
  omega
theorem mSit_m {g N j : Nat} {xu x : mX} (hv : mW g xu) (hj : j < g) : ∀ k, k < g → (mSit g N j xu x (k + 1)).2.1 < k + 1 ∧ (mSit g N j xu x (k + 1)).2.2 = mEat g N j (mSit g N j xu x (k + 1)).2.1 xu x
  | 0, h0 => by
    have h := mEat_0 (N := N) (x := x) hv hj h0
    have e : (mSit g N j xu x (0 + 1)).2 = (0, mEat g N j 0 xu x) := if_pos (by show (-1 : Int) < mEat g N j 0 xu x; omega)
    rw [e]
    exact ⟨Nat.zero_lt_one, rfl⟩
  | k + 1, hk => by
    have h := mSit_m (N := N) (x := x) hv hj k (by omega)
    by_cases hlt : (mSit g N j xu x (k + 1)).2.2 < mEat g N j (k + 1) xu (mSit g N j xu x (k + 1)).1
    · have e : (mSit g N j xu x (k + 1 + 1)).2 = (k + 1, mEat g N j (k + 1) xu (mSit g N j xu x (k + 1)).1) := if_pos hlt
      rw [e]
      exact ⟨by omega, mEat_Q⟩
    · have e : (mSit g N j xu x (k + 1 + 1)).2 = (mSit g N j xu x (k + 1)).2 := if_neg hlt
      rw [e]
      exact ⟨by omega, h.2⟩
theorem mSit_l {g N j : Nat} {xu x : mX} (hv : mW g xu) (hj : j < g) : (mSit g N j xu x g).2.1 < g ∧ (mSit g N j xu x g).2.2 = mEat g N j (mSit g N j xu x g).2.1 xu x := by
  have h := mSit_m (N := N) (x := x) hv hj (g - 1) (by omega)
  rw [show g - 1 + 1 = g by omega] at h
  exact h
-- wanted
theorem mWt_Q {g N j : Nat} {xu x y : mX} (d : Nat) : (mWt g N j xu x (d + 1)).1 = (mWt g N j xu y (d + 1)).1 := by
  show (mPass g 1000000 N 0 (mWn j d (mCopy xu (mWt g N j xu x d)))).2.1 = (mPass g 1000000 N 0 (mWn j d (mCopy xu (mWt g N j xu y d)))).2.1
  exact (mPass_Q (x := mWn j d (mCopy xu (mWt g N j xu x d))) (z := mWn j d (mCopy xu (mWt g N j xu y d))) ⟨rfl, rfl, rfl⟩ N 0).2.1
theorem mBits_e {p q : Nat → Prop} : ∀ d, (∀ i, i < d → (p i ↔ q i)) → mBits p d = mBits q d
  | 0, _ => rfl
  | d + 1, h => by
    unfold mBits
    rw [mBits_e d (fun i hi => h i (by omega)), mQ_i (h d (by omega))]
-- served
theorem mRt_iff (f : Nat → Nat) (g tu left right : Nat) (hg : 0 < g) : ∀ k, mRt f g tu left k ≤ right ↔ ∀ j, j < k → wOk f g tu left right j
  | 0 => ⟨fun _ j hj => absurd hj (by omega), fun _ => Nat.zero_le _⟩
  | k + 1 => by
    have ih := mRt_iff f g tu left right hg k
    have hl := mLeft_lt f g tu k (f (6 + k)) hg
    unfold mRt
    by_cases h : f (6 + k) < g ∧ left < mLeft f g tu k (f (6 + k))
    · rw [if_pos h, Nat.max_le, ih]
      constructor
      · rintro ⟨q1, q2⟩ j hj
        rcases Nat.lt_or_ge j k with z | z
        · exact q1 j z
        · obtain rfl : j = k := by omega
          exact fun _ => Or.inr q2
      · intro q
        refine ⟨fun j hj => q j (by omega), ?_⟩
        rcases q k (by omega) h.1 with z | z
        · omega
        · exact z
    · rw [if_neg h, ih]
      constructor
      · intro q j hj
        rcases Nat.lt_or_ge j k with z | z
        · exact q j z
        · obtain rfl : j = k := by omega
          intro hw
          exact Or.inl (by omega)
      · exact fun q j hj => q j (by omega)
theorem mRt_lt {f : Nat → Nat} {g tu left : Nat} (hg : 0 < g) : ∀ k, mRt f g tu left k < g
  | 0 => hg
  | k + 1 => by
    have ih := mRt_lt (f := f) (tu := tu) (left := left) hg k
    unfold mRt
    split
    · exact Nat.max_lt.mpr ⟨ih, by omega⟩
    · exact ih
theorem wSr_e {f : Nat → Nat} {g tu left : Nat} (hg : 0 < g) (L : Nat) : ∀ k, wSr f g tu left k L = if mRt f g tu left g < k then min L (left + mRt f g tu left g + min left (mRt f g tu left g)) else L
  | 0 => by rw [if_neg (by omega)]; rfl
  | k + 1 => by
    have ih := wSr_e (f := f) (tu := tu) (left := left) hg L k
    unfold wSr
    rw [ih]
    by_cases hr : mRt f g tu left g ≤ k
    · have ht : mQ (∀ j, j < g → wOk f g tu left k j) = 1 := mQ_t ((mRt_iff f g tu left k hg g).mp hr)
      rw [ht, if_pos (show mRt f g tu left g < k + 1 by omega)]
      by_cases hr2 : mRt f g tu left g < k
      · rw [if_pos hr2, if_neg (by omega)]
      · have e : mRt f g tu left g = k := by omega
        rw [if_neg hr2, e]
        by_cases hq : left + k + min left k < L
        · rw [if_pos ⟨rfl, hq⟩]; omega
        · rw [if_neg (fun z => hq z.2)]; omega
    · have ht : mQ (∀ j, j < g → wOk f g tu left k j) = 0 := mQ_f (fun q => hr ((mRt_iff f g tu left k hg g).mpr q))
      rw [ht, if_neg (fun z => absurd z.1 (by decide)), if_neg (show ¬ mRt f g tu left g < k by omega), if_neg (show ¬ mRt f g tu left g < k + 1 by omega)]
theorem wSl_e {f : Nat → Nat} {g tu : Nat} (hg : 0 < g ∧ g ≤ 6) : ∀ k, k ≤ g → 0 < k → wSl f g tu k = mSv f g tu k
  | 0, _, h => absurd h (by omega)
  | k + 1, hk, _ => by
    have hr := mRt_lt (f := f) (tu := tu) (left := k) hg.1 g
    show wSr f g tu k g (wSl f g tu k) = min (mSv f g tu k) (k + mRt f g tu k g + min k (mRt f g tu k g))
    rw [wSr_e hg.1, if_pos hr]
    rcases Nat.eq_zero_or_pos k with h | h
    · subst h
      show min 1000000 _ = min (2 * g) _
      omega
    · rw [wSl_e hg k (by omega) h]
def wV (T : Nat → Nat) (g di : Nat) : Prop := g ≤ 6 ∧ (∀ i, i < g → T (12 + i) = i ∧ T (36 + i) = i ∧ T (30 + i) = i ∧ T (42 + i) = i ∧ 0 < T (0 + i)) ∧ (∀ i, i < 6 → T (0 + i) < 6 ∧ T (6 + i) < 6 ∧ T (18 + i) = 0 ∧ T (24 + i) ≤ 99 ∧ T (12 + i) < 6 ∧ T (30 + i) < 6)
theorem wV_0 : wV (fun _ => 0) 0 0 := ⟨Nat.zero_le _, fun i hi => absurd hi (by omega), fun i _ => ⟨by show (0 : Nat) < 6; decide, by show (0 : Nat) < 6; decide, rfl, Nat.zero_le _, by show (0 : Nat) < 6; decide, by show (0 : Nat) < 6; decide⟩⟩
theorem wV_V {T : Nat → Nat} {g di : Nat} (h : wV T g di) (hg : 0 < g) : mV T g 0 0 := by
  refine ⟨⟨hg, h.1, hg⟩, fun i hi => ?_, fun i hi => ?_⟩
  · obtain ⟨a1, a2, a3, a4, a5⟩ := h.2.1 i hi
    exact ⟨by rw [a1]; exact hi, by rw [a2]; exact hi, by rw [a3]; exact hi, by rw [a4]; exact hi, by rw [a1, a2], by rw [a2, a1], by rw [a3, a4], by rw [a4, a3], a5⟩
  · obtain ⟨b1, b2, b3, b4, b5, b6⟩ := h.2.2 i hi
    exact ⟨b1, b2, by omega, b4, b5, b6⟩
theorem wV_g {T : Nat → Nat} {g di so v : Nat} (h : wV T g di) (hg : g < 6) (hs : ¬ so = 0 ∧ so < 6) (hv : v ≤ 5) : wV (mSeatT T g so v) (g + 1) di := by
  refine ⟨by omega, fun i hi => ?_, fun i hi => ?_⟩
  · unfold mSeatT va_up
    by_cases e : i = g
    · subst e
      refine ⟨?_, ?_, ?_, ?_, ?_⟩
      all_goals (repeat' split) <;> omega
    · obtain ⟨a1, a2, a3, a4, a5⟩ := h.2.1 i (by omega)
      refine ⟨?_, ?_, ?_, ?_, ?_⟩
      all_goals (repeat' split) <;> omega
  · unfold mSeatT va_up
    obtain ⟨b1, b2, b3, b4, b5, b6⟩ := h.2.2 i hi
    refine ⟨?_, ?_, ?_, ?_, ?_, ?_⟩
    all_goals (repeat' split) <;> omega
theorem wV_d {T : Nat → Nat} {g di v : Nat} (h : wV T g di) (hd : di < 6) (hv : v ≤ 30) : wV (va_up T (24 + di) v) g (di + 1) := by
  have hg6 := h.1
  refine ⟨h.1, fun i hi => ?_, fun i hi => ?_⟩
  · obtain ⟨a1, a2, a3, a4, a5⟩ := h.2.1 i hi
    unfold va_up
    refine ⟨?_, ?_, ?_, ?_, ?_⟩
    all_goals (repeat' split) <;> omega
  · obtain ⟨b1, b2, b3, b4, b5, b6⟩ := h.2.2 i hi
    unfold va_up
    refine ⟨?_, ?_, ?_, ?_, ?_, ?_⟩
    all_goals (repeat' split) <;> omega
def wU (S : mP) : Prop := S.2.1 = 0 → (wV S.2.2.2.2 S.2.2.1 S.2.2.2.1 ∧ S.2.2.2.1 ≤ S.2.2.1)
theorem mRn_0 {f : Nat → Nat} {ta mx fa : Nat} {K : mK} (h : (mRn f ta mx K fa).2.2 = 0) : (mRn f ta mx K fa).1 ≤ mx := by
  unfold mRn at h ⊢
  split
  · split
    · split
      · assumption
      · exact Nat.zero_le _
    · exact Nat.zero_le _
  · exact Nat.zero_le _
theorem wU_g {f : Nat → Nat} {ta : Nat} {S : mP} (h : wU S) (h0 : S.2.1 = 0) : wU (mRg f ta S) := by
  have q := h h0
  unfold mRg
  split
  · split
    · intro z; exact absurd z (Nat.succ_ne_zero _)
    · split
      · intro _
        exact ⟨wV_g q.1 (by assumption) ⟨by assumption, mSn_b _ _⟩ (mRn_0 (by assumption)), by show S.2.2.2.1 ≤ S.2.2.1 + 1; omega⟩
      · intro z; exact absurd z (by assumption)
  · intro z; exact absurd z (Nat.succ_ne_zero _)
theorem wU_d {f : Nat → Nat} {ta : Nat} {S : mP} (h : wU S) (h0 : S.2.1 = 0) : wU (mRd f ta S) := by
  have q := h h0
  have q6 := q.1.1
  unfold mRd
  split
  · split
    · intro _
      exact ⟨wV_d q.1 (by omega) (mRn_0 (by assumption)), by show S.2.2.2.1 + 1 ≤ S.2.2.1; omega⟩
    · intro z; exact absurd z (by assumption)
  · intro z; exact absurd z (Nat.succ_ne_zero _)
theorem wU_Lg {f : Nat → Nat} {ta : Nat} : ∀ (m : Nat) (S : mP), wU S → wU (mLg f ta m S)
  | 0, _, h => h
  | m + 1, S, h => by
    show wU (if S.2.1 = 0 ∧ mWd f S.1 0 = true then mLg f ta m (mRg f ta S) else S)
    split
    · next q => exact wU_Lg m _ (wU_g h q.1)
    · exact h
theorem wU_Ld {f : Nat → Nat} {ta : Nat} : ∀ (m : Nat) (S : mP), wU S → wU (mLd f ta m S)
  | 0, _, h => h
  | m + 1, S, h => by
    show wU (if S.2.1 = 0 ∧ mWd f S.1 6 = true then mLd f ta m (mRd f ta S) else S)
    split
    · next q => exact wU_Ld m _ (wU_d h q.1)
    · exact h
theorem wG_Lg {f : Nat → Nat} {ta : Nat} : ∀ (m : Nat) (S : mP), (mLg f ta m S).2.1 = 0 → S.2.2.1 ≤ (mLg f ta m S).2.2.1
  | 0, _, _ => Nat.le_refl _
  | m + 1, S, h => by
    revert h
    show (if S.2.1 = 0 ∧ mWd f S.1 0 = true then mLg f ta m (mRg f ta S) else S).2.1 = 0 → S.2.2.1 ≤ (if S.2.1 = 0 ∧ mWd f S.1 0 = true then mLg f ta m (mRg f ta S) else S).2.2.1
    split
    · intro h
      refine Nat.le_trans ?_ (wG_Lg m _ h)
      unfold mRg
      repeat' split
      all_goals (dsimp only; omega)
    · exact fun _ => Nat.le_refl _
theorem wG_Ld {f : Nat → Nat} {ta : Nat} : ∀ (m : Nat) (S : mP), S.2.2.1 ≤ (mLd f ta m S).2.2.1
  | 0, _ => Nat.le_refl _
  | m + 1, S => by
    show S.2.2.1 ≤ (if S.2.1 = 0 ∧ mWd f S.1 6 = true then mLd f ta m (mRd f ta S) else S).2.2.1
    split
    · refine Nat.le_trans ?_ (wG_Ld m _)
      unfold mRd
      repeat' split
      all_goals exact Nat.le_refl _
    · exact Nat.le_refl _
theorem mFin_0 {S : mP} (h : (mFin S).2.1 = 0) : mFin S = S := by
  unfold mFin at h ⊢
  split
  · next q => rw [if_pos q] at h; exact absurd h (Nat.succ_ne_zero _)
  · rfl
theorem mLd_0 {f : Nat → Nat} {ta m : Nat} {S : mP} (h : (mLd f ta m S).2.1 = 0) : S.2.1 = 0 := by
  by_cases q : S.2.1 = 0
  · exact q
  · rw [mLd_f q] at h; exact absurd h q
/-- what is read without a fault is a table -/
theorem mRead_V {f : Nat → Nat} {ta : Nat} {K : mK} (h : (mRead f ta K).2.1 = 0) : mV (mRead f ta K).2.2.2.2 (mRead f ta K).2.2.1 0 0 := by
  unfold mRead at h ⊢
  have e := mFin_0 h
  rw [e] at h ⊢
  by_cases e0 : mWd f (mNxt f ta (K.1, K.2.1, 0, K.2.2.2)) 0 = true
  · rw [if_pos e0] at h ⊢
    have u0 : wU (mNxt f ta (K.1, K.2.1, 0, K.2.2.2), 0, 0, 0, fun _ => 0) := fun _ => ⟨wV_0, Nat.le_refl _⟩
    have u2 := wU_Ld (f := f) (ta := ta) 7 _ (wU_Lg (f := f) (ta := ta) 7 _ u0)
    refine wV_V (u2 h).1 ?_
    have h2 := mLd_0 h
    have g2 := wG_Ld (f := f) (ta := ta) 7 (mLg f ta 7 (mNxt f ta (K.1, K.2.1, 0, K.2.2.2), 0, 0, 0, fun _ => 0))
    have e1 : mLg f ta 7 (mNxt f ta (K.1, K.2.1, 0, K.2.2.2), 0, 0, 0, fun _ => 0) = mLg f ta 6 (mRg f ta (mNxt f ta (K.1, K.2.1, 0, K.2.2.2), 0, 0, 0, fun _ => 0)) := if_pos ⟨rfl, e0⟩
    rw [e1] at h2 g2 ⊢
    have g1 := wG_Lg 6 _ h2
    have h3 : (mRg f ta (mNxt f ta (K.1, K.2.1, 0, K.2.2.2), 0, 0, 0, fun _ => 0)).2.1 = 0 := by
      by_cases q : (mRg f ta (mNxt f ta (K.1, K.2.1, 0, K.2.2.2), 0, 0, 0, fun _ => 0)).2.1 = 0
      · exact q
      · rw [mLg_f q] at h2; exact absurd h2 q
    have g0 : 0 < (mRg f ta (mNxt f ta (K.1, K.2.1, 0, K.2.2.2), 0, 0, 0, fun _ => 0)).2.2.1 := by
      revert h3
      unfold mRg
      repeat' split
      · intro z; exact absurd z (Nat.succ_ne_zero _)
      · intro _; exact Nat.succ_pos _
      · intro z; exact absurd z (by assumption)
      · intro z; exact absurd z (Nat.succ_ne_zero _)
    omega
  · rw [if_neg e0, mLg_f (Nat.succ_ne_zero _), mLd_f (Nat.succ_ne_zero _)] at h
    exact absurd h (Nat.succ_ne_zero _)
