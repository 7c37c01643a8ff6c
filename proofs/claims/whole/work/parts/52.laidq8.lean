theorem mPass_ge {g lim : Nat} : ∀ (m S : Nat) (x : mX), S ≤ (mPass g lim m S x).1
  | 0, _, _ => Nat.le_refl _
  | m + 1, S, x => by
    show S ≤ (if S < lim then mPass g lim m (S + (mNext g x).2.2.2.2.1) (mNext g x) else (S, x)).1
    split
    · exact Nat.le_trans (Nat.le_add_right _ _) (mPass_ge m _ _)
    · exact Nat.le_refl _
theorem mPass_L {g L : Nat} (hL : L ≤ 1000000) : ∀ (m S : Nat) (y : mX), mW g y → S + 6 * m < 1000000 → ((mPass g L m S y).1 < L → (mPass g L m S y).1 = (mPass g 1000000 m S y).1) ∧ (¬ (mPass g L m S y).1 < L → ¬ (mPass g 1000000 m S y).1 < L)
  | 0, _, _, _, _ => ⟨fun _ => rfl, fun h => h⟩
  | m + 1, S, y, hv, hS => by
    have hp := mNext_p hv
    have e2 : mPass g 1000000 (m + 1) S y = mPass g 1000000 m (S + (mNext g y).2.2.2.2.1) (mNext g y) := if_pos (by omega)
    by_cases h : S < L
    · have e1 : mPass g L (m + 1) S y = mPass g L m (S + (mNext g y).2.2.2.2.1) (mNext g y) := if_pos h
      rw [e1, e2]
      exact mPass_L hL m _ _ (mNext_V hv) (by omega)
    · have e1 : mPass g L (m + 1) S y = (S, y) := if_neg h
      rw [e1, e2]
      have := mPass_ge (g := g) (lim := 1000000) m (S + (mNext g y).2.2.2.2.1) (mNext g y)
      exact ⟨fun q => absurd q h, fun _ q => h (by omega)⟩
def wSm (g M : Nat) (xu : mX) (l : List Nat) : Nat := (mPass g 1000000 M 0 (mLay (mOf l) xu.1 g, xu.2)).1
def wFo (s : List Nat → Nat) : List (List Nat) → Nat → List Nat → Nat × List Nat
  | [], L, b => (L, b)
  | l :: t, L, b => if s l < L then wFo s t (s l) l else wFo s t L b
theorem wFo_0 (s : List Nat → Nat) : ∀ (ls : List (List Nat)) (b : List Nat), wFo s ls 0 b = (0, b)
  | [], _ => rfl
  | l :: t, b => by
    show (if s l < 0 then wFo s t (s l) l else wFo s t 0 b) = _
    rw [if_neg (by omega)]
    exact wFo_0 s t b
theorem wFo_le (s : List Nat → Nat) : ∀ (ls : List (List Nat)) (L : Nat) (b : List Nat), (wFo s ls L b).1 ≤ L
  | [], _, _ => Nat.le_refl _
  | l :: t, L, b => by
    show (if s l < L then wFo s t (s l) l else wFo s t L b).1 ≤ L
    split
    · exact Nat.le_trans (wFo_le s t _ _) (by omega)
    · exact wFo_le s t _ _
theorem wFo_hd (s : List Nat → Nat) (l : List Nat) (t : List (List Nat)) (L : Nat) (b : List Nat) : (wFo s (l :: t) L b).1 ≤ s l := by
  show (if s l < L then wFo s t (s l) l else wFo s t L b).1 ≤ s l
  split
  · exact wFo_le s t _ _
  · exact Nat.le_trans (wFo_le s t _ _) (by omega)
theorem wFo_app (s : List Nat → Nat) : ∀ (A B : List (List Nat)) (L : Nat) (b : List Nat), wFo s (A ++ B) L b = wFo s B (wFo s A L b).1 (wFo s A L b).2
  | [], _, _, _ => rfl
  | l :: t, B, L, b => by
    show (if s l < L then wFo s (t ++ B) (s l) l else wFo s (t ++ B) L b) = wFo s B (if s l < L then wFo s t (s l) l else wFo s t L b).1 (if s l < L then wFo s t (s l) l else wFo s t L b).2
    split
    · exact wFo_app s t B _ _
    · exact wFo_app s t B _ _
theorem wFo_map (s : List Nat → Nat) (tk : List Nat → List Nat) : ∀ (ls : List (List Nat)) (L : Nat) (b : List Nat), (∀ l ∈ ls, s (tk l) = s l) → wFo s (ls.map tk) L (tk b) = ((wFo s ls L b).1, tk (wFo s ls L b).2)
  | [], _, _, _ => rfl
  | l :: t, L, b, h => by
    have h1 := h l List.mem_cons_self
    show (if s (tk l) < L then wFo s (t.map tk) (s (tk l)) (tk l) else wFo s (t.map tk) L (tk b)) = ((if s l < L then wFo s t (s l) l else wFo s t L b).1, tk (if s l < L then wFo s t (s l) l else wFo s t L b).2)
    rw [h1]
    split
    · exact wFo_map s tk t _ _ (fun q hq => h q (List.mem_cons_of_mem _ hq))
    · exact wFo_map s tk t _ _ (fun q hq => h q (List.mem_cons_of_mem _ hq))
theorem mLay_c {sl sl' f : Nat → Nat} : ∀ m, (∀ k, k < m → sl k = sl' k) → mLay sl f m = mLay sl' f m
  | 0, _ => rfl
  | m + 1, h => by
    unfold mLay
    rw [mLay_c m (fun k hk => h k (by omega)), h m (by omega)]
theorem mOf_take {g k : Nat} {l : List Nat} (hk : k < g) : mOf (l.take g) k = mOf l k := by
  unfold mOf
  rw [List.getD_eq_getElem?_getD, List.getD_eq_getElem?_getD, List.getElem?_take_of_lt hk]
theorem wSm_take {g M : Nat} {xu : mX} (l : List Nat) : wSm g M xu (l.take g) = wSm g M xu l := by
  unfold wSm
  rw [mLay_c g (fun k hk => mOf_take hk)]
theorem mPm_take {g : Nat} {l : List Nat} (h : mPm g (mOf l)) : mPm g (mOf (l.take g)) := by
  refine ⟨fun k hk => by rw [mOf_take hk]; exact h.1 k hk, fun i hi => ?_, fun a b ha hb e => ?_⟩
  · obtain ⟨k, hk, e⟩ := h.2.1 i hi
    exact ⟨k, hk, by rw [mOf_take hk]; exact e⟩
  · rw [mOf_take ha, mOf_take hb] at e
    exact h.2.2 a b ha hb e
theorem mLay_W {g : Nat} {xu : mX} {l : List Nat} (hv : mW g xu) (h : mPm g (mOf l)) : mW g (mLay (mOf l) xu.1 g, xu.2) := mLay_V hv h
theorem mTry_e {g M L : Nat} {xu x : mX} {l : List Nat} (hv : mW g xu) (h : mPm g (mOf l)) (hM : M < 1000) (hL : L ≤ 1000000) : ((mTry g M L xu l x).1 < L ↔ wSm g M xu l < L) ∧ ((mTry g M L xu l x).1 < L → (mTry g M L xu l x).1 = wSm g M xu l) := by
  have q := mPass_L hL M 0 (mLay (mOf l) xu.1 g, (mCopy xu x).2) (mLay_V (tu := xu.2.1) (mi := xu.2.2.1) hv h) (by omega)
  have e : (mPass g 1000000 M 0 (mLay (mOf l) xu.1 g, (mCopy xu x).2)).1 = wSm g M xu l := (mPass_Q (x := (mLay (mOf l) xu.1 g, (mCopy xu x).2)) (z := (mLay (mOf l) xu.1 g, xu.2)) ⟨rfl, rfl, rfl⟩ M 0).1
  rw [e] at q
  refine ⟨⟨fun z => ?_, fun z => ?_⟩, q.1⟩
  · have := q.1 z
    show wSm g M xu l < L
    rw [← this]; exact z
  · exact Classical.byContradiction (fun n => q.2 n z)
theorem mFb_e {g M : Nat} {xu : mX} (hv : mW g xu) (hM : M < 1000) : ∀ (m fuel L : Nat) (l b : List Nat) (x : mX), m < fuel → wOrE g m l = true → (∀ q ∈ wOrb g m l, mPm g (mOf q)) → L ≤ 1000000 → ((mFb g M xu fuel L l b x).1, (mFb g M xu fuel L l b x).2.2.1) = wFo (wSm g M xu) (wOrb g m l) L b := by
  intro m
  induction m with
  | zero =>
    intro fuel L l b x hf hE hP hL
    obtain ⟨fu, rfl⟩ : ∃ fu, fuel = fu + 1 := ⟨fuel - 1, by omega⟩
    have hl := hP l List.mem_cons_self
    have ht := mTry_e (x := x) hv hl hM hL
    have hn : mNl g l = none := by
      unfold wOrE at hE
      cases h : mNl g l with
      | none => rfl
      | some l' => rw [h] at hE; exact absurd hE Bool.false_ne_true
    by_cases h0 : 0 < L
    · have e : mFb g M xu (fu + 1) L l b x = ((if (mTry g M L xu l x).1 < L then (mTry g M L xu l x).1 else L), l, (if (mTry g M L xu l x).1 < L then l else b), (mTry g M L xu l x).2) := by
        show (if 0 < L then _ else _) = _
        rw [if_pos h0, hn]
      rw [e]
      show _ = (if wSm g M xu l < L then wFo (wSm g M xu) [] (wSm g M xu l) l else wFo (wSm g M xu) [] L b)
      by_cases h1 : wSm g M xu l < L
      · have h2 := ht.1.mpr h1
        rw [if_pos h1, if_pos h2, if_pos h2, ht.2 h2]
        rfl
      · have h2 : ¬ (mTry g M L xu l x).1 < L := fun z => h1 (ht.1.mp z)
        rw [if_neg h1, if_neg h2, if_neg h2]
        rfl
    · obtain rfl : L = 0 := by omega
      rw [wFo_0]
      rfl
  | succ m ih =>
    intro fuel L l b x hf hE hP hL
    obtain ⟨fu, rfl⟩ : ∃ fu, fuel = fu + 1 := ⟨fuel - 1, by omega⟩
    have hl := hP l List.mem_cons_self
    have ht := mTry_e (x := x) hv hl hM hL
    by_cases h0 : 0 < L
    · cases hn : mNl g l with
      | none =>
        have e : mFb g M xu (fu + 1) L l b x = ((if (mTry g M L xu l x).1 < L then (mTry g M L xu l x).1 else L), l, (if (mTry g M L xu l x).1 < L then l else b), (mTry g M L xu l x).2) := by
          show (if 0 < L then _ else _) = _
          rw [if_pos h0, hn]
        have eo : wOrb g (m + 1) l = [l] := by unfold wOrb; rw [hn]
        rw [e, eo]
        show _ = (if wSm g M xu l < L then wFo (wSm g M xu) [] (wSm g M xu l) l else wFo (wSm g M xu) [] L b)
        by_cases h1 : wSm g M xu l < L
        · have h2 := ht.1.mpr h1
          rw [if_pos h1, if_pos h2, if_pos h2, ht.2 h2]
          rfl
        · have h2 : ¬ (mTry g M L xu l x).1 < L := fun z => h1 (ht.1.mp z)
          rw [if_neg h1, if_neg h2, if_neg h2]
          rfl
      | some l' =>
        have e : mFb g M xu (fu + 1) L l b x = mFb g M xu fu (if (mTry g M L xu l x).1 < L then (mTry g M L xu l x).1 else L) l' (if (mTry g M L xu l x).1 < L then l else b) (mTry g M L xu l x).2 := by
          show (if 0 < L then _ else _) = _
          rw [if_pos h0, hn]
        have eo : wOrb g (m + 1) l = l :: wOrb g m l' := by
          show l :: (match mNl g l with
            | none => []
            | some l' => wOrb g m l') = _
          rw [hn]
        have hE2 : wOrE g m l' = true := by
          unfold wOrE at hE
          rw [hn] at hE
          exact hE
        rw [eo] at hP ⊢
        rw [e]
        show _ = (if wSm g M xu l < L then wFo (wSm g M xu) (wOrb g m l') (wSm g M xu l) l else wFo (wSm g M xu) (wOrb g m l') L b)
        by_cases h1 : wSm g M xu l < L
        · have h2 := ht.1.mpr h1
          rw [if_pos h1, if_pos h2, if_pos h2, ht.2 h2]
          exact ih fu _ l' _ _ (by omega) hE2 (fun q hq => hP q (List.mem_cons_of_mem _ hq)) (by omega)
        · have h2 : ¬ (mTry g M L xu l x).1 < L := fun z => h1 (ht.1.mp z)
          rw [if_neg h1, if_neg h2, if_neg h2]
          exact ih fu _ l' _ _ (by omega) hE2 (fun q hq => hP q (List.mem_cons_of_mem _ hq)) hL
    · obtain rfl : L = 0 := by omega
      rw [wFo_0]
      rfl
/-- the orders of the codes from c on -/
def wCs (g : Nat) : Nat → Nat → List (List Nat)
  | 0, _ => []
  | m + 1, c => if (wLb g g c 0 []).1 = 2 ^ g - 1 then (wLb g g c 0 []).2 :: wCs g m (c + 1) else wCs g m (c + 1)
theorem wCs_k (g : Nat) : ∀ (m c : Nat) (ls : List (List Nat)), wCk g m c ls = true → wCs g m c = ls
  | 0, c, ls, h => by
    unfold wCk at h
    unfold wCs
    cases ls with
    | nil => rfl
    | cons => exact absurd h Bool.false_ne_true
  | m + 1, c, ls, h => by
    unfold wCk at h
    unfold wCs
    by_cases hp : (wLb g g c 0 []).1 = 2 ^ g - 1
    · rw [if_pos hp] at h ⊢
      cases ls with
      | nil => exact absurd h Bool.false_ne_true
      | cons l t =>
        rw [Bool.and_eq_true] at h
        rw [of_decide_eq_true h.1, wCs_k g m (c + 1) t h.2]
    · rw [if_neg hp] at h ⊢
      exact wCs_k g m (c + 1) ls h
theorem wCs_s (g : Nat) : ∀ (m c : Nat), wCs g (m + 1) c = wCs g m c ++ (if (wLb g g (c + m) 0 []).1 = 2 ^ g - 1 then [(wLb g g (c + m) 0 []).2] else [])
  | 0, c => by
    show (if (wLb g g c 0 []).1 = 2 ^ g - 1 then (wLb g g c 0 []).2 :: [] else []) = [] ++ (if (wLb g g c 0 []).1 = 2 ^ g - 1 then [(wLb g g c 0 []).2] else [])
    rw [List.nil_append]
  | m + 1, c => by
    have ih := wCs_s g m (c + 1)
    rw [show c + 1 + m = c + (m + 1) by omega] at ih
    show (if (wLb g g c 0 []).1 = 2 ^ g - 1 then (wLb g g c 0 []).2 :: wCs g (m + 1) (c + 1) else wCs g (m + 1) (c + 1)) = (if (wLb g g c 0 []).1 = 2 ^ g - 1 then (wLb g g c 0 []).2 :: wCs g m (c + 1) else wCs g m (c + 1)) ++ _
    rw [ih]
    by_cases hp : (wLb g g c 0 []).1 = 2 ^ g - 1
    · rw [if_pos hp, if_pos hp]; rfl
    · rw [if_neg hp, if_neg hp]
theorem wCs_mem (g : Nat) : ∀ (m a c : Nat), a ≤ c → c < a + m → (wLb g g c 0 []).1 = 2 ^ g - 1 → (wLb g g c 0 []).2 ∈ wCs g m a
  | 0, a, c, h1, h2, _ => absurd h2 (by omega)
  | m + 1, a, c, h1, h2, hp => by
    unfold wCs
    rcases Nat.lt_or_ge a c with q | q
    · have ih := wCs_mem g m (a + 1) c q (by omega) hp
      split
      · exact List.mem_cons_of_mem _ ih
      · exact ih
    · obtain rfl : a = c := by omega
      rw [if_pos hp]
      exact List.mem_cons_self
theorem wLd_s (g M : Nat) (x y : mX) (pa c : Nat) : wLd g M x y pa (c + 1) = if (wLb g g c 0 []).1 = 2 ^ g - 1 then
      (if (mPass g 1000000 M 0 (wLz g x c (wLd g M x y pa c).2.2.2)).1 < (wLd g M x y pa c).1 then (mPass g 1000000 M 0 (wLz g x c (wLd g M x y pa c).2.2.2)).1 else (wLd g M x y pa c).1,
       if (mPass g 1000000 M 0 (wLz g x c (wLd g M x y pa c).2.2.2)).1 < (wLd g M x y pa c).1 then c else (wLd g M x y pa c).2.1,
       mPass g 1000000 M 0 (wLz g x c (wLd g M x y pa c).2.2.2))
    else ((wLd g M x y pa c).1, (wLd g M x y pa c).2.1, (wLd g M x y pa c).2.2.1, wLz g x c (wLd g M x y pa c).2.2.2) := rfl
theorem wLd_e {g M : Nat} {x y : mX} {pa : Nat} (b0 : List Nat) (hs : ∀ l, wSm g M x l < 1000000 ∨ True) : ∀ c, wFo (wSm g M x) (wCs g c 0) 1000000 b0 = ((wLd g M x y pa c).1, if (wLd g M x y pa c).1 < 1000000 then (wLb g g (wLd g M x y pa c).2.1 0 []).2 else b0)
  | 0 => by
    show ((1000000 : Nat), b0) = (1000000, if (1000000 : Nat) < 1000000 then _ else b0)
    rw [if_neg (by omega)]
  | c + 1 => by
    have ih := wLd_e (y := y) (pa := pa) b0 hs c
    have eM : (mPass g 1000000 M 0 (wLz g x c (wLd g M x y pa c).2.2.2)).1 = wSm g M x (wLb g g c 0 []).2 := (mPass_Q (x := wLz g x c (wLd g M x y pa c).2.2.2) (z := (mLay (mOf (wLb g g c 0 []).2) x.1 g, x.2)) ⟨rfl, rfl, rfl⟩ M 0).1
    have hb := wLd_b g M x y pa c
    rw [wCs_s, wFo_app, ih, Nat.zero_add, wLd_s, eM]
    by_cases hp : (wLb g g c 0 []).1 = 2 ^ g - 1
    · rw [if_pos hp, if_pos hp]
      dsimp only
      show (if wSm g M x (wLb g g c 0 []).2 < (wLd g M x y pa c).1 then (wSm g M x (wLb g g c 0 []).2, (wLb g g c 0 []).2) else ((wLd g M x y pa c).1, if (wLd g M x y pa c).1 < 1000000 then (wLb g g (wLd g M x y pa c).2.1 0 []).2 else b0)) = _
      by_cases hl : wSm g M x (wLb g g c 0 []).2 < (wLd g M x y pa c).1
      · rw [if_pos hl, if_pos hl, if_pos hl, if_pos (by omega)]
      · rw [if_neg hl, if_neg hl, if_neg hl]
    · rw [if_neg hp, if_neg hp]
      rfl
theorem wLd_p {g M : Nat} {x y : mX} {pa : Nat} : ∀ c, (wLd g M x y pa c).1 < 1000000 → (wLb g g (wLd g M x y pa c).2.1 0 []).1 = 2 ^ g - 1
  | 0, h => absurd h (by show ¬ (1000000 : Nat) < 1000000; omega)
  | c + 1, h => by
    have ih := wLd_p (g := g) (M := M) (x := x) (y := y) (pa := pa) c
    unfold wLd at h ⊢
    by_cases hp : (wLb g g c 0 []).1 = 2 ^ g - 1
    · rw [if_pos hp] at h ⊢
      dsimp only at h ⊢
      by_cases hl : (mPass g 1000000 M 0 (wLz g x c (wLd g M x y pa c).2.2.2)).1 < (wLd g M x y pa c).1
      · rw [if_pos hl]; exact hp
      · rw [if_neg hl] at h ⊢; exact ih h
    · rw [if_neg hp] at h ⊢; exact ih h
theorem wPm_i {g : Nat} {l : List Nat} (h : wPmB g l = true) : (∀ k, k < 6 → mOf l k < 6) ∧ mPm g (mOf l) := by
  unfold wPmB at h
  simp only [Bool.and_eq_true, List.all_eq_true, List.any_eq_true, List.mem_range, decide_eq_true_eq] at h
  obtain ⟨h1, h2, h3, h4⟩ := h
  exact ⟨h1, h2, fun i hi => h3 i hi, fun a b ha hb e => h4 a ha b hb e⟩
theorem wOrb_s {g : Nat} : ∀ (m : Nat) (l0 l l' : List Nat), wOrE g m l0 = true → l ∈ wOrb g m l0 → mNl g l = some l' → l' ∈ wOrb g m l0
  | 0, l0, l, l', hE, hl, hn => by
    have : l = l0 := by
      unfold wOrb at hl
      simpa using hl
    subst this
    unfold wOrE at hE
    rw [hn] at hE
    exact absurd hE Bool.false_ne_true
  | m + 1, l0, l, l', hE, hl, hn => by
    cases h : mNl g l0 with
    | none =>
      have eo : wOrb g (m + 1) l0 = [l0] := by unfold wOrb; rw [h]
      rw [eo] at hl
      have : l = l0 := by simpa using hl
      subst this
      rw [h] at hn
      cases hn
    | some l1 =>
      have eo : wOrb g (m + 1) l0 = l0 :: wOrb g m l1 := by
        show l0 :: (match mNl g l0 with
          | none => []
          | some l' => wOrb g m l') = _
        rw [h]
      have hE2 : wOrE g m l1 = true := by
        unfold wOrE at hE
        rw [h] at hE
        exact hE
      rw [eo] at hl ⊢
      rcases List.mem_cons.mp hl with q | q
      · subst q
        rw [h] at hn
        cases hn
        refine List.mem_cons_of_mem _ ?_
        cases m with
        | zero => exact List.mem_cons_self
        | succ m => unfold wOrb; exact List.mem_cons_self
      · exact List.mem_cons_of_mem _ (wOrb_s m l1 l l' hE2 q hn)
theorem wD {g : Nat} (hg : 0 < g ∧ g ≤ 6) : wOrE g (wNf g) wL0 = true ∧ (∀ l ∈ wOrb g (wNf g) wL0, wPmB g l = true) ∧ wCs g (g ^ g) 0 = (wOrb g (wNf g) wL0).map (List.take g) ∧ wNf g < 1000000 := by
  rcases (by omega : g = 1 ∨ g = 2 ∨ g = 3 ∨ g = 4 ∨ g = 5 ∨ g = 6) with rfl | rfl | rfl | rfl | rfl | rfl
  · exact ⟨wD1_1, fun l hl => List.all_eq_true.mp wD2_1 l hl, wCs_k 1 1 0 _ wD3_1, by decide⟩
  · exact ⟨wD1_2, fun l hl => List.all_eq_true.mp wD2_2 l hl, wCs_k 2 4 0 _ wD3_2, by decide⟩
  · exact ⟨wD1_3, fun l hl => List.all_eq_true.mp wD2_3 l hl, wCs_k 3 27 0 _ wD3_3, by decide⟩
  · exact ⟨wD1_4, fun l hl => List.all_eq_true.mp wD2_4 l hl, wCs_k 4 256 0 _ wD3_4, by decide⟩
  · exact ⟨wD1_5, fun l hl => List.all_eq_true.mp wD2_5 l hl, wCs_k 5 3125 0 _ wD3_5, by decide⟩
  · exact ⟨wD1_6, fun l hl => List.all_eq_true.mp wD2_6 l hl, wCs_k 6 46656 0 _ wD3_6, by decide⟩
/-- the orders of the class -/
def wPP (g : Nat) (l : List Nat) : Prop := l ∈ wOrb g (wNf g) wL0
theorem wPP_P {g : Nat} (hg : 0 < g ∧ g ≤ 6) : ∀ l, wPP g l → (∀ k, k < 6 → mOf l k < 6) ∧ mPm g (mOf l) := fun l hl => wPm_i ((wD hg).2.1 l hl)
theorem wPP_S {g : Nat} (hg : 0 < g ∧ g ≤ 6) : ∀ l l', wPP g l → mNl g l = some l' → wPP g l' := fun l l' hl hn => wOrb_s _ _ l l' (wD hg).1 hl hn
theorem wOrb_h (g m : Nat) (l : List Nat) : l ∈ wOrb g m l := by
  cases m with
  | zero => exact List.mem_cons_self
  | succ m => unfold wOrb; exact List.mem_cons_self
theorem wPP_0 (g : Nat) : wPP g [0, 1, 2, 3, 4, 5] := wOrb_h _ _ _
theorem wOrb_c (g m : Nat) (l : List Nat) : ∃ t, wOrb g m l = l :: t := by
  cases m with
  | zero => exact ⟨[], rfl⟩
  | succ m => exact ⟨_, rfl⟩
/-- the least pushed, and how the dishes lie then, are the same -/
theorem wLaid {g M : Nat} {x x2 y : mX} {b : List Nat} {pa : Nat} (hv : mW g x) (hM : 1 ≤ M ∧ M ≤ 20) : (wLd g M x y pa (g ^ g)).1 = (mFb g M x 1000000 1000000 [0, 1, 2, 3, 4, 5] b x2).1 ∧ (∀ z, z < g → mOf (wLb g g (wLd g M x y pa (g ^ g)).2.1 0 []).2 z = mOf (mFb g M x 1000000 1000000 [0, 1, 2, 3, 4, 5] b x2).2.2.1 z) ∧ (wLb g g (wLd g M x y pa (g ^ g)).2.1 0 []).1 = 2 ^ g - 1 ∧ (∀ c, c < g ^ g → (wLb g g c 0 []).1 = 2 ^ g - 1 → mPm g (mOf (wLb g g c 0 []).2)) := by
  have hg : 0 < g ∧ g ≤ 6 := ⟨hv.1.1, hv.1.2.1⟩
  obtain ⟨d1, d2, d3, d4⟩ := wD hg
  have hpm : ∀ q ∈ wOrb g (wNf g) wL0, mPm g (mOf q) := fun q hq => (wPm_i (d2 q hq)).2
  have e1 := mFb_e (M := M) hv (by omega) (wNf g) 1000000 1000000 wL0 b x2 d4 d1 hpm (Nat.le_refl _)
  have e2 := wLd_e (g := g) (M := M) (x := x) (y := y) (pa := pa) (b.take g) (fun _ => Or.inr trivial) (g ^ g)
  rw [d3, wFo_map (wSm g M x) (List.take g) _ _ b (fun l _ => wSm_take l), ← e1] at e2
  have a1 := congrArg Prod.fst e2
  have a2 := congrArg Prod.snd e2
  dsimp only at a1 a2
  have hlt : (wLd g M x y pa (g ^ g)).1 < 1000000 := by
    rw [← a1]
    have q1 := congrArg Prod.fst e1
    dsimp only at q1
    rw [q1]
    obtain ⟨t, ht⟩ := wOrb_c g (wNf g) wL0
    rw [ht]
    refine Nat.lt_of_le_of_lt (wFo_hd _ _ _ _ _) ?_
    have q := mPass_s (g := g) (lim := 1000000) M 0 _ (mLay_W hv (hpm wL0 (wOrb_h _ _ _)))
    show (mPass g 1000000 M 0 (mLay (mOf wL0) x.1 g, x.2)).1 < 1000000
    omega
  rw [if_pos hlt] at a2
  refine ⟨a1.symm, fun z hz => ?_, wLd_p _ hlt, fun c hc hp => ?_⟩
  · rw [← a2, mOf_take hz]
    rfl
  · have m := wCs_mem g (g ^ g) 0 c (Nat.zero_le _) (by omega) hp
    rw [d3] at m
    obtain ⟨l, hl, e⟩ := List.mem_map.mp m
    rw [← e]
    exact mPm_take (hpm l hl)
