/-- a code's figures to the base g, the first ones highest, and the set of them -/
def wLb (g : Nat) : Nat → Nat → Nat → List Nat → Nat × List Nat
  | 0, _, S, l => (S, l)
  | m + 1, c, S, l => wLb g m (c / g) (S ||| 2 ^ (c % g)) (c % g :: l)
theorem q_bit2 : ∀ v, v < 6 → ∀ S, S < 64 → nI S ||| (nI 1 <<< (nI v &&& 31)) = nI (S ||| 2 ^ v) ∧ S ||| 2 ^ v < 64 := by decide +kernel
theorem q_shl1 : ∀ v, v < 7 → nI 1 <<< (nI v &&& 31) = nI (2 ^ v) ∧ 1 ≤ 2 ^ v ∧ 2 ^ v ≤ 64 := by decide +kernel
theorem wLb_b (g : Nat) (hg : 0 < g ∧ g ≤ 6) : ∀ (m c S : Nat) (l : List Nat), S < 64 → (∀ v ∈ l, v < g) → (wLb g m c S l).1 < 64 ∧ (∀ v ∈ (wLb g m c S l).2, v < g) ∧ (wLb g m c S l).2.length = m + l.length
  | 0, c, S, l, hS, hl => ⟨hS, hl, by show l.length = _; omega⟩
  | m + 1, c, S, l, hS, hl => by
    have h1 : c % g < g := Nat.mod_lt _ hg.1
    have h := wLb_b g hg m (c / g) (S ||| 2 ^ (c % g)) (c % g :: l) (q_bit2 _ (by omega) S hS).2 (fun v hv => by
      rcases List.mem_cons.mp hv with q | q
      · rw [q]; exact h1
      · exact hl v q)
    refine ⟨h.1, h.2.1, h.2.2.trans ?_⟩
    rw [List.length_cons]
    omega
def wLs (f : Nat → Nat) (m : Nat) (l : List Nat) : Nat → Nat := fun i => if 30 + m ≤ i ∧ i < 30 + m + l.length then l.getD (i - (30 + m)) 0 else f i
theorem wLs_0 {f : Nat → Nat} {m : Nat} : wLs f m [] = f := by
  funext i
  unfold wLs
  rw [if_neg (by rw [List.length_nil]; omega)]
theorem wLs_s {f : Nat → Nat} {m v : Nat} {l : List Nat} : va_up (wLs f (m + 1) l) (30 + m) v = wLs f m (v :: l) := by
  funext i
  unfold va_up wLs
  rw [List.length_cons]
  by_cases h : i = 30 + m
  · rw [if_pos h, if_pos (by omega), show i - (30 + m) = 0 by omega]
    rfl
  · rw [if_neg h]
    by_cases h2 : 30 + (m + 1) ≤ i ∧ i < 30 + (m + 1) + l.length
    · rw [if_pos h2, if_pos (by omega), show i - (30 + m) = (i - (30 + (m + 1))) + 1 by omega]
      rfl
    · rw [if_neg h2, if_neg (by omega)]
theorem mOf_lt {g : Nat} {l : List Nat} (hl : ∀ v ∈ l, v < g) (hg : 0 < g) (k : Nat) : mOf l k < g := by
  unfold mOf
  rw [List.getD_eq_getElem?_getD]
  cases h : l[k]? with
  | none => exact hg
  | some v => exact hl v (List.mem_of_getElem? h)
theorem wLs_E {g : Nat} {y : mX} {l : List Nat} (hg : 0 < g ∧ g ≤ 6) (hl : ∀ v ∈ l, v < g) (hn : l.length = g) : wE (wLs y.1 0 l, y.2) (mLay (mOf l) y.1 g, y.2) := by
  have hb : ∀ k, k < g → mOf l k < 6 := fun k _ => Nat.lt_of_lt_of_le (mOf_lt hl hg.1 k) hg.2
  refine ⟨fun i hi => ?_, rfl, rfl⟩
  show wLs y.1 0 l i = mLay (mOf l) y.1 g i
  unfold wLs
  by_cases h1 : i < 30
  · rw [if_neg (by omega), mLay_n g i hg.2 hb (Or.inl h1)]
  · obtain ⟨k, rfl⟩ : ∃ k, i = 30 + k := ⟨i - 30, by omega⟩
    by_cases h2 : k < g
    · rw [if_pos (by omega), mLay_30 g k hg.2 hb h2]
      unfold mOf
      congr 1
      omega
    · rw [if_neg (by omega), mLay_30n g k hg.2 hb (by omega) (by omega)]
set_option maxHeartbeats 2000000 in
set_option maxRecDepth 20000 in
theorem l8_lb {Γ : q_X} {ad : Nat → Nat} {n un ta fl st sa ne so di pu at_ er en pa tr g c0 : Nat} {W : Nat → Nat} {x0 y : mX} {rz : Int32} {hF : q_H} (T0 : wT W 0 g x0) (hg : 0 < g ∧ g ≤ 6) (C : q_C Γ ad 0 0 0 RX8 yX8_laysBy cX8_laysBy 5 (some .boolean)) (F : q_N Γ ad n (some (.int rz)) hF) : ∀ (m c S : Nat) (l : List Nat) (d : Int32) (H : q_H), d = nI m + Int32.ofInt (-1) → c < 1000000 → S < 64 → m ≤ 6 → H 87 = MO un ta fl st sa ne so di pu at_ er en pa tr → H 88 = WA (wPut W 1053 g (wLs y.1 m l, y.2)) → rz = nI (if (wLb g m c S l).1 = 2 ^ g - 1 then 1 else 0) → hF = q_up H 88 (WA (wPut W 1053 g (wLs y.1 0 (wLb g m c S l).2, y.2))) → q_G Γ ad 5 14 [some (.ref 87), some (.int (nI c0)), some (.int (nI S)), some (.int (nI c)), some (.int d)] [] n H 0 0 := by
  intro m
  induction m with
  | zero =>
    intro c S l d H hd hc hS hm h0 hW hz hH
    subst hd
    have hz : rz = nI (if S = 2 ^ g - 1 then 1 else 0) := hz
    have hH : hF = q_up H 88 (WA (wPut W 1053 g (wLs y.1 0 l, y.2))) := hH
    refine g_iload (pc := 14) C (hl := rfl) dX8_laysBy_14 ?_
    refine g_if_lt (pc := 16) C 66 dX8_laysBy_16 (by decide) (fun _ => ?_) (fun q => absurd (by decide) q)
    refine g_iload_n (pc := 66) C (hl := rfl) dX8_laysBy_66 ?_
    refine g_iconst (pc := 67) C qk_iconst_1 dX8_laysBy_67 ?_
    refine g_aload_n (pc := 68) C (hl := rfl) dX8_laysBy_68 ?_
    refine g_get (pc := 69) C fl8_7 dX8_laysBy_69 h0 rfl ?_
    refine g_iconst (pc := 72) C qk_iconst_0 dX8_laysBy_72 ?_
    refine g_ialdV (pc := 73) C dX8_laysBy_73 hW (by omega) (wT0_n (wT_o (by decide) T0)) ?_
    refine g_ishlE (pc := 74) C (w := nI (2 ^ g)) (q_shl1 g (by omega)).1 dX8_laysBy_74 ?_
    refine g_iconst (pc := 75) C qk_iconst_1 dX8_laysBy_75 ?_
    refine g_isubN (pc := 76) C dX8_laysBy_76 (by exact (q_shl1 g (by omega)).2.1) ?_
    refine g_ic_neN (pc := 77) C 84 dX8_laysBy_77 (by decide) (by have q1 := (q_shl1 g (by omega)).2.2; omega) (fun c77 => ?_) (fun c77 => ?_)
    · refine g_iconst (pc := 84) C qk_iconst_0 dX8_laysBy_84 ?_
      exact g_iret (pc := 85) C F dX8_laysBy_85 rfl rfl (by rw [hz]; exact congrArg (fun t => some (Value.int (nI t))) (if_neg c77).symm) (by rw [hH]; exact (q_upI hW).symm)
    · refine g_iconst (pc := 80) C qk_iconst_1 dX8_laysBy_80 ?_
      refine g_goto (pc := 81) C 85 dX8_laysBy_81 (by decide) ?_
      exact g_iret (pc := 85) C F dX8_laysBy_85 rfl rfl (by rw [hz]; exact congrArg (fun t => some (Value.int (nI t))) (if_pos c77).symm) (by rw [hH]; exact (q_upI hW).symm)
  | succ m ih =>
    intro c S l d H hd hc hS hm h0 hW hz hH
    rw [q_dn1] at hd
    subst hd
    refine g_iload (pc := 14) C (hl := rfl) dX8_laysBy_14 ?_
    refine g_if_ltN (pc := 16) C 66 dX8_laysBy_16 (by decide) (by omega) ?_
    have h1 : c % g < g := Nat.mod_lt _ hg.1
    have h2 := (q_bit2 (c % g) (by omega) S hS).2
    have h3 : c / g ≤ c := Nat.div_le_self _ _
    refine g_aload_n (pc := 19) C (hl := rfl) dX8_laysBy_19 ?_
    refine g_get (pc := 20) C fl8_7 dX8_laysBy_20 h0 rfl ?_
    refine g_sipush (pc := 23) C qk_sipush_1086 dX8_laysBy_23 ?_
    refine g_iload (pc := 26) C (hl := rfl) dX8_laysBy_26 ?_
    refine g_iaddN (pc := 28) C dX8_laysBy_28 ?_
    refine g_iload_n (pc := 29) C (hl := rfl) dX8_laysBy_29 ?_
    refine g_aload_n (pc := 30) C (hl := rfl) dX8_laysBy_30 ?_
    refine g_get (pc := 31) C fl8_7 dX8_laysBy_31 h0 rfl ?_
    refine g_iconst (pc := 34) C qk_iconst_0 dX8_laysBy_34 ?_
    refine g_ialdV (pc := 35) C dX8_laysBy_35 hW (by omega) (wT0_n (wT_o (by decide) T0)) ?_
    refine g_iremN (pc := 36) C dX8_laysBy_36 (by exact ⟨by omega, hg.1, by omega⟩) ?_
    refine g_iastV (pc := 37) C dX8_laysBy_37 hW (by omega) ((wS3_sl (wT_put _ _ _ _) (by omega)).trans ((wPut_put _ _ _ _ _ _).trans (by rw [wLs_s]))) ?_
    refine g_iload_n (pc := 38) C (hl := rfl) dX8_laysBy_38 ?_
    refine g_iconst (pc := 39) C qk_iconst_1 dX8_laysBy_39 ?_
    refine g_iload_n (pc := 40) C (hl := rfl) dX8_laysBy_40 ?_
    refine g_aload_n (pc := 41) C (hl := rfl) dX8_laysBy_41 ?_
    refine g_get (pc := 42) C fl8_7 dX8_laysBy_42 ((q_up_n _ _ (by decide)).trans h0) rfl ?_
    refine g_iconst (pc := 45) C qk_iconst_0 dX8_laysBy_45 ?_
    refine g_ialdV (pc := 46) C dX8_laysBy_46 (q_up_s _ _ _) (by omega) (wT0_n (wT_o (by decide) T0)) ?_
    refine g_iremN (pc := 47) C dX8_laysBy_47 (by exact ⟨by omega, hg.1, by omega⟩) ?_
    refine g_ishl (pc := 48) C dX8_laysBy_48 ?_
    refine g_iorE (pc := 49) C (w := nI (S ||| 2 ^ (c % g))) (q_bit2 _ (by omega) S hS).1 dX8_laysBy_49 ?_
    refine g_istore_n (pc := 50) C rfl dX8_laysBy_50 ?_
    refine g_iload_n (pc := 51) C (hl := rfl) dX8_laysBy_51 ?_
    refine g_aload_n (pc := 52) C (hl := rfl) dX8_laysBy_52 ?_
    refine g_get (pc := 53) C fl8_7 dX8_laysBy_53 ((q_up_n _ _ (by decide)).trans h0) rfl ?_
    refine g_iconst (pc := 56) C qk_iconst_0 dX8_laysBy_56 ?_
    refine g_ialdV (pc := 57) C dX8_laysBy_57 (q_up_s _ _ _) (by omega) (wT0_n (wT_o (by decide) T0)) ?_
    refine g_idivN (pc := 58) C dX8_laysBy_58 (by exact ⟨by omega, hg.1, by omega⟩) ?_
    refine g_istore_n (pc := 59) C rfl dX8_laysBy_59 ?_
    refine g_iinc (pc := 60) C (hl := rfl) rfl rfl dX8_laysBy_60 ?_
    refine g_goto (pc := 63) C 14 dX8_laysBy_63 (by decide) ?_
    refine ih (c / g) _ (c % g :: l) _ _ rfl (by omega) h2 (by omega) (((q_up_n _ _ (by decide)).trans h0)) (q_up_s _ _ _) ?_ ?_
    · rw [hz]; rfl
    · rw [hH]; simp only [q_up_u]; rfl
set_option maxHeartbeats 2000000 in
set_option maxRecDepth 20000 in
theorem s8_laysBy {n : Nat} {h : q_H} {un ta fl st sa ne so di pu at_ er en pa tr g : Nat} {W : Nat → Nat} {x0 y : mX} (c : Nat) (h0 : h 87 = MO un ta fl st sa ne so di pu at_ er en pa tr) (hW : h 88 = WA W) (T0 : wT W 0 g x0) (T3 : wT W 1053 g y) (hg : 0 < g ∧ g ≤ 6) (hc : c < 1000000) : SP 0 yX8_laysBy cX8_laysBy 5 (some .boolean) [.ref 87, .int (nI c)] n h (some (.int (nI (if (wLb g g c 0 []).1 = 2 ^ g - 1 then 1 else 0)))) (q_up h 88 (WA (wPut W 1053 g (mLay (mOf (wLb g g c 0 []).2) y.1 g, y.2)))) := by
  refine q_SPi RX8 rfl (by decide +kernel) (la := _) rfl rfl (fun Γ ad C F => ?_)
  have hb := wLb_b g hg g c 0 [] (by decide) (fun v hv => absurd hv (List.not_mem_nil))
  refine g_iconst (pc := 0) C qk_iconst_0 dX8_laysBy_0 ?_
  refine g_istore_n (pc := 1) C rfl dX8_laysBy_1 ?_
  refine g_iload_n (pc := 2) C (hl := rfl) dX8_laysBy_2 ?_
  refine g_istore_n (pc := 3) C rfl dX8_laysBy_3 ?_
  refine g_aload_n (pc := 4) C (hl := rfl) dX8_laysBy_4 ?_
  refine g_get (pc := 5) C fl8_7 dX8_laysBy_5 h0 rfl ?_
  refine g_iconst (pc := 8) C qk_iconst_0 dX8_laysBy_8 ?_
  refine g_ialdV (pc := 9) C dX8_laysBy_9 hW (by omega) (wT0_n T0) ?_
  refine g_iconst (pc := 10) C qk_iconst_1 dX8_laysBy_10 ?_
  refine g_isubN (pc := 11) C dX8_laysBy_11 (by omega) ?_
  refine g_istore (pc := 12) C rfl dX8_laysBy_12 ?_
  refine l8_lb (y := y) T0 hg C F g c 0 [] _ _ (by have := q_dn1 (g - 1); rw [show g - 1 + 1 = g by omega] at this; exact this.symm) hc (by decide) hg.2 h0 (hW.trans (by rw [wLs_0]; exact congrArg WA (wPut_self T3).symm)) rfl ?_
  rw [wPut_E (wLs_E hg hb.2.1 (hb.2.2.trans (by rw [List.length_nil, Nat.add_zero])))]
theorem s8_laysT {n : Nat} {h : q_H} {un ta fl st sa ne so di pu at_ er en pa tr g : Nat} {W : Nat → Nat} {x0 y : mX} (c : Nat) (h0 : h 87 = MO un ta fl st sa ne so di pu at_ er en pa tr) (hW : h 88 = WA W) (T0 : wT W 0 g x0) (T3 : wT W 1053 g y) (hg : 0 < g ∧ g ≤ 6) (hc : c < 1000000) (e : (wLb g g c 0 []).1 = 2 ^ g - 1) : SP 0 yX8_laysBy cX8_laysBy 5 (some .boolean) [.ref 87, .int (nI c)] n h (some (.int (nI 1))) (q_up h 88 (WA (wPut W 1053 g (mLay (mOf (wLb g g c 0 []).2) y.1 g, y.2)))) := by
  have q := s8_laysBy (n := n) c h0 hW T0 T3 hg hc
  rw [if_pos e] at q
  exact q
theorem s8_laysF {n : Nat} {h : q_H} {un ta fl st sa ne so di pu at_ er en pa tr g : Nat} {W : Nat → Nat} {x0 y : mX} (c : Nat) (h0 : h 87 = MO un ta fl st sa ne so di pu at_ er en pa tr) (hW : h 88 = WA W) (T0 : wT W 0 g x0) (T3 : wT W 1053 g y) (hg : 0 < g ∧ g ≤ 6) (hc : c < 1000000) (e : ¬ (wLb g g c 0 []).1 = 2 ^ g - 1) : SP 0 yX8_laysBy cX8_laysBy 5 (some .boolean) [.ref 87, .int (nI c)] n h (some (.int (nI 0))) (q_up h 88 (WA (wPut W 1053 g (mLay (mOf (wLb g g c 0 []).2) y.1 g, y.2)))) := by
  have q := s8_laysBy (n := n) c h0 hW T0 T3 hg hc
  rw [if_neg e] at q
  exact q
/-- a code's table: how the dishes lie then -/
def wLz (g : Nat) (x : mX) (c : Nat) (s : mX) : mX := (mLay (mOf (wLb g g c 0 []).2) (mCopy x s).1 g, (mCopy x s).2)
/-- over all codes: the least, its code, what was pushed last, the row -/
def wLd (g M : Nat) (x y : mX) (pa : Nat) : Nat → Nat × Nat × Nat × mX
  | 0 => (1000000, 0, pa, y)
  | c + 1 => if (wLb g g c 0 []).1 = 2 ^ g - 1 then
      (if (mPass g 1000000 M 0 (wLz g x c (wLd g M x y pa c).2.2.2)).1 < (wLd g M x y pa c).1 then (mPass g 1000000 M 0 (wLz g x c (wLd g M x y pa c).2.2.2)).1 else (wLd g M x y pa c).1,
       if (mPass g 1000000 M 0 (wLz g x c (wLd g M x y pa c).2.2.2)).1 < (wLd g M x y pa c).1 then c else (wLd g M x y pa c).2.1,
       mPass g 1000000 M 0 (wLz g x c (wLd g M x y pa c).2.2.2))
    else ((wLd g M x y pa c).1, (wLd g M x y pa c).2.1, (wLd g M x y pa c).2.2.1, wLz g x c (wLd g M x y pa c).2.2.2)
theorem wLd_b (g M : Nat) (x y : mX) (pa : Nat) : ∀ c, (wLd g M x y pa c).1 ≤ 1000000 ∧ (wLd g M x y pa c).2.1 ≤ c
  | 0 => ⟨Nat.le_refl _, Nat.le_refl _⟩
  | c + 1 => by
    have h := wLd_b g M x y pa c
    unfold wLd
    split
    · dsimp only
      constructor <;> split <;> omega
    · exact ⟨h.1, by dsimp only; omega⟩
