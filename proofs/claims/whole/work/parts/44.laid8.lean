theorem q_geI {a b : Int} (h1 : -1000000000 < a) (h2 : a < 1000000000) (h3 : -1000000000 < b) (h4 : b < 1000000000) : qI a < qI b ↔ a < b := qI_lt (by omega) (by omega) (by omega) (by omega)
theorem q_m1q : (-1 : Int32) = qI (-1) := by decide
theorem mLaidF {g : Nat} (hg : 0 < g ∧ g ≤ 6) {z : Int32} (hb : ¬ z = -1 ∧ (z < 0 ∨ nI g ≤ z)) : z < -1 ∨ qI ((g : Int) - 1) < z := by
  rcases hb.2 with q | q
  · refine Or.inl ?_
    rw [Int32.lt_iff_toInt_lt] at q ⊢
    have e0 : (0 : Int32).toInt = 0 := by decide
    have e1 : (-1 : Int32).toInt = -1 := by decide
    have ne : z.toInt ≠ -1 := fun q => hb.1 (Int32.toInt_inj.mp (q.trans e1.symm))
    omega
  · exact Or.inr ((q_gel1 g (by omega) z).mpr q)
theorem mLaidA {g : Nat} (hg : 0 < g ∧ g ≤ 6) : ¬ ((-1 : Int32) < -1 ∨ qI ((g : Int) - 1) < -1) := by
  rintro (q | q)
  · exact absurd q (by decide)
  · rw [q_m1q, qI_lt (by omega) (by omega) (by omega) (by omega)] at q
    omega
theorem mLaidS {g z : Nat} (hg : 0 < g ∧ g ≤ 6) (hz : z < g) : ¬ (nI z < -1 ∨ qI ((g : Int) - 1) < nI z) := by
  rintro (q | q)
  · rw [q_m1q, qI_N, qI_lt (by omega) (by omega) (by omega) (by omega)] at q
    omega
  · rw [qI_N, qI_lt (by omega) (by omega) (by omega) (by omega)] at q
    omega
set_option maxHeartbeats 2000000 in
set_option maxRecDepth 20000 in
theorem s8_laidB {n : Nat} {h : q_H} {un ta fl st sa ne so di pu at_ er en pa tr g : Nat} {W : Nat → Nat} {x : mX} (y z : Int32) (h0 : h 87 = MO un ta fl st sa ne so di pu at_ er en pa tr) (hW : h 88 = WA W) (T : wT W 0 g x) (hg : 0 < g ∧ g ≤ 6) (hb : (y < nI 1 ∨ nI 20 < y) ∨ (¬ z = -1 ∧ (z < 0 ∨ nI g ≤ z))) : SP 5 yX8_laid cX8_laid 7 (some .int) [.ref 87, .int y, .int z] n h (some (.int (-1000001))) h := by
  refine q_SPi RX8 rfl (by decide +kernel) (la := _) rfl rfl (fun Γ ad C F => ?_)
  refine g_aload_n (pc := 0) C (hl := rfl) dX8_laid_0 ?_
  refine g_V0v (pc := 1) C lv8_177 dX8_laid_1 (s8_isNoneT h0 hW (by rw [wT0_n T]; omega)) h0 (by decide) (Nat.le_of_ble_eq_true rfl) ?_
  refine g_if_eqN (pc := 4) C 10 dX8_laid_4 (by decide) (by decide) (fun _ => ?_) (fun q => absurd q (by decide))
  refine g_iload_n (pc := 10) C (hl := rfl) dX8_laid_10 ?_
  refine g_i2l (pc := 11) C rfl dX8_laid_11 ?_
  refine g_lconst (pc := 12) C (v := 1) rfl dX8_laid_12 ?_
  refine g_ldc2 (pc := 13) C zk8_218 dX8_laid_13 ?_
  by_cases cy : y < nI 1 ∨ nI 20 < y
  · refine g_S3v (pc := 16) C ls8_37 dX8_laid_16 (s8_inF y (nI 1) (nI 20) (by decide) (by decide) cy) (by decide) (Nat.le_of_ble_eq_true rfl) ?_
    refine g_if_eqN (pc := 19) C 42 dX8_laid_19 (by decide) (by decide) (fun _ => ?_) (fun q => absurd q (by decide))
    refine g_ldc (pc := 42) C (v := -1000001) zk8_52 dX8_laid_42 ?_
    exact g_iret (pc := 44) C F dX8_laid_44 rfl rfl (rfl) (rfl)
  · refine g_S3v (pc := 16) C ls8_37 dX8_laid_16 (s8_inT y (nI 1) (nI 20) (by decide) (by decide) cy) (by decide) (Nat.le_of_ble_eq_true rfl) ?_
    refine g_if_eqN (pc := 19) C 42 dX8_laid_19 (by decide) (by decide) (fun q => absurd q (by decide)) (fun _ => ?_)
    refine g_iload_n (pc := 22) C (hl := rfl) dX8_laid_22 ?_
    refine g_i2l (pc := 23) C rfl dX8_laid_23 ?_
    refine g_ldc2 (pc := 24) C zk8_220 dX8_laid_24 ?_
    refine g_aload_n (pc := 27) C (hl := rfl) dX8_laid_27 ?_
    refine g_get (pc := 28) C fl8_7 dX8_laid_28 h0 rfl ?_
    refine g_iconst (pc := 31) C qk_iconst_0 dX8_laid_31 ?_
    refine g_ialdV (pc := 32) C dX8_laid_32 hW (by omega) (wT0_n T) ?_
    refine g_iconst (pc := 33) C qk_iconst_1 dX8_laid_33 ?_
    refine g_isubE (pc := 34) C (w := qI ((g : Int) - 1)) (by show nI g - nI 1 = _; rw [qI_N, qI_N, qI_sub]; rfl) dX8_laid_34 ?_
    refine g_i2l (pc := 35) C rfl dX8_laid_35 ?_
    refine g_S3v (pc := 36) C ls8_37 dX8_laid_36 (s8_inF z (-1) (qI ((g : Int) - 1)) (by decide) rfl (mLaidF hg (hb.resolve_left cy))) (by decide) (Nat.le_of_ble_eq_true rfl) ?_
    refine g_if_neN (pc := 39) C 45 dX8_laid_39 (by decide) (by decide) (fun q => absurd q (by decide)) (fun _ => ?_)
    refine g_ldc (pc := 42) C (v := -1000001) zk8_52 dX8_laid_42 ?_
    exact g_iret (pc := 44) C F dX8_laid_44 rfl rfl (rfl) (rfl)
set_option maxHeartbeats 2000000 in
set_option maxRecDepth 20000 in
theorem l8_laidA {Γ : q_X} {ad : Nat → Nat} {n un ta fl st sa ne so di pa0 tr g M co : Nat} {x y : mX} {rz : Int32} {hF : q_H} (hg : 0 < g ∧ g ≤ 6) (hv : mW g x) (hM : 1 ≤ M ∧ M ≤ 20) (hm : x.2.2.1 + M < 1000000) (hco : co < 1000000) (hc0 : 0 < co) (hPm : ∀ c, c < co → (wLb g g c 0 []).1 = 2 ^ g - 1 → mPm g (mOf (wLb g g c 0 []).2)) (hB : (wLb g g (wLd g M x y pa0 co).2.1 0 []).1 = 2 ^ g - 1) (C : q_C Γ ad 5 0 0 RX8 yX8_laid cX8_laid 7 (some .int)) (F : q_N Γ ad n (some (.int rz)) hF) (hrz : rz = nI (wLd g M x y pa0 co).1) : ∀ (m c be le : Nat) (W : Nat → Nat) (H : q_H), c + m = co + 1 → c ≤ co → H 87 = MX un ta fl st sa ne so di (wLd g M x y pa0 c).2.2.1 tr (wLd g M x y pa0 c).2.2.2 → H 88 = WA W → wT W 0 g x → be = (wLd g M x y pa0 c).2.1 → le = (wLd g M x y pa0 c).1 → (0 < c → wT W 1053 g (wLd g M x y pa0 c).2.2.2) → hF = q_up (q_up H 88 (WA (wPut W 1053 g (mLay (mOf (wLb g g (wLd g M x y pa0 co).2.1 0 []).2) (wLd g M x y pa0 co).2.2.2.1 g, (wLd g M x y pa0 co).2.2.2.2)))) 87 (MX un ta fl st sa ne so di (wLd g M x y pa0 co).2.2.1 tr (wLd g M x y pa0 co).2.2.2) → q_G Γ ad 7 86 [some (.ref 87), some (.int (nI M)), some (.int (-1)), some (.int (nI co)), some (.int (nI le)), some (.int (nI be)), some (.int (nI c))] [] n H 0 0 := by
  intro m
  induction m with
  | zero => intro c be le W H hk hi; omega
  | succ m ih =>
    intro c be le W H hk hi h0 hW T0 hbe hle T3 hH
    refine g_iload (pc := 86) C (hl := rfl) dX8_laid_86 ?_
    refine g_iload_n (pc := 88) C (hl := rfl) dX8_laid_88 ?_
    refine g_ic_geN (pc := 89) C 158 dX8_laid_89 (by decide) (by omega) (fun c89 => ?_) (fun c89 => ?_)
    · obtain rfl : c = co := by omega
      have hwb := wLd_b g M x y pa0 c
      subst hbe
      subst hle
      refine g_aload_n (pc := 158) C (hl := rfl) dX8_laid_158 ?_
      refine g_iload (pc := 159) C (hl := rfl) dX8_laid_159 ?_
      refine g_V1v (pc := 161) C lv8_222 dX8_laid_161 (s8_laysT (wLd g M x y pa0 c).2.1 h0 hW T0 (T3 hc0) hg (by omega) hB) h0 (by decide) (Nat.le_of_ble_eq_true rfl) ?_
      refine g_istore (pc := 164) C rfl dX8_laid_164 ?_
      refine g_iload_n (pc := 166) C (hl := rfl) dX8_laid_166 ?_
      refine g_if_ge (pc := 167) C 180 dX8_laid_167 (by decide) (fun q => absurd q (by decide)) (fun _ => ?_)
      refine g_iload (pc := 170) C (hl := rfl) dX8_laid_170 ?_
      refine g_if_eqN (pc := 172) C 180 dX8_laid_172 (by decide) (by decide) (fun q => absurd q (by decide)) (fun _ => ?_)
      refine g_iload (pc := 175) C (hl := rfl) dX8_laid_175 ?_
      refine g_goto (pc := 177) C 190 dX8_laid_177 (by decide) ?_
      exact g_iret (pc := 190) C F dX8_laid_190 rfl rfl (by rw [hrz]) (by rw [hH]; exact (q_upI (by exact (q_up_n _ _ (by decide)).trans h0)).symm)
    · have hwb := wLd_b g M x y pa0 c
      subst hbe
      subst hle
      refine g_aload_n (pc := 92) C (hl := rfl) dX8_laid_92 ?_
      refine g_iconst (pc := 93) C qk_iconst_0 dX8_laid_93 ?_
      refine g_sipush (pc := 94) C qk_sipush_1053 dX8_laid_94 ?_
      refine g_V2u (pc := 97) C lv8_142 dX8_laid_97 (s8_copyRow (r := 1053) h0 hW T0 (by decide) (by decide)) h0 (by decide) (Nat.le_of_ble_eq_true rfl) ?_
      refine g_aload_n (pc := 100) C (hl := rfl) dX8_laid_100 ?_
      refine g_iload (pc := 101) C (hl := rfl) dX8_laid_101 ?_
      by_cases ep : (wLb g g c 0 []).1 = 2 ^ g - 1
      · refine g_V1v (pc := 103) C lv8_222 dX8_laid_103 (s8_laysT c ((q_up_n _ _ (by decide)).trans h0) (q_up_s _ _ _) (wT_o (by decide) T0) (wT_Q (z := mCopy x (wLd g M x y pa0 c).2.2.2) ⟨rfl, rfl, rfl⟩ (wT_put _ _ _ _)) hg (by omega) ep) ((q_up_n _ _ (by decide)).trans h0) (by decide) (Nat.le_of_ble_eq_true rfl) ?_
        refine g_if_eqN (pc := 106) C 152 dX8_laid_106 (by decide) (by decide) (fun q => absurd q (by decide)) (fun _ => ?_)
        have hvz : mW g (wLz g x c (wLd g M x y pa0 c).2.2.2) := mLay_V hv (hPm c (by omega) ep)
        have hps := mPass_s (g := g) (lim := 1000000) M 0 _ hvz
        refine g_aload_n (pc := 109) C (hl := rfl) dX8_laid_109 ?_
        refine g_iload_n (pc := 110) C (hl := rfl) dX8_laid_110 ?_
        refine g_V1u (pc := 111) C lv8_213 dX8_laid_111 (s8_goMinutes (x := wLz g x c (wLd g M x y pa0 c).2.2.2) M ((q_up_n _ _ (by decide)).trans ((q_up_n _ _ (by decide)).trans h0)) (q_up_s _ _ _) (wT_put _ _ _ _) hvz (by omega) hm) ((q_up_n _ _ (by decide)).trans ((q_up_n _ _ (by decide)).trans h0)) (by decide) (Nat.le_of_ble_eq_true rfl) ?_
        refine g_aload_n (pc := 114) C (hl := rfl) dX8_laid_114 ?_
        refine g_get (pc := 115) C fl8_205 dX8_laid_115 (q_up_s _ _ _) rfl ?_
        refine g_iload (pc := 118) C (hl := rfl) dX8_laid_118 ?_
        refine g_ic_geN (pc := 120) C 128 dX8_laid_120 (by decide) (by omega) (fun c120 => ?_) (fun c120 => ?_)
        · refine g_iload (pc := 128) C (hl := rfl) dX8_laid_128 ?_
          refine g_istore (pc := 130) C rfl dX8_laid_130 ?_
          refine g_aload_n (pc := 132) C (hl := rfl) dX8_laid_132 ?_
          refine g_get (pc := 133) C fl8_205 dX8_laid_133 (q_up_s _ _ _) rfl ?_
          refine g_iload (pc := 136) C (hl := rfl) dX8_laid_136 ?_
          refine g_ic_geN (pc := 138) C 148 dX8_laid_138 (by decide) (by omega) (fun _ => ?_) (fun q => absurd (c120) q)
          refine g_iload (pc := 148) C (hl := rfl) dX8_laid_148 ?_
          refine g_istore (pc := 150) C rfl dX8_laid_150 ?_
          refine g_iincN (pc := 152) C (hl := rfl) (q_inc1 _) rfl dX8_laid_152 ?_
          refine g_goto (pc := 155) C 86 dX8_laid_155 (by decide) ?_
          have e : (wLd g M x y pa0 (c + 1)) = ((wLd g M x y pa0 c).1, (wLd g M x y pa0 c).2.1, (mPass g 1000000 M 0 (wLz g x c (wLd g M x y pa0 c).2.2.2))) := (if_pos ep).trans (by rw [if_neg (Nat.not_lt.mpr c120), if_neg (Nat.not_lt.mpr c120)])
          refine ih (c + 1) _ _ _ _ (by omega) (by omega) (by rw [e]; exact ((q_up_s _ _ _))) (((q_up_n _ _ (by decide)).trans (q_up_s _ _ _))) (wT_o (by decide) (wT_o (by decide) (wT_o (by decide) T0))) (by rw [e]) (by rw [e]) (fun _ => by rw [e]; exact wT_put _ _ _ _) ?_
          rw [hH]
          first | (simp only [q_up_u, q_up_c _ (show (87 : Nat) ≠ 88 by decide), wPut_put]; done) | (simp only [q_up_u, q_up_c _ (show (87 : Nat) ≠ 88 by decide), wPut_put]; rfl)
        · refine g_iload (pc := 123) C (hl := rfl) dX8_laid_123 ?_
          refine g_goto (pc := 125) C 130 dX8_laid_125 (by decide) ?_
          refine g_istore (pc := 130) C rfl dX8_laid_130 ?_
          refine g_aload_n (pc := 132) C (hl := rfl) dX8_laid_132 ?_
          refine g_get (pc := 133) C fl8_205 dX8_laid_133 (q_up_s _ _ _) rfl ?_
          refine g_iload (pc := 136) C (hl := rfl) dX8_laid_136 ?_
          refine g_ic_geN (pc := 138) C 148 dX8_laid_138 (by decide) (by omega) (fun q => absurd q (c120)) (fun _ => ?_)
          refine g_aload_n (pc := 141) C (hl := rfl) dX8_laid_141 ?_
          refine g_get (pc := 142) C fl8_205 dX8_laid_142 (q_up_s _ _ _) rfl ?_
          refine g_goto (pc := 145) C 150 dX8_laid_145 (by decide) ?_
          refine g_istore (pc := 150) C rfl dX8_laid_150 ?_
          refine g_iincN (pc := 152) C (hl := rfl) (q_inc1 _) rfl dX8_laid_152 ?_
          refine g_goto (pc := 155) C 86 dX8_laid_155 (by decide) ?_
          have e : (wLd g M x y pa0 (c + 1)) = ((mPass g 1000000 M 0 (wLz g x c (wLd g M x y pa0 c).2.2.2)).1, c, (mPass g 1000000 M 0 (wLz g x c (wLd g M x y pa0 c).2.2.2))) := (if_pos ep).trans (by rw [if_pos (Nat.not_le.mp c120), if_pos (Nat.not_le.mp c120)])
          refine ih (c + 1) _ _ _ _ (by omega) (by omega) (by rw [e]; exact ((q_up_s _ _ _))) (((q_up_n _ _ (by decide)).trans (q_up_s _ _ _))) (wT_o (by decide) (wT_o (by decide) (wT_o (by decide) T0))) (by rw [e]) (by rw [e]) (fun _ => by rw [e]; exact wT_put _ _ _ _) ?_
          rw [hH]
          first | (simp only [q_up_u, q_up_c _ (show (87 : Nat) ≠ 88 by decide), wPut_put]; done) | (simp only [q_up_u, q_up_c _ (show (87 : Nat) ≠ 88 by decide), wPut_put]; rfl)
      · refine g_V1v (pc := 103) C lv8_222 dX8_laid_103 (s8_laysF c ((q_up_n _ _ (by decide)).trans h0) (q_up_s _ _ _) (wT_o (by decide) T0) (wT_Q (z := mCopy x (wLd g M x y pa0 c).2.2.2) ⟨rfl, rfl, rfl⟩ (wT_put _ _ _ _)) hg (by omega) ep) ((q_up_n _ _ (by decide)).trans h0) (by decide) (Nat.le_of_ble_eq_true rfl) ?_
        refine g_if_eqN (pc := 106) C 152 dX8_laid_106 (by decide) (by decide) (fun _ => ?_) (fun q => absurd q (by decide))
        refine g_iincN (pc := 152) C (hl := rfl) (q_inc1 _) rfl dX8_laid_152 ?_
        refine g_goto (pc := 155) C 86 dX8_laid_155 (by decide) ?_
        have e : (wLd g M x y pa0 (c + 1)) = ((wLd g M x y pa0 c).1, (wLd g M x y pa0 c).2.1, (wLd g M x y pa0 c).2.2.1, wLz g x c (wLd g M x y pa0 c).2.2.2) := if_neg ep
        refine ih (c + 1) _ _ _ _ (by omega) (by omega) (by rw [e]; exact (((q_up_n _ _ (by decide)).trans ((q_up_n _ _ (by decide)).trans h0)))) ((q_up_s _ _ _)) (wT_o (by decide) (wT_o (by decide) T0)) (by rw [e]) (by rw [e]) (fun _ => by rw [e]; exact wT_put _ _ _ _) ?_
        rw [hH]
        first | (simp only [q_up_u, q_up_c _ (show (87 : Nat) ≠ 88 by decide), wPut_put]; done) | (simp only [q_up_u, q_up_c _ (show (87 : Nat) ≠ 88 by decide), wPut_put]; rfl)
set_option maxHeartbeats 2000000 in
set_option maxRecDepth 20000 in
theorem l8_laidS {Γ : q_X} {ad : Nat → Nat} {n un ta fl st sa ne so di pa0 tr g M co z : Nat} {x y : mX} {rz : Int32} {hF : q_H} (hg : 0 < g ∧ g ≤ 6) (hv : mW g x) (hM : 1 ≤ M ∧ M ≤ 20) (hm : x.2.2.1 + M < 1000000) (hco : co < 1000000) (hc0 : 0 < co) (hPm : ∀ c, c < co → (wLb g g c 0 []).1 = 2 ^ g - 1 → mPm g (mOf (wLb g g c 0 []).2)) (hz : z < g) (C : q_C Γ ad 5 0 0 RX8 yX8_laid cX8_laid 7 (some .int)) (F : q_N Γ ad n (some (.int rz)) hF) (hrz : rz = nI (mOf (wLb g g (wLd g M x y pa0 co).2.1 0 []).2 z)) : ∀ (m c be le : Nat) (W : Nat → Nat) (H : q_H), c + m = co + 1 → c ≤ co → H 87 = MX un ta fl st sa ne so di (wLd g M x y pa0 c).2.2.1 tr (wLd g M x y pa0 c).2.2.2 → H 88 = WA W → wT W 0 g x → be = (wLd g M x y pa0 c).2.1 → le = (wLd g M x y pa0 c).1 → (0 < c → wT W 1053 g (wLd g M x y pa0 c).2.2.2) → hF = q_up (q_up H 88 (WA (wPut W 1053 g (mLay (mOf (wLb g g (wLd g M x y pa0 co).2.1 0 []).2) (wLd g M x y pa0 co).2.2.2.1 g, (wLd g M x y pa0 co).2.2.2.2)))) 87 (MX un ta fl st sa ne so di (wLd g M x y pa0 co).2.2.1 tr (wLd g M x y pa0 co).2.2.2) → q_G Γ ad 7 86 [some (.ref 87), some (.int (nI M)), some (.int (nI z)), some (.int (nI co)), some (.int (nI le)), some (.int (nI be)), some (.int (nI c))] [] n H 0 0 := by
  intro m
  induction m with
  | zero => intro c be le W H hk hi; omega
  | succ m ih =>
    intro c be le W H hk hi h0 hW T0 hbe hle T3 hH
    refine g_iload (pc := 86) C (hl := rfl) dX8_laid_86 ?_
    refine g_iload_n (pc := 88) C (hl := rfl) dX8_laid_88 ?_
    refine g_ic_geN (pc := 89) C 158 dX8_laid_89 (by decide) (by omega) (fun c89 => ?_) (fun c89 => ?_)
    · obtain rfl : c = co := by omega
      have hwb := wLd_b g M x y pa0 c
      subst hbe
      subst hle
      refine g_aload_n (pc := 158) C (hl := rfl) dX8_laid_158 ?_
      refine g_iload (pc := 159) C (hl := rfl) dX8_laid_159 ?_
      refine g_V1v (pc := 161) C lv8_222 dX8_laid_161 (s8_laysBy (wLd g M x y pa0 c).2.1 h0 hW T0 (T3 hc0) hg (by omega)) h0 (by decide) (Nat.le_of_ble_eq_true rfl) ?_
      refine g_istore (pc := 164) C rfl dX8_laid_164 ?_
      refine g_iload_n (pc := 166) C (hl := rfl) dX8_laid_166 ?_
      refine g_if_geN (pc := 167) C 180 dX8_laid_167 (by decide) (by omega) ?_
      have hbs : ∀ k, k < g → mOf (wLb g g (wLd g M x y pa0 c).2.1 0 []).2 k < 6 := fun k hk => Nat.lt_of_lt_of_le (mOf_lt (wLb_b g hg g (wLd g M x y pa0 c).2.1 0 [] (by decide) (fun v hv => absurd hv (List.not_mem_nil))).2.1 hg.1 k) hg.2
      refine g_aload_n (pc := 180) C (hl := rfl) dX8_laid_180 ?_
      refine g_get (pc := 181) C fl8_7 dX8_laid_181 ((q_up_n _ _ (by decide)).trans h0) rfl ?_
      refine g_sipush (pc := 184) C qk_sipush_1086 dX8_laid_184 ?_
      refine g_iload_n (pc := 187) C (hl := rfl) dX8_laid_187 ?_
      refine g_iaddN (pc := 188) C dX8_laid_188 ?_
      refine g_ialdV (pc := 189) C dX8_laid_189 (q_up_s _ _ _) (by omega) ((wT3_sl (wT_put _ _ _ _) (by omega)).trans (mLay_30 g z hg.2 hbs hz)) ?_
      exact g_iret (pc := 190) C F dX8_laid_190 rfl rfl (by rw [hrz]) (by rw [hH]; exact (q_upI (by exact (q_up_n _ _ (by decide)).trans h0)).symm)
    · have hwb := wLd_b g M x y pa0 c
      subst hbe
      subst hle
      refine g_aload_n (pc := 92) C (hl := rfl) dX8_laid_92 ?_
      refine g_iconst (pc := 93) C qk_iconst_0 dX8_laid_93 ?_
      refine g_sipush (pc := 94) C qk_sipush_1053 dX8_laid_94 ?_
      refine g_V2u (pc := 97) C lv8_142 dX8_laid_97 (s8_copyRow (r := 1053) h0 hW T0 (by decide) (by decide)) h0 (by decide) (Nat.le_of_ble_eq_true rfl) ?_
      refine g_aload_n (pc := 100) C (hl := rfl) dX8_laid_100 ?_
      refine g_iload (pc := 101) C (hl := rfl) dX8_laid_101 ?_
      by_cases ep : (wLb g g c 0 []).1 = 2 ^ g - 1
      · refine g_V1v (pc := 103) C lv8_222 dX8_laid_103 (s8_laysT c ((q_up_n _ _ (by decide)).trans h0) (q_up_s _ _ _) (wT_o (by decide) T0) (wT_Q (z := mCopy x (wLd g M x y pa0 c).2.2.2) ⟨rfl, rfl, rfl⟩ (wT_put _ _ _ _)) hg (by omega) ep) ((q_up_n _ _ (by decide)).trans h0) (by decide) (Nat.le_of_ble_eq_true rfl) ?_
        refine g_if_eqN (pc := 106) C 152 dX8_laid_106 (by decide) (by decide) (fun q => absurd q (by decide)) (fun _ => ?_)
        have hvz : mW g (wLz g x c (wLd g M x y pa0 c).2.2.2) := mLay_V hv (hPm c (by omega) ep)
        have hps := mPass_s (g := g) (lim := 1000000) M 0 _ hvz
        refine g_aload_n (pc := 109) C (hl := rfl) dX8_laid_109 ?_
        refine g_iload_n (pc := 110) C (hl := rfl) dX8_laid_110 ?_
        refine g_V1u (pc := 111) C lv8_213 dX8_laid_111 (s8_goMinutes (x := wLz g x c (wLd g M x y pa0 c).2.2.2) M ((q_up_n _ _ (by decide)).trans ((q_up_n _ _ (by decide)).trans h0)) (q_up_s _ _ _) (wT_put _ _ _ _) hvz (by omega) hm) ((q_up_n _ _ (by decide)).trans ((q_up_n _ _ (by decide)).trans h0)) (by decide) (Nat.le_of_ble_eq_true rfl) ?_
        refine g_aload_n (pc := 114) C (hl := rfl) dX8_laid_114 ?_
        refine g_get (pc := 115) C fl8_205 dX8_laid_115 (q_up_s _ _ _) rfl ?_
        refine g_iload (pc := 118) C (hl := rfl) dX8_laid_118 ?_
        refine g_ic_geN (pc := 120) C 128 dX8_laid_120 (by decide) (by omega) (fun c120 => ?_) (fun c120 => ?_)
        · refine g_iload (pc := 128) C (hl := rfl) dX8_laid_128 ?_
          refine g_istore (pc := 130) C rfl dX8_laid_130 ?_
          refine g_aload_n (pc := 132) C (hl := rfl) dX8_laid_132 ?_
          refine g_get (pc := 133) C fl8_205 dX8_laid_133 (q_up_s _ _ _) rfl ?_
          refine g_iload (pc := 136) C (hl := rfl) dX8_laid_136 ?_
          refine g_ic_geN (pc := 138) C 148 dX8_laid_138 (by decide) (by omega) (fun _ => ?_) (fun q => absurd (c120) q)
          refine g_iload (pc := 148) C (hl := rfl) dX8_laid_148 ?_
          refine g_istore (pc := 150) C rfl dX8_laid_150 ?_
          refine g_iincN (pc := 152) C (hl := rfl) (q_inc1 _) rfl dX8_laid_152 ?_
          refine g_goto (pc := 155) C 86 dX8_laid_155 (by decide) ?_
          have e : (wLd g M x y pa0 (c + 1)) = ((wLd g M x y pa0 c).1, (wLd g M x y pa0 c).2.1, (mPass g 1000000 M 0 (wLz g x c (wLd g M x y pa0 c).2.2.2))) := (if_pos ep).trans (by rw [if_neg (Nat.not_lt.mpr c120), if_neg (Nat.not_lt.mpr c120)])
          refine ih (c + 1) _ _ _ _ (by omega) (by omega) (by rw [e]; exact ((q_up_s _ _ _))) (((q_up_n _ _ (by decide)).trans (q_up_s _ _ _))) (wT_o (by decide) (wT_o (by decide) (wT_o (by decide) T0))) (by rw [e]) (by rw [e]) (fun _ => by rw [e]; exact wT_put _ _ _ _) ?_
          rw [hH]
          first | (simp only [q_up_u, q_up_c _ (show (87 : Nat) ≠ 88 by decide), wPut_put]; done) | (simp only [q_up_u, q_up_c _ (show (87 : Nat) ≠ 88 by decide), wPut_put]; rfl)
        · refine g_iload (pc := 123) C (hl := rfl) dX8_laid_123 ?_
          refine g_goto (pc := 125) C 130 dX8_laid_125 (by decide) ?_
          refine g_istore (pc := 130) C rfl dX8_laid_130 ?_
          refine g_aload_n (pc := 132) C (hl := rfl) dX8_laid_132 ?_
          refine g_get (pc := 133) C fl8_205 dX8_laid_133 (q_up_s _ _ _) rfl ?_
          refine g_iload (pc := 136) C (hl := rfl) dX8_laid_136 ?_
          refine g_ic_geN (pc := 138) C 148 dX8_laid_138 (by decide) (by omega) (fun q => absurd q (c120)) (fun _ => ?_)
          refine g_aload_n (pc := 141) C (hl := rfl) dX8_laid_141 ?_
          refine g_get (pc := 142) C fl8_205 dX8_laid_142 (q_up_s _ _ _) rfl ?_
          refine g_goto (pc := 145) C 150 dX8_laid_145 (by decide) ?_
          refine g_istore (pc := 150) C rfl dX8_laid_150 ?_
          refine g_iincN (pc := 152) C (hl := rfl) (q_inc1 _) rfl dX8_laid_152 ?_
          refine g_goto (pc := 155) C 86 dX8_laid_155 (by decide) ?_
          have e : (wLd g M x y pa0 (c + 1)) = ((mPass g 1000000 M 0 (wLz g x c (wLd g M x y pa0 c).2.2.2)).1, c, (mPass g 1000000 M 0 (wLz g x c (wLd g M x y pa0 c).2.2.2))) := (if_pos ep).trans (by rw [if_pos (Nat.not_le.mp c120), if_pos (Nat.not_le.mp c120)])
          refine ih (c + 1) _ _ _ _ (by omega) (by omega) (by rw [e]; exact ((q_up_s _ _ _))) (((q_up_n _ _ (by decide)).trans (q_up_s _ _ _))) (wT_o (by decide) (wT_o (by decide) (wT_o (by decide) T0))) (by rw [e]) (by rw [e]) (fun _ => by rw [e]; exact wT_put _ _ _ _) ?_
          rw [hH]
          first | (simp only [q_up_u, q_up_c _ (show (87 : Nat) ≠ 88 by decide), wPut_put]; done) | (simp only [q_up_u, q_up_c _ (show (87 : Nat) ≠ 88 by decide), wPut_put]; rfl)
      · refine g_V1v (pc := 103) C lv8_222 dX8_laid_103 (s8_laysF c ((q_up_n _ _ (by decide)).trans h0) (q_up_s _ _ _) (wT_o (by decide) T0) (wT_Q (z := mCopy x (wLd g M x y pa0 c).2.2.2) ⟨rfl, rfl, rfl⟩ (wT_put _ _ _ _)) hg (by omega) ep) ((q_up_n _ _ (by decide)).trans h0) (by decide) (Nat.le_of_ble_eq_true rfl) ?_
        refine g_if_eqN (pc := 106) C 152 dX8_laid_106 (by decide) (by decide) (fun _ => ?_) (fun q => absurd q (by decide))
        refine g_iincN (pc := 152) C (hl := rfl) (q_inc1 _) rfl dX8_laid_152 ?_
        refine g_goto (pc := 155) C 86 dX8_laid_155 (by decide) ?_
        have e : (wLd g M x y pa0 (c + 1)) = ((wLd g M x y pa0 c).1, (wLd g M x y pa0 c).2.1, (wLd g M x y pa0 c).2.2.1, wLz g x c (wLd g M x y pa0 c).2.2.2) := if_neg ep
        refine ih (c + 1) _ _ _ _ (by omega) (by omega) (by rw [e]; exact (((q_up_n _ _ (by decide)).trans ((q_up_n _ _ (by decide)).trans h0)))) ((q_up_s _ _ _)) (wT_o (by decide) (wT_o (by decide) T0)) (by rw [e]) (by rw [e]) (fun _ => by rw [e]; exact wT_put _ _ _ _) ?_
        rw [hH]
        first | (simp only [q_up_u, q_up_c _ (show (87 : Nat) ≠ 88 by decide), wPut_put]; done) | (simp only [q_up_u, q_up_c _ (show (87 : Nat) ≠ 88 by decide), wPut_put]; rfl)
set_option maxHeartbeats 2000000 in
set_option maxRecDepth 20000 in
theorem l8_coA {Γ : q_X} {ad : Nat → Nat} {n : Nat} {h : q_H} {un ta fl st sa ne so di pu at_ er en pa tr g : Nat} {W : Nat → Nat} {x : mX} {M : Nat} (h0 : h 87 = MO un ta fl st sa ne so di pu at_ er en pa tr) (hW : h 88 = WA W) (T : wT W 0 g x) (hg : 0 < g ∧ g ≤ 6) (C : q_C Γ ad 5 0 0 RX8 yX8_laid cX8_laid 7 (some .int)) (kk : ∀ v4 v5 v6, q_G Γ ad 7 76 [some (.ref 87), some (.int (nI M)), some (.int (-1)), some (.int (nI (g ^ g))), v4, v5, v6] [] n h 0 0) : ∀ (m i co : Nat) (v5 v6 : Option Value), i + m = g + 1 → i ≤ g → co = g ^ i → q_G Γ ad 7 50 [some (.ref 87), some (.int (nI M)), some (.int (-1)), some (.int (nI co)), some (.int (nI i)), v5, v6] [] n h 0 0 := by
  intro m
  induction m with
  | zero => intro i co v5 v6 hm hi; omega
  | succ m ih =>
    intro i co v5 v6 hm hi hco
    refine g_iload (pc := 50) C (hl := rfl) dX8_laid_50 ?_
    refine g_aload_n (pc := 52) C (hl := rfl) dX8_laid_52 ?_
    refine g_get (pc := 53) C fl8_7 dX8_laid_53 h0 rfl ?_
    refine g_iconst (pc := 56) C qk_iconst_0 dX8_laid_56 ?_
    refine g_ialdV (pc := 57) C dX8_laid_57 hW (by omega) (wT0_n T) ?_
    refine g_ic_geN (pc := 58) C 76 dX8_laid_58 (by decide) (by omega) (fun c58 => ?_) (fun c58 => ?_)
    · obtain rfl : i = g := by omega
      subst hco
      exact kk _ _ _
    · refine g_iload_n (pc := 61) C (hl := rfl) dX8_laid_61 ?_
      refine g_aload_n (pc := 62) C (hl := rfl) dX8_laid_62 ?_
      refine g_get (pc := 63) C fl8_7 dX8_laid_63 h0 rfl ?_
      refine g_iconst (pc := 66) C qk_iconst_0 dX8_laid_66 ?_
      refine g_ialdV (pc := 67) C dX8_laid_67 hW (by omega) (wT0_n T) ?_
      refine g_imulN (pc := 68) C dX8_laid_68 ?_
      refine g_istore_n (pc := 69) C rfl dX8_laid_69 ?_
      refine g_iincN (pc := 70) C (hl := rfl) (q_inc1 _) rfl dX8_laid_70 ?_
      refine g_goto (pc := 73) C 50 dX8_laid_73 (by decide) ?_
      exact ih (i + 1) _ _ _ (by omega) (by omega) (by rw [hco]; exact (Nat.pow_succ ..).symm)
theorem q_gg (g : Nat) (hg : 0 < g ∧ g ≤ 6) : g ^ g < 1000000 ∧ 0 < g ^ g := by
  have q : ∀ g, g < 7 → g ^ g < 1000000 ∧ 0 < g ^ g := by decide
  exact q g (by omega)
set_option maxHeartbeats 2000000 in
set_option maxRecDepth 20000 in
theorem s8_laidA {n : Nat} {h : q_H} {un ta fl st sa ne so di pu at_ er en pa tr g : Nat} {W : Nat → Nat} {x : mX} (M : Nat) (h0 : h 87 = MO un ta fl st sa ne so di pu at_ er en pa tr) (hW : h 88 = WA W) (T : wT W 0 g x) (hv : mW g x) (hm : x.2.2.1 ≤ 999) (hg : 0 < g ∧ g ≤ 6) (hM : 1 ≤ M ∧ M ≤ 20) (hPm : ∀ c, c < g ^ g → (wLb g g c 0 []).1 = 2 ^ g - 1 → mPm g (mOf (wLb g g c 0 []).2)) (hB : (wLb g g (wLd g M x (mG x er pu en at_) pa (g ^ g)).2.1 0 []).1 = 2 ^ g - 1) : SP 5 yX8_laid cX8_laid 7 (some .int) [.ref 87, .int (nI M), .int (-1)] n h (some (.int (nI (wLd g M x (mG x er pu en at_) pa (g ^ g)).1))) (q_up (q_up h 88 (WA (wPut W 1053 g (mLay (mOf (wLb g g (wLd g M x (mG x er pu en at_) pa (g ^ g)).2.1 0 []).2) (wLd g M x (mG x er pu en at_) pa (g ^ g)).2.2.2.1 g, (wLd g M x (mG x er pu en at_) pa (g ^ g)).2.2.2.2)))) 87 (MX un ta fl st sa ne so di (wLd g M x (mG x er pu en at_) pa (g ^ g)).2.2.1 tr (wLd g M x (mG x er pu en at_) pa (g ^ g)).2.2.2)) := by
  refine q_SPi RX8 rfl (by decide +kernel) (la := _) rfl rfl (fun Γ ad C F => ?_)
  have hcg := q_gg g hg
  refine g_aload_n (pc := 0) C (hl := rfl) dX8_laid_0 ?_
  refine g_V0v (pc := 1) C lv8_177 dX8_laid_1 (s8_isNoneT h0 hW (by rw [wT0_n T]; omega)) h0 (by decide) (Nat.le_of_ble_eq_true rfl) ?_
  refine g_if_eqN (pc := 4) C 10 dX8_laid_4 (by decide) (by decide) (fun _ => ?_) (fun q => absurd q (by decide))
  refine g_iload_n (pc := 10) C (hl := rfl) dX8_laid_10 ?_
  refine g_i2l (pc := 11) C rfl dX8_laid_11 ?_
  refine g_lconst (pc := 12) C (v := 1) rfl dX8_laid_12 ?_
  refine g_ldc2 (pc := 13) C zk8_218 dX8_laid_13 ?_
  refine g_S3v (pc := 16) C ls8_37 dX8_laid_16 (s8_inN M 1 20 (by decide) (by decide) hM (by decide)) (by decide) (Nat.le_of_ble_eq_true rfl) ?_
  refine g_if_eqN (pc := 19) C 42 dX8_laid_19 (by decide) (by decide) (fun q => absurd q (by decide)) (fun _ => ?_)
  refine g_iload_n (pc := 22) C (hl := rfl) dX8_laid_22 ?_
  refine g_i2l (pc := 23) C rfl dX8_laid_23 ?_
  refine g_ldc2 (pc := 24) C zk8_220 dX8_laid_24 ?_
  refine g_aload_n (pc := 27) C (hl := rfl) dX8_laid_27 ?_
  refine g_get (pc := 28) C fl8_7 dX8_laid_28 h0 rfl ?_
  refine g_iconst (pc := 31) C qk_iconst_0 dX8_laid_31 ?_
  refine g_ialdV (pc := 32) C dX8_laid_32 hW (by omega) (wT0_n T) ?_
  refine g_iconst (pc := 33) C qk_iconst_1 dX8_laid_33 ?_
  refine g_isubE (pc := 34) C (w := qI ((g : Int) - 1)) (by show nI g - nI 1 = _; rw [qI_N, qI_N, qI_sub]; rfl) dX8_laid_34 ?_
  refine g_i2l (pc := 35) C rfl dX8_laid_35 ?_
  refine g_S3v (pc := 36) C ls8_37 dX8_laid_36 (s8_inT (-1) (-1) (qI ((g : Int) - 1)) (by decide) rfl (mLaidA hg)) (by decide) (Nat.le_of_ble_eq_true rfl) ?_
  refine g_if_neN (pc := 39) C 45 dX8_laid_39 (by decide) (by decide) (fun _ => ?_) (fun q => absurd q (by decide))
  refine g_iconst (pc := 45) C qk_iconst_1 dX8_laid_45 ?_
  refine g_istore_n (pc := 46) C rfl dX8_laid_46 ?_
  refine g_iconst (pc := 47) C qk_iconst_0 dX8_laid_47 ?_
  refine g_istore (pc := 48) C rfl dX8_laid_48 ?_
  refine l8_coA h0 hW T hg C (fun v4 v5 v6 => ?_) (g + 1) 0 1 _ _ (by omega) (by omega) (Nat.pow_zero g).symm
  refine g_ldc (pc := 76) C (v := nI 1000000) zk8_217 dX8_laid_76 ?_
  refine g_istore (pc := 78) C rfl dX8_laid_78 ?_
  refine g_iconst (pc := 80) C qk_iconst_0 dX8_laid_80 ?_
  refine g_istore (pc := 81) C rfl dX8_laid_81 ?_
  refine g_iconst (pc := 83) C qk_iconst_0 dX8_laid_83 ?_
  refine g_istore (pc := 84) C rfl dX8_laid_84 ?_
  exact l8_laidA (y := (mG x er pu en at_)) (pa0 := pa) hg hv hM (by omega) hcg.1 hcg.2 hPm hB C F rfl (g ^ g + 1) 0 0 1000000 W _ (by omega) (by omega) h0 hW T rfl rfl (fun q => absurd q (by decide)) rfl
set_option maxHeartbeats 2000000 in
set_option maxRecDepth 20000 in
theorem l8_coS {Γ : q_X} {ad : Nat → Nat} {n : Nat} {h : q_H} {un ta fl st sa ne so di pu at_ er en pa tr g : Nat} {W : Nat → Nat} {x : mX} {M z : Nat} (h0 : h 87 = MO un ta fl st sa ne so di pu at_ er en pa tr) (hW : h 88 = WA W) (T : wT W 0 g x) (hg : 0 < g ∧ g ≤ 6) (C : q_C Γ ad 5 0 0 RX8 yX8_laid cX8_laid 7 (some .int)) (kk : ∀ v4 v5 v6, q_G Γ ad 7 76 [some (.ref 87), some (.int (nI M)), some (.int (nI z)), some (.int (nI (g ^ g))), v4, v5, v6] [] n h 0 0) : ∀ (m i co : Nat) (v5 v6 : Option Value), i + m = g + 1 → i ≤ g → co = g ^ i → q_G Γ ad 7 50 [some (.ref 87), some (.int (nI M)), some (.int (nI z)), some (.int (nI co)), some (.int (nI i)), v5, v6] [] n h 0 0 := by
  intro m
  induction m with
  | zero => intro i co v5 v6 hm hi; omega
  | succ m ih =>
    intro i co v5 v6 hm hi hco
    refine g_iload (pc := 50) C (hl := rfl) dX8_laid_50 ?_
    refine g_aload_n (pc := 52) C (hl := rfl) dX8_laid_52 ?_
    refine g_get (pc := 53) C fl8_7 dX8_laid_53 h0 rfl ?_
    refine g_iconst (pc := 56) C qk_iconst_0 dX8_laid_56 ?_
    refine g_ialdV (pc := 57) C dX8_laid_57 hW (by omega) (wT0_n T) ?_
    refine g_ic_geN (pc := 58) C 76 dX8_laid_58 (by decide) (by omega) (fun c58 => ?_) (fun c58 => ?_)
    · obtain rfl : i = g := by omega
      subst hco
      exact kk _ _ _
    · refine g_iload_n (pc := 61) C (hl := rfl) dX8_laid_61 ?_
      refine g_aload_n (pc := 62) C (hl := rfl) dX8_laid_62 ?_
      refine g_get (pc := 63) C fl8_7 dX8_laid_63 h0 rfl ?_
      refine g_iconst (pc := 66) C qk_iconst_0 dX8_laid_66 ?_
      refine g_ialdV (pc := 67) C dX8_laid_67 hW (by omega) (wT0_n T) ?_
      refine g_imulN (pc := 68) C dX8_laid_68 ?_
      refine g_istore_n (pc := 69) C rfl dX8_laid_69 ?_
      refine g_iincN (pc := 70) C (hl := rfl) (q_inc1 _) rfl dX8_laid_70 ?_
      refine g_goto (pc := 73) C 50 dX8_laid_73 (by decide) ?_
      exact ih (i + 1) _ _ _ (by omega) (by omega) (by rw [hco]; exact (Nat.pow_succ ..).symm)
set_option maxHeartbeats 2000000 in
set_option maxRecDepth 20000 in
theorem s8_laidS {n : Nat} {h : q_H} {un ta fl st sa ne so di pu at_ er en pa tr g : Nat} {W : Nat → Nat} {x : mX} (M z : Nat) (h0 : h 87 = MO un ta fl st sa ne so di pu at_ er en pa tr) (hW : h 88 = WA W) (T : wT W 0 g x) (hv : mW g x) (hm : x.2.2.1 ≤ 999) (hg : 0 < g ∧ g ≤ 6) (hM : 1 ≤ M ∧ M ≤ 20) (hPm : ∀ c, c < g ^ g → (wLb g g c 0 []).1 = 2 ^ g - 1 → mPm g (mOf (wLb g g c 0 []).2)) (hz : z < g) : SP 5 yX8_laid cX8_laid 7 (some .int) [.ref 87, .int (nI M), .int (nI z)] n h (some (.int (nI (mOf (wLb g g (wLd g M x (mG x er pu en at_) pa (g ^ g)).2.1 0 []).2 z)))) (q_up (q_up h 88 (WA (wPut W 1053 g (mLay (mOf (wLb g g (wLd g M x (mG x er pu en at_) pa (g ^ g)).2.1 0 []).2) (wLd g M x (mG x er pu en at_) pa (g ^ g)).2.2.2.1 g, (wLd g M x (mG x er pu en at_) pa (g ^ g)).2.2.2.2)))) 87 (MX un ta fl st sa ne so di (wLd g M x (mG x er pu en at_) pa (g ^ g)).2.2.1 tr (wLd g M x (mG x er pu en at_) pa (g ^ g)).2.2.2)) := by
  refine q_SPi RX8 rfl (by decide +kernel) (la := _) rfl rfl (fun Γ ad C F => ?_)
  have hcg := q_gg g hg
  refine g_aload_n (pc := 0) C (hl := rfl) dX8_laid_0 ?_
  refine g_V0v (pc := 1) C lv8_177 dX8_laid_1 (s8_isNoneT h0 hW (by rw [wT0_n T]; omega)) h0 (by decide) (Nat.le_of_ble_eq_true rfl) ?_
  refine g_if_eqN (pc := 4) C 10 dX8_laid_4 (by decide) (by decide) (fun _ => ?_) (fun q => absurd q (by decide))
  refine g_iload_n (pc := 10) C (hl := rfl) dX8_laid_10 ?_
  refine g_i2l (pc := 11) C rfl dX8_laid_11 ?_
  refine g_lconst (pc := 12) C (v := 1) rfl dX8_laid_12 ?_
  refine g_ldc2 (pc := 13) C zk8_218 dX8_laid_13 ?_
  refine g_S3v (pc := 16) C ls8_37 dX8_laid_16 (s8_inN M 1 20 (by decide) (by decide) hM (by decide)) (by decide) (Nat.le_of_ble_eq_true rfl) ?_
  refine g_if_eqN (pc := 19) C 42 dX8_laid_19 (by decide) (by decide) (fun q => absurd q (by decide)) (fun _ => ?_)
  refine g_iload_n (pc := 22) C (hl := rfl) dX8_laid_22 ?_
  refine g_i2l (pc := 23) C rfl dX8_laid_23 ?_
  refine g_ldc2 (pc := 24) C zk8_220 dX8_laid_24 ?_
  refine g_aload_n (pc := 27) C (hl := rfl) dX8_laid_27 ?_
  refine g_get (pc := 28) C fl8_7 dX8_laid_28 h0 rfl ?_
  refine g_iconst (pc := 31) C qk_iconst_0 dX8_laid_31 ?_
  refine g_ialdV (pc := 32) C dX8_laid_32 hW (by omega) (wT0_n T) ?_
  refine g_iconst (pc := 33) C qk_iconst_1 dX8_laid_33 ?_
  refine g_isubE (pc := 34) C (w := qI ((g : Int) - 1)) (by show nI g - nI 1 = _; rw [qI_N, qI_N, qI_sub]; rfl) dX8_laid_34 ?_
  refine g_i2l (pc := 35) C rfl dX8_laid_35 ?_
  refine g_S3v (pc := 36) C ls8_37 dX8_laid_36 (s8_inT (nI z) (-1) (qI ((g : Int) - 1)) (by decide) rfl (mLaidS hg hz)) (by decide) (Nat.le_of_ble_eq_true rfl) ?_
  refine g_if_neN (pc := 39) C 45 dX8_laid_39 (by decide) (by decide) (fun _ => ?_) (fun q => absurd q (by decide))
  refine g_iconst (pc := 45) C qk_iconst_1 dX8_laid_45 ?_
  refine g_istore_n (pc := 46) C rfl dX8_laid_46 ?_
  refine g_iconst (pc := 47) C qk_iconst_0 dX8_laid_47 ?_
  refine g_istore (pc := 48) C rfl dX8_laid_48 ?_
  refine l8_coS h0 hW T hg C (fun v4 v5 v6 => ?_) (g + 1) 0 1 _ _ (by omega) (by omega) (Nat.pow_zero g).symm
  refine g_ldc (pc := 76) C (v := nI 1000000) zk8_217 dX8_laid_76 ?_
  refine g_istore (pc := 78) C rfl dX8_laid_78 ?_
  refine g_iconst (pc := 80) C qk_iconst_0 dX8_laid_80 ?_
  refine g_istore (pc := 81) C rfl dX8_laid_81 ?_
  refine g_iconst (pc := 83) C qk_iconst_0 dX8_laid_83 ?_
  refine g_istore (pc := 84) C rfl dX8_laid_84 ?_
  exact l8_laidS (y := (mG x er pu en at_)) (pa0 := pa) hg hv hM (by omega) hcg.1 hcg.2 hPm hz C F rfl (g ^ g + 1) 0 0 1000000 W _ (by omega) (by omega) h0 hW T rfl rfl (fun q => absurd q (by decide)) rfl
