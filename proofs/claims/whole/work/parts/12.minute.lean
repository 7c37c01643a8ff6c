theorem g_acopyN {Γ : q_X} {ad : Nat → Nat} {d mc ms : Nat} {own : String} {y : MethodName} {cc : ByteArray} {nL : Nat} {ret : Option FieldType} {pc : Nat} {la : List (Option Value)} {st : List Value} {n : Nat} {h : q_H} {k1 k2 : Nat} (C : q_C Γ ad d mc ms own y cc nL ret) {ix a a0 n0 n1 s0 d0 z : Nat} {f g F : Nat → Int32} (hl : q_LY own ix) (hdg : decode cc pc = .ok (.invokestatic ix, 3)) (h0 : h a0 = .inl (0, n0, f)) (h1 : h a = .inl (0, n1, g)) (hq : s0 + z ≤ n0 ∧ d0 + z ≤ n1 ∧ n0 < 2147483648 ∧ n1 < 2147483648) (hF : ∀ j : Nat, j < n1 → (if d0 ≤ j ∧ j < d0 + z then f (s0 + (j - d0)) else g j) = F j) (hd : 1 ≤ d) (hst : (st.map fun v => v.category).sum ≤ 8) (kk : q_G Γ ad nL (pc + 3) la st n (q_up h a (.inl (0, n1, F))) k1 k2) : q_G Γ ad nL pc la (.int (nI z) :: .int (nI d0) :: .ref a :: .int (nI s0) :: .ref a0 :: st) n h k1 k2 := by
  have e1 := nI_clamp (n := s0) (by omega)
  have e2 := nI_clamp (n := d0) (by omega)
  have e3 := nI_clamp (n := z) (by omega)
  refine g_acopy C hl hdg h0 h1 (nI_pos (by omega)) (nI_pos (by omega)) (nI_pos (by omega)) (by rw [e1, e3]; omega) (by rw [e2, e3]; omega) (fun j hj => ?_) hd hst kk
  rw [e1, e2, e3]
  exact hF j hj
theorem q_abs {z : Int} (h1 : -2147483648 < z) (h2 : z < 2147483648) : (if 0 ≤ qI z then qI z else 0 - qI z) = nI z.natAbs := by
  have e : (0 : Int32) = qI 0 := qI_0.symm
  by_cases h : 0 ≤ z
  · rw [if_pos (by rw [e]; exact (qI_le (by omega) (by omega) (by omega) (by omega)).mpr h), qI_N]
    congr 1; omega
  · rw [if_neg (by rw [e]; exact fun q => h ((qI_le (by omega) (by omega) (by omega) (by omega)).mp q)), qI_N, e, qI_sub]
    congr 1; omega
theorem q_subneg {a b : Nat} (hb : b ≤ a) : nI a + -nI b = nI (a - b) := by
  rw [qI_N, qI_N, qI_N, qI_neg, qI_add]
  congr 1; omega
def mV (f : Nat → Nat) (g tu mi : Nat) : Prop := (0 < g ∧ g ≤ 6 ∧ tu < g) ∧ (∀ i, i < g → f (12 + i) < g ∧ f (36 + i) < g ∧ f (30 + i) < g ∧ f (42 + i) < g ∧ f (36 + f (12 + i)) = i ∧ f (12 + f (36 + i)) = i ∧ f (42 + f (30 + i)) = i ∧ f (30 + f (42 + i)) = i ∧ 0 < f (0 + i)) ∧ (∀ i, i < 6 → f (0 + i) < 6 ∧ f (6 + i) < 6 ∧ f (18 + i) ≤ 2 * mi ∧ f (24 + i) ≤ 99 ∧ f (12 + i) < 6 ∧ f (30 + i) < 6)
/-- one minute: who is on, how much he pushes, the turn, the dish before him, the bite, the cells -/
def mOn (f : Nat → Nat) (g mi : Nat) : Nat := f (36 + mi % g)
def mZ (f : Nat → Nat) (g tu mi : Nat) : Int := mPush f g tu (mOn f g mi)
def mTu (f : Nat → Nat) (g tu mi : Nat) : Nat := mTurn g tu (mZ f g tu mi)
def mE (f : Nat → Nat) (g tu mi : Nat) : Nat := mDish f g (mTu f g tu mi) (mOn f g mi)
def mB (f : Nat → Nat) (g tu mi : Nat) : Nat := mBite f (mOn f g mi) (mE f g tu mi)
def mF (f : Nat → Nat) (g tu mi : Nat) : Nat → Nat := va_up (va_up f (24 + mE f g tu mi) (f (24 + mE f g tu mi) - mB f g tu mi)) (18 + mOn f g mi) (f (18 + mOn f g mi) + mB f g tu mi)
theorem mBite_le (f : Nat → Nat) (j k : Nat) : mBite f j k ≤ f (24 + k) ∧ mBite f j k ≤ 2 := by
  unfold mBite
  split
  · omega
  · split <;> omega
theorem mOn_lt {f : Nat → Nat} {g tu mi : Nat} (hv : mV f g tu mi) : mOn f g mi < g := (hv.2.1 _ (Nat.mod_lt _ hv.1.1)).2.1
theorem mE_lt {f : Nat → Nat} {g tu mi : Nat} (hv : mV f g tu mi) : mE f g tu mi < g := (hv.2.1 _ (Nat.mod_lt _ hv.1.1)).2.2.2.1
theorem va_up_n {f : Nat → Nat} {a b x : Nat} (h : b ≠ a) : va_up f a x b = f b := if_neg h

set_option maxHeartbeats 2000000 in
set_option maxRecDepth 20000 in
theorem s4_become {n : Nat} {h : q_H} {t c g tu mi o p e b : Nat} {f : Nat → Nat} {u cu g2 tu2 mi2 o2 p2 e2 b2 : Nat} {K : Nat → Nat} (ht : h t = TO c g tu mi o p e b) (hc : h c = TA f) (hu : h u = TO cu g2 tu2 mi2 o2 p2 e2 b2) (hcu : h cu = TA K) (hn3 : u ≠ t) : SP 1 yX4_become cX4_become 2 none [.ref t, .ref u] n h none (q_up (q_up h c (TA K)) t (TO c g2 tu2 mi2 o p e b)) := by
  have hne : t ≠ c := fun q => by rw [q, hc] at ht; cases ht
  have hn2 : u ≠ c := fun q => by rw [q, hc] at hu; cases hu
  refine q_SPi RX4 rfl (by decide +kernel) (la := _) rfl rfl (fun Γ ad C F => ?_)
  refine g_aload_n (pc := 0) C (hl := rfl) dX4_become_0 ?_
  refine g_ifnull (pc := 1) C dX4_become_1 ?_
  refine g_aload_n (pc := 4) C (hl := rfl) dX4_become_4 ?_
  refine g_get (pc := 5) C fl4_11 dX4_become_5 hu rfl ?_
  refine g_alenN (pc := 8) C dX4_become_8 hcu ?_
  refine g_aload_n (pc := 9) C (hl := rfl) dX4_become_9 ?_
  refine g_get (pc := 10) C fl4_11 dX4_become_10 ht rfl ?_
  refine g_alenN (pc := 13) C dX4_become_13 hc ?_
  refine g_ic_eqN (pc := 14) C 18 dX4_become_14 (by decide) (by omega) (fun _ => ?_) (fun q => absurd (rfl) q)
  refine g_aload_n (pc := 18) C (hl := rfl) dX4_become_18 ?_
  refine g_get (pc := 19) C fl4_11 dX4_become_19 hu rfl ?_
  refine g_iconst (pc := 22) C qk_iconst_0 dX4_become_22 ?_
  refine g_aload_n (pc := 23) C (hl := rfl) dX4_become_23 ?_
  refine g_get (pc := 24) C fl4_11 dX4_become_24 ht rfl ?_
  refine g_iconst (pc := 27) C qk_iconst_0 dX4_become_27 ?_
  refine g_aload_n (pc := 28) C (hl := rfl) dX4_become_28 ?_
  refine g_get (pc := 29) C fl4_11 dX4_become_29 ht rfl ?_
  refine g_alenN (pc := 32) C dX4_become_32 hc ?_
  refine g_acopyN (pc := 33) C ly4_33 dX4_become_33 hcu hc (F := qN K) (by omega) (fun j hj => by rw [if_pos (by omega), Nat.zero_add, Nat.sub_zero]) (by decide) (Nat.le_of_ble_eq_true rfl) ?_
  refine g_aload_n (pc := 36) C (hl := rfl) dX4_become_36 ?_
  refine g_aload_n (pc := 37) C (hl := rfl) dX4_become_37 ?_
  refine g_get (pc := 38) C fl4_23 dX4_become_38 ((q_up_n _ _ hn2).trans hu) rfl ?_
  refine g_put (pc := 41) C fp4_23 dX4_become_41 ((q_up_n _ _ hne).trans ht) (Nat.le_of_ble_eq_true rfl) ?_
  refine g_aload_n (pc := 44) C (hl := rfl) dX4_become_44 ?_
  refine g_aload_n (pc := 45) C (hl := rfl) dX4_become_45 ?_
  refine g_get (pc := 46) C fl4_27 dX4_become_46 ((q_up_n _ _ hn3).trans ((q_up_n _ _ hn2).trans hu)) rfl ?_
  refine g_put (pc := 49) C fp4_27 dX4_become_49 (q_up_s _ _ _) (Nat.le_of_ble_eq_true rfl) ?_
  refine g_aload_n (pc := 52) C (hl := rfl) dX4_become_52 ?_
  refine g_aload_n (pc := 53) C (hl := rfl) dX4_become_53 ?_
  refine g_get (pc := 54) C fl4_30 dX4_become_54 ((q_up_n _ _ hn3).trans ((q_up_n _ _ hn3).trans ((q_up_n _ _ hn2).trans hu))) rfl ?_
  refine g_put (pc := 57) C fp4_30 dX4_become_57 (q_up_s _ _ _) (Nat.le_of_ble_eq_true rfl) ?_
  exact g_vret (pc := 60) C F dX4_become_60 rfl rfl (by simp only [q_up_u]; rfl)
set_option maxHeartbeats 2000000 in
set_option maxRecDepth 20000 in
theorem s4_passMinute {n : Nat} {h : q_H} {t c g tu mi o p e b : Nat} {f : Nat → Nat} (ht : h t = TO c g tu mi o p e b) (hc : h c = TA f) (hv : mV f g tu mi) (hm : mi < 1000000) : SP 3 yX4_passMinute cX4_passMinute 2 none [.ref t] n h none (q_up (q_up h c (TA (mF f g tu mi))) t (TO c g (mTu f g tu mi) (mi + 1) (mOn f g mi) (mZ f g tu mi).natAbs (mE f g tu mi) (mB f g tu mi))) := by
  have hne : t ≠ c := fun q => by rw [q, hc] at ht; cases ht
  refine q_SPi RX4 rfl (by decide +kernel) (la := _) rfl rfl (fun Γ ad C F => ?_)
  obtain ⟨⟨v1, v2, v3⟩, v4, v5⟩ := id hv
  have ho := mOn_lt hv
  have hz := mPush_b f g tu (mOn f g mi) v1
  have hz1 := hz.1
  have hz2 := hz.2
  have hzl : -1000000 < mPush f g tu (mOn f g mi) := by omega
  have hzu : mPush f g tu (mOn f g mi) < 1000000 := by omega
  have ht1 : mTu f g tu mi < g := mTurn_lt g tu (mZ f g tu mi) v1
  have he := mE_lt hv
  have w5 := v5 (mOn f g mi) (by omega)
  have w6 := v5 (f (6 + mOn f g mi)) (by omega)
  have w7 := v5 (mE f g tu mi) (by omega)
  have hb := mBite_le f (mOn f g mi) (mE f g tu mi)
  have hb1 : mB f g tu mi ≤ f (24 + mE f g tu mi) := hb.1
  have hdd : (f (12 + mOn f g mi) + mTu f g tu mi) % g < 6 := Nat.lt_of_lt_of_le (Nat.mod_lt _ v1) v2
  have hmg : mi % g < 6 := Nat.lt_of_lt_of_le (Nat.mod_lt _ v1) v2
  refine g_aload_n (pc := 0) C (hl := rfl) dX4_passMinute_0 ?_
  refine g_aload_n (pc := 1) C (hl := rfl) dX4_passMinute_1 ?_
  refine g_bipush (pc := 2) C qk_bipush_6 dX4_passMinute_2 ?_
  refine g_aload_n (pc := 4) C (hl := rfl) dX4_passMinute_4 ?_
  refine g_get (pc := 5) C fl4_30 dX4_passMinute_5 ht rfl ?_
  refine g_aload_n (pc := 8) C (hl := rfl) dX4_passMinute_8 ?_
  refine g_get (pc := 9) C fl4_23 dX4_passMinute_9 ht rfl ?_
  refine g_S2v (pc := 12) C ls4_43 dX4_passMinute_12 (s7_leftOverN _ _ (by omega) (by omega)) (by decide) (Nat.le_of_ble_eq_true rfl) ?_
  refine g_V2v (pc := 15) C lv4_15 dX4_passMinute_15 (s4_of6 _ ht hc (by exact hmg)) ht (by decide) (Nat.le_of_ble_eq_true rfl) ?_
  refine g_put (pc := 18) C fp4_46 dX4_passMinute_18 ht (Nat.le_of_ble_eq_true rfl) ?_
  refine g_aload_n (pc := 21) C (hl := rfl) dX4_passMinute_21 ?_
  refine g_aload_n (pc := 22) C (hl := rfl) dX4_passMinute_22 ?_
  refine g_get (pc := 23) C fl4_46 dX4_passMinute_23 (q_up_s _ _ _) rfl ?_
  refine g_V1v (pc := 26) C lv4_49 dX4_passMinute_26 (s4_pushBy _ (q_up_s _ _ _) ((q_up_n _ _ (Ne.symm hne)).trans hc) (by exact ⟨v1, by omega, by omega, by exact Nat.lt_of_lt_of_le ho v2, w5.1, w5.2.1, by exact Nat.lt_of_lt_of_le w5.2.2.2.2.1 (by omega), by exact Nat.lt_of_lt_of_le w6.2.2.2.2.2 (by omega), by exact Nat.lt_of_le_of_lt w6.2.2.2.1 (by omega)⟩)) (q_up_s _ _ _) (by decide) (Nat.le_of_ble_eq_true rfl) ?_
  refine g_istore_n (pc := 29) C rfl dX4_passMinute_29 ?_
  refine g_aload_n (pc := 30) C (hl := rfl) dX4_passMinute_30 ?_
  refine g_iload_n (pc := 31) C (hl := rfl) dX4_passMinute_31 ?_
  refine g_absE (pc := 32) C (w := nI (mZ f g tu mi).natAbs) (q_abs (by show _ < mPush f g tu (mOn f g mi); omega) (by show mPush f g tu (mOn f g mi) < _; omega)) lm4_53 dX4_passMinute_32 (by decide) (Nat.le_of_ble_eq_true rfl) ⟨Nat.zero_le _, Nat.zero_le _⟩ ?_
  refine g_put (pc := 35) C fp4_58 dX4_passMinute_35 (q_up_s _ _ _) (Nat.le_of_ble_eq_true rfl) ?_
  refine g_aload_n (pc := 38) C (hl := rfl) dX4_passMinute_38 ?_
  refine g_iload_n (pc := 39) C (hl := rfl) dX4_passMinute_39 ?_
  refine g_V1u (pc := 40) C lv4_61 dX4_passMinute_40 (s4_turnLeft _ (q_up_s _ _ _) (by exact ⟨v1, by omega, by omega, hzl, hzu⟩)) (q_up_s _ _ _) (by decide) (Nat.le_of_ble_eq_true rfl) ?_
  refine g_aload_n (pc := 43) C (hl := rfl) dX4_passMinute_43 ?_
  refine g_aload_n (pc := 44) C (hl := rfl) dX4_passMinute_44 ?_
  refine g_aload_n (pc := 45) C (hl := rfl) dX4_passMinute_45 ?_
  refine g_get (pc := 46) C fl4_46 dX4_passMinute_46 (q_up_s _ _ _) rfl ?_
  refine g_V1v (pc := 49) C lv4_65 dX4_passMinute_49 (s4_dishBefore _ (q_up_s _ _ _) ((q_up_n _ _ (Ne.symm hne)).trans ((q_up_n _ _ (Ne.symm hne)).trans ((q_up_n _ _ (Ne.symm hne)).trans hc))) (by exact ⟨v1, by omega, by show mTu f g tu mi < _; omega, by exact Nat.lt_of_lt_of_le ho v2, w5.2.2.2.2.1⟩) (by exact hdd)) (q_up_s _ _ _) (by decide) (Nat.le_of_ble_eq_true rfl) ?_
  refine g_put (pc := 52) C fp4_68 dX4_passMinute_52 (q_up_s _ _ _) (Nat.le_of_ble_eq_true rfl) ?_
  refine g_aload_n (pc := 55) C (hl := rfl) dX4_passMinute_55 ?_
  refine g_aload_n (pc := 56) C (hl := rfl) dX4_passMinute_56 ?_
  refine g_aload_n (pc := 57) C (hl := rfl) dX4_passMinute_57 ?_
  refine g_get (pc := 58) C fl4_46 dX4_passMinute_58 (q_up_s _ _ _) rfl ?_
  refine g_aload_n (pc := 61) C (hl := rfl) dX4_passMinute_61 ?_
  refine g_get (pc := 62) C fl4_68 dX4_passMinute_62 (q_up_s _ _ _) rfl ?_
  refine g_V2v (pc := 65) C lv4_71 dX4_passMinute_65 (s4_biteOf _ _ (q_up_s _ _ _) ((q_up_n _ _ (Ne.symm hne)).trans ((q_up_n _ _ (Ne.symm hne)).trans ((q_up_n _ _ (Ne.symm hne)).trans ((q_up_n _ _ (Ne.symm hne)).trans hc)))) (by exact ⟨by exact Nat.lt_of_lt_of_le ho v2, by exact Nat.lt_of_lt_of_le he v2, w5.1, w5.2.1, by exact Nat.lt_of_le_of_lt w7.2.2.2.1 (by omega)⟩)) (q_up_s _ _ _) (by decide) (Nat.le_of_ble_eq_true rfl) ?_
  refine g_put (pc := 68) C fp4_74 dX4_passMinute_68 (q_up_s _ _ _) (Nat.le_of_ble_eq_true rfl) ?_
  refine g_aload_n (pc := 71) C (hl := rfl) dX4_passMinute_71 ?_
  refine g_iconst (pc := 72) C qk_iconst_4 dX4_passMinute_72 ?_
  refine g_aload_n (pc := 73) C (hl := rfl) dX4_passMinute_73 ?_
  refine g_get (pc := 74) C fl4_68 dX4_passMinute_74 (q_up_s _ _ _) rfl ?_
  refine g_aload_n (pc := 77) C (hl := rfl) dX4_passMinute_77 ?_
  refine g_get (pc := 78) C fl4_74 dX4_passMinute_78 (q_up_s _ _ _) rfl ?_
  refine g_ineg (pc := 81) C dX4_passMinute_81 ?_
  refine g_V3u (pc := 82) C lv4_77 dX4_passMinute_82 (s4_add4 _ _ _ (q_up_s _ _ _) ((q_up_n _ _ (Ne.symm hne)).trans ((q_up_n _ _ (Ne.symm hne)).trans ((q_up_n _ _ (Ne.symm hne)).trans ((q_up_n _ _ (Ne.symm hne)).trans ((q_up_n _ _ (Ne.symm hne)).trans hc))))) (by exact Nat.lt_of_lt_of_le he v2) (q_subneg hb1)) (q_up_s _ _ _) (by decide) (Nat.le_of_ble_eq_true rfl) ?_
  refine g_aload_n (pc := 85) C (hl := rfl) dX4_passMinute_85 ?_
  refine g_iconst (pc := 86) C qk_iconst_3 dX4_passMinute_86 ?_
  refine g_aload_n (pc := 87) C (hl := rfl) dX4_passMinute_87 ?_
  refine g_get (pc := 88) C fl4_46 dX4_passMinute_88 ((q_up_n _ _ hne).trans (q_up_s _ _ _)) rfl ?_
  refine g_aload_n (pc := 91) C (hl := rfl) dX4_passMinute_91 ?_
  refine g_get (pc := 92) C fl4_74 dX4_passMinute_92 ((q_up_n _ _ hne).trans (q_up_s _ _ _)) rfl ?_
  refine g_V3u (pc := 95) C lv4_77 dX4_passMinute_95 (s4_add3 _ _ _ ((q_up_n _ _ hne).trans (q_up_s _ _ _)) (q_up_s _ _ _) (by exact Nat.lt_of_lt_of_le ho v2) (by show nI (va_up f (24 + mE f g tu mi) _ (18 + mOn f g mi)) + nI (mB f g tu mi) = nI (f (18 + mOn f g mi) + mB f g tu mi); rw [va_up_n (by have := Nat.lt_of_lt_of_le ho v2; omega), nI_add])) ((q_up_n _ _ hne).trans (q_up_s _ _ _)) (by decide) (Nat.le_of_ble_eq_true rfl) ?_
  refine g_aload_n (pc := 98) C (hl := rfl) dX4_passMinute_98 ?_
  refine g_dup (pc := 99) C rfl dX4_passMinute_99 ?_
  refine g_get (pc := 100) C fl4_30 dX4_passMinute_100 ((q_up_n _ _ hne).trans ((q_up_n _ _ hne).trans (q_up_s _ _ _))) rfl ?_
  refine g_iconst (pc := 103) C qk_iconst_1 dX4_passMinute_103 ?_
  refine g_iaddN (pc := 104) C dX4_passMinute_104 ?_
  refine g_put (pc := 105) C fp4_30 dX4_passMinute_105 ((q_up_n _ _ hne).trans ((q_up_n _ _ hne).trans (q_up_s _ _ _))) (Nat.le_of_ble_eq_true rfl) ?_
  exact g_vret (pc := 108) C F dX4_passMinute_108 rfl rfl (by simp only [q_up_u, q_up_c _ hne]; rfl)
