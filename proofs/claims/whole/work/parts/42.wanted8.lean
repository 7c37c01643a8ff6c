theorem g_ishlE {Γ : q_X} {ad : Nat → Nat} {d mc ms : Nat} {own : String} {y : MethodName} {cc : ByteArray} {nL : Nat} {ret : Option FieldType} {pc : Nat} {la : List (Option Value)} {st : List Value} {n : Nat} {h : q_H} {k1 k2 : Nat} (C : q_C Γ ad d mc ms own y cc nL ret) {x z w : Int32} (hw : x <<< (z &&& 31) = w) (hdg : decode cc pc = .ok (.ishl, 1)) (kk : q_G Γ ad nL (pc + 1) la (.int w :: st) n h k1 k2) : q_G Γ ad nL pc la (.int z :: .int x :: st) n h k1 k2 := g_ishl C hdg (by rw [hw]; exact kk)
def wIt (I : Nat → Int32) (r : Nat) : Nat → Int32 := fun q => I (40 * r + q)
set_option maxHeartbeats 2000000 in
set_option maxRecDepth 20000 in
theorem s8_wantedB {n : Nat} {h : q_H} {un ta fl st sa ne so di pu at_ er en pa tr g : Nat} {W : Nat → Nat} {x : mX} {L I : Nat → Int32} {Z : Nat → Nat} (y z q p : Int32) (h0 : h 87 = MO un ta fl st sa ne so di pu at_ er en pa tr) (hW : h 88 = WA W) (T : wT W 0 g x) (hL : h 90 = .inl (0, 8, L)) (hZ : h 91 = .inl (0, 8, qN Z)) (hI : h 92 = .inl (0, 320, I)) (hg : g ≤ 6) (hb : (q < 0 ∨ nI 8 ≤ q) ∨ (y < 0 ∨ nI g ≤ y) ∨ (z < nI 0 ∨ nI 99 < z)) : SP 5 yX8_wanted cX8_wanted 9 (some .int) [.ref 87, .int y, .int z, .int q, .int p] n h (some (.int (-1000001))) h := by
  refine q_SPi RX8 rfl (by decide +kernel) (la := _) rfl rfl (fun Γ ad C F => ?_)
  have hg0 : W 0 = g ∧ g ≤ 6 := ⟨wT0_n T, hg⟩
  refine g_iload_n (pc := 0) C (hl := rfl) dX8_wanted_0 ?_
  by_cases cq : q < 0 ∨ nI 8 ≤ q
  · refine g_S1v (pc := 1) C ls8_46 dX8_wanted_1 (s8_rowF q cq) (by decide) (Nat.le_of_ble_eq_true rfl) ?_
    refine g_if_eqN (pc := 4) C 22 dX8_wanted_4 (by decide) (by decide) (fun _ => ?_) (fun q => absurd q (by decide))
    refine g_ldc (pc := 22) C (v := -1000001) zk8_52 dX8_wanted_22 ?_
    exact g_iret (pc := 24) C F dX8_wanted_24 rfl rfl (rfl) (rfl)
  · refine g_S1v (pc := 1) C ls8_46 dX8_wanted_1 (s8_rowU q cq) (by decide) (Nat.le_of_ble_eq_true rfl) ?_
    refine g_if_eqN (pc := 4) C 22 dX8_wanted_4 (by decide) (by decide) (fun q => absurd q (by decide)) (fun _ => ?_)
    refine g_iload_n (pc := 7) C (hl := rfl) dX8_wanted_7 ?_
    by_cases cz : z < nI 0 ∨ nI 99 < z
    · refine g_S1v (pc := 8) C ls8_210 dX8_wanted_8 (s8_laterF z cz) (by decide) (Nat.le_of_ble_eq_true rfl) ?_
      refine g_if_eqN (pc := 11) C 22 dX8_wanted_11 (by decide) (by decide) (fun _ => ?_) (fun q => absurd q (by decide))
      refine g_ldc (pc := 22) C (v := -1000001) zk8_52 dX8_wanted_22 ?_
      exact g_iret (pc := 24) C F dX8_wanted_24 rfl rfl (rfl) (rfl)
    · refine g_S1v (pc := 8) C ls8_210 dX8_wanted_8 (s8_laterU z cz) (by decide) (Nat.le_of_ble_eq_true rfl) ?_
      refine g_if_eqN (pc := 11) C 22 dX8_wanted_11 (by decide) (by decide) (fun q => absurd q (by decide)) (fun _ => ?_)
      refine g_aload_n (pc := 14) C (hl := rfl) dX8_wanted_14 ?_
      refine g_iload_n (pc := 15) C (hl := rfl) dX8_wanted_15 ?_
      by_cases cy : y < 0 ∨ nI g ≤ y
      · refine g_V1v (pc := 16) C lv8_194 dX8_wanted_16 (s8_oneF y h0 hW hg0 cy) h0 (by decide) (Nat.le_of_ble_eq_true rfl) ?_
        refine g_if_neN (pc := 19) C 25 dX8_wanted_19 (by decide) (by decide) (fun q => absurd q (by decide)) (fun _ => ?_)
        refine g_ldc (pc := 22) C (v := -1000001) zk8_52 dX8_wanted_22 ?_
        exact g_iret (pc := 24) C F dX8_wanted_24 rfl rfl (rfl) (rfl)
      · refine g_V1v (pc := 16) C lv8_194 dX8_wanted_16 (s8_oneU y h0 hW hg0 cy) h0 (by decide) (Nat.le_of_ble_eq_true rfl) ?_
        refine g_if_neN (pc := 19) C 25 dX8_wanted_19 (by decide) (by decide) (fun _ => ?_) (fun q => absurd q (by decide))
        exact absurd hb (fun t => t.elim cq (fun t => t.elim cy cz))
set_option maxHeartbeats 2000000 in
set_option maxRecDepth 20000 in
theorem s8_wantedM {n : Nat} {h : q_H} {un ta fl st sa ne so di pu at_ er en pa tr g : Nat} {W : Nat → Nat} {x : mX} {L I : Nat → Int32} {Z : Nat → Nat} (j N r : Nat) (p : Int32) (h0 : h 87 = MO un ta fl st sa ne so di pu at_ er en pa tr) (hW : h 88 = WA W) (T : wT W 0 g x) (hL : h 90 = .inl (0, 8, L)) (hZ : h 91 = .inl (0, 8, qN Z)) (hI : h 92 = .inl (0, 320, I)) (hg : 0 < g ∧ g ≤ 6) (hj : j < g) (hN : N ≤ 99) (hr : r < 8) (hm : L r = -1) : SP 5 yX8_wanted cX8_wanted 9 (some .int) [.ref 87, .int (nI j), .int (nI N), .int (nI r), .int p] n h (some (.int (-1000010 - nI 1))) (q_up h 87 (MO un ta fl 1 sa ne so di pu at_ er en pa tr)) := by
  refine q_SPi RX8 rfl (by decide +kernel) (la := _) rfl rfl (fun Γ ad C F => ?_)
  have hg0 : W 0 = g ∧ g ≤ 6 := ⟨wT0_n T, hg.2⟩
  refine g_iload_n (pc := 0) C (hl := rfl) dX8_wanted_0 ?_
  refine g_S1v (pc := 1) C ls8_46 dX8_wanted_1 (s8_rowN r hr) (by decide) (Nat.le_of_ble_eq_true rfl) ?_
  refine g_if_eqN (pc := 4) C 22 dX8_wanted_4 (by decide) (by decide) (fun q => absurd q (by decide)) (fun _ => ?_)
  refine g_iload_n (pc := 7) C (hl := rfl) dX8_wanted_7 ?_
  refine g_S1v (pc := 8) C ls8_210 dX8_wanted_8 (s8_laterN N hN) (by decide) (Nat.le_of_ble_eq_true rfl) ?_
  refine g_if_eqN (pc := 11) C 22 dX8_wanted_11 (by decide) (by decide) (fun q => absurd q (by decide)) (fun _ => ?_)
  refine g_aload_n (pc := 14) C (hl := rfl) dX8_wanted_14 ?_
  refine g_iload_n (pc := 15) C (hl := rfl) dX8_wanted_15 ?_
  refine g_V1v (pc := 16) C lv8_194 dX8_wanted_16 (s8_oneN j h0 hW hg0 hj) h0 (by decide) (Nat.le_of_ble_eq_true rfl) ?_
  refine g_if_neN (pc := 19) C 25 dX8_wanted_19 (by decide) (by decide) (fun _ => ?_) (fun q => absurd q (by decide))
  refine g_aload_n (pc := 25) C (hl := rfl) dX8_wanted_25 ?_
  refine g_get (pc := 26) C fl8_16 dX8_wanted_26 h0 rfl ?_
  refine g_iload_n (pc := 29) C (hl := rfl) dX8_wanted_29 ?_
  refine g_ialdW (pc := 30) C dX8_wanted_30 hL (by omega) hm ?_
  refine g_if_ge (pc := 31) C 40 dX8_wanted_31 (by decide) (fun q => absurd q (by decide)) (fun _ => ?_)
  refine g_aload_n (pc := 34) C (hl := rfl) dX8_wanted_34 ?_
  refine g_iconst (pc := 35) C qk_iconst_1 dX8_wanted_35 ?_
  refine g_V1v (pc := 36) C lv8_53 dX8_wanted_36 (s8_found _ h0) h0 (by decide) (Nat.le_of_ble_eq_true rfl) ?_
  exact g_iret (pc := 39) C F dX8_wanted_39 rfl rfl (rfl) (rfl)
set_option maxHeartbeats 2000000 in
set_option maxRecDepth 20000 in
theorem s8_wantedP {n : Nat} {h : q_H} {un ta fl st sa ne so di pu at_ er en pa tr g : Nat} {W : Nat → Nat} {x : mX} {L I : Nat → Int32} {Z : Nat → Nat} (j N r : Nat) (i : Int32) (h0 : h 87 = MO un ta fl st sa ne so di pu at_ er en pa tr) (hW : h 88 = WA W) (T : wT W 0 g x) (hL : h 90 = .inl (0, 8, L)) (hZ : h 91 = .inl (0, 8, qN Z)) (hI : h 92 = .inl (0, 320, I)) (hg : 0 < g ∧ g ≤ 6) (hj : j < g) (hN : N ≤ 99) (hr : r < 8) {l : Nat} (hm : L r = nI l) (hl : l < 3) (hz : Z r ≤ 40) (hno : (∀ p q : Nat, i = nI p → nI g = nI q → p < 2147483648 → q < 2147483648 → ¬ p + q ≤ Z r)) : SP 5 yX8_wanted cX8_wanted 9 (some .int) [.ref 87, .int (nI j), .int (nI N), .int (nI r), .int i] n h (some (.int (-1000010 - nI 2))) (q_up h 87 (MO un ta fl 2 sa ne so di pu at_ er en pa tr)) := by
  refine q_SPi RX8 rfl (by decide +kernel) (la := _) rfl rfl (fun Γ ad C F => ?_)
  have hg0 : W 0 = g ∧ g ≤ 6 := ⟨wT0_n T, hg.2⟩
  refine g_iload_n (pc := 0) C (hl := rfl) dX8_wanted_0 ?_
  refine g_S1v (pc := 1) C ls8_46 dX8_wanted_1 (s8_rowN r hr) (by decide) (Nat.le_of_ble_eq_true rfl) ?_
  refine g_if_eqN (pc := 4) C 22 dX8_wanted_4 (by decide) (by decide) (fun q => absurd q (by decide)) (fun _ => ?_)
  refine g_iload_n (pc := 7) C (hl := rfl) dX8_wanted_7 ?_
  refine g_S1v (pc := 8) C ls8_210 dX8_wanted_8 (s8_laterN N hN) (by decide) (Nat.le_of_ble_eq_true rfl) ?_
  refine g_if_eqN (pc := 11) C 22 dX8_wanted_11 (by decide) (by decide) (fun q => absurd q (by decide)) (fun _ => ?_)
  refine g_aload_n (pc := 14) C (hl := rfl) dX8_wanted_14 ?_
  refine g_iload_n (pc := 15) C (hl := rfl) dX8_wanted_15 ?_
  refine g_V1v (pc := 16) C lv8_194 dX8_wanted_16 (s8_oneN j h0 hW hg0 hj) h0 (by decide) (Nat.le_of_ble_eq_true rfl) ?_
  refine g_if_neN (pc := 19) C 25 dX8_wanted_19 (by decide) (by decide) (fun _ => ?_) (fun q => absurd q (by decide))
  refine g_aload_n (pc := 25) C (hl := rfl) dX8_wanted_25 ?_
  refine g_get (pc := 26) C fl8_16 dX8_wanted_26 h0 rfl ?_
  refine g_iload_n (pc := 29) C (hl := rfl) dX8_wanted_29 ?_
  refine g_ialdW (pc := 30) C dX8_wanted_30 hL (by omega) hm ?_
  refine g_if_geN (pc := 31) C 40 dX8_wanted_31 (by decide) (by omega) ?_
  refine g_iload (pc := 40) C (hl := rfl) dX8_wanted_40 ?_
  refine g_aload_n (pc := 42) C (hl := rfl) dX8_wanted_42 ?_
  refine g_get (pc := 43) C fl8_7 dX8_wanted_43 h0 rfl ?_
  refine g_iconst (pc := 46) C qk_iconst_0 dX8_wanted_46 ?_
  refine g_ialdV (pc := 47) C dX8_wanted_47 hW (by omega) (wT0_n T) ?_
  refine g_aload_n (pc := 48) C (hl := rfl) dX8_wanted_48 ?_
  refine g_get (pc := 49) C fl8_19 dX8_wanted_49 h0 rfl ?_
  refine g_iload_n (pc := 52) C (hl := rfl) dX8_wanted_52 ?_
  refine g_ialdN (pc := 53) C dX8_wanted_53 hZ (by omega) ?_
  refine g_S3v (pc := 54) C ls8_60 dX8_wanted_54 (s8_partN _ _ _ hno (by omega)) (by decide) (Nat.le_of_ble_eq_true rfl) ?_
  refine g_if_neN (pc := 57) C 66 dX8_wanted_57 (by decide) (by decide) (fun q => absurd q (by decide)) (fun _ => ?_)
  refine g_aload_n (pc := 60) C (hl := rfl) dX8_wanted_60 ?_
  refine g_iconst (pc := 61) C qk_iconst_2 dX8_wanted_61 ?_
  refine g_V1v (pc := 62) C lv8_53 dX8_wanted_62 (s8_found _ h0) h0 (by decide) (Nat.le_of_ble_eq_true rfl) ?_
  exact g_iret (pc := 65) C F dX8_wanted_65 rfl rfl (rfl) (rfl)
set_option maxHeartbeats 2000000 in
set_option maxRecDepth 20000 in
theorem l8_wi {Γ : q_X} {ad : Nat → Nat} {n : Nat} {h : q_H} {un ta fl st sa ne so di pu at_ er en pa tr g j N r p S d : Nat} {W : Nat → Nat} {x y : mX} {I : Nat → Int32} (h0 : h 87 = MO un ta fl st sa ne so di pu at_ er en pa tr) (hW : h 88 = WA W) (T0 : wT W 0 g x) (T3 : wT W 1053 g y) (hI : h 92 = .inl (0, 320, I)) (hg : g ≤ 6) (hr : r < 8 ∧ p + g ≤ 40) (C : q_C Γ ad 5 0 0 RX8 yX8_wanted cX8_wanted 9 (some .int)) (kk : q_G Γ ad 9 172 [some (.ref 87), some (.int (nI j)), some (.int (nI N)), some (.int (nI r)), some (.int (nI p)), some (.int (nI S)), some (.int (nI d)), some (.int (nI (mQ (∀ k, k < g → wIt I r (p + k) = nI (y.1 (24 + k)))))), some (.int (nI g))] [] n h 0 0) : ∀ (m i a : Nat), i + m = g + 1 → i ≤ g → a = mQ (∀ k, k < i → wIt I r (p + k) = nI (y.1 (24 + k))) → q_G Γ ad 9 114 [some (.ref 87), some (.int (nI j)), some (.int (nI N)), some (.int (nI r)), some (.int (nI p)), some (.int (nI S)), some (.int (nI d)), some (.int (nI a)), some (.int (nI i))] [] n h 0 0 := by
  intro m
  induction m with
  | zero => intro i a hm hi; omega
  | succ m ih =>
    intro i a hm hi ha
    refine g_iload (pc := 114) C (hl := rfl) dX8_wanted_114 ?_
    refine g_aload_n (pc := 116) C (hl := rfl) dX8_wanted_116 ?_
    refine g_get (pc := 117) C fl8_7 dX8_wanted_117 h0 rfl ?_
    refine g_iconst (pc := 120) C qk_iconst_0 dX8_wanted_120 ?_
    refine g_ialdV (pc := 121) C dX8_wanted_121 hW (by omega) (wT0_n T0) ?_
    refine g_ic_geN (pc := 122) C 172 dX8_wanted_122 (by decide) (by omega) (fun c122 => ?_) (fun c122 => ?_)
    · obtain rfl : i = g := by omega
      subst ha
      exact kk
    · refine g_iload (pc := 125) C (hl := rfl) dX8_wanted_125 ?_
      have ha1 : a ≤ 1 := by rw [ha]; exact mQ_b _
      refine g_if_eqN (pc := 127) C 163 dX8_wanted_127 (by decide) (by omega) (fun c127 => ?_) (fun c127 => ?_)
      · refine g_iconst (pc := 163) C qk_iconst_0 dX8_wanted_163 ?_
        have e : mQ (∀ k, k < (i + 1) → wIt I r (p + k) = nI (y.1 (24 + k))) = 0 := by rw [mQ_s a ha.symm, if_pos c127]
        refine g_istore (pc := 164) C rfl dX8_wanted_164 ?_
        refine g_iincN (pc := 166) C (hl := rfl) (q_inc1 _) rfl dX8_wanted_166 ?_
        refine g_goto (pc := 169) C 114 dX8_wanted_169 (by decide) ?_
        exact ih (i + 1) _ (by omega) (by omega) e.symm
      · refine g_aload_n (pc := 130) C (hl := rfl) dX8_wanted_130 ?_
        refine g_get (pc := 131) C fl8_7 dX8_wanted_131 h0 rfl ?_
        refine g_sipush (pc := 134) C qk_sipush_1080 dX8_wanted_134 ?_
        refine g_iload (pc := 137) C (hl := rfl) dX8_wanted_137 ?_
        refine g_iaddN (pc := 139) C dX8_wanted_139 ?_
        refine g_ialdV (pc := 140) C dX8_wanted_140 hW (by omega) (wT3_po T3 (by omega)) ?_
        refine g_aload_n (pc := 141) C (hl := rfl) dX8_wanted_141 ?_
        refine g_get (pc := 142) C fl8_22 dX8_wanted_142 h0 rfl ?_
        refine g_bipush (pc := 145) C qk_bipush_40 dX8_wanted_145 ?_
        refine g_iload_n (pc := 147) C (hl := rfl) dX8_wanted_147 ?_
        refine g_imulN (pc := 148) C dX8_wanted_148 ?_
        refine g_iload (pc := 149) C (hl := rfl) dX8_wanted_149 ?_
        refine g_iaddN (pc := 151) C dX8_wanted_151 ?_
        refine g_iload (pc := 152) C (hl := rfl) dX8_wanted_152 ?_
        refine g_iaddN (pc := 154) C dX8_wanted_154 ?_
        refine g_ialdW (pc := 155) C dX8_wanted_155 hI (by omega) rfl ?_
        refine g_ic_ne (pc := 156) C 163 dX8_wanted_156 (by decide) (fun c156 => ?_) (fun c156 => ?_)
        · refine g_iconst (pc := 163) C qk_iconst_0 dX8_wanted_163 ?_
          have e : mQ (∀ k, k < (i + 1) → wIt I r (p + k) = nI (y.1 (24 + k))) = 0 := by rw [mQ_s a ha.symm, if_neg c127]; exact mQ_f (fun q => c156 (q.symm.trans (show I (40 * r + (p + i)) = I (40 * r + p + i) by rw [Nat.add_assoc])))
          refine g_istore (pc := 164) C rfl dX8_wanted_164 ?_
          refine g_iincN (pc := 166) C (hl := rfl) (q_inc1 _) rfl dX8_wanted_166 ?_
          refine g_goto (pc := 169) C 114 dX8_wanted_169 (by decide) ?_
          exact ih (i + 1) _ (by omega) (by omega) e.symm
        · refine g_iconst (pc := 159) C qk_iconst_1 dX8_wanted_159 ?_
          refine g_goto (pc := 160) C 164 dX8_wanted_160 (by decide) ?_
          have e : mQ (∀ k, k < (i + 1) → wIt I r (p + k) = nI (y.1 (24 + k))) = 1 := by rw [mQ_s a ha.symm, if_neg c127]; exact mQ_t ((show I (40 * r + (p + i)) = I (40 * r + p + i) by rw [Nat.add_assoc]).trans c156.symm)
          refine g_istore (pc := 164) C rfl dX8_wanted_164 ?_
          refine g_iincN (pc := 166) C (hl := rfl) (q_inc1 _) rfl dX8_wanted_166 ?_
          refine g_goto (pc := 169) C 114 dX8_wanted_169 (by decide) ?_
          exact ih (i + 1) _ (by omega) (by omega) e.symm
def wPw (g N j : Nat) (x y : mX) (pa : Nat) : Nat → Nat
  | 0 => pa
  | d + 1 => (mPass g 1000000 N 0 (mWn j d (mCopy x (mWt g N j x y d)))).1
set_option maxHeartbeats 2000000 in
set_option maxRecDepth 20000 in
theorem l8_wa {Γ : q_X} {ad : Nat → Nat} {n un ta fl st sa ne so di pa0 tr g N j r p : Nat} {x y : mX} {I : Nat → Int32} {rz : Int32} {hF : q_H} (hg : 0 < g ∧ g ≤ 6) (hv : mW g x) (hj : j < g) (hN : N < 1000) (hm : x.2.2.1 + N < 1000000) (hrp : r < 8 ∧ p + g ≤ 40) (C : q_C Γ ad 5 0 0 RX8 yX8_wanted cX8_wanted 9 (some .int)) (F : q_N Γ ad n (some (.int rz)) hF) (hz : rz = nI (mBits (mWP g N j p (wIt I r) x y) g)) : ∀ (m d pa S : Nat) (v7 v8 : Option Value) (W : Nat → Nat) (H : q_H), d + m = g + 1 → d ≤ g → H 87 = MX un ta fl st sa ne so di pa tr (mWt g N j x y d) → H 88 = WA W → wT W 0 g x → H 92 = .inl (0, 320, I) → S = mBits (mWP g N j p (wIt I r) x y) d → pa = wPw g N j x y pa0 d → (0 < d → wT W 1053 g (mWt g N j x y d)) → hF = q_up (q_up (q_up H 88 (WA (wPut W 1053 g (mWt g N j x y g)))) 87 (MX un ta fl st sa ne so di (wPw g N j x y pa0 g) tr (mWt g N j x y g))) 87 (MX un ta fl 0 sa ne so di (wPw g N j x y pa0 g) tr (mWt g N j x y g)) → q_G Γ ad 9 72 [some (.ref 87), some (.int (nI j)), some (.int (nI N)), some (.int (nI r)), some (.int (nI p)), some (.int (nI S)), some (.int (nI d)), v7, v8] [] n H 0 0 := by
  intro m
  induction m with
  | zero => intro d pa S v7 v8 W H hk hi; omega
  | succ m ih =>
    intro d pa S v7 v8 W H hk hi h0 hW T0 hI hS hpa T3 hH
    refine g_iload (pc := 72) C (hl := rfl) dX8_wanted_72 ?_
    refine g_aload_n (pc := 74) C (hl := rfl) dX8_wanted_74 ?_
    refine g_get (pc := 75) C fl8_7 dX8_wanted_75 h0 rfl ?_
    refine g_iconst (pc := 78) C qk_iconst_0 dX8_wanted_78 ?_
    refine g_ialdV (pc := 79) C dX8_wanted_79 hW (by omega) (wT0_n T0) ?_
    refine g_ic_geN (pc := 80) C 196 dX8_wanted_80 (by decide) (by omega) (fun c80 => ?_) (fun c80 => ?_)
    · obtain rfl : d = g := by omega
      refine g_aload_n (pc := 196) C (hl := rfl) dX8_wanted_196 ?_
      refine g_iload (pc := 197) C (hl := rfl) dX8_wanted_197 ?_
      refine g_V1v (pc := 199) C lv8_57 dX8_wanted_199 (s8_well _ h0) h0 (by decide) (Nat.le_of_ble_eq_true rfl) ?_
      exact g_iret (pc := 202) C F dX8_wanted_202 rfl rfl (by rw [hz, hS]) (by rw [hH, ← hpa, wPut_self (T3 hg.1), q_upI hW, q_upI h0])
    · refine g_aload_n (pc := 83) C (hl := rfl) dX8_wanted_83 ?_
      refine g_iconst (pc := 84) C qk_iconst_0 dX8_wanted_84 ?_
      refine g_sipush (pc := 85) C qk_sipush_1053 dX8_wanted_85 ?_
      refine g_V2u (pc := 88) C lv8_142 dX8_wanted_88 (s8_copyRow (r := 1053) h0 hW T0 (by decide) (by decide)) h0 (by decide) (Nat.le_of_ble_eq_true rfl) ?_
      refine g_aload_n (pc := 91) C (hl := rfl) dX8_wanted_91 ?_
      refine g_get (pc := 92) C fl8_7 dX8_wanted_92 ((q_up_n _ _ (by decide)).trans h0) rfl ?_
      refine g_sipush (pc := 95) C qk_sipush_1062 dX8_wanted_95 ?_
      refine g_iload_n (pc := 98) C (hl := rfl) dX8_wanted_98 ?_
      refine g_iaddN (pc := 99) C dX8_wanted_99 ?_
      refine g_iload (pc := 100) C (hl := rfl) dX8_wanted_100 ?_
      refine g_iastV (pc := 102) C dX8_wanted_102 (q_up_s _ _ _) (by omega) ((wS3_wa (wT_Q (z := mCopy x (mWt g N j x y d)) ⟨rfl, rfl, rfl⟩ (wT_put _ _ _ _)) (by omega)).trans (wPut_put _ _ _ _ _ _)) ?_
      refine g_aload_n (pc := 103) C (hl := rfl) dX8_wanted_103 ?_
      refine g_iload_n (pc := 104) C (hl := rfl) dX8_wanted_104 ?_
      refine g_V1u (pc := 105) C lv8_213 dX8_wanted_105 (s8_goMinutes (x := (mWn j d (mCopy x (mWt g N j x y d)))) N ((q_up_n _ _ (by decide)).trans ((q_up_n _ _ (by decide)).trans h0)) (q_up_s _ _ _) (wT_put _ _ _ _) (mWn_V (x := mCopy x (mWt g N j x y d)) hv (by omega) (by omega)) (by omega) hm) ((q_up_n _ _ (by decide)).trans ((q_up_n _ _ (by decide)).trans h0)) (by decide) (Nat.le_of_ble_eq_true rfl) ?_
      refine g_iconst (pc := 108) C qk_iconst_1 dX8_wanted_108 ?_
      refine g_istore (pc := 109) C rfl dX8_wanted_109 ?_
      refine g_iconst (pc := 111) C qk_iconst_0 dX8_wanted_111 ?_
      refine g_istore (pc := 112) C rfl dX8_wanted_112 ?_
      refine l8_wi (x := x) (y := (mWt g N j x y (d + 1))) (q_up_s _ _ _) ((q_up_n _ _ (by decide)).trans (q_up_s _ _ _)) (by exact wT_o (by decide) (wT_o (by decide) T0)) (wT_put _ _ _ _) (by exact ((q_up_n _ _ (by decide)).trans ((q_up_n _ _ (by decide)).trans ((q_up_n _ _ (by decide)).trans ((q_up_n _ _ (by decide)).trans hI))))) hg.2 hrp C ?_ (g + 1) 0 1 (by omega) (by omega) (mQ_t (fun k hk => absurd hk (by omega))).symm
      have ep : (∀ k, k < g → wIt I r (p + k) = nI ((mWt g N j x y (d + 1)).1 (24 + k))) ↔ (mWP g N j p (wIt I r) x y) d := Iff.rfl
      have ha1 := mQ_b (∀ k, k < g → wIt I r (p + k) = nI ((mWt g N j x y (d + 1)).1 (24 + k)))
      refine g_iload (pc := 172) C (hl := rfl) dX8_wanted_172 ?_
      refine g_iload (pc := 174) C (hl := rfl) dX8_wanted_174 ?_
      refine g_if_eqN (pc := 176) C 186 dX8_wanted_176 (by decide) (by omega) (fun c176 => ?_) (fun c176 => ?_)
      · refine g_iconst (pc := 186) C qk_iconst_0 dX8_wanted_186 ?_
        refine g_iorE (pc := 187) C (w := nI (mBits (mWP g N j p (wIt I r) x y) (d + 1))) (by rw [hS, mBits_n (mQ_0 c176)]; exact q_or0 _) dX8_wanted_187 ?_
        refine g_istore (pc := 188) C rfl dX8_wanted_188 ?_
        refine g_iincN (pc := 190) C (hl := rfl) (q_inc1 _) rfl dX8_wanted_190 ?_
        refine g_goto (pc := 193) C 72 dX8_wanted_193 (by decide) ?_
        refine ih (d + 1) _ _ _ _ _ _ (by omega) (by omega) (q_up_s _ _ _) ((q_up_n _ _ (by decide)).trans (q_up_s _ _ _)) (wT_o (by decide) (wT_o (by decide) T0)) ((q_up_n _ _ (by decide)).trans ((q_up_n _ _ (by decide)).trans ((q_up_n _ _ (by decide)).trans ((q_up_n _ _ (by decide)).trans hI)))) rfl rfl (fun _ => wT_put _ _ _ _) ?_
        rw [hH]
        first | (simp only [q_up_u, q_up_c _ (show (87 : Nat) ≠ 88 by decide), wPut_put]; done) | (simp only [q_up_u, q_up_c _ (show (87 : Nat) ≠ 88 by decide), wPut_put]; rfl)
      · refine g_iconst (pc := 179) C qk_iconst_1 dX8_wanted_179 ?_
        refine g_iload (pc := 180) C (hl := rfl) dX8_wanted_180 ?_
        refine g_ishl (pc := 182) C dX8_wanted_182 ?_
        refine g_goto (pc := 183) C 187 dX8_wanted_183 (by decide) ?_
        refine g_iorE (pc := 187) C (w := nI (mBits (mWP g N j p (wIt I r) x y) (d + 1))) (by rw [hS]; exact q_bitE (by omega) (mQ_1 c176)) dX8_wanted_187 ?_
        refine g_istore (pc := 188) C rfl dX8_wanted_188 ?_
        refine g_iincN (pc := 190) C (hl := rfl) (q_inc1 _) rfl dX8_wanted_190 ?_
        refine g_goto (pc := 193) C 72 dX8_wanted_193 (by decide) ?_
        refine ih (d + 1) _ _ _ _ _ _ (by omega) (by omega) (q_up_s _ _ _) ((q_up_n _ _ (by decide)).trans (q_up_s _ _ _)) (wT_o (by decide) (wT_o (by decide) T0)) ((q_up_n _ _ (by decide)).trans ((q_up_n _ _ (by decide)).trans ((q_up_n _ _ (by decide)).trans ((q_up_n _ _ (by decide)).trans hI)))) rfl rfl (fun _ => wT_put _ _ _ _) ?_
        rw [hH]
        first | (simp only [q_up_u, q_up_c _ (show (87 : Nat) ≠ 88 by decide), wPut_put]; done) | (simp only [q_up_u, q_up_c _ (show (87 : Nat) ≠ 88 by decide), wPut_put]; rfl)
set_option maxHeartbeats 2000000 in
set_option maxRecDepth 20000 in
theorem s8_wantedT {n : Nat} {h : q_H} {un ta fl st sa ne so di pu at_ er en pa tr g : Nat} {W : Nat → Nat} {x : mX} {L I : Nat → Int32} {Z : Nat → Nat} (j N r p : Nat) (h0 : h 87 = MO un ta fl st sa ne so di pu at_ er en pa tr) (hW : h 88 = WA W) (T : wT W 0 g x) (hL : h 90 = .inl (0, 8, L)) (hZ : h 91 = .inl (0, 8, qN Z)) (hI : h 92 = .inl (0, 320, I)) (hv : mW g x) (hm : x.2.2.1 ≤ 999) (hg : 0 < g ∧ g ≤ 6) (hj : j < g) (hN : N ≤ 99) (hr : r < 8) {l : Nat} (hm2 : L r = nI l) (hl : l < 3) (hz : Z r ≤ 40) (hp : p + g ≤ Z r) : SP 5 yX8_wanted cX8_wanted 9 (some .int) [.ref 87, .int (nI j), .int (nI N), .int (nI r), .int (nI p)] n h (some (.int (nI (mBits (mWP g N j p (wIt I r) x (mG x er pu en at_)) g)))) (q_up (q_up h 88 (WA (wPut W 1053 g (mWt g N j x (mG x er pu en at_) g)))) 87 (MX un ta fl 0 sa ne so di (wPw g N j x (mG x er pu en at_) pa g) tr (mWt g N j x (mG x er pu en at_) g))) := by
  refine q_SPi RX8 rfl (by decide +kernel) (la := _) rfl rfl (fun Γ ad C F => ?_)
  have hg0 : W 0 = g ∧ g ≤ 6 := ⟨wT0_n T, hg.2⟩
  refine g_iload_n (pc := 0) C (hl := rfl) dX8_wanted_0 ?_
  refine g_S1v (pc := 1) C ls8_46 dX8_wanted_1 (s8_rowN r hr) (by decide) (Nat.le_of_ble_eq_true rfl) ?_
  refine g_if_eqN (pc := 4) C 22 dX8_wanted_4 (by decide) (by decide) (fun q => absurd q (by decide)) (fun _ => ?_)
  refine g_iload_n (pc := 7) C (hl := rfl) dX8_wanted_7 ?_
  refine g_S1v (pc := 8) C ls8_210 dX8_wanted_8 (s8_laterN N hN) (by decide) (Nat.le_of_ble_eq_true rfl) ?_
  refine g_if_eqN (pc := 11) C 22 dX8_wanted_11 (by decide) (by decide) (fun q => absurd q (by decide)) (fun _ => ?_)
  refine g_aload_n (pc := 14) C (hl := rfl) dX8_wanted_14 ?_
  refine g_iload_n (pc := 15) C (hl := rfl) dX8_wanted_15 ?_
  refine g_V1v (pc := 16) C lv8_194 dX8_wanted_16 (s8_oneN j h0 hW hg0 hj) h0 (by decide) (Nat.le_of_ble_eq_true rfl) ?_
  refine g_if_neN (pc := 19) C 25 dX8_wanted_19 (by decide) (by decide) (fun _ => ?_) (fun q => absurd q (by decide))
  refine g_aload_n (pc := 25) C (hl := rfl) dX8_wanted_25 ?_
  refine g_get (pc := 26) C fl8_16 dX8_wanted_26 h0 rfl ?_
  refine g_iload_n (pc := 29) C (hl := rfl) dX8_wanted_29 ?_
  refine g_ialdW (pc := 30) C dX8_wanted_30 hL (by omega) hm2 ?_
  refine g_if_geN (pc := 31) C 40 dX8_wanted_31 (by decide) (by omega) ?_
  refine g_iload (pc := 40) C (hl := rfl) dX8_wanted_40 ?_
  refine g_aload_n (pc := 42) C (hl := rfl) dX8_wanted_42 ?_
  refine g_get (pc := 43) C fl8_7 dX8_wanted_43 h0 rfl ?_
  refine g_iconst (pc := 46) C qk_iconst_0 dX8_wanted_46 ?_
  refine g_ialdV (pc := 47) C dX8_wanted_47 hW (by omega) (wT0_n T) ?_
  refine g_aload_n (pc := 48) C (hl := rfl) dX8_wanted_48 ?_
  refine g_get (pc := 49) C fl8_19 dX8_wanted_49 h0 rfl ?_
  refine g_iload_n (pc := 52) C (hl := rfl) dX8_wanted_52 ?_
  refine g_ialdN (pc := 53) C dX8_wanted_53 hZ (by omega) ?_
  refine g_S3v (pc := 54) C ls8_60 dX8_wanted_54 (s8_partY _ _ _ hp (by omega)) (by decide) (Nat.le_of_ble_eq_true rfl) ?_
  refine g_if_neN (pc := 57) C 66 dX8_wanted_57 (by decide) (by decide) (fun _ => ?_) (fun q => absurd q (by decide))
  refine g_iconst (pc := 66) C qk_iconst_0 dX8_wanted_66 ?_
  refine g_istore (pc := 67) C rfl dX8_wanted_67 ?_
  refine g_iconst (pc := 69) C qk_iconst_0 dX8_wanted_69 ?_
  refine g_istore (pc := 70) C rfl dX8_wanted_70 ?_
  exact l8_wa (y := (mG x er pu en at_)) (pa0 := pa) hg hv hj (by omega) (by omega) ⟨hr, by omega⟩ C F rfl (g + 1) 0 pa 0 _ _ W _ (by omega) (by omega) h0 hW T hI rfl rfl (fun q => absurd q (by decide)) (by first | (simp only [q_up_u, q_up_c _ (show (87 : Nat) ≠ 88 by decide)]; done) | (simp only [q_up_u, q_up_c _ (show (87 : Nat) ≠ 88 by decide)]; rfl))
