/-- the model stands in its cell -/
def hasM (h : q_H) : Prop := ∃ fs : List Value, h 87 = .inr (.inr (8, fs))
theorem hasM_up {h : q_H} {a : Nat} {e : q_E} (ha : 87 ≠ a) (q : hasM h) : hasM (q_up h a e) := by
  obtain ⟨fs, q⟩ := q
  exact ⟨fs, (q_up_n _ _ ha).trans q⟩
theorem hasM_ov {h : q_H} {g : Nat} {x : mX} {nx k : Nat} {G : aG} (q : hasM h) : hasM (q_ov h g x nx k G) := by
  obtain ⟨fs, q⟩ := q
  exact ⟨fs, (q_ov_o (by decide)).trans q⟩
theorem hasM_rd {h : q_H} {r t c pt tu mi o p e b : Nat} {S : mP} (h1 : 87 ≠ r) (h2 : 87 ≠ t) (h3 : 87 ≠ c) (q : hasM h) : hasM (q_rd h r t c pt tu mi o p e b S) := by
  obtain ⟨fs, q⟩ := q
  exact ⟨fs, (q_rd_n h1 h2 h3).trans q⟩
def rS (y7 : MethodName) (c7 : ByteArray) (L7 : Nat) (y8 : MethodName) (c8 : ByteArray) (L8 : Nat) (as : List Value) (n : Nat) (h : q_H) : Prop := ∃ (d7 d8 : Nat) (r : Int32) (h1 h2 : q_H), ((d7 ≤ 8 ∧ d8 ≤ 8) ∧ hasM h1) ∧ SP d7 y7 c7 L7 (some .int) (.ref 0 :: as) n h (some (.int r)) h1 ∧ SP d8 y8 c8 L8 (some .int) (.ref 87 :: as) n h1 (some (.int r)) h2 ∧ rel h2
theorem q_rng {x : Int32} (lo hi : Nat) (hh : hi < 1000000 ∧ lo < 1000000) (h : ¬ (x < nI lo ∨ nI hi < x)) : ∃ j : Nat, lo ≤ j ∧ j ≤ hi ∧ x = nI j := by
  have h1 : ¬ x < nI lo := fun q => h (Or.inl q)
  have h2 : ¬ nI hi < x := fun q => h (Or.inr q)
  have h3 : ¬ x < 0 := fun q => by
    refine h1 ?_
    rw [Int32.lt_iff_toInt_lt] at q ⊢
    rw [nI_toInt (by omega)]
    have e0 : (0 : Int32).toInt = 0 := by decide
    omega
  obtain ⟨j, hj, rfl⟩ := nI_of h3
  have e2 : ¬ hi < j := fun q => h2 (nI_lt q hj)
  exact ⟨j, Nat.not_lt.mp (fun q => h1 (nI_lt q (by omega))), by omega, rfl⟩
theorem q_nno {a c : Int32} {len : Nat} (h : ¬ ∀ p z : Nat, a = nI p → c = nI z → p < 2147483648 → z < 2147483648 → ¬ p + z ≤ len) : ∃ p z : Nat, a = nI p ∧ c = nI z ∧ p + z ≤ len := by
  refine Classical.byContradiction (fun q => h (fun p z h1 h2 _ _ h5 => q ⟨p, z, h1, h2, h5⟩))
theorem rRow_up {L I L' I' : Nat → Int32} {Z Z' : Nat → Nat} {R : Nat → aR} {i : Nat} {v : aR} (q : ∀ j, j < 8 → rRow L I Z j (R j)) (hi : i < 8) (hL : ∀ j, j ≠ i → L' j = L j) (hZ : ∀ j, j ≠ i → Z' j = Z j) (hI : ∀ j p, j ≠ i → j < 8 → p < 40 → I' (40 * j + p) = I (40 * j + p)) (k : rRow L' I' Z' i v) : ∀ j, j < 8 → rRow L' I' Z' j (va_up R i v j) := by
  intro j hj
  by_cases e : j = i
  · subst e; rw [va_up_s2]; exact k
  · rw [va_up_n2 e]
    have qj := q j hj
    revert qj
    cases R j with
    | none => intro qj; exact ⟨(hL j e).trans qj.1, by rw [hZ j e]; exact qj.2⟩
    | some p =>
      obtain ⟨l, k2, gf⟩ := p
      intro qj
      exact ⟨(hL j e).trans qj.1, qj.2.1, (hZ j e).trans qj.2.2.1, qj.2.2.2.1, fun p hp => (hI j p e hj (by have := qj.2.2.2.1; omega)).trans (qj.2.2.2.2 p hp)⟩
theorem mBy_lt (v : Int64) (i : Nat) : mBy v i < 256 := (mBy_e v i).2
theorem mFd_lt (v : Int64) : ∀ (m : Nat) (s : (Nat → Nat) × Nat), (∀ i, i < s.2 → s.1 i < 256) → ∀ i, i < (mFd v m s).2 → (mFd v m s).1 i < 256
  | 0, _, h => h
  | m + 1, s, h => mFd_lt v m (va_up s.1 s.2 (mBy v m), s.2 + 1) (fun i hi => by
    show va_up s.1 s.2 (mBy v m) i < 256
    by_cases e : i = s.2
    · rw [e, va_up_self]; exact mBy_lt v m
    · rw [va_up_n e]; exact h i (by have hi : i < s.2 + 1 := hi; omega))
theorem mFin_ok {ta : Nat} {S : mP} (h : mPo ta S) : mPo ta (mFin S) := by
  unfold mFin
  split
  · exact ⟨h.1, by show (1 : Nat) < 10; decide, h.2.2⟩
  · exact h
theorem mRead_ok {f : Nat → Nat} {ta : Nat} {K : mK} (hf : ∀ k, k < ta → f k < 256) (hK : K.2.2.2 < 1000) : mPo ta (mRead f ta K) := by
  have h1 := mNxt_ok (f := f) (K := (K.1, K.2.1, 0, K.2.2.2)) hf ⟨Nat.zero_le ta, hK⟩
  have h2 : mPo ta (mNxt f ta (K.1, K.2.1, 0, K.2.2.2), if mWd f (mNxt f ta (K.1, K.2.1, 0, K.2.2.2)) 0 = true then 0 else 1, 0, 0, fun _ => 0) := ⟨h1, by dsimp only; split <;> omega, Nat.zero_le _, Nat.zero_le _⟩
  have h3 := mLd_ok hf 7 _ (mLg_ok hf 7 _ h2)
  exact mFin_ok h3
theorem va_up_sh {I gf : Nat → Int32} {i j t : Nat} {w : Int32} (e : I (40 * i + t) = gf t) : va_up I (40 * i + j) w (40 * i + t) = va_up gf j w t := by
  unfold va_up
  by_cases z : t = j
  · rw [if_pos z, if_pos (by omega)]
  · rw [if_neg z, if_neg (by omega)]
    exact e
theorem q_SPr {d : Nat} {y : MethodName} {cc : ByteArray} {L : Nat} {ret : Option FieldType} {as : List Value} {n : Nat} {h h' : q_H} {r1 r2 : Int32} (e : r1 = r2) (q : SP d y cc L ret as n h (some (.int r1)) h') : SP d y cc L ret as n h (some (.int r2)) h' := e ▸ q
set_option maxHeartbeats 4000000 in
theorem e_fault {n : Nat} {h : q_H} (hr : rel h)  : rS yX7_fault cX7_fault 1 yX8_fault cX8_fault 1 [] n h := by
  obtain ⟨lf, ld, R, f, len, g, x, nx, k, G, gi, xi, left, fk, hD, hRs, hIm, hRd, hTp, hTb, hAc, hFo, hAs, hMo, hIv⟩ := id hr
  obtain ⟨h0, ⟨fr, ha, hfr⟩, ⟨fi, hI, hfi⟩⟩ := id hD
  obtain ⟨⟨Kc, dr, far, hrd, hK9⟩, tg, ttu, tmi, tto, ttp, tte, ttb, tT, htl, htc⟩ := id hRd
  obtain ⟨htp, hby⟩ := id hTp
  obtain ⟨ht, hc⟩ := id hTb
  obtain ⟨hA, ⟨fa, hB, hfa⟩, hG⟩ := id hAc
  obtain ⟨hw, ⟨g2, x2, hl, hlc⟩, ⟨f0, hs0⟩, b0, hbs⟩ := id hFo
  obtain ⟨⟨gu, so0, wa, ea, hK⟩, hKb⟩ := id hAs
  obtain ⟨⟨sa, ne, so, di, pu, at_, er, en, pa, w87⟩, ⟨W, Kp, w88, w94, hW⟩, w89, ⟨L, Z, I, Tk, w90, w91, w92, w93, wRs⟩, w95⟩ := id hMo
  have hIv' := hIv
  obtain ⟨i1, i2, i3, i4, i5, i6, i7⟩ := hIv
  have hg6 : g ≤ 6 := by rcases i3 with q | q; omega; exact q.1.2.1
  exact ⟨_, _, _, h, h, ⟨⟨by decide, by decide⟩, by (repeat (first | refine hasM_ov ?_ | refine hasM_rd (by decide) (by decide) (by decide) ?_ | refine hasM_up (by first | decide | omega) ?_)); exact ⟨_, w87⟩⟩, s7_fault h0, s8_fault w87, hr⟩
set_option maxHeartbeats 4000000 in
theorem e_status {n : Nat} {h : q_H} (hr : rel h)  : rS yX7_status cX7_status 1 yX8_status cX8_status 1 [] n h := by
  obtain ⟨lf, ld, R, f, len, g, x, nx, k, G, gi, xi, left, fk, hD, hRs, hIm, hRd, hTp, hTb, hAc, hFo, hAs, hMo, hIv⟩ := id hr
  obtain ⟨h0, ⟨fr, ha, hfr⟩, ⟨fi, hI, hfi⟩⟩ := id hD
  obtain ⟨⟨Kc, dr, far, hrd, hK9⟩, tg, ttu, tmi, tto, ttp, tte, ttb, tT, htl, htc⟩ := id hRd
  obtain ⟨htp, hby⟩ := id hTp
  obtain ⟨ht, hc⟩ := id hTb
  obtain ⟨hA, ⟨fa, hB, hfa⟩, hG⟩ := id hAc
  obtain ⟨hw, ⟨g2, x2, hl, hlc⟩, ⟨f0, hs0⟩, b0, hbs⟩ := id hFo
  obtain ⟨⟨gu, so0, wa, ea, hK⟩, hKb⟩ := id hAs
  obtain ⟨⟨sa, ne, so, di, pu, at_, er, en, pa, w87⟩, ⟨W, Kp, w88, w94, hW⟩, w89, ⟨L, Z, I, Tk, w90, w91, w92, w93, wRs⟩, w95⟩ := id hMo
  have hIv' := hIv
  obtain ⟨i1, i2, i3, i4, i5, i6, i7⟩ := hIv
  have hg6 : g ≤ 6 := by rcases i3 with q | q; omega; exact q.1.2.1
  exact ⟨_, _, _, h, h, ⟨⟨by decide, by decide⟩, by (repeat (first | refine hasM_ov ?_ | refine hasM_rd (by decide) (by decide) (by decide) ?_ | refine hasM_up (by first | decide | omega) ?_)); exact ⟨_, w87⟩⟩, s7_status h0, s8_status w87, hr⟩
set_option maxHeartbeats 4000000 in
theorem e_trace {n : Nat} {h : q_H} (hr : rel h) (i : Int32) : rS yX7_trace cX7_trace 2 yX8_trace cX8_trace 2 [.int i] n h := by
  obtain ⟨lf, ld, R, f, len, g, x, nx, k, G, gi, xi, left, fk, hD, hRs, hIm, hRd, hTp, hTb, hAc, hFo, hAs, hMo, hIv⟩ := id hr
  obtain ⟨h0, ⟨fr, ha, hfr⟩, ⟨fi, hI, hfi⟩⟩ := id hD
  obtain ⟨⟨Kc, dr, far, hrd, hK9⟩, tg, ttu, tmi, tto, ttp, tte, ttb, tT, htl, htc⟩ := id hRd
  obtain ⟨htp, hby⟩ := id hTp
  obtain ⟨ht, hc⟩ := id hTb
  obtain ⟨hA, ⟨fa, hB, hfa⟩, hG⟩ := id hAc
  obtain ⟨hw, ⟨g2, x2, hl, hlc⟩, ⟨f0, hs0⟩, b0, hbs⟩ := id hFo
  obtain ⟨⟨gu, so0, wa, ea, hK⟩, hKb⟩ := id hAs
  obtain ⟨⟨sa, ne, so, di, pu, at_, er, en, pa, w87⟩, ⟨W, Kp, w88, w94, hW⟩, w89, ⟨L, Z, I, Tk, w90, w91, w92, w93, wRs⟩, w95⟩ := id hMo
  have hIv' := hIv
  obtain ⟨i1, i2, i3, i4, i5, i6, i7⟩ := hIv
  have hg6 : g ≤ 6 := by rcases i3 with q | q; omega; exact q.1.2.1
  rcases pk_ix i (n := left) (by omega) with q | q | ⟨j, hj, rfl⟩
  · exact ⟨_, _, _, h, h, ⟨⟨by decide, by decide⟩, by (repeat (first | refine hasM_ov ?_ | refine hasM_rd (by decide) (by decide) (by decide) ?_ | refine hasM_up (by first | decide | omega) ?_)); exact ⟨_, w87⟩⟩, s7_traceM i h0 hK hKb q, s8_traceF i w87 w95 i7 (Or.inl q), hr⟩
  · by_cases q0 : i < 0
    · exact ⟨_, _, _, h, h, ⟨⟨by decide, by decide⟩, by (repeat (first | refine hasM_ov ?_ | refine hasM_rd (by decide) (by decide) (by decide) ?_ | refine hasM_up (by first | decide | omega) ?_)); exact ⟨_, w87⟩⟩, s7_traceM i h0 hK hKb q0, s8_traceF i w87 w95 i7 (Or.inl q0), hr⟩
    · obtain ⟨j, hj, rfl⟩ := nI_of q0
      have hj2 : ¬ j < left := fun z => absurd ((nI_leI (by omega) hj).mp q) (by omega)
      refine ⟨_, 1, _, h, h, ⟨⟨by decide, by decide⟩, by (repeat (first | refine hasM_ov ?_ | refine hasM_rd (by decide) (by decide) (by decide) ?_ | refine hasM_up (by first | decide | omega) ?_)); exact ⟨_, w87⟩⟩, s7_traceN j h0 hK hKb i7 hj, ?_, hr⟩
      rw [if_neg hj2]
      exact s8_traceF _ w87 w95 i7 (Or.inr q)
  · refine ⟨_, 1, _, h, h, ⟨⟨by decide, by decide⟩, by (repeat (first | refine hasM_ov ?_ | refine hasM_rd (by decide) (by decide) (by decide) ?_ | refine hasM_up (by first | decide | omega) ?_)); exact ⟨_, w87⟩⟩, s7_traceN j h0 hK hKb i7 (by omega), ?_, hr⟩
    rw [if_pos hj]
    exact s8_traceT j w87 w95 i7 hj
set_option maxHeartbeats 4000000 in
theorem e_count {n : Nat} {h : q_H} (hr : rel h) (w : Int32) : rS yX7_count cX7_count 2 yX8_count cX8_count 5 [.int w] n h := by
  obtain ⟨lf, ld, R, f, len, g, x, nx, k, G, gi, xi, left, fk, hD, hRs, hIm, hRd, hTp, hTb, hAc, hFo, hAs, hMo, hIv⟩ := id hr
  obtain ⟨h0, ⟨fr, ha, hfr⟩, ⟨fi, hI, hfi⟩⟩ := id hD
  obtain ⟨⟨Kc, dr, far, hrd, hK9⟩, tg, ttu, tmi, tto, ttp, tte, ttb, tT, htl, htc⟩ := id hRd
  obtain ⟨htp, hby⟩ := id hTp
  obtain ⟨ht, hc⟩ := id hTb
  obtain ⟨hA, ⟨fa, hB, hfa⟩, hG⟩ := id hAc
  obtain ⟨hw, ⟨g2, x2, hl, hlc⟩, ⟨f0, hs0⟩, b0, hbs⟩ := id hFo
  obtain ⟨⟨gu, so0, wa, ea, hK⟩, hKb⟩ := id hAs
  obtain ⟨⟨sa, ne, so, di, pu, at_, er, en, pa, w87⟩, ⟨W, Kp, w88, w94, hW⟩, w89, ⟨L, Z, I, Tk, w90, w91, w92, w93, wRs⟩, w95⟩ := id hMo
  have hIv' := hIv
  obtain ⟨i1, i2, i3, i4, i5, i6, i7⟩ := hIv
  have hg6 : g ≤ 6 := by rcases i3 with q | q; omega; exact q.1.2.1
  by_cases q : w < nI 0 ∨ nI 6 < w
  · have q2 : w.toInt < 0 ∨ 6 < w.toInt := q.imp (fun z => by rw [Int32.lt_iff_toInt_lt] at z; exact z) (fun z => by rw [Int32.lt_iff_toInt_lt] at z; exact z)
    exact ⟨_, _, _, h, h, ⟨⟨by decide, by decide⟩, by (repeat (first | refine hasM_ov ?_ | refine hasM_rd (by decide) (by decide) (by decide) ?_ | refine hasM_up (by first | decide | omega) ?_)); exact ⟨_, w87⟩⟩, s7_countO w h0 q2, s8_countO w w87 w90 (fun i hi => rRow_m (wRs i hi)) w88 hW.1 hg6 q2, hr⟩
  · obtain ⟨j, -, hj, rfl⟩ := q_rng 0 6 (by decide) q
    rcases (by omega : j = 0 ∨ j = 1 ∨ j = 2 ∨ j = 3 ∨ j = 4 ∨ j = 5 ∨ j = 6) with rfl | rfl | rfl | rfl | rfl | rfl | rfl
    · exact ⟨_, _, _, h, h, ⟨⟨by decide, by decide⟩, by (repeat (first | refine hasM_ov ?_ | refine hasM_rd (by decide) (by decide) (by decide) ?_ | refine hasM_up (by first | decide | omega) ?_)); exact ⟨_, w87⟩⟩, s7_count0 h0 ha hfr hRs, s8_count0 w87 w90 (fun i hi => rRow_m (wRs i hi)) w88 hW.1 hg6, hr⟩
    · exact ⟨_, _, _, h, h, ⟨⟨by decide, by decide⟩, by (repeat (first | refine hasM_ov ?_ | refine hasM_rd (by decide) (by decide) (by decide) ?_ | refine hasM_up (by first | decide | omega) ?_)); exact ⟨_, w87⟩⟩, s7_count1 h0 ht hc, s8_count1 w87 w90 (fun i hi => rRow_m (wRs i hi)) w88 hW.1 hg6, hr⟩
    · exact ⟨_, _, _, h, h, ⟨⟨by decide, by decide⟩, by (repeat (first | refine hasM_ov ?_ | refine hasM_rd (by decide) (by decide) (by decide) ?_ | refine hasM_up (by first | decide | omega) ?_)); exact ⟨_, w87⟩⟩, s7_count2 h0 ht hc, s8_count2 w87 w90 (fun i hi => rRow_m (wRs i hi)) w88 hW.1 hg6, hr⟩
    · exact ⟨_, _, _, h, h, ⟨⟨by decide, by decide⟩, by (repeat (first | refine hasM_ov ?_ | refine hasM_rd (by decide) (by decide) (by decide) ?_ | refine hasM_up (by first | decide | omega) ?_)); exact ⟨_, w87⟩⟩, s7_count3 h0 ht hc, s8_count3 w87 w90 (fun i hi => rRow_m (wRs i hi)) w88 hW.1 hg6, hr⟩
    · exact ⟨_, _, _, h, h, ⟨⟨by decide, by decide⟩, by (repeat (first | refine hasM_ov ?_ | refine hasM_rd (by decide) (by decide) (by decide) ?_ | refine hasM_up (by first | decide | omega) ?_)); exact ⟨_, w87⟩⟩, s7_count4 h0 ht hc hg6, s8_count4 w87 w90 (fun i hi => rRow_m (wRs i hi)) w88 hW.1 hg6, hr⟩
    · exact ⟨_, _, _, h, h, ⟨⟨by decide, by decide⟩, by (repeat (first | refine hasM_ov ?_ | refine hasM_rd (by decide) (by decide) (by decide) ?_ | refine hasM_up (by first | decide | omega) ?_)); exact ⟨_, w87⟩⟩, s7_count5 h0 hA, s8_count5 w87 w90 (fun i hi => rRow_m (wRs i hi)) w88 hW.1 hg6, hr⟩
    · exact ⟨_, _, _, h, h, ⟨⟨by decide, by decide⟩, by (repeat (first | refine hasM_ov ?_ | refine hasM_rd (by decide) (by decide) (by decide) ?_ | refine hasM_up (by first | decide | omega) ?_)); exact ⟨_, w87⟩⟩, s7_count6 h0 hrd htp, s8_count6 w87 w90 (fun i hi => rRow_m (wRs i hi)) w88 hW.1 hg6, hr⟩
set_option maxHeartbeats 4000000 in
theorem e_row {n : Nat} {h : q_H} (hr : rel h) (xr : Int32) (l : Int32) (q : Int32) : rS yX7_row cX7_row 5 yX8_row cX8_row 5 [.int xr, .int l, .int q] n h := by
  obtain ⟨lf, ld, R, f, len, g, x, nx, k, G, gi, xi, left, fk, hD, hRs, hIm, hRd, hTp, hTb, hAc, hFo, hAs, hMo, hIv⟩ := id hr
  obtain ⟨h0, ⟨fr, ha, hfr⟩, ⟨fi, hI, hfi⟩⟩ := id hD
  obtain ⟨⟨Kc, dr, far, hrd, hK9⟩, tg, ttu, tmi, tto, ttp, tte, ttb, tT, htl, htc⟩ := id hRd
  obtain ⟨htp, hby⟩ := id hTp
  obtain ⟨ht, hc⟩ := id hTb
  obtain ⟨hA, ⟨fa, hB, hfa⟩, hG⟩ := id hAc
  obtain ⟨hw, ⟨g2, x2, hl, hlc⟩, ⟨f0, hs0⟩, b0, hbs⟩ := id hFo
  obtain ⟨⟨gu, so0, wa, ea, hK⟩, hKb⟩ := id hAs
  obtain ⟨⟨sa, ne, so, di, pu, at_, er, en, pa, w87⟩, ⟨W, Kp, w88, w94, hW⟩, w89, ⟨L, Z, I, Tk, w90, w91, w92, w93, wRs⟩, w95⟩ := id hMo
  have hIv' := hIv
  obtain ⟨i1, i2, i3, i4, i5, i6, i7⟩ := hIv
  have hg6 : g ≤ 6 := by rcases i3 with q | q; omega; exact q.1.2.1
  by_cases hb : (xr < 0 ∨ nI 8 ≤ xr) ∨ (l < nI 0 ∨ nI 2 < l) ∨ ¬ q ≤ nI 40
  · exact ⟨_, _, _, h, h, ⟨⟨by decide, by decide⟩, by (repeat (first | refine hasM_ov ?_ | refine hasM_rd (by decide) (by decide) (by decide) ?_ | refine hasM_up (by first | decide | omega) ?_)); exact ⟨_, w87⟩⟩, s7_rowB xr l q h0 ha hfr hb, s8_rowB xr l q w87 w90 w91 w92 w93 hb, hr⟩
  · obtain ⟨i, hi, rfl⟩ := pk_inN (by decide) (fun z => hb (Or.inl z))
    obtain ⟨l, -, hl2, rfl⟩ := q_rng 0 2 (by decide) (fun z => hb (Or.inr (Or.inl z)))
    have hq : q ≤ nI 40 := Classical.byContradiction (fun z => hb (Or.inr (Or.inr z)))
    by_cases hk : q < 0
    · exact ⟨_, _, _, _, _, ⟨⟨by decide, by decide⟩, by (repeat (first | refine hasM_ov ?_ | refine hasM_rd (by decide) (by decide) (by decide) ?_ | refine hasM_up (by first | decide | omega) ?_)); exact ⟨_, w87⟩⟩, s7_rowM i l q h0 ha hfr hi (by omega) hk, s8_rowM i l q ((q_up_n _ _ (by decide)).trans w87) ((q_up_n _ _ (by decide)).trans w90) ((q_up_n _ _ (by decide)).trans w91) ((q_up_n _ _ (by decide)).trans w92) ((q_up_n _ _ (by decide)).trans w93) hi (by omega) hk, ⟨lf, 4, R, f, len, g, x, nx, k, G, gi, xi, left, fk, (cD_s ((q_up_n _ _ (by decide)).trans (q_up_s _ _ _)) (fun a z => ((q_up_n _ _ (by omega)).trans ((q_up_n _ _ (by omega)).trans rfl))) hD), (cRs_fr (fun a z z2 => ((q_up_n _ _ (by omega)).trans ((q_up_n _ _ (by omega)).trans rfl))) hRs), (rIm_f (fun a z z2 => ((q_up_n _ _ (by omega)).trans ((q_up_n _ _ (by omega)).trans rfl))) hIm), (rRd_f (fun a z => ((q_up_n _ _ (by omega)).trans ((q_up_n _ _ (by omega)).trans rfl))) hRd), (rTp_f (fun a z z2 => ((q_up_n _ _ (by omega)).trans ((q_up_n _ _ (by omega)).trans rfl))) hTp), (rTb_f (fun a z z2 => ((q_up_n _ _ (by omega)).trans ((q_up_n _ _ (by omega)).trans rfl))) hTb), (rAc_f (fun a z z2 => ((q_up_n _ _ (by omega)).trans ((q_up_n _ _ (by omega)).trans rfl))) hAc), (rFo_f (fun a z z2 => ((q_up_n _ _ (by omega)).trans ((q_up_n _ _ (by omega)).trans rfl))) hFo), (rAs_f (fun a z z2 => ((q_up_n _ _ (by omega)).trans ((q_up_n _ _ (by omega)).trans rfl))) hAs), ⟨⟨_, _, _, _, _, _, _, _, _, (q_up_s _ _ _)⟩, ⟨W, Kp, ((q_up_n _ _ (by decide)).trans ((q_up_n _ _ (by decide)).trans w88)), ((q_up_n _ _ (by decide)).trans ((q_up_n _ _ (by decide)).trans w94)), hW⟩, ((q_up_n _ _ (by decide)).trans ((q_up_n _ _ (by decide)).trans w89)), ⟨_, _, _, _, ((q_up_n _ _ (by decide)).trans ((q_up_n _ _ (by decide)).trans w90)), ((q_up_n _ _ (by decide)).trans ((q_up_n _ _ (by decide)).trans w91)), ((q_up_n _ _ (by decide)).trans ((q_up_n _ _ (by decide)).trans w92)), ((q_up_n _ _ (by decide)).trans ((q_up_n _ _ (by decide)).trans w93)), wRs⟩, ((q_up_n _ _ (by decide)).trans ((q_up_n _ _ (by decide)).trans w95))⟩, hIv'⟩⟩
    · obtain ⟨q, hq2, rfl⟩ := nI_of2 (M := nI 40) (n := 40) (by decide) hk hq
      obtain ⟨lane, ln, rf, hxr, hxi, -⟩ := hRs i hi
      refine ⟨_, _, _, _, _, ⟨⟨by decide, by decide⟩, by (repeat (first | refine hasM_ov ?_ | refine hasM_rd (by decide) (by decide) (by decide) ?_ | refine hasM_up (by first | decide | omega) ?_)); exact ⟨_, w87⟩⟩, s7_rowT i l q h0 ha hfr hi (by omega) hq2 hxr hxi, s8_rowT i l q ((q_up_n _ _ (by decide)).trans ((q_up_n _ _ (by omega)).trans ((q_up_n _ _ (by omega)).trans w87))) ((q_up_n _ _ (by decide)).trans ((q_up_n _ _ (by omega)).trans ((q_up_n _ _ (by omega)).trans w90))) ((q_up_n _ _ (by decide)).trans ((q_up_n _ _ (by omega)).trans ((q_up_n _ _ (by omega)).trans w91))) ((q_up_n _ _ (by decide)).trans ((q_up_n _ _ (by omega)).trans ((q_up_n _ _ (by omega)).trans w92))) ((q_up_n _ _ (by decide)).trans ((q_up_n _ _ (by omega)).trans ((q_up_n _ _ (by omega)).trans w93))) hi (by omega) hq2, ?_⟩
      exact ⟨lf, 0, va_up R i (some (l, q, fun _ => 0)), f, len, g, x, nx, k, G, gi, xi, left, fk, (cD_s ((q_up_n _ _ (by decide)).trans ((q_up_n _ _ (by decide)).trans ((q_up_n _ _ (by decide)).trans ((q_up_n _ _ (by decide)).trans (q_up_s _ _ _))))) (fun a z => ((q_up_n _ _ (by omega)).trans ((q_up_n _ _ (by omega)).trans ((q_up_n _ _ (by omega)).trans ((q_up_n _ _ (by omega)).trans ((q_up_n _ _ (by omega)).trans ((q_up_n _ _ (by omega)).trans ((q_up_n _ _ (by omega)).trans rfl)))))))) hD), (cRs_up hRs (fun a z1 z2 z3 z4 => ((q_up_n _ _ (by omega)).trans ((q_up_n _ _ (by omega)).trans ((q_up_n _ _ (by omega)).trans ((q_up_n _ _ (by omega)).trans ((q_up_n _ _ (by omega)).trans ((q_up_n _ _ (by omega)).trans ((q_up_n _ _ (by omega)).trans rfl)))))))) ⟨nI l, q, fun _ => 0, ((q_up_n _ _ (by omega)).trans ((q_up_n _ _ (by omega)).trans ((q_up_n _ _ (by omega)).trans ((q_up_n _ _ (by omega)).trans ((q_up_n _ _ (by omega)).trans ((q_up_n _ _ (by omega)).trans (q_up_s _ _ _))))))), ((q_up_n _ _ (by omega)).trans ((q_up_n _ _ (by omega)).trans ((q_up_n _ _ (by omega)).trans ((q_up_n _ _ (by omega)).trans ((q_up_n _ _ (by omega)).trans (q_up_s _ _ _)))))), rfl, by omega, rfl, hq2, fun j _ => rfl⟩), (rIm_f (fun a z z2 => ((q_up_n _ _ (by omega)).trans ((q_up_n _ _ (by omega)).trans ((q_up_n _ _ (by omega)).trans ((q_up_n _ _ (by omega)).trans ((q_up_n _ _ (by omega)).trans ((q_up_n _ _ (by omega)).trans ((q_up_n _ _ (by omega)).trans rfl)))))))) hIm), (rRd_f (fun a z => ((q_up_n _ _ (by omega)).trans ((q_up_n _ _ (by omega)).trans ((q_up_n _ _ (by omega)).trans ((q_up_n _ _ (by omega)).trans ((q_up_n _ _ (by omega)).trans ((q_up_n _ _ (by omega)).trans ((q_up_n _ _ (by omega)).trans rfl)))))))) hRd), (rTp_f (fun a z z2 => ((q_up_n _ _ (by omega)).trans ((q_up_n _ _ (by omega)).trans ((q_up_n _ _ (by omega)).trans ((q_up_n _ _ (by omega)).trans ((q_up_n _ _ (by omega)).trans ((q_up_n _ _ (by omega)).trans ((q_up_n _ _ (by omega)).trans rfl)))))))) hTp), (rTb_f (fun a z z2 => ((q_up_n _ _ (by omega)).trans ((q_up_n _ _ (by omega)).trans ((q_up_n _ _ (by omega)).trans ((q_up_n _ _ (by omega)).trans ((q_up_n _ _ (by omega)).trans ((q_up_n _ _ (by omega)).trans ((q_up_n _ _ (by omega)).trans rfl)))))))) hTb), (rAc_f (fun a z z2 => ((q_up_n _ _ (by omega)).trans ((q_up_n _ _ (by omega)).trans ((q_up_n _ _ (by omega)).trans ((q_up_n _ _ (by omega)).trans ((q_up_n _ _ (by omega)).trans ((q_up_n _ _ (by omega)).trans ((q_up_n _ _ (by omega)).trans rfl)))))))) hAc), (rFo_f (fun a z z2 => ((q_up_n _ _ (by omega)).trans ((q_up_n _ _ (by omega)).trans ((q_up_n _ _ (by omega)).trans ((q_up_n _ _ (by omega)).trans ((q_up_n _ _ (by omega)).trans ((q_up_n _ _ (by omega)).trans ((q_up_n _ _ (by omega)).trans rfl)))))))) hFo), (rAs_f (fun a z z2 => ((q_up_n _ _ (by omega)).trans ((q_up_n _ _ (by omega)).trans ((q_up_n _ _ (by omega)).trans ((q_up_n _ _ (by omega)).trans ((q_up_n _ _ (by omega)).trans ((q_up_n _ _ (by omega)).trans ((q_up_n _ _ (by omega)).trans rfl)))))))) hAs), ⟨⟨_, _, _, _, _, _, _, _, _, (q_up_s _ _ _)⟩, ⟨W, Kp, ((q_up_n _ _ (by decide)).trans ((q_up_n _ _ (by decide)).trans ((q_up_n _ _ (by decide)).trans ((q_up_n _ _ (by decide)).trans ((q_up_n _ _ (by decide)).trans ((q_up_n _ _ (by omega)).trans ((q_up_n _ _ (by omega)).trans w88))))))), ((q_up_n _ _ (by decide)).trans ((q_up_n _ _ (by decide)).trans ((q_up_n _ _ (by decide)).trans ((q_up_n _ _ (by decide)).trans ((q_up_n _ _ (by decide)).trans ((q_up_n _ _ (by omega)).trans ((q_up_n _ _ (by omega)).trans w94))))))), hW⟩, ((q_up_n _ _ (by decide)).trans ((q_up_n _ _ (by decide)).trans ((q_up_n _ _ (by decide)).trans ((q_up_n _ _ (by decide)).trans ((q_up_n _ _ (by decide)).trans ((q_up_n _ _ (by omega)).trans ((q_up_n _ _ (by omega)).trans w89))))))), ⟨_, _, _, _, ((q_up_n _ _ (by decide)).trans ((q_up_n _ _ (by decide)).trans ((q_up_n _ _ (by decide)).trans (q_up_s _ _ _)))), ((q_up_n _ _ (by decide)).trans ((q_up_n _ _ (by decide)).trans (q_up_s _ _ _))), ((q_up_n _ _ (by decide)).trans (q_up_s _ _ _)), ((q_up_n _ _ (by decide)).trans ((q_up_n _ _ (by decide)).trans ((q_up_n _ _ (by decide)).trans ((q_up_n _ _ (by decide)).trans ((q_up_n _ _ (by decide)).trans ((q_up_n _ _ (by omega)).trans ((q_up_n _ _ (by omega)).trans w93))))))), (rRow_up wRs hi (fun j e => va_up_n2 e) (fun j e => va_up_n2 e) (fun j p e hj hp => by unfold iZe; rw [if_neg (by omega)]) ⟨va_up_s2, by omega, va_up_s2, hq2, fun j hj => by unfold iZe; rw [if_pos (by omega)]; rfl⟩)⟩, ((q_up_n _ _ (by decide)).trans ((q_up_n _ _ (by decide)).trans ((q_up_n _ _ (by decide)).trans ((q_up_n _ _ (by decide)).trans ((q_up_n _ _ (by decide)).trans ((q_up_n _ _ (by omega)).trans ((q_up_n _ _ (by omega)).trans w95)))))))⟩, hIv'⟩
set_option maxHeartbeats 4000000 in
theorem e_set {n : Nat} {h : q_H} (hr : rel h) (xr : Int32) (p : Int32) (v : Int32) : rS yX7_set cX7_set 5 yX8_set cX8_set 4 [.int xr, .int p, .int v] n h := by
  obtain ⟨lf, ld, R, f, len, g, x, nx, k, G, gi, xi, left, fk, hD, hRs, hIm, hRd, hTp, hTb, hAc, hFo, hAs, hMo, hIv⟩ := id hr
  obtain ⟨h0, ⟨fr, ha, hfr⟩, ⟨fi, hI, hfi⟩⟩ := id hD
  obtain ⟨⟨Kc, dr, far, hrd, hK9⟩, tg, ttu, tmi, tto, ttp, tte, ttb, tT, htl, htc⟩ := id hRd
  obtain ⟨htp, hby⟩ := id hTp
  obtain ⟨ht, hc⟩ := id hTb
  obtain ⟨hA, ⟨fa, hB, hfa⟩, hG⟩ := id hAc
  obtain ⟨hw, ⟨g2, x2, hl, hlc⟩, ⟨f0, hs0⟩, b0, hbs⟩ := id hFo
  obtain ⟨⟨gu, so0, wa, ea, hK⟩, hKb⟩ := id hAs
  obtain ⟨⟨sa, ne, so, di, pu, at_, er, en, pa, w87⟩, ⟨W, Kp, w88, w94, hW⟩, w89, ⟨L, Z, I, Tk, w90, w91, w92, w93, wRs⟩, w95⟩ := id hMo
  have hIv' := hIv
  obtain ⟨i1, i2, i3, i4, i5, i6, i7⟩ := hIv
  have hg6 : g ≤ 6 := by rcases i3 with q | q; omega; exact q.1.2.1
  rcases pk_ix xr (n := 8) (by decide) with z | z | ⟨i, hi, rfl⟩
  · exact ⟨_, _, _, h, h, ⟨⟨by decide, by decide⟩, by (repeat (first | refine hasM_ov ?_ | refine hasM_rd (by decide) (by decide) (by decide) ?_ | refine hasM_up (by first | decide | omega) ?_)); exact ⟨_, w87⟩⟩, s7_setB xr p v h0 ha hfr (Or.inl z), s8_setB xr p v w87 w90 w91 w92 w93 (Or.inl z), hr⟩
  · exact ⟨_, _, _, h, h, ⟨⟨by decide, by decide⟩, by (repeat (first | refine hasM_ov ?_ | refine hasM_rd (by decide) (by decide) (by decide) ?_ | refine hasM_up (by first | decide | omega) ?_)); exact ⟨_, w87⟩⟩, s7_setB xr p v h0 ha hfr (Or.inr z), s8_setB xr p v w87 w90 w91 w92 w93 (Or.inr z), hr⟩
  · rcases hv : R i with _ | ⟨l, q, gf⟩
    · have c1 := hRs i hi
      have c2 := wRs i hi
      rw [hv] at c1 c2
      obtain ⟨lane, ln, rf, hxr, hxi, e1⟩ := c1
      obtain ⟨e2, e3⟩ := c2
      exact ⟨_, _, _, _, _, ⟨⟨by decide, by decide⟩, by (repeat (first | refine hasM_ov ?_ | refine hasM_rd (by decide) (by decide) (by decide) ?_ | refine hasM_up (by first | decide | omega) ?_)); exact ⟨_, w87⟩⟩, s7_setM i p v h0 ha hfr hi hxr hxi e1, s8_setM i p v ((q_up_n _ _ (by decide)).trans w87) ((q_up_n _ _ (by decide)).trans w90) ((q_up_n _ _ (by decide)).trans w91) ((q_up_n _ _ (by decide)).trans w92) ((q_up_n _ _ (by decide)).trans w93) hi e2, ⟨lf, 1, R, f, len, g, x, nx, k, G, gi, xi, left, fk, (cD_s ((q_up_n _ _ (by decide)).trans (q_up_s _ _ _)) (fun a z => ((q_up_n _ _ (by omega)).trans ((q_up_n _ _ (by omega)).trans rfl))) hD), (cRs_fr (fun a z z2 => ((q_up_n _ _ (by omega)).trans ((q_up_n _ _ (by omega)).trans rfl))) hRs), (rIm_f (fun a z z2 => ((q_up_n _ _ (by omega)).trans ((q_up_n _ _ (by omega)).trans rfl))) hIm), (rRd_f (fun a z => ((q_up_n _ _ (by omega)).trans ((q_up_n _ _ (by omega)).trans rfl))) hRd), (rTp_f (fun a z z2 => ((q_up_n _ _ (by omega)).trans ((q_up_n _ _ (by omega)).trans rfl))) hTp), (rTb_f (fun a z z2 => ((q_up_n _ _ (by omega)).trans ((q_up_n _ _ (by omega)).trans rfl))) hTb), (rAc_f (fun a z z2 => ((q_up_n _ _ (by omega)).trans ((q_up_n _ _ (by omega)).trans rfl))) hAc), (rFo_f (fun a z z2 => ((q_up_n _ _ (by omega)).trans ((q_up_n _ _ (by omega)).trans rfl))) hFo), (rAs_f (fun a z z2 => ((q_up_n _ _ (by omega)).trans ((q_up_n _ _ (by omega)).trans rfl))) hAs), ⟨⟨_, _, _, _, _, _, _, _, _, (q_up_s _ _ _)⟩, ⟨W, Kp, ((q_up_n _ _ (by decide)).trans ((q_up_n _ _ (by decide)).trans w88)), ((q_up_n _ _ (by decide)).trans ((q_up_n _ _ (by decide)).trans w94)), hW⟩, ((q_up_n _ _ (by decide)).trans ((q_up_n _ _ (by decide)).trans w89)), ⟨_, _, _, _, ((q_up_n _ _ (by decide)).trans ((q_up_n _ _ (by decide)).trans w90)), ((q_up_n _ _ (by decide)).trans ((q_up_n _ _ (by decide)).trans w91)), ((q_up_n _ _ (by decide)).trans ((q_up_n _ _ (by decide)).trans w92)), ((q_up_n _ _ (by decide)).trans ((q_up_n _ _ (by decide)).trans w93)), wRs⟩, ((q_up_n _ _ (by decide)).trans ((q_up_n _ _ (by decide)).trans w95))⟩, hIv'⟩⟩
    · have c1 := hRs i hi
      have c2 := wRs i hi
      rw [hv] at c1 c2
      obtain ⟨lane, ln, rf, hxr, hxi, e1, e1b, e1c, e1d, e1e⟩ := c1
      obtain ⟨e2, e3, e4, e5, e6⟩ := c2
      subst e1
      subst e1c
      have hm1 : ¬ nI l = -1 := nI_m1 (by omega)
      by_cases hp : p < 0 ∨ nI ln ≤ p
      · exact ⟨_, _, _, _, _, ⟨⟨by decide, by decide⟩, by (repeat (first | refine hasM_ov ?_ | refine hasM_rd (by decide) (by decide) (by decide) ?_ | refine hasM_up (by first | decide | omega) ?_)); exact ⟨_, w87⟩⟩, s7_setP i p v h0 ha hfr hi hxr hxi hm1 e1d (fun a b ea eb ha2 hb2 hs => by have eb2 := (nI_eq (by decide) hb2).mp eb; subst ea; rcases hp with z | z; exact nI_pos ha2 z; have := (nI_leI (by omega) ha2).mp z; omega), s8_setP i p v ((q_up_n _ _ (by decide)).trans w87) ((q_up_n _ _ (by decide)).trans w90) ((q_up_n _ _ (by decide)).trans w91) ((q_up_n _ _ (by decide)).trans w92) ((q_up_n _ _ (by decide)).trans w93) hi e2 e3 (by omega) (by rw [e4]; exact hp), ⟨lf, 2, R, f, len, g, x, nx, k, G, gi, xi, left, fk, (cD_s ((q_up_n _ _ (by decide)).trans (q_up_s _ _ _)) (fun a z => ((q_up_n _ _ (by omega)).trans ((q_up_n _ _ (by omega)).trans rfl))) hD), (cRs_fr (fun a z z2 => ((q_up_n _ _ (by omega)).trans ((q_up_n _ _ (by omega)).trans rfl))) hRs), (rIm_f (fun a z z2 => ((q_up_n _ _ (by omega)).trans ((q_up_n _ _ (by omega)).trans rfl))) hIm), (rRd_f (fun a z => ((q_up_n _ _ (by omega)).trans ((q_up_n _ _ (by omega)).trans rfl))) hRd), (rTp_f (fun a z z2 => ((q_up_n _ _ (by omega)).trans ((q_up_n _ _ (by omega)).trans rfl))) hTp), (rTb_f (fun a z z2 => ((q_up_n _ _ (by omega)).trans ((q_up_n _ _ (by omega)).trans rfl))) hTb), (rAc_f (fun a z z2 => ((q_up_n _ _ (by omega)).trans ((q_up_n _ _ (by omega)).trans rfl))) hAc), (rFo_f (fun a z z2 => ((q_up_n _ _ (by omega)).trans ((q_up_n _ _ (by omega)).trans rfl))) hFo), (rAs_f (fun a z z2 => ((q_up_n _ _ (by omega)).trans ((q_up_n _ _ (by omega)).trans rfl))) hAs), ⟨⟨_, _, _, _, _, _, _, _, _, (q_up_s _ _ _)⟩, ⟨W, Kp, ((q_up_n _ _ (by decide)).trans ((q_up_n _ _ (by decide)).trans w88)), ((q_up_n _ _ (by decide)).trans ((q_up_n _ _ (by decide)).trans w94)), hW⟩, ((q_up_n _ _ (by decide)).trans ((q_up_n _ _ (by decide)).trans w89)), ⟨_, _, _, _, ((q_up_n _ _ (by decide)).trans ((q_up_n _ _ (by decide)).trans w90)), ((q_up_n _ _ (by decide)).trans ((q_up_n _ _ (by decide)).trans w91)), ((q_up_n _ _ (by decide)).trans ((q_up_n _ _ (by decide)).trans w92)), ((q_up_n _ _ (by decide)).trans ((q_up_n _ _ (by decide)).trans w93)), wRs⟩, ((q_up_n _ _ (by decide)).trans ((q_up_n _ _ (by decide)).trans w95))⟩, hIv'⟩⟩
      · obtain ⟨j, hj, rfl⟩ := pk_inN (by omega) hp
        refine ⟨_, _, _, _, _, ⟨⟨by decide, by decide⟩, by (repeat (first | refine hasM_ov ?_ | refine hasM_rd (by decide) (by decide) (by decide) ?_ | refine hasM_up (by first | decide | omega) ?_)); exact ⟨_, w87⟩⟩, s7_setT i j v h0 ha hfr hi hxr hxi hm1 e1b e1d hj, s8_setT i j v ((q_up_n _ _ (by decide)).trans ((q_up_n _ _ (by omega)).trans w87)) ((q_up_n _ _ (by decide)).trans ((q_up_n _ _ (by omega)).trans w90)) ((q_up_n _ _ (by decide)).trans ((q_up_n _ _ (by omega)).trans w91)) ((q_up_n _ _ (by decide)).trans ((q_up_n _ _ (by omega)).trans w92)) ((q_up_n _ _ (by decide)).trans ((q_up_n _ _ (by omega)).trans w93)) hi e2 e3 (by omega) (by omega), ?_⟩
        exact ⟨lf, 0, va_up R i (some (l, ln, va_up gf j (mNar l v))), f, len, g, x, nx, k, G, gi, xi, left, fk, (cD_s ((q_up_n _ _ (by decide)).trans ((q_up_n _ _ (by decide)).trans (q_up_s _ _ _))) (fun a z => ((q_up_n _ _ (by omega)).trans ((q_up_n _ _ (by omega)).trans ((q_up_n _ _ (by omega)).trans ((q_up_n _ _ (by omega)).trans rfl))))) hD), (cRs_up hRs (fun a z1 z2 z3 z4 => ((q_up_n _ _ (by omega)).trans ((q_up_n _ _ (by omega)).trans ((q_up_n _ _ (by omega)).trans ((q_up_n _ _ (by omega)).trans rfl))))) ⟨nI l, ln, va_up rf j (mNar l v), ((q_up_n _ _ (by omega)).trans ((q_up_n _ _ (by omega)).trans ((q_up_n _ _ (by omega)).trans ((q_up_n _ _ (by omega)).trans hxr)))), ((q_up_n _ _ (by omega)).trans ((q_up_n _ _ (by omega)).trans ((q_up_n _ _ (by omega)).trans (q_up_s _ _ _)))), rfl, e1b, rfl, e1d, fun t ht2 => by unfold va_up; split; rfl; exact e1e t ht2⟩), (rIm_f (fun a z z2 => ((q_up_n _ _ (by omega)).trans ((q_up_n _ _ (by omega)).trans ((q_up_n _ _ (by omega)).trans ((q_up_n _ _ (by omega)).trans rfl))))) hIm), (rRd_f (fun a z => ((q_up_n _ _ (by omega)).trans ((q_up_n _ _ (by omega)).trans ((q_up_n _ _ (by omega)).trans ((q_up_n _ _ (by omega)).trans rfl))))) hRd), (rTp_f (fun a z z2 => ((q_up_n _ _ (by omega)).trans ((q_up_n _ _ (by omega)).trans ((q_up_n _ _ (by omega)).trans ((q_up_n _ _ (by omega)).trans rfl))))) hTp), (rTb_f (fun a z z2 => ((q_up_n _ _ (by omega)).trans ((q_up_n _ _ (by omega)).trans ((q_up_n _ _ (by omega)).trans ((q_up_n _ _ (by omega)).trans rfl))))) hTb), (rAc_f (fun a z z2 => ((q_up_n _ _ (by omega)).trans ((q_up_n _ _ (by omega)).trans ((q_up_n _ _ (by omega)).trans ((q_up_n _ _ (by omega)).trans rfl))))) hAc), (rFo_f (fun a z z2 => ((q_up_n _ _ (by omega)).trans ((q_up_n _ _ (by omega)).trans ((q_up_n _ _ (by omega)).trans ((q_up_n _ _ (by omega)).trans rfl))))) hFo), (rAs_f (fun a z z2 => ((q_up_n _ _ (by omega)).trans ((q_up_n _ _ (by omega)).trans ((q_up_n _ _ (by omega)).trans ((q_up_n _ _ (by omega)).trans rfl))))) hAs), ⟨⟨_, _, _, _, _, _, _, _, _, (q_up_s _ _ _)⟩, ⟨W, Kp, ((q_up_n _ _ (by decide)).trans ((q_up_n _ _ (by decide)).trans ((q_up_n _ _ (by decide)).trans ((q_up_n _ _ (by omega)).trans w88)))), ((q_up_n _ _ (by decide)).trans ((q_up_n _ _ (by decide)).trans ((q_up_n _ _ (by decide)).trans ((q_up_n _ _ (by omega)).trans w94)))), hW⟩, ((q_up_n _ _ (by decide)).trans ((q_up_n _ _ (by decide)).trans ((q_up_n _ _ (by decide)).trans ((q_up_n _ _ (by omega)).trans w89)))), ⟨_, _, _, _, ((q_up_n _ _ (by decide)).trans ((q_up_n _ _ (by decide)).trans ((q_up_n _ _ (by decide)).trans ((q_up_n _ _ (by omega)).trans w90)))), ((q_up_n _ _ (by decide)).trans ((q_up_n _ _ (by decide)).trans ((q_up_n _ _ (by decide)).trans ((q_up_n _ _ (by omega)).trans w91)))), ((q_up_n _ _ (by decide)).trans (q_up_s _ _ _)), ((q_up_n _ _ (by decide)).trans ((q_up_n _ _ (by decide)).trans ((q_up_n _ _ (by decide)).trans ((q_up_n _ _ (by omega)).trans w93)))), (rRow_up wRs hi (fun t e => rfl) (fun t e => rfl) (fun t s e hj2 hp2 => va_up_n2 (by omega)) ⟨e2, e3, e4, e5, fun t ht2 => va_up_sh (e6 t ht2)⟩)⟩, ((q_up_n _ _ (by decide)).trans ((q_up_n _ _ (by decide)).trans ((q_up_n _ _ (by decide)).trans ((q_up_n _ _ (by omega)).trans w95))))⟩, hIv'⟩
set_option maxHeartbeats 4000000 in
theorem e_drop {n : Nat} {h : q_H} (hr : rel h) (xr : Int32) : rS yX7_drop cX7_drop 4 yX8_drop cX8_drop 2 [.int xr] n h := by
  obtain ⟨lf, ld, R, f, len, g, x, nx, k, G, gi, xi, left, fk, hD, hRs, hIm, hRd, hTp, hTb, hAc, hFo, hAs, hMo, hIv⟩ := id hr
  obtain ⟨h0, ⟨fr, ha, hfr⟩, ⟨fi, hI, hfi⟩⟩ := id hD
  obtain ⟨⟨Kc, dr, far, hrd, hK9⟩, tg, ttu, tmi, tto, ttp, tte, ttb, tT, htl, htc⟩ := id hRd
  obtain ⟨htp, hby⟩ := id hTp
  obtain ⟨ht, hc⟩ := id hTb
  obtain ⟨hA, ⟨fa, hB, hfa⟩, hG⟩ := id hAc
  obtain ⟨hw, ⟨g2, x2, hl, hlc⟩, ⟨f0, hs0⟩, b0, hbs⟩ := id hFo
  obtain ⟨⟨gu, so0, wa, ea, hK⟩, hKb⟩ := id hAs
  obtain ⟨⟨sa, ne, so, di, pu, at_, er, en, pa, w87⟩, ⟨W, Kp, w88, w94, hW⟩, w89, ⟨L, Z, I, Tk, w90, w91, w92, w93, wRs⟩, w95⟩ := id hMo
  have hIv' := hIv
  obtain ⟨i1, i2, i3, i4, i5, i6, i7⟩ := hIv
  have hg6 : g ≤ 6 := by rcases i3 with q | q; omega; exact q.1.2.1
  rcases pk_ix xr (n := 8) (by decide) with z | z | ⟨i, hi, rfl⟩
  · exact ⟨_, _, _, h, h, ⟨⟨by decide, by decide⟩, by (repeat (first | refine hasM_ov ?_ | refine hasM_rd (by decide) (by decide) (by decide) ?_ | refine hasM_up (by first | decide | omega) ?_)); exact ⟨_, w87⟩⟩, s7_dropB xr h0 ha hfr (Or.inl z), s8_dropB xr w87 w90 w91 w92 w93 (Or.inl z), hr⟩
  · exact ⟨_, _, _, h, h, ⟨⟨by decide, by decide⟩, by (repeat (first | refine hasM_ov ?_ | refine hasM_rd (by decide) (by decide) (by decide) ?_ | refine hasM_up (by first | decide | omega) ?_)); exact ⟨_, w87⟩⟩, s7_dropB xr h0 ha hfr (Or.inr z), s8_dropB xr w87 w90 w91 w92 w93 (Or.inr z), hr⟩
  · rcases hv : R i with _ | ⟨l, q, gf⟩
    · have c1 := hRs i hi
      have c2 := wRs i hi
      rw [hv] at c1 c2
      obtain ⟨lane, ln, rf, hxr, hxi, e1⟩ := c1
      obtain ⟨e2, e3⟩ := c2
      exact ⟨_, _, _, _, _, ⟨⟨by decide, by decide⟩, by (repeat (first | refine hasM_ov ?_ | refine hasM_rd (by decide) (by decide) (by decide) ?_ | refine hasM_up (by first | decide | omega) ?_)); exact ⟨_, w87⟩⟩, s7_dropM i h0 ha hfr hi hxr hxi e1, s8_dropM i ((q_up_n _ _ (by decide)).trans w87) ((q_up_n _ _ (by decide)).trans w90) ((q_up_n _ _ (by decide)).trans w91) ((q_up_n _ _ (by decide)).trans w92) ((q_up_n _ _ (by decide)).trans w93) hi e2, ⟨lf, 1, R, f, len, g, x, nx, k, G, gi, xi, left, fk, (cD_s ((q_up_n _ _ (by decide)).trans (q_up_s _ _ _)) (fun a z => ((q_up_n _ _ (by omega)).trans ((q_up_n _ _ (by omega)).trans rfl))) hD), (cRs_fr (fun a z z2 => ((q_up_n _ _ (by omega)).trans ((q_up_n _ _ (by omega)).trans rfl))) hRs), (rIm_f (fun a z z2 => ((q_up_n _ _ (by omega)).trans ((q_up_n _ _ (by omega)).trans rfl))) hIm), (rRd_f (fun a z => ((q_up_n _ _ (by omega)).trans ((q_up_n _ _ (by omega)).trans rfl))) hRd), (rTp_f (fun a z z2 => ((q_up_n _ _ (by omega)).trans ((q_up_n _ _ (by omega)).trans rfl))) hTp), (rTb_f (fun a z z2 => ((q_up_n _ _ (by omega)).trans ((q_up_n _ _ (by omega)).trans rfl))) hTb), (rAc_f (fun a z z2 => ((q_up_n _ _ (by omega)).trans ((q_up_n _ _ (by omega)).trans rfl))) hAc), (rFo_f (fun a z z2 => ((q_up_n _ _ (by omega)).trans ((q_up_n _ _ (by omega)).trans rfl))) hFo), (rAs_f (fun a z z2 => ((q_up_n _ _ (by omega)).trans ((q_up_n _ _ (by omega)).trans rfl))) hAs), ⟨⟨_, _, _, _, _, _, _, _, _, (q_up_s _ _ _)⟩, ⟨W, Kp, ((q_up_n _ _ (by decide)).trans ((q_up_n _ _ (by decide)).trans w88)), ((q_up_n _ _ (by decide)).trans ((q_up_n _ _ (by decide)).trans w94)), hW⟩, ((q_up_n _ _ (by decide)).trans ((q_up_n _ _ (by decide)).trans w89)), ⟨_, _, _, _, ((q_up_n _ _ (by decide)).trans ((q_up_n _ _ (by decide)).trans w90)), ((q_up_n _ _ (by decide)).trans ((q_up_n _ _ (by decide)).trans w91)), ((q_up_n _ _ (by decide)).trans ((q_up_n _ _ (by decide)).trans w92)), ((q_up_n _ _ (by decide)).trans ((q_up_n _ _ (by decide)).trans w93)), wRs⟩, ((q_up_n _ _ (by decide)).trans ((q_up_n _ _ (by decide)).trans w95))⟩, hIv'⟩⟩
    · have c1 := hRs i hi
      have c2 := wRs i hi
      rw [hv] at c1 c2
      obtain ⟨lane, ln, rf, hxr, hxi, e1, e1b, e1c, e1d, e1e⟩ := c1
      obtain ⟨e2, e3, e4, e5, e6⟩ := c2
      subst e1
      subst e1c
      have hm1 : ¬ nI l = -1 := nI_m1 (by omega)
      refine ⟨_, _, _, _, _, ⟨⟨by decide, by decide⟩, by (repeat (first | refine hasM_ov ?_ | refine hasM_rd (by decide) (by decide) (by decide) ?_ | refine hasM_up (by first | decide | omega) ?_)); exact ⟨_, w87⟩⟩, s7_dropT i h0 ha hfr hi hxr hxi hm1, (q_SPr (congrArg nI e4) (s8_dropT i ((q_up_n _ _ (by decide)).trans ((q_up_n _ _ (by omega)).trans w87)) ((q_up_n _ _ (by decide)).trans ((q_up_n _ _ (by omega)).trans w90)) ((q_up_n _ _ (by decide)).trans ((q_up_n _ _ (by omega)).trans w91)) ((q_up_n _ _ (by decide)).trans ((q_up_n _ _ (by omega)).trans w92)) ((q_up_n _ _ (by decide)).trans ((q_up_n _ _ (by omega)).trans w93)) hi e2 e3)), ?_⟩
      exact ⟨lf, 0, va_up R i none, f, len, g, x, nx, k, G, gi, xi, left, fk, (cD_s ((q_up_n _ _ (by decide)).trans ((q_up_n _ _ (by decide)).trans (q_up_s _ _ _))) (fun a z => ((q_up_n _ _ (by omega)).trans ((q_up_n _ _ (by omega)).trans ((q_up_n _ _ (by omega)).trans ((q_up_n _ _ (by omega)).trans rfl))))) hD), (cRs_up hRs (fun a z1 z2 z3 z4 => ((q_up_n _ _ (by omega)).trans ((q_up_n _ _ (by omega)).trans ((q_up_n _ _ (by omega)).trans ((q_up_n _ _ (by omega)).trans rfl))))) ⟨-1, 0, rf, ((q_up_n _ _ (by omega)).trans ((q_up_n _ _ (by omega)).trans ((q_up_n _ _ (by omega)).trans (q_up_s _ _ _)))), ((q_up_n _ _ (by omega)).trans ((q_up_n _ _ (by omega)).trans ((q_up_n _ _ (by omega)).trans ((q_up_n _ _ (by omega)).trans hxi)))), rfl⟩), (rIm_f (fun a z z2 => ((q_up_n _ _ (by omega)).trans ((q_up_n _ _ (by omega)).trans ((q_up_n _ _ (by omega)).trans ((q_up_n _ _ (by omega)).trans rfl))))) hIm), (rRd_f (fun a z => ((q_up_n _ _ (by omega)).trans ((q_up_n _ _ (by omega)).trans ((q_up_n _ _ (by omega)).trans ((q_up_n _ _ (by omega)).trans rfl))))) hRd), (rTp_f (fun a z z2 => ((q_up_n _ _ (by omega)).trans ((q_up_n _ _ (by omega)).trans ((q_up_n _ _ (by omega)).trans ((q_up_n _ _ (by omega)).trans rfl))))) hTp), (rTb_f (fun a z z2 => ((q_up_n _ _ (by omega)).trans ((q_up_n _ _ (by omega)).trans ((q_up_n _ _ (by omega)).trans ((q_up_n _ _ (by omega)).trans rfl))))) hTb), (rAc_f (fun a z z2 => ((q_up_n _ _ (by omega)).trans ((q_up_n _ _ (by omega)).trans ((q_up_n _ _ (by omega)).trans ((q_up_n _ _ (by omega)).trans rfl))))) hAc), (rFo_f (fun a z z2 => ((q_up_n _ _ (by omega)).trans ((q_up_n _ _ (by omega)).trans ((q_up_n _ _ (by omega)).trans ((q_up_n _ _ (by omega)).trans rfl))))) hFo), (rAs_f (fun a z z2 => ((q_up_n _ _ (by omega)).trans ((q_up_n _ _ (by omega)).trans ((q_up_n _ _ (by omega)).trans ((q_up_n _ _ (by omega)).trans rfl))))) hAs), ⟨⟨_, _, _, _, _, _, _, _, _, (q_up_s _ _ _)⟩, ⟨W, Kp, ((q_up_n _ _ (by decide)).trans ((q_up_n _ _ (by decide)).trans ((q_up_n _ _ (by decide)).trans ((q_up_n _ _ (by omega)).trans w88)))), ((q_up_n _ _ (by decide)).trans ((q_up_n _ _ (by decide)).trans ((q_up_n _ _ (by decide)).trans ((q_up_n _ _ (by omega)).trans w94)))), hW⟩, ((q_up_n _ _ (by decide)).trans ((q_up_n _ _ (by decide)).trans ((q_up_n _ _ (by decide)).trans ((q_up_n _ _ (by omega)).trans w89)))), ⟨_, _, _, _, ((q_up_n _ _ (by decide)).trans (q_up_s _ _ _)), ((q_up_n _ _ (by decide)).trans ((q_up_n _ _ (by decide)).trans ((q_up_n _ _ (by decide)).trans ((q_up_n _ _ (by omega)).trans w91)))), ((q_up_n _ _ (by decide)).trans ((q_up_n _ _ (by decide)).trans ((q_up_n _ _ (by decide)).trans ((q_up_n _ _ (by omega)).trans w92)))), ((q_up_n _ _ (by decide)).trans ((q_up_n _ _ (by decide)).trans ((q_up_n _ _ (by decide)).trans ((q_up_n _ _ (by omega)).trans w93)))), (rRow_up wRs hi (fun t e => va_up_n2 e) (fun t e => rfl) (fun t s e hj2 hp2 => rfl) ⟨va_up_s2, by omega⟩)⟩, ((q_up_n _ _ (by decide)).trans ((q_up_n _ _ (by decide)).trans ((q_up_n _ _ (by decide)).trans ((q_up_n _ _ (by omega)).trans w95))))⟩, hIv'⟩
