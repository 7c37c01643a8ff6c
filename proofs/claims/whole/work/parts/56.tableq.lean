theorem q_nx {nx : Nat} (h : nx < 24) : (((nx : Int) - 1) % ((24 : Nat) : Int)).toNat = (nx + 23) % 24 := by omega
theorem rUn_l {W : Nat → Nat} {nx k : Nat} {G : aG} (q : rUn W nx k G) (hk : 0 < k) (hk2 : k ≤ 24) (hn : nx < 24) : wT W (117 + 39 * (k - 1)) (G ((nx + 23) % 24)).1 (G ((nx + 23) % 24)).2 ∧ mW (G ((nx + 23) % 24)).1 (G ((nx + 23) % 24)).2 ∧ (G ((nx + 23) % 24)).2.2.2.1 ≤ 999 := by
  have h := q (k - 1) (by omega)
  rw [show (nx + 24 - k + (k - 1)) % 24 = (nx + 23) % 24 by omega] at h
  exact h
theorem rW_u {W : Nat → Nat} {g g2 : Nat} {x y y2 : mX} {nx k : Nat} {G : aG} {gi : Nat → Nat} {xi : Nat → mX} {Kp : Nat → Nat} (hk : 0 < k ∧ k ≤ 24) (hn : nx < 24) (e : wQ y y2) (q : rW W g x nx k G gi xi Kp) : rW (wPut W 0 g2 y) g2 y2 ((nx + 23) % 24) (k - 1) G gi xi Kp := by
  refine ⟨wT_Q e (wT_put _ _ _ _), fun j hj => ?_, fun i hi => (q.2.2 i hi).imp id (fun z => ⟨z.1, wT_o (by omega) z.2.1, z.2.2⟩)⟩
  rw [show ((nx + 23) % 24 + 24 - (k - 1) + j) % 24 = (nx + 24 - k + j) % 24 by omega]
  have h := q.2.1 j (by omega)
  exact ⟨wT_o (by omega) h.1, h.2⟩
set_option maxHeartbeats 4000000 in
theorem e_undo {n : Nat} {h : q_H} (hr : rel h)  : rS yX7_undo cX7_undo 1 yX8_undo cX8_undo 1 [] n h := by
  obtain ⟨lf, ld, R, f, len, g, x, nx, k, G, gi, xi, left, fk, hD, hRs, hIm, hRd, hTp, hTb, hAc, hFo, hAs, hMo, hIv⟩ := id hr
  obtain ⟨h0, ⟨fr, ha, hfr⟩, ⟨fi, hI, hfi⟩⟩ := id hD
  obtain ⟨⟨Kc, dr, far, hrd, hK9⟩, tg, ttu, tmi, tto, ttp, tte, ttb, tT, htl, htc⟩ := id hRd
  obtain ⟨htp, hby⟩ := id hTp
  obtain ⟨ht, hc⟩ := id hTb
  obtain ⟨hA, ⟨fa, hB, hfa⟩, hG⟩ := id hAc
  obtain ⟨hw, ⟨g2, x2, hl, hlc⟩, ⟨f0, hs0⟩, b0, hbs⟩ := id hFo
  obtain ⟨⟨gu, so0, wa, ea, hK⟩, hKb⟩ := id hAs
  obtain ⟨⟨sa, ne, so, di, pu, at_, er, en, pa, w87⟩, ⟨W, Kp, w88, w94, hW⟩, w89, ⟨L, Z, I, Tk, w90, w91, w92, w93, wRs⟩, w95⟩ := id hMo
  have hIv' := hIv
  obtain ⟨i1, i2, i3, i4, i5, i6, i7⟩ := hIv
  have hg6 : g ≤ 6 := by rcases i3 with q | q; omega; exact q.1.2.1
  by_cases hk : k = 0
  · exact ⟨_, _, _, h, h, ⟨⟨by decide, by decide⟩, by (repeat (first | refine hasM_ov ?_ | refine hasM_rd (by decide) (by decide) (by decide) ?_ | refine hasM_up (by first | decide | omega) ?_)); exact ⟨_, w87⟩⟩, s7_undoN h0 hA hk, s8_undoN (W := W) (x := x) (g := g) w87 w88 hk, hr⟩
  · obtain ⟨t1, t2, t3⟩ := rUn_l hW.2.1 (by omega) i6 i5
    have hlt : (nx + 23) % 24 < 24 := Nat.mod_lt _ (by decide)
    have c7 := s7_undoT (n := n) h0 ht hc hA hB (nx := nx) ⟨i5, i6, by omega⟩ (by rw [q_nx i5]; exact hfa _ hlt) (hG _ hlt).1 (hG _ hlt).2 (by omega)
    rw [q_nx i5] at c7
    refine ⟨_, _, _, _, _, ⟨⟨by decide, by decide⟩, by (repeat (first | refine hasM_ov ?_ | refine hasM_rd (by decide) (by decide) (by decide) ?_ | refine hasM_up (by first | decide | omega) ?_)); exact ⟨_, w87⟩⟩, c7, s8_undoT ((q_up_n _ _ (by omega)).trans ((q_up_n _ _ (by omega)).trans ((q_up_n _ _ (by omega)).trans w87))) ((q_up_n _ _ (by omega)).trans ((q_up_n _ _ (by omega)).trans ((q_up_n _ _ (by omega)).trans w88))) t1 ⟨by omega, i6⟩, ?_⟩
    exact ⟨lf, ld, R, f, len, (G ((nx + 23) % 24)).1, ((G ((nx + 23) % 24)).2.1, (G ((nx + 23) % 24)).2.2.1, (G ((nx + 23) % 24)).2.2.2.1, x.2.2.2), (nx + 23) % 24, k - 1, G, gi, xi, left, fk, (cD_f (fun a z => ((q_up_n _ _ (by omega)).trans ((q_up_n _ _ (by omega)).trans ((q_up_n _ _ (by omega)).trans ((q_up_n _ _ (by omega)).trans ((q_up_n _ _ (by omega)).trans rfl)))))) hD), (cRs_fr (fun a z z2 => ((q_up_n _ _ (by omega)).trans ((q_up_n _ _ (by omega)).trans ((q_up_n _ _ (by omega)).trans ((q_up_n _ _ (by omega)).trans ((q_up_n _ _ (by omega)).trans rfl)))))) hRs), (rIm_f (fun a z z2 => ((q_up_n _ _ (by omega)).trans ((q_up_n _ _ (by omega)).trans ((q_up_n _ _ (by omega)).trans ((q_up_n _ _ (by omega)).trans ((q_up_n _ _ (by omega)).trans rfl)))))) hIm), (rRd_f (fun a z => ((q_up_n _ _ (by omega)).trans ((q_up_n _ _ (by omega)).trans ((q_up_n _ _ (by omega)).trans ((q_up_n _ _ (by omega)).trans ((q_up_n _ _ (by omega)).trans rfl)))))) hRd), (rTp_f (fun a z z2 => ((q_up_n _ _ (by omega)).trans ((q_up_n _ _ (by omega)).trans ((q_up_n _ _ (by omega)).trans ((q_up_n _ _ (by omega)).trans ((q_up_n _ _ (by omega)).trans rfl)))))) hTp), ⟨((q_up_n _ _ (by decide)).trans ((q_up_n _ _ (by decide)).trans ((q_up_n _ _ (by decide)).trans (q_up_s _ _ _)))), ((q_up_n _ _ (by decide)).trans ((q_up_n _ _ (by decide)).trans ((q_up_n _ _ (by decide)).trans ((q_up_n _ _ (by decide)).trans (q_up_s _ _ _)))))⟩, ⟨((q_up_n _ _ (by decide)).trans ((q_up_n _ _ (by decide)).trans (q_up_s _ _ _))), ⟨fa, ((q_up_n _ _ (by decide)).trans ((q_up_n _ _ (by decide)).trans ((q_up_n _ _ (by decide)).trans ((q_up_n _ _ (by decide)).trans ((q_up_n _ _ (by decide)).trans hB))))), hfa⟩, fun i hi => ⟨((q_up_n _ _ (by omega)).trans ((q_up_n _ _ (by omega)).trans ((q_up_n _ _ (by omega)).trans ((q_up_n _ _ (by omega)).trans ((q_up_n _ _ (by omega)).trans (hG i hi).1))))), ((q_up_n _ _ (by omega)).trans ((q_up_n _ _ (by omega)).trans ((q_up_n _ _ (by omega)).trans ((q_up_n _ _ (by omega)).trans ((q_up_n _ _ (by omega)).trans (hG i hi).2)))))⟩⟩, (rFo_f (fun a z z2 => ((q_up_n _ _ (by omega)).trans ((q_up_n _ _ (by omega)).trans ((q_up_n _ _ (by omega)).trans ((q_up_n _ _ (by omega)).trans ((q_up_n _ _ (by omega)).trans rfl)))))) hFo), (rAs_f (fun a z z2 => ((q_up_n _ _ (by omega)).trans ((q_up_n _ _ (by omega)).trans ((q_up_n _ _ (by omega)).trans ((q_up_n _ _ (by omega)).trans ((q_up_n _ _ (by omega)).trans rfl)))))) hAs), ⟨⟨_, _, _, _, _, _, _, _, _, (q_up_s _ _ _)⟩, ⟨_, Kp, ((q_up_n _ _ (by decide)).trans (q_up_s _ _ _)), ((q_up_n _ _ (by decide)).trans ((q_up_n _ _ (by decide)).trans ((q_up_n _ _ (by decide)).trans ((q_up_n _ _ (by decide)).trans ((q_up_n _ _ (by decide)).trans w94))))), (rW_u ⟨by omega, i6⟩ i5 ⟨rfl, rfl, rfl⟩ hW)⟩, ((q_up_n _ _ (by decide)).trans ((q_up_n _ _ (by decide)).trans ((q_up_n _ _ (by decide)).trans ((q_up_n _ _ (by decide)).trans ((q_up_n _ _ (by decide)).trans w89))))), ⟨_, _, _, _, ((q_up_n _ _ (by decide)).trans ((q_up_n _ _ (by decide)).trans ((q_up_n _ _ (by decide)).trans ((q_up_n _ _ (by decide)).trans ((q_up_n _ _ (by decide)).trans w90))))), ((q_up_n _ _ (by decide)).trans ((q_up_n _ _ (by decide)).trans ((q_up_n _ _ (by decide)).trans ((q_up_n _ _ (by decide)).trans ((q_up_n _ _ (by decide)).trans w91))))), ((q_up_n _ _ (by decide)).trans ((q_up_n _ _ (by decide)).trans ((q_up_n _ _ (by decide)).trans ((q_up_n _ _ (by decide)).trans ((q_up_n _ _ (by decide)).trans w92))))), ((q_up_n _ _ (by decide)).trans ((q_up_n _ _ (by decide)).trans ((q_up_n _ _ (by decide)).trans ((q_up_n _ _ (by decide)).trans ((q_up_n _ _ (by decide)).trans w93))))), wRs⟩, ((q_up_n _ _ (by decide)).trans ((q_up_n _ _ (by decide)).trans ((q_up_n _ _ (by decide)).trans ((q_up_n _ _ (by decide)).trans ((q_up_n _ _ (by decide)).trans w95)))))⟩, ⟨i1, i2, Or.inr t2, t3, hlt, by omega, i7⟩⟩
set_option maxHeartbeats 4000000 in
theorem e_guest {n : Nat} {h : q_H} (hr : rel h) (z : Int32) (q : Int32) : rS yX7_guest cX7_guest 3 yX8_guest cX8_guest 3 [.int z, .int q] n h := by
  obtain ⟨lf, ld, R, f, len, g, x, nx, k, G, gi, xi, left, fk, hD, hRs, hIm, hRd, hTp, hTb, hAc, hFo, hAs, hMo, hIv⟩ := id hr
  obtain ⟨h0, ⟨fr, ha, hfr⟩, ⟨fi, hI, hfi⟩⟩ := id hD
  obtain ⟨⟨Kc, dr, far, hrd, hK9⟩, tg, ttu, tmi, tto, ttp, tte, ttb, tT, htl, htc⟩ := id hRd
  obtain ⟨htp, hby⟩ := id hTp
  obtain ⟨ht, hc⟩ := id hTb
  obtain ⟨hA, ⟨fa, hB, hfa⟩, hG⟩ := id hAc
  obtain ⟨hw, ⟨g2, x2, hl, hlc⟩, ⟨f0, hs0⟩, b0, hbs⟩ := id hFo
  obtain ⟨⟨gu, so0, wa, ea, hK⟩, hKb⟩ := id hAs
  obtain ⟨⟨sa, ne, so, di, pu, at_, er, en, pa, w87⟩, ⟨W, Kp, w88, w94, hW⟩, w89, ⟨L, Z, I, Tk, w90, w91, w92, w93, wRs⟩, w95⟩ := id hMo
  have hIv' := hIv
  obtain ⟨i1, i2, i3, i4, i5, i6, i7⟩ := hIv
  have hg6 : g ≤ 6 := by rcases i3 with q | q; omega; exact q.1.2.1
  by_cases hb : z < 0 ∨ nI g ≤ z
  · exact ⟨_, _, _, h, h, ⟨⟨by decide, by decide⟩, by (repeat (first | refine hasM_ov ?_ | refine hasM_rd (by decide) (by decide) (by decide) ?_ | refine hasM_up (by first | decide | omega) ?_)); exact ⟨_, w87⟩⟩, s7_guestB h0 ht hc z q hb, s8_guestB z q w87 w88 hW.1 hg6 (Or.inl hb), hr⟩
  · obtain ⟨z, hz, rfl⟩ := pk_inN (by omega) hb
    rcases i3 with hg0 | hv
    · omega
    · have hg : 0 < g ∧ g ≤ 6 := ⟨hv.1.1, hv.1.2.1⟩
      by_cases hq : q < nI 0 ∨ nI 3 < q
      · have q2 : q.toInt < 0 ∨ 3 < q.toInt := hq.imp (fun z => by rw [Int32.lt_iff_toInt_lt] at z; exact z) (fun z => by rw [Int32.lt_iff_toInt_lt] at z; exact z)
        exact ⟨_, _, _, h, h, ⟨⟨by decide, by decide⟩, by (repeat (first | refine hasM_ov ?_ | refine hasM_rd (by decide) (by decide) (by decide) ?_ | refine hasM_up (by first | decide | omega) ?_)); exact ⟨_, w87⟩⟩, s7_guestO h0 ht hc z hg hz q q2, s8_guestB (nI z) q w87 w88 hW.1 hg6 (Or.inr hq), hr⟩
      · obtain ⟨q, -, hq2, rfl⟩ := q_rng 0 3 (by decide) hq
        rcases (by omega : q = 0 ∨ q = 1 ∨ q = 2 ∨ q = 3) with rfl | rfl | rfl | rfl
        · exact ⟨_, _, _, h, h, ⟨⟨by decide, by decide⟩, by (repeat (first | refine hasM_ov ?_ | refine hasM_rd (by decide) (by decide) (by decide) ?_ | refine hasM_up (by first | decide | omega) ?_)); exact ⟨_, w87⟩⟩, s7_guest0 h0 ht hc z hg hz, s8_guest0 z w87 w88 hW.1 hg hz, hr⟩
        · exact ⟨_, _, _, h, h, ⟨⟨by decide, by decide⟩, by (repeat (first | refine hasM_ov ?_ | refine hasM_rd (by decide) (by decide) (by decide) ?_ | refine hasM_up (by first | decide | omega) ?_)); exact ⟨_, w87⟩⟩, s7_guest1 h0 ht hc z hg hz, s8_guest1 z w87 w88 hW.1 hg hz, hr⟩
        · exact ⟨_, _, _, h, h, ⟨⟨by decide, by decide⟩, by (repeat (first | refine hasM_ov ?_ | refine hasM_rd (by decide) (by decide) (by decide) ?_ | refine hasM_up (by first | decide | omega) ?_)); exact ⟨_, w87⟩⟩, s7_guest2 h0 ht hc z hg hz, s8_guest2 z w87 w88 hW.1 hg hz, hr⟩
        · exact ⟨_, _, _, h, h, ⟨⟨by decide, by decide⟩, by (repeat (first | refine hasM_ov ?_ | refine hasM_rd (by decide) (by decide) (by decide) ?_ | refine hasM_up (by first | decide | omega) ?_)); exact ⟨_, w87⟩⟩, s7_guest3 h0 ht hc z hg hz ⟨Nat.lt_of_lt_of_le hv.1.2.2 hg6, (hv.2.2 z (by omega)).2.2.2.2.1⟩ (Nat.lt_of_lt_of_le (Nat.mod_lt _ hg.1) hg6), s8_guest3 z w87 w88 hW.1 hg hz hv, hr⟩
theorem q_lk (q : Int32) (h : q < nI 0 ∨ nI 1 < q) : Op.lookupswitch.offset (#[((0 : Int), (25 : Int)), (1, 35)] : Array (Int × Int)).toList 45 q.toInt = 45 := by
  have q2 : q.toInt < 0 ∨ 1 < q.toInt := h.imp (fun z => by rw [Int32.lt_iff_toInt_lt] at z; exact z) (fun z => by rw [Int32.lt_iff_toInt_lt] at z; exact z)
  have n0 : ¬ q.toInt = 0 := by omega
  have n1 : ¬ q.toInt = 1 := by omega
  simp [Op.lookupswitch.offset, n0, n1]
  try omega
set_option maxHeartbeats 4000000 in
theorem e_dish {n : Nat} {h : q_H} (hr : rel h) (z : Int32) (q : Int32) : rS yX7_dish cX7_dish 3 yX8_dish cX8_dish 3 [.int z, .int q] n h := by
  obtain ⟨lf, ld, R, f, len, g, x, nx, k, G, gi, xi, left, fk, hD, hRs, hIm, hRd, hTp, hTb, hAc, hFo, hAs, hMo, hIv⟩ := id hr
  obtain ⟨h0, ⟨fr, ha, hfr⟩, ⟨fi, hI, hfi⟩⟩ := id hD
  obtain ⟨⟨Kc, dr, far, hrd, hK9⟩, tg, ttu, tmi, tto, ttp, tte, ttb, tT, htl, htc⟩ := id hRd
  obtain ⟨htp, hby⟩ := id hTp
  obtain ⟨ht, hc⟩ := id hTb
  obtain ⟨hA, ⟨fa, hB, hfa⟩, hG⟩ := id hAc
  obtain ⟨hw, ⟨g2, x2, hl, hlc⟩, ⟨f0, hs0⟩, b0, hbs⟩ := id hFo
  obtain ⟨⟨gu, so0, wa, ea, hK⟩, hKb⟩ := id hAs
  obtain ⟨⟨sa, ne, so, di, pu, at_, er, en, pa, w87⟩, ⟨W, Kp, w88, w94, hW⟩, w89, ⟨L, Z, I, Tk, w90, w91, w92, w93, wRs⟩, w95⟩ := id hMo
  have hIv' := hIv
  obtain ⟨i1, i2, i3, i4, i5, i6, i7⟩ := hIv
  have hg6 : g ≤ 6 := by rcases i3 with q | q; omega; exact q.1.2.1
  by_cases hb : z < 0 ∨ nI g ≤ z
  · exact ⟨_, _, _, h, h, ⟨⟨by decide, by decide⟩, by (repeat (first | refine hasM_ov ?_ | refine hasM_rd (by decide) (by decide) (by decide) ?_ | refine hasM_up (by first | decide | omega) ?_)); exact ⟨_, w87⟩⟩, s7_dishB h0 ht hc z q hb, s8_dishB z q w87 w88 hW.1 hg6 (Or.inl hb), hr⟩
  · obtain ⟨z, hz, rfl⟩ := pk_inN (by omega) hb
    rcases i3 with hg0 | hv
    · omega
    · have hg : 0 < g ∧ g ≤ 6 := ⟨hv.1.1, hv.1.2.1⟩
      by_cases hq : q < nI 0 ∨ nI 1 < q
      · exact ⟨_, _, _, h, h, ⟨⟨by decide, by decide⟩, by (repeat (first | refine hasM_ov ?_ | refine hasM_rd (by decide) (by decide) (by decide) ?_ | refine hasM_up (by first | decide | omega) ?_)); exact ⟨_, w87⟩⟩, s7_dishO h0 ht hc z hg hz q (q_lk q hq), s8_dishB (nI z) q w87 w88 hW.1 hg6 (Or.inr hq), hr⟩
      · obtain ⟨q, -, hq2, rfl⟩ := q_rng 0 1 (by decide) hq
        rcases (by omega : q = 0 ∨ q = 1) with rfl | rfl
        · exact ⟨_, _, _, h, h, ⟨⟨by decide, by decide⟩, by (repeat (first | refine hasM_ov ?_ | refine hasM_rd (by decide) (by decide) (by decide) ?_ | refine hasM_up (by first | decide | omega) ?_)); exact ⟨_, w87⟩⟩, s7_dish0 h0 ht hc z hg hz, s8_dish0 z w87 w88 hW.1 hg hz, hr⟩
        · exact ⟨_, _, _, h, h, ⟨⟨by decide, by decide⟩, by (repeat (first | refine hasM_ov ?_ | refine hasM_rd (by decide) (by decide) (by decide) ?_ | refine hasM_up (by first | decide | omega) ?_)); exact ⟨_, w87⟩⟩, s7_dish1 h0 ht hc z hg hz, s8_dish1 z w87 w88 hW.1 hg hz, hr⟩
set_option maxHeartbeats 4000000 in
theorem e_kind {n : Nat} {h : q_H} (hr : rel h) (z : Int32) : rS yX7_kind cX7_kind 2 yX8_kind cX8_kind 2 [.int z] n h := by
  obtain ⟨lf, ld, R, f, len, g, x, nx, k, G, gi, xi, left, fk, hD, hRs, hIm, hRd, hTp, hTb, hAc, hFo, hAs, hMo, hIv⟩ := id hr
  obtain ⟨h0, ⟨fr, ha, hfr⟩, ⟨fi, hI, hfi⟩⟩ := id hD
  obtain ⟨⟨Kc, dr, far, hrd, hK9⟩, tg, ttu, tmi, tto, ttp, tte, ttb, tT, htl, htc⟩ := id hRd
  obtain ⟨htp, hby⟩ := id hTp
  obtain ⟨ht, hc⟩ := id hTb
  obtain ⟨hA, ⟨fa, hB, hfa⟩, hG⟩ := id hAc
  obtain ⟨hw, ⟨g2, x2, hl, hlc⟩, ⟨f0, hs0⟩, b0, hbs⟩ := id hFo
  obtain ⟨⟨gu, so0, wa, ea, hK⟩, hKb⟩ := id hAs
  obtain ⟨⟨sa, ne, so, di, pu, at_, er, en, pa, w87⟩, ⟨W, Kp, w88, w94, hW⟩, w89, ⟨L, Z, I, Tk, w90, w91, w92, w93, wRs⟩, w95⟩ := id hMo
  have hIv' := hIv
  obtain ⟨i1, i2, i3, i4, i5, i6, i7⟩ := hIv
  have hg6 : g ≤ 6 := by rcases i3 with q | q; omega; exact q.1.2.1
  by_cases hb : z < 0 ∨ nI g ≤ z
  · exact ⟨_, _, _, h, h, ⟨⟨by decide, by decide⟩, by (repeat (first | refine hasM_ov ?_ | refine hasM_rd (by decide) (by decide) (by decide) ?_ | refine hasM_up (by first | decide | omega) ?_)); exact ⟨_, w87⟩⟩, s7_kindB h0 ht hc z hb, s8_kindB z w87 w88 hW.1 hg6 hb, hr⟩
  · obtain ⟨z, hz, rfl⟩ := pk_inN (by omega) hb
    rcases i3 with hg0 | hv
    · omega
    · have hg : 0 < g ∧ g ≤ 6 := ⟨hv.1.1, hv.1.2.1⟩
      exact ⟨_, _, _, h, h, ⟨⟨by decide, by decide⟩, by (repeat (first | refine hasM_ov ?_ | refine hasM_rd (by decide) (by decide) (by decide) ?_ | refine hasM_up (by first | decide | omega) ?_)); exact ⟨_, w87⟩⟩, s7_kindT h0 ht hc z hg hz, s8_kindT z w87 w88 hW.1 hg hz, hr⟩
set_option maxHeartbeats 4000000 in
theorem e_as {n : Nat} {h : q_H} (hr : rel h) (z : Int32) (q : Int32) : rS yX7_as cX7_as 3 yX8_as cX8_as 3 [.int z, .int q] n h := by
  obtain ⟨lf, ld, R, f, len, g, x, nx, k, G, gi, xi, left, fk, hD, hRs, hIm, hRd, hTp, hTb, hAc, hFo, hAs, hMo, hIv⟩ := id hr
  obtain ⟨h0, ⟨fr, ha, hfr⟩, ⟨fi, hI, hfi⟩⟩ := id hD
  obtain ⟨⟨Kc, dr, far, hrd, hK9⟩, tg, ttu, tmi, tto, ttp, tte, ttb, tT, htl, htc⟩ := id hRd
  obtain ⟨htp, hby⟩ := id hTp
  obtain ⟨ht, hc⟩ := id hTb
  obtain ⟨hA, ⟨fa, hB, hfa⟩, hG⟩ := id hAc
  obtain ⟨hw, ⟨g2, x2, hl, hlc⟩, ⟨f0, hs0⟩, b0, hbs⟩ := id hFo
  obtain ⟨⟨gu, so0, wa, ea, hK⟩, hKb⟩ := id hAs
  obtain ⟨⟨sa, ne, so, di, pu, at_, er, en, pa, w87⟩, ⟨W, Kp, w88, w94, hW⟩, w89, ⟨L, Z, I, Tk, w90, w91, w92, w93, wRs⟩, w95⟩ := id hMo
  have hIv' := hIv
  obtain ⟨i1, i2, i3, i4, i5, i6, i7⟩ := hIv
  have hg6 : g ≤ 6 := by rcases i3 with q | q; omega; exact q.1.2.1
  by_cases hb : (z < 0 ∨ nI g ≤ z) ∨ (q < nI 0 ∨ nI 5 < q)
  · exact ⟨_, _, _, h, h, ⟨⟨by decide, by decide⟩, by (repeat (first | refine hasM_ov ?_ | refine hasM_rd (by decide) (by decide) (by decide) ?_ | refine hasM_up (by first | decide | omega) ?_)); exact ⟨_, w87⟩⟩, s7_asB h0 ht hc z q hb, s8_asB z q w87 w88 hW.1 hg6 hb, hr⟩
  · obtain ⟨z, hz, rfl⟩ := pk_inN (by omega) (fun t => hb (Or.inl t))
    obtain ⟨q, -, hq2, rfl⟩ := q_rng 0 5 (by decide) (fun t => hb (Or.inr t))
    rcases i3 with hg0 | hv
    · omega
    · have hg : 0 < g ∧ g ≤ 6 := ⟨hv.1.1, hv.1.2.1⟩
      have hso := (hv.2.2 z (by omega)).1
      by_cases he : mIs (x.1 (0 + z)) q = true
      · exact ⟨_, _, _, _, _, ⟨⟨by decide, by decide⟩, by (repeat (first | refine hasM_ov ?_ | refine hasM_rd (by decide) (by decide) (by decide) ?_ | refine hasM_up (by first | decide | omega) ?_)); exact ⟨_, w87⟩⟩, s7_asT h0 ht hc z hg hz q hq2 hso he, s8_asT z q ((q_up_n _ _ (by omega)).trans w87) ((q_up_n _ _ (by omega)).trans w88) hW.1 hg hz hq2 hso he, ⟨lf, 0, R, f, len, g, x, nx, k, G, gi, xi, left, fk, (cD_s ((q_up_n _ _ (by decide)).trans (q_up_s _ _ _)) (fun a z => ((q_up_n _ _ (by omega)).trans ((q_up_n _ _ (by omega)).trans rfl))) hD), (cRs_fr (fun a z z2 => ((q_up_n _ _ (by omega)).trans ((q_up_n _ _ (by omega)).trans rfl))) hRs), (rIm_f (fun a z z2 => ((q_up_n _ _ (by omega)).trans ((q_up_n _ _ (by omega)).trans rfl))) hIm), (rRd_f (fun a z => ((q_up_n _ _ (by omega)).trans ((q_up_n _ _ (by omega)).trans rfl))) hRd), (rTp_f (fun a z z2 => ((q_up_n _ _ (by omega)).trans ((q_up_n _ _ (by omega)).trans rfl))) hTp), (rTb_f (fun a z z2 => ((q_up_n _ _ (by omega)).trans ((q_up_n _ _ (by omega)).trans rfl))) hTb), (rAc_f (fun a z z2 => ((q_up_n _ _ (by omega)).trans ((q_up_n _ _ (by omega)).trans rfl))) hAc), (rFo_f (fun a z z2 => ((q_up_n _ _ (by omega)).trans ((q_up_n _ _ (by omega)).trans rfl))) hFo), (rAs_f (fun a z z2 => ((q_up_n _ _ (by omega)).trans ((q_up_n _ _ (by omega)).trans rfl))) hAs), ⟨⟨_, _, _, _, _, _, _, _, _, (q_up_s _ _ _)⟩, ⟨W, Kp, ((q_up_n _ _ (by decide)).trans ((q_up_n _ _ (by decide)).trans w88)), ((q_up_n _ _ (by decide)).trans ((q_up_n _ _ (by decide)).trans w94)), hW⟩, ((q_up_n _ _ (by decide)).trans ((q_up_n _ _ (by decide)).trans w89)), ⟨_, _, _, _, ((q_up_n _ _ (by decide)).trans ((q_up_n _ _ (by decide)).trans w90)), ((q_up_n _ _ (by decide)).trans ((q_up_n _ _ (by decide)).trans w91)), ((q_up_n _ _ (by decide)).trans ((q_up_n _ _ (by decide)).trans w92)), ((q_up_n _ _ (by decide)).trans ((q_up_n _ _ (by decide)).trans w93)), wRs⟩, ((q_up_n _ _ (by decide)).trans ((q_up_n _ _ (by decide)).trans w95))⟩, hIv'⟩⟩
      · exact ⟨_, _, _, _, _, ⟨⟨by decide, by decide⟩, by (repeat (first | refine hasM_ov ?_ | refine hasM_rd (by decide) (by decide) (by decide) ?_ | refine hasM_up (by first | decide | omega) ?_)); exact ⟨_, w87⟩⟩, s7_asF h0 ht hc z hg hz q hq2 hso he, s8_asF z q ((q_up_n _ _ (by omega)).trans w87) ((q_up_n _ _ (by omega)).trans w88) hW.1 hg hz hq2 hso he, ⟨lf, 3, R, f, len, g, x, nx, k, G, gi, xi, left, fk, (cD_s ((q_up_n _ _ (by decide)).trans (q_up_s _ _ _)) (fun a z => ((q_up_n _ _ (by omega)).trans ((q_up_n _ _ (by omega)).trans rfl))) hD), (cRs_fr (fun a z z2 => ((q_up_n _ _ (by omega)).trans ((q_up_n _ _ (by omega)).trans rfl))) hRs), (rIm_f (fun a z z2 => ((q_up_n _ _ (by omega)).trans ((q_up_n _ _ (by omega)).trans rfl))) hIm), (rRd_f (fun a z => ((q_up_n _ _ (by omega)).trans ((q_up_n _ _ (by omega)).trans rfl))) hRd), (rTp_f (fun a z z2 => ((q_up_n _ _ (by omega)).trans ((q_up_n _ _ (by omega)).trans rfl))) hTp), (rTb_f (fun a z z2 => ((q_up_n _ _ (by omega)).trans ((q_up_n _ _ (by omega)).trans rfl))) hTb), (rAc_f (fun a z z2 => ((q_up_n _ _ (by omega)).trans ((q_up_n _ _ (by omega)).trans rfl))) hAc), (rFo_f (fun a z z2 => ((q_up_n _ _ (by omega)).trans ((q_up_n _ _ (by omega)).trans rfl))) hFo), (rAs_f (fun a z z2 => ((q_up_n _ _ (by omega)).trans ((q_up_n _ _ (by omega)).trans rfl))) hAs), ⟨⟨_, _, _, _, _, _, _, _, _, (q_up_s _ _ _)⟩, ⟨W, Kp, ((q_up_n _ _ (by decide)).trans ((q_up_n _ _ (by decide)).trans w88)), ((q_up_n _ _ (by decide)).trans ((q_up_n _ _ (by decide)).trans w94)), hW⟩, ((q_up_n _ _ (by decide)).trans ((q_up_n _ _ (by decide)).trans w89)), ⟨_, _, _, _, ((q_up_n _ _ (by decide)).trans ((q_up_n _ _ (by decide)).trans w90)), ((q_up_n _ _ (by decide)).trans ((q_up_n _ _ (by decide)).trans w91)), ((q_up_n _ _ (by decide)).trans ((q_up_n _ _ (by decide)).trans w92)), ((q_up_n _ _ (by decide)).trans ((q_up_n _ _ (by decide)).trans w93)), wRs⟩, ((q_up_n _ _ (by decide)).trans ((q_up_n _ _ (by decide)).trans w95))⟩, hIv'⟩⟩
theorem q_mSz (so : Nat) : (mSzL so).length ≤ 16 := by
  unfold mSzL
  repeat' split
  all_goals decide
theorem q_mMk (so : Nat) : (mMkL so).length ≤ 16 := by
  unfold mMkL
  repeat' split
  all_goals decide
set_option maxHeartbeats 4000000 in
theorem e_ask {n : Nat} {h : q_H} (hr : rel h) (z : Int32) (q : Int32) : rS yX7_ask cX7_ask 3 yX8_ask cX8_ask 3 [.int z, .int q] n h := by
  obtain ⟨lf, ld, R, f, len, g, x, nx, k, G, gi, xi, left, fk, hD, hRs, hIm, hRd, hTp, hTb, hAc, hFo, hAs, hMo, hIv⟩ := id hr
  obtain ⟨h0, ⟨fr, ha, hfr⟩, ⟨fi, hI, hfi⟩⟩ := id hD
  obtain ⟨⟨Kc, dr, far, hrd, hK9⟩, tg, ttu, tmi, tto, ttp, tte, ttb, tT, htl, htc⟩ := id hRd
  obtain ⟨htp, hby⟩ := id hTp
  obtain ⟨ht, hc⟩ := id hTb
  obtain ⟨hA, ⟨fa, hB, hfa⟩, hG⟩ := id hAc
  obtain ⟨hw, ⟨g2, x2, hl, hlc⟩, ⟨f0, hs0⟩, b0, hbs⟩ := id hFo
  obtain ⟨⟨gu, so0, wa, ea, hK⟩, hKb⟩ := id hAs
  obtain ⟨⟨sa, ne, so, di, pu, at_, er, en, pa, w87⟩, ⟨W, Kp, w88, w94, hW⟩, w89, ⟨L, Z, I, Tk, w90, w91, w92, w93, wRs⟩, w95⟩ := id hMo
  have hIv' := hIv
  obtain ⟨i1, i2, i3, i4, i5, i6, i7⟩ := hIv
  have hg6 : g ≤ 6 := by rcases i3 with q | q; omega; exact q.1.2.1
  by_cases hb : (z < 0 ∨ nI g ≤ z) ∨ (q < nI 0 ∨ nI 1 < q)
  · exact ⟨_, _, _, h, h, ⟨⟨by decide, by decide⟩, by (repeat (first | refine hasM_ov ?_ | refine hasM_rd (by decide) (by decide) (by decide) ?_ | refine hasM_up (by first | decide | omega) ?_)); exact ⟨_, w87⟩⟩, s7_askB h0 ht hc z q hb, s8_askB z q w87 w88 hW.1 hg6 hb, hr⟩
  · obtain ⟨z, hz, rfl⟩ := pk_inN (by omega) (fun t => hb (Or.inl t))
    obtain ⟨q, -, hq2, rfl⟩ := q_rng 0 1 (by decide) (fun t => hb (Or.inr t))
    rcases i3 with hg0 | hv
    · omega
    · have hg : 0 < g ∧ g ≤ 6 := ⟨hv.1.1, hv.1.2.1⟩
      have hso : 1 ≤ x.1 (0 + z) ∧ x.1 (0 + z) ≤ 5 := ⟨(hv.2.1 z hz).2.2.2.2.2.2.2.2, by have := (hv.2.2 z (by omega)).1; omega⟩
      rcases (by omega : q = 0 ∨ q = 1) with rfl | rfl
      · exact ⟨_, _, _, _, _, ⟨⟨by decide, by decide⟩, by (repeat (first | refine hasM_ov ?_ | refine hasM_rd (by decide) (by decide) (by decide) ?_ | refine hasM_up (by first | decide | omega) ?_)); exact ⟨_, w87⟩⟩, s7_ask0 h0 ht hc hK hKb z hg hz hso, s8_ask0 z ((q_up_n _ _ (by omega)).trans ((q_up_n _ _ (by omega)).trans ((q_up_n _ _ (by omega)).trans w87))) ((q_up_n _ _ (by omega)).trans ((q_up_n _ _ (by omega)).trans ((q_up_n _ _ (by omega)).trans w88))) hW.1 ((q_up_n _ _ (by decide)).trans ((q_up_n _ _ (by decide)).trans ((q_up_n _ _ (by decide)).trans w95))) hg hz hso, ⟨lf, ld, R, f, len, g, x, nx, k, G, gi, xi, (mSzL (x.1 (0 + z))).length, _, (cD_f (fun a z => ((q_up_n _ _ (by omega)).trans ((q_up_n _ _ (by omega)).trans ((q_up_n _ _ (by omega)).trans ((q_up_n _ _ (by omega)).trans ((q_up_n _ _ (by omega)).trans rfl)))))) hD), (cRs_fr (fun a z z2 => ((q_up_n _ _ (by omega)).trans ((q_up_n _ _ (by omega)).trans ((q_up_n _ _ (by omega)).trans ((q_up_n _ _ (by omega)).trans ((q_up_n _ _ (by omega)).trans rfl)))))) hRs), (rIm_f (fun a z z2 => ((q_up_n _ _ (by omega)).trans ((q_up_n _ _ (by omega)).trans ((q_up_n _ _ (by omega)).trans ((q_up_n _ _ (by omega)).trans ((q_up_n _ _ (by omega)).trans rfl)))))) hIm), (rRd_f (fun a z => ((q_up_n _ _ (by omega)).trans ((q_up_n _ _ (by omega)).trans ((q_up_n _ _ (by omega)).trans ((q_up_n _ _ (by omega)).trans ((q_up_n _ _ (by omega)).trans rfl)))))) hRd), (rTp_f (fun a z z2 => ((q_up_n _ _ (by omega)).trans ((q_up_n _ _ (by omega)).trans ((q_up_n _ _ (by omega)).trans ((q_up_n _ _ (by omega)).trans ((q_up_n _ _ (by omega)).trans rfl)))))) hTp), (rTb_f (fun a z z2 => ((q_up_n _ _ (by omega)).trans ((q_up_n _ _ (by omega)).trans ((q_up_n _ _ (by omega)).trans ((q_up_n _ _ (by omega)).trans ((q_up_n _ _ (by omega)).trans rfl)))))) hTb), (rAc_f (fun a z z2 => ((q_up_n _ _ (by omega)).trans ((q_up_n _ _ (by omega)).trans ((q_up_n _ _ (by omega)).trans ((q_up_n _ _ (by omega)).trans ((q_up_n _ _ (by omega)).trans rfl)))))) hAc), (rFo_f (fun a z z2 => ((q_up_n _ _ (by omega)).trans ((q_up_n _ _ (by omega)).trans ((q_up_n _ _ (by omega)).trans ((q_up_n _ _ (by omega)).trans ((q_up_n _ _ (by omega)).trans rfl)))))) hFo), ⟨⟨_, _, _, _, ((q_up_n _ _ (by decide)).trans ((q_up_n _ _ (by decide)).trans (q_up_s _ _ _)))⟩, ((q_up_n _ _ (by decide)).trans ((q_up_n _ _ (by decide)).trans ((q_up_n _ _ (by decide)).trans (q_up_s _ _ _))))⟩, ⟨⟨_, _, _, _, _, _, _, _, _, (q_up_s _ _ _)⟩, ⟨W, Kp, ((q_up_n _ _ (by decide)).trans ((q_up_n _ _ (by decide)).trans ((q_up_n _ _ (by decide)).trans ((q_up_n _ _ (by decide)).trans ((q_up_n _ _ (by decide)).trans w88))))), ((q_up_n _ _ (by decide)).trans ((q_up_n _ _ (by decide)).trans ((q_up_n _ _ (by decide)).trans ((q_up_n _ _ (by decide)).trans ((q_up_n _ _ (by decide)).trans w94))))), hW⟩, ((q_up_n _ _ (by decide)).trans ((q_up_n _ _ (by decide)).trans ((q_up_n _ _ (by decide)).trans ((q_up_n _ _ (by decide)).trans ((q_up_n _ _ (by decide)).trans w89))))), ⟨_, _, _, _, ((q_up_n _ _ (by decide)).trans ((q_up_n _ _ (by decide)).trans ((q_up_n _ _ (by decide)).trans ((q_up_n _ _ (by decide)).trans ((q_up_n _ _ (by decide)).trans w90))))), ((q_up_n _ _ (by decide)).trans ((q_up_n _ _ (by decide)).trans ((q_up_n _ _ (by decide)).trans ((q_up_n _ _ (by decide)).trans ((q_up_n _ _ (by decide)).trans w91))))), ((q_up_n _ _ (by decide)).trans ((q_up_n _ _ (by decide)).trans ((q_up_n _ _ (by decide)).trans ((q_up_n _ _ (by decide)).trans ((q_up_n _ _ (by decide)).trans w92))))), ((q_up_n _ _ (by decide)).trans ((q_up_n _ _ (by decide)).trans ((q_up_n _ _ (by decide)).trans ((q_up_n _ _ (by decide)).trans ((q_up_n _ _ (by decide)).trans w93))))), wRs⟩, ((q_up_n _ _ (by decide)).trans (q_up_s _ _ _))⟩, ⟨i1, i2, Or.inr hv, i4, i5, i6, q_mSz _⟩⟩⟩
      · exact ⟨_, _, _, _, _, ⟨⟨by decide, by decide⟩, by (repeat (first | refine hasM_ov ?_ | refine hasM_rd (by decide) (by decide) (by decide) ?_ | refine hasM_up (by first | decide | omega) ?_)); exact ⟨_, w87⟩⟩, s7_ask1 h0 ht hc hK hKb z hg hz hso, s8_ask1 z ((q_up_n _ _ (by omega)).trans ((q_up_n _ _ (by omega)).trans ((q_up_n _ _ (by omega)).trans w87))) ((q_up_n _ _ (by omega)).trans ((q_up_n _ _ (by omega)).trans ((q_up_n _ _ (by omega)).trans w88))) hW.1 ((q_up_n _ _ (by decide)).trans ((q_up_n _ _ (by decide)).trans ((q_up_n _ _ (by decide)).trans w95))) hg hz hso, ⟨lf, ld, R, f, len, g, x, nx, k, G, gi, xi, (mMkL (x.1 (0 + z))).length, _, (cD_f (fun a z => ((q_up_n _ _ (by omega)).trans ((q_up_n _ _ (by omega)).trans ((q_up_n _ _ (by omega)).trans ((q_up_n _ _ (by omega)).trans ((q_up_n _ _ (by omega)).trans rfl)))))) hD), (cRs_fr (fun a z z2 => ((q_up_n _ _ (by omega)).trans ((q_up_n _ _ (by omega)).trans ((q_up_n _ _ (by omega)).trans ((q_up_n _ _ (by omega)).trans ((q_up_n _ _ (by omega)).trans rfl)))))) hRs), (rIm_f (fun a z z2 => ((q_up_n _ _ (by omega)).trans ((q_up_n _ _ (by omega)).trans ((q_up_n _ _ (by omega)).trans ((q_up_n _ _ (by omega)).trans ((q_up_n _ _ (by omega)).trans rfl)))))) hIm), (rRd_f (fun a z => ((q_up_n _ _ (by omega)).trans ((q_up_n _ _ (by omega)).trans ((q_up_n _ _ (by omega)).trans ((q_up_n _ _ (by omega)).trans ((q_up_n _ _ (by omega)).trans rfl)))))) hRd), (rTp_f (fun a z z2 => ((q_up_n _ _ (by omega)).trans ((q_up_n _ _ (by omega)).trans ((q_up_n _ _ (by omega)).trans ((q_up_n _ _ (by omega)).trans ((q_up_n _ _ (by omega)).trans rfl)))))) hTp), (rTb_f (fun a z z2 => ((q_up_n _ _ (by omega)).trans ((q_up_n _ _ (by omega)).trans ((q_up_n _ _ (by omega)).trans ((q_up_n _ _ (by omega)).trans ((q_up_n _ _ (by omega)).trans rfl)))))) hTb), (rAc_f (fun a z z2 => ((q_up_n _ _ (by omega)).trans ((q_up_n _ _ (by omega)).trans ((q_up_n _ _ (by omega)).trans ((q_up_n _ _ (by omega)).trans ((q_up_n _ _ (by omega)).trans rfl)))))) hAc), (rFo_f (fun a z z2 => ((q_up_n _ _ (by omega)).trans ((q_up_n _ _ (by omega)).trans ((q_up_n _ _ (by omega)).trans ((q_up_n _ _ (by omega)).trans ((q_up_n _ _ (by omega)).trans rfl)))))) hFo), ⟨⟨_, _, _, _, ((q_up_n _ _ (by decide)).trans ((q_up_n _ _ (by decide)).trans (q_up_s _ _ _)))⟩, ((q_up_n _ _ (by decide)).trans ((q_up_n _ _ (by decide)).trans ((q_up_n _ _ (by decide)).trans (q_up_s _ _ _))))⟩, ⟨⟨_, _, _, _, _, _, _, _, _, (q_up_s _ _ _)⟩, ⟨W, Kp, ((q_up_n _ _ (by decide)).trans ((q_up_n _ _ (by decide)).trans ((q_up_n _ _ (by decide)).trans ((q_up_n _ _ (by decide)).trans ((q_up_n _ _ (by decide)).trans w88))))), ((q_up_n _ _ (by decide)).trans ((q_up_n _ _ (by decide)).trans ((q_up_n _ _ (by decide)).trans ((q_up_n _ _ (by decide)).trans ((q_up_n _ _ (by decide)).trans w94))))), hW⟩, ((q_up_n _ _ (by decide)).trans ((q_up_n _ _ (by decide)).trans ((q_up_n _ _ (by decide)).trans ((q_up_n _ _ (by decide)).trans ((q_up_n _ _ (by decide)).trans w89))))), ⟨_, _, _, _, ((q_up_n _ _ (by decide)).trans ((q_up_n _ _ (by decide)).trans ((q_up_n _ _ (by decide)).trans ((q_up_n _ _ (by decide)).trans ((q_up_n _ _ (by decide)).trans w90))))), ((q_up_n _ _ (by decide)).trans ((q_up_n _ _ (by decide)).trans ((q_up_n _ _ (by decide)).trans ((q_up_n _ _ (by decide)).trans ((q_up_n _ _ (by decide)).trans w91))))), ((q_up_n _ _ (by decide)).trans ((q_up_n _ _ (by decide)).trans ((q_up_n _ _ (by decide)).trans ((q_up_n _ _ (by decide)).trans ((q_up_n _ _ (by decide)).trans w92))))), ((q_up_n _ _ (by decide)).trans ((q_up_n _ _ (by decide)).trans ((q_up_n _ _ (by decide)).trans ((q_up_n _ _ (by decide)).trans ((q_up_n _ _ (by decide)).trans w93))))), wRs⟩, ((q_up_n _ _ (by decide)).trans (q_up_s _ _ _))⟩, ⟨i1, i2, Or.inr hv, i4, i5, i6, q_mMk _⟩⟩⟩
set_option maxHeartbeats 4000000 in
theorem e_minutes {n : Nat} {h : q_H} (hr : rel h) (z : Int32) : rS yX7_minutes cX7_minutes 3 yX8_minutes cX8_minutes 3 [.int z] n h := by
  obtain ⟨lf, ld, R, f, len, g, x, nx, k, G, gi, xi, left, fk, hD, hRs, hIm, hRd, hTp, hTb, hAc, hFo, hAs, hMo, hIv⟩ := id hr
  obtain ⟨h0, ⟨fr, ha, hfr⟩, ⟨fi, hI, hfi⟩⟩ := id hD
  obtain ⟨⟨Kc, dr, far, hrd, hK9⟩, tg, ttu, tmi, tto, ttp, tte, ttb, tT, htl, htc⟩ := id hRd
  obtain ⟨htp, hby⟩ := id hTp
  obtain ⟨ht, hc⟩ := id hTb
  obtain ⟨hA, ⟨fa, hB, hfa⟩, hG⟩ := id hAc
  obtain ⟨hw, ⟨g2, x2, hl, hlc⟩, ⟨f0, hs0⟩, b0, hbs⟩ := id hFo
  obtain ⟨⟨gu, so0, wa, ea, hK⟩, hKb⟩ := id hAs
  obtain ⟨⟨sa, ne, so, di, pu, at_, er, en, pa, w87⟩, ⟨W, Kp, w88, w94, hW⟩, w89, ⟨L, Z, I, Tk, w90, w91, w92, w93, wRs⟩, w95⟩ := id hMo
  have hIv' := hIv
  obtain ⟨i1, i2, i3, i4, i5, i6, i7⟩ := hIv
  have hg6 : g ≤ 6 := by rcases i3 with q | q; omega; exact q.1.2.1
  rcases i3 with hg0 | hv
  · exact ⟨_, _, _, h, h, ⟨⟨by decide, by decide⟩, by (repeat (first | refine hasM_ov ?_ | refine hasM_rd (by decide) (by decide) (by decide) ?_ | refine hasM_up (by first | decide | omega) ?_)); exact ⟨_, w87⟩⟩, s7_minutesN h0 ht hc z hg0, s8_minutesN z w87 w88 hW.1 hg0, hr⟩
  · have hg : 0 < g ∧ g ≤ 6 := ⟨hv.1.1, hv.1.2.1⟩
    by_cases hb : z < nI 1 ∨ nI 24 < z
    · exact ⟨_, _, _, h, h, ⟨⟨by decide, by decide⟩, by (repeat (first | refine hasM_ov ?_ | refine hasM_rd (by decide) (by decide) (by decide) ?_ | refine hasM_up (by first | decide | omega) ?_)); exact ⟨_, w87⟩⟩, s7_minutesB h0 ht hc z hg hb, s8_minutesB z w87 w88 hW.1 hg hb, hr⟩
    · obtain ⟨N, hN1, hN2, rfl⟩ := q_rng 1 24 (by decide) hb
      by_cases hm : 999 < x.2.2.1 + N
      · exact ⟨_, _, _, h, h, ⟨⟨by decide, by decide⟩, by (repeat (first | refine hasM_ov ?_ | refine hasM_rd (by decide) (by decide) (by decide) ?_ | refine hasM_up (by first | decide | omega) ?_)); exact ⟨_, w87⟩⟩, s7_minutesM h0 ht hc N hg ⟨hN1, hN2⟩ ⟨i4, hm⟩, s8_minutesM N w87 w88 hW.1 hg ⟨hN1, hN2⟩ ⟨i4, hm⟩, hr⟩
      · obtain ⟨r1, r2, r3, r4, r5, r6, r7⟩ := rW_m N W x (mG x er pu en at_) nx k G (mG_Q _ _ _ _ _) i5 i6 hv (by omega) hW
        refine ⟨_, _, _, _, _, ⟨⟨by decide, by decide⟩, by (repeat (first | refine hasM_ov ?_ | refine hasM_rd (by decide) (by decide) (by decide) ?_ | refine hasM_up (by first | decide | omega) ?_)); exact ⟨_, w87⟩⟩, s7_minutesT h0 ht hc N hg ⟨hN1, hN2⟩ (by omega) hA hB hfa hG ⟨i5, i6⟩ hv, q_SPr (congrArg nI r3.2.1.symm) (s8_minutesT (x := mG x er pu en at_) N ((q_ov_o (by decide)).trans w87) ((q_ov_o (by decide)).trans w88) (wT_Q (mG_Q _ _ _ _ _) hW.1) hg ⟨hN1, hN2⟩ (by show x.2.2.1 + N ≤ 999; omega) (mW_Q (mG_Q _ _ _ _ _) hv) i6), ?_⟩
        exact ⟨lf, ld, R, f, len, g, (mMin g N (x, nx, k, G)).1, (mMin g N (x, nx, k, G)).2.1, (mMin g N (x, nx, k, G)).2.2.1, (mMin g N (x, nx, k, G)).2.2.2, gi, xi, left, fk, (cD_f (fun a z => ((q_up_n _ _ (by omega)).trans ((q_up_n _ _ (by omega)).trans ((q_ov_o (by omega)).trans rfl)))) hD), (cRs_fr (fun a z z2 => ((q_up_n _ _ (by omega)).trans ((q_up_n _ _ (by omega)).trans ((q_ov_o (by omega)).trans rfl)))) hRs), (rIm_f (fun a z z2 => ((q_up_n _ _ (by omega)).trans ((q_up_n _ _ (by omega)).trans ((q_ov_o (by omega)).trans rfl)))) hIm), (rRd_f (fun a z => ((q_up_n _ _ (by omega)).trans ((q_up_n _ _ (by omega)).trans ((q_ov_o (by omega)).trans rfl)))) hRd), (rTp_f (fun a z z2 => ((q_up_n _ _ (by omega)).trans ((q_up_n _ _ (by omega)).trans ((q_ov_o (by omega)).trans rfl)))) hTp), ⟨((q_up_n _ _ (by decide)).trans ((q_up_n _ _ (by decide)).trans q_ov_28)), ((q_up_n _ _ (by decide)).trans ((q_up_n _ _ (by decide)).trans q_ov_29))⟩, ⟨((q_up_n _ _ (by decide)).trans ((q_up_n _ _ (by decide)).trans q_ov_30)), ⟨fa, ((q_up_n _ _ (by decide)).trans ((q_up_n _ _ (by decide)).trans ((q_ov_o (by decide)).trans hB))), hfa⟩, fun i hi => ⟨((q_up_n _ _ (by omega)).trans ((q_up_n _ _ (by omega)).trans (q_ov_G i hi).1)), ((q_up_n _ _ (by omega)).trans ((q_up_n _ _ (by omega)).trans (q_ov_G i hi).2))⟩⟩, (rFo_f (fun a z z2 => ((q_up_n _ _ (by omega)).trans ((q_up_n _ _ (by omega)).trans ((q_ov_o (by omega)).trans rfl)))) hFo), (rAs_f (fun a z z2 => ((q_up_n _ _ (by omega)).trans ((q_up_n _ _ (by omega)).trans ((q_ov_o (by omega)).trans rfl)))) hAs), ⟨⟨_, _, _, _, _, _, _, _, _, ((q_up_s _ _ _).trans (by rw [r2]))⟩, ⟨_, Kp, ((q_up_n _ _ (by decide)).trans (q_up_s _ _ _)), ((q_up_n _ _ (by decide)).trans ((q_up_n _ _ (by decide)).trans ((q_ov_o (by decide)).trans w94))), r1⟩, ((q_up_n _ _ (by decide)).trans ((q_up_n _ _ (by decide)).trans ((q_ov_o (by decide)).trans w89))), ⟨_, _, _, _, ((q_up_n _ _ (by decide)).trans ((q_up_n _ _ (by decide)).trans ((q_ov_o (by decide)).trans w90))), ((q_up_n _ _ (by decide)).trans ((q_up_n _ _ (by decide)).trans ((q_ov_o (by decide)).trans w91))), ((q_up_n _ _ (by decide)).trans ((q_up_n _ _ (by decide)).trans ((q_ov_o (by decide)).trans w92))), ((q_up_n _ _ (by decide)).trans ((q_up_n _ _ (by decide)).trans ((q_ov_o (by decide)).trans w93))), wRs⟩, ((q_up_n _ _ (by decide)).trans ((q_up_n _ _ (by decide)).trans ((q_ov_o (by decide)).trans w95)))⟩, ⟨i1, i2, Or.inr r4, r5, r6, r7, i7⟩⟩
theorem rIm_i {h h' : q_H} {gi : Nat → Nat} {xi : Nat → mX} {i g : Nat} {y : mX} (q : rIm h gi xi) (e1 : h' (19 + 2 * i) = TX (20 + 2 * i) g y) (e2 : h' (20 + 2 * i) = TA y.1) (e3 : ∀ a, 19 ≤ a → a ≤ 22 → a ≠ 19 + 2 * i → a ≠ 20 + 2 * i → h' a = h a) : rIm h' (va_up gi i g) (va_up xi i y) := by
  intro j hj
  by_cases e : j = i
  · subst e
    rw [va_up_s2, va_up_s2]
    exact ⟨e1, e2⟩
  · rw [va_up_n2 e, va_up_n2 e, e3 _ (by omega) (by omega) (by omega) (by omega), e3 _ (by omega) (by omega) (by omega) (by omega)]
    exact q j hj
theorem rW_i {W : Nat → Nat} {g : Nat} {x y : mX} {nx k i : Nat} {G : aG} {gi : Nat → Nat} {xi : Nat → mX} {Kp : Nat → Nat} (hi : i < 2) (hk : k ≤ 24) (hv : mW g x) (hm : x.2.2.1 ≤ 999) (e : wQ x y) (q : rW W g x nx k G gi xi Kp) : rW (wPut W (39 + 39 * i) g x) g x nx k G (va_up gi i g) (va_up xi i y) (va_up Kp i 1) := by
  refine ⟨wT_o (by omega) q.1, fun j hj => ⟨wT_o (by omega) (q.2.1 j hj).1, (q.2.1 j hj).2⟩, fun j hj => ?_⟩
  by_cases c : j = i
  · subst c
    rw [va_up_s2, va_up_s2, va_up_s2]
    exact Or.inr ⟨rfl, wT_Q e (wT_put _ _ _ _), mW_Q e hv, by rw [← e.2.2]; exact hm⟩
  · rw [va_up_n2 c, va_up_n2 c, va_up_n2 c]
    exact (q.2.2 j hj).imp id (fun z => ⟨z.1, wT_o (by omega) z.2.1, z.2.2⟩)
set_option maxHeartbeats 4000000 in
theorem e_image {n : Nat} {h : q_H} (hr : rel h) (z : Int32) : rS yX7_image cX7_image 3 yX8_image cX8_image 2 [.int z] n h := by
  obtain ⟨lf, ld, R, f, len, g, x, nx, k, G, gi, xi, left, fk, hD, hRs, hIm, hRd, hTp, hTb, hAc, hFo, hAs, hMo, hIv⟩ := id hr
  obtain ⟨h0, ⟨fr, ha, hfr⟩, ⟨fi, hI, hfi⟩⟩ := id hD
  obtain ⟨⟨Kc, dr, far, hrd, hK9⟩, tg, ttu, tmi, tto, ttp, tte, ttb, tT, htl, htc⟩ := id hRd
  obtain ⟨htp, hby⟩ := id hTp
  obtain ⟨ht, hc⟩ := id hTb
  obtain ⟨hA, ⟨fa, hB, hfa⟩, hG⟩ := id hAc
  obtain ⟨hw, ⟨g2, x2, hl, hlc⟩, ⟨f0, hs0⟩, b0, hbs⟩ := id hFo
  obtain ⟨⟨gu, so0, wa, ea, hK⟩, hKb⟩ := id hAs
  obtain ⟨⟨sa, ne, so, di, pu, at_, er, en, pa, w87⟩, ⟨W, Kp, w88, w94, hW⟩, w89, ⟨L, Z, I, Tk, w90, w91, w92, w93, wRs⟩, w95⟩ := id hMo
  have hIv' := hIv
  obtain ⟨i1, i2, i3, i4, i5, i6, i7⟩ := hIv
  have hg6 : g ≤ 6 := by rcases i3 with q | q; omega; exact q.1.2.1
  rcases pk_ix z (n := 2) (by decide) with q | q | ⟨i, hi, rfl⟩
  · exact ⟨_, _, _, h, h, ⟨⟨by decide, by decide⟩, by (repeat (first | refine hasM_ov ?_ | refine hasM_rd (by decide) (by decide) (by decide) ?_ | refine hasM_up (by first | decide | omega) ?_)); exact ⟨_, w87⟩⟩, s7_imageB z h0 hI hfi (Or.inl q), s8_imageB z w87 w88 w94 (Or.inl q), hr⟩
  · exact ⟨_, _, _, h, h, ⟨⟨by decide, by decide⟩, by (repeat (first | refine hasM_ov ?_ | refine hasM_rd (by decide) (by decide) (by decide) ?_ | refine hasM_up (by first | decide | omega) ?_)); exact ⟨_, w87⟩⟩, s7_imageB z h0 hI hfi (Or.inr q), s8_imageB z w87 w88 w94 (Or.inr ((q_gel 1 (by decide) z).mpr q)), hr⟩
  · obtain ⟨hq, hqc⟩ := hIm i hi
    rcases i3 with hg0 | hv
    · exact ⟨_, _, _, h, h, ⟨⟨by decide, by decide⟩, by (repeat (first | refine hasM_ov ?_ | refine hasM_rd (by decide) (by decide) (by decide) ?_ | refine hasM_up (by first | decide | omega) ?_)); exact ⟨_, w87⟩⟩, s7_imageN h0 ht hc i hI hfi hq hqc hi hg0, s8_imageN i w87 w88 hW.1 w94 hi hg0, hr⟩
    · have hg : 0 < g ∧ g ≤ 6 := ⟨hv.1.1, hv.1.2.1⟩
      refine ⟨_, _, _, _, _, ⟨⟨by decide, by decide⟩, by (repeat (first | refine hasM_ov ?_ | refine hasM_rd (by decide) (by decide) (by decide) ?_ | refine hasM_up (by first | decide | omega) ?_)); exact ⟨_, w87⟩⟩, s7_imageT h0 ht hc i hI hfi hq hqc hi hg, s8_imageT i ((q_up_n _ _ (by omega)).trans ((q_up_n _ _ (by omega)).trans w87)) ((q_up_n _ _ (by omega)).trans ((q_up_n _ _ (by omega)).trans w88)) hW.1 ((q_up_n _ _ (by omega)).trans ((q_up_n _ _ (by omega)).trans w94)) hi hg, ?_⟩
      exact ⟨lf, ld, R, f, len, g, x, nx, k, G, va_up gi i g, va_up xi i (mCopy x (xi i)), left, fk, (cD_f (fun a z => ((q_up_n _ _ (by omega)).trans ((q_up_n _ _ (by omega)).trans ((q_up_n _ _ (by omega)).trans ((q_up_n _ _ (by omega)).trans rfl))))) hD), (cRs_fr (fun a z z2 => ((q_up_n _ _ (by omega)).trans ((q_up_n _ _ (by omega)).trans ((q_up_n _ _ (by omega)).trans ((q_up_n _ _ (by omega)).trans rfl))))) hRs), (rIm_i hIm ((q_up_n _ _ (by omega)).trans ((q_up_n _ _ (by omega)).trans (q_up_s _ _ _))) ((q_up_n _ _ (by omega)).trans ((q_up_n _ _ (by omega)).trans ((q_up_n _ _ (by omega)).trans (q_up_s _ _ _)))) (fun a z1 z2 z3 z4 => ((q_up_n _ _ (by omega)).trans ((q_up_n _ _ (by omega)).trans ((q_up_n _ _ (by omega)).trans ((q_up_n _ _ (by omega)).trans rfl)))))), (rRd_f (fun a z => ((q_up_n _ _ (by omega)).trans ((q_up_n _ _ (by omega)).trans ((q_up_n _ _ (by omega)).trans ((q_up_n _ _ (by omega)).trans rfl))))) hRd), (rTp_f (fun a z z2 => ((q_up_n _ _ (by omega)).trans ((q_up_n _ _ (by omega)).trans ((q_up_n _ _ (by omega)).trans ((q_up_n _ _ (by omega)).trans rfl))))) hTp), (rTb_f (fun a z z2 => ((q_up_n _ _ (by omega)).trans ((q_up_n _ _ (by omega)).trans ((q_up_n _ _ (by omega)).trans ((q_up_n _ _ (by omega)).trans rfl))))) hTb), (rAc_f (fun a z z2 => ((q_up_n _ _ (by omega)).trans ((q_up_n _ _ (by omega)).trans ((q_up_n _ _ (by omega)).trans ((q_up_n _ _ (by omega)).trans rfl))))) hAc), (rFo_f (fun a z z2 => ((q_up_n _ _ (by omega)).trans ((q_up_n _ _ (by omega)).trans ((q_up_n _ _ (by omega)).trans ((q_up_n _ _ (by omega)).trans rfl))))) hFo), (rAs_f (fun a z z2 => ((q_up_n _ _ (by omega)).trans ((q_up_n _ _ (by omega)).trans ((q_up_n _ _ (by omega)).trans ((q_up_n _ _ (by omega)).trans rfl))))) hAs), ⟨⟨sa, ne, so, di, pu, at_, er, en, pa, ((q_up_n _ _ (by decide)).trans ((q_up_n _ _ (by decide)).trans ((q_up_n _ _ (by omega)).trans ((q_up_n _ _ (by omega)).trans w87))))⟩, ⟨_, _, ((q_up_n _ _ (by decide)).trans (q_up_s _ _ _)), (q_up_s _ _ _), (rW_i hi i6 hv i4 ⟨rfl, rfl, rfl⟩ hW)⟩, ((q_up_n _ _ (by decide)).trans ((q_up_n _ _ (by decide)).trans ((q_up_n _ _ (by omega)).trans ((q_up_n _ _ (by omega)).trans w89)))), ⟨_, _, _, _, ((q_up_n _ _ (by decide)).trans ((q_up_n _ _ (by decide)).trans ((q_up_n _ _ (by omega)).trans ((q_up_n _ _ (by omega)).trans w90)))), ((q_up_n _ _ (by decide)).trans ((q_up_n _ _ (by decide)).trans ((q_up_n _ _ (by omega)).trans ((q_up_n _ _ (by omega)).trans w91)))), ((q_up_n _ _ (by decide)).trans ((q_up_n _ _ (by decide)).trans ((q_up_n _ _ (by omega)).trans ((q_up_n _ _ (by omega)).trans w92)))), ((q_up_n _ _ (by decide)).trans ((q_up_n _ _ (by decide)).trans ((q_up_n _ _ (by omega)).trans ((q_up_n _ _ (by omega)).trans w93)))), wRs⟩, ((q_up_n _ _ (by decide)).trans ((q_up_n _ _ (by decide)).trans ((q_up_n _ _ (by omega)).trans ((q_up_n _ _ (by omega)).trans w95))))⟩, hIv'⟩
theorem rW_0q {W : Nat → Nat} {g g2 : Nat} {x y z : mX} {nx k : Nat} {G : aG} {gi : Nat → Nat} {xi : Nat → mX} {Kp : Nat → Nat} (e : wQ y z) (q : rW W g x nx k G gi xi Kp) : rW (wPut W 0 g2 y) g2 z nx 0 G gi xi Kp := by
  have h := rW_0 (g2 := g2) (y := y) q
  exact ⟨wT_Q e h.1, h.2⟩
set_option maxHeartbeats 4000000 in
theorem e_restore {n : Nat} {h : q_H} (hr : rel h) (z : Int32) : rS yX7_restore cX7_restore 3 yX8_restore cX8_restore 2 [.int z] n h := by
  obtain ⟨lf, ld, R, f, len, g, x, nx, k, G, gi, xi, left, fk, hD, hRs, hIm, hRd, hTp, hTb, hAc, hFo, hAs, hMo, hIv⟩ := id hr
  obtain ⟨h0, ⟨fr, ha, hfr⟩, ⟨fi, hI, hfi⟩⟩ := id hD
  obtain ⟨⟨Kc, dr, far, hrd, hK9⟩, tg, ttu, tmi, tto, ttp, tte, ttb, tT, htl, htc⟩ := id hRd
  obtain ⟨htp, hby⟩ := id hTp
  obtain ⟨ht, hc⟩ := id hTb
  obtain ⟨hA, ⟨fa, hB, hfa⟩, hG⟩ := id hAc
  obtain ⟨hw, ⟨g2, x2, hl, hlc⟩, ⟨f0, hs0⟩, b0, hbs⟩ := id hFo
  obtain ⟨⟨gu, so0, wa, ea, hK⟩, hKb⟩ := id hAs
  obtain ⟨⟨sa, ne, so, di, pu, at_, er, en, pa, w87⟩, ⟨W, Kp, w88, w94, hW⟩, w89, ⟨L, Z, I, Tk, w90, w91, w92, w93, wRs⟩, w95⟩ := id hMo
  have hIv' := hIv
  obtain ⟨i1, i2, i3, i4, i5, i6, i7⟩ := hIv
  have hg6 : g ≤ 6 := by rcases i3 with q | q; omega; exact q.1.2.1
  rcases pk_ix z (n := 2) (by decide) with q | q | ⟨i, hi, rfl⟩
  · exact ⟨_, _, _, h, h, ⟨⟨by decide, by decide⟩, by (repeat (first | refine hasM_ov ?_ | refine hasM_rd (by decide) (by decide) (by decide) ?_ | refine hasM_up (by first | decide | omega) ?_)); exact ⟨_, w87⟩⟩, s7_restoreB z h0 hI hfi (Or.inl q), s8_restoreB z w87 w88 w94 (Or.inl q), hr⟩
  · exact ⟨_, _, _, h, h, ⟨⟨by decide, by decide⟩, by (repeat (first | refine hasM_ov ?_ | refine hasM_rd (by decide) (by decide) (by decide) ?_ | refine hasM_up (by first | decide | omega) ?_)); exact ⟨_, w87⟩⟩, s7_restoreB z h0 hI hfi (Or.inr q), s8_restoreB z w87 w88 w94 (Or.inr ((q_gel 1 (by decide) z).mpr q)), hr⟩
  · obtain ⟨hq, hqc⟩ := hIm i hi
    rcases hW.2.2 i hi with ⟨k0, g0⟩ | ⟨k1, kT, kv, km⟩
    · exact ⟨_, _, _, h, h, ⟨⟨by decide, by decide⟩, by (repeat (first | refine hasM_ov ?_ | refine hasM_rd (by decide) (by decide) (by decide) ?_ | refine hasM_up (by first | decide | omega) ?_)); exact ⟨_, w87⟩⟩, s7_restoreN i h0 hI hfi hq hqc hi g0, s8_restoreN i w87 w88 w94 hi k0, hr⟩
    · have hg : 0 < gi i ∧ gi i ≤ 6 := ⟨kv.1.1, kv.1.2.1⟩
      refine ⟨_, _, _, _, _, ⟨⟨by decide, by decide⟩, by (repeat (first | refine hasM_ov ?_ | refine hasM_rd (by decide) (by decide) (by decide) ?_ | refine hasM_up (by first | decide | omega) ?_)); exact ⟨_, w87⟩⟩, s7_restoreT h0 ht hc hA i hI hfi hq hqc hi hg, s8_restoreT i ((q_up_n _ _ (by omega)).trans ((q_up_n _ _ (by omega)).trans ((q_up_n _ _ (by omega)).trans w87))) ((q_up_n _ _ (by omega)).trans ((q_up_n _ _ (by omega)).trans ((q_up_n _ _ (by omega)).trans w88))) kT ((q_up_n _ _ (by decide)).trans ((q_up_n _ _ (by decide)).trans ((q_up_n _ _ (by decide)).trans w94))) hi k1, ?_⟩
      exact ⟨lf, ld, R, f, len, gi i, mCopy (xi i) x, nx, 0, G, gi, xi, left, fk, (cD_f (fun a z => ((q_up_n _ _ (by omega)).trans ((q_up_n _ _ (by omega)).trans ((q_up_n _ _ (by omega)).trans ((q_up_n _ _ (by omega)).trans ((q_up_n _ _ (by omega)).trans rfl)))))) hD), (cRs_fr (fun a z z2 => ((q_up_n _ _ (by omega)).trans ((q_up_n _ _ (by omega)).trans ((q_up_n _ _ (by omega)).trans ((q_up_n _ _ (by omega)).trans ((q_up_n _ _ (by omega)).trans rfl)))))) hRs), (rIm_f (fun a z z2 => ((q_up_n _ _ (by omega)).trans ((q_up_n _ _ (by omega)).trans ((q_up_n _ _ (by omega)).trans ((q_up_n _ _ (by omega)).trans ((q_up_n _ _ (by omega)).trans rfl)))))) hIm), (rRd_f (fun a z => ((q_up_n _ _ (by omega)).trans ((q_up_n _ _ (by omega)).trans ((q_up_n _ _ (by omega)).trans ((q_up_n _ _ (by omega)).trans ((q_up_n _ _ (by omega)).trans rfl)))))) hRd), (rTp_f (fun a z z2 => ((q_up_n _ _ (by omega)).trans ((q_up_n _ _ (by omega)).trans ((q_up_n _ _ (by omega)).trans ((q_up_n _ _ (by omega)).trans ((q_up_n _ _ (by omega)).trans rfl)))))) hTp), ⟨((q_up_n _ _ (by decide)).trans ((q_up_n _ _ (by decide)).trans ((q_up_n _ _ (by decide)).trans (q_up_s _ _ _)))), ((q_up_n _ _ (by decide)).trans ((q_up_n _ _ (by decide)).trans ((q_up_n _ _ (by decide)).trans ((q_up_n _ _ (by decide)).trans (q_up_s _ _ _)))))⟩, ⟨((q_up_n _ _ (by decide)).trans ((q_up_n _ _ (by decide)).trans (q_up_s _ _ _))), ⟨fa, ((q_up_n _ _ (by decide)).trans ((q_up_n _ _ (by decide)).trans ((q_up_n _ _ (by decide)).trans ((q_up_n _ _ (by decide)).trans ((q_up_n _ _ (by decide)).trans hB))))), hfa⟩, fun j hj => ⟨((q_up_n _ _ (by omega)).trans ((q_up_n _ _ (by omega)).trans ((q_up_n _ _ (by omega)).trans ((q_up_n _ _ (by omega)).trans ((q_up_n _ _ (by omega)).trans (hG j hj).1))))), ((q_up_n _ _ (by omega)).trans ((q_up_n _ _ (by omega)).trans ((q_up_n _ _ (by omega)).trans ((q_up_n _ _ (by omega)).trans ((q_up_n _ _ (by omega)).trans (hG j hj).2)))))⟩⟩, (rFo_f (fun a z z2 => ((q_up_n _ _ (by omega)).trans ((q_up_n _ _ (by omega)).trans ((q_up_n _ _ (by omega)).trans ((q_up_n _ _ (by omega)).trans ((q_up_n _ _ (by omega)).trans rfl)))))) hFo), (rAs_f (fun a z z2 => ((q_up_n _ _ (by omega)).trans ((q_up_n _ _ (by omega)).trans ((q_up_n _ _ (by omega)).trans ((q_up_n _ _ (by omega)).trans ((q_up_n _ _ (by omega)).trans rfl)))))) hAs), ⟨⟨_, _, _, _, _, _, _, _, _, (q_up_s _ _ _)⟩, ⟨_, Kp, ((q_up_n _ _ (by decide)).trans (q_up_s _ _ _)), ((q_up_n _ _ (by decide)).trans ((q_up_n _ _ (by decide)).trans ((q_up_n _ _ (by decide)).trans ((q_up_n _ _ (by decide)).trans ((q_up_n _ _ (by decide)).trans w94))))), (rW_0q ⟨rfl, rfl, rfl⟩ hW)⟩, ((q_up_n _ _ (by decide)).trans ((q_up_n _ _ (by decide)).trans ((q_up_n _ _ (by decide)).trans ((q_up_n _ _ (by decide)).trans ((q_up_n _ _ (by decide)).trans w89))))), ⟨_, _, _, _, ((q_up_n _ _ (by decide)).trans ((q_up_n _ _ (by decide)).trans ((q_up_n _ _ (by decide)).trans ((q_up_n _ _ (by decide)).trans ((q_up_n _ _ (by decide)).trans w90))))), ((q_up_n _ _ (by decide)).trans ((q_up_n _ _ (by decide)).trans ((q_up_n _ _ (by decide)).trans ((q_up_n _ _ (by decide)).trans ((q_up_n _ _ (by decide)).trans w91))))), ((q_up_n _ _ (by decide)).trans ((q_up_n _ _ (by decide)).trans ((q_up_n _ _ (by decide)).trans ((q_up_n _ _ (by decide)).trans ((q_up_n _ _ (by decide)).trans w92))))), ((q_up_n _ _ (by decide)).trans ((q_up_n _ _ (by decide)).trans ((q_up_n _ _ (by decide)).trans ((q_up_n _ _ (by decide)).trans ((q_up_n _ _ (by decide)).trans w93))))), wRs⟩, ((q_up_n _ _ (by decide)).trans ((q_up_n _ _ (by decide)).trans ((q_up_n _ _ (by decide)).trans ((q_up_n _ _ (by decide)).trans ((q_up_n _ _ (by decide)).trans w95)))))⟩, ⟨i1, i2, Or.inr (mW_Q (x := xi i) ⟨rfl, rfl, rfl⟩ kv), km, i5, Nat.zero_le _, i7⟩⟩
