theorem s8_turnByN {n : Nat} {h : q_H} {un ta fl st sa ne so di pu at_ er en pa tr r g : Nat} {W : Nat → Nat} {x : mX} (z : Nat) (h0 : h 87 = MO un ta fl st sa ne so di pu at_ er en pa tr) (hW : h 88 = WA W) (T : wT W r g x) (hr : r + 39 ≤ 1131) (hg : 0 < g ∧ g < 1000) (ht : x.2.1 < 1000000) (hz : z < 1000000) : SP 0 yX8_turnBy cX8_turnBy 4 none [.ref 87, .int (nI r), .int (nI z)] n h none (q_up h 88 (WA (wPut W r g (x.1, mTurn g x.2.1 (z : Int), x.2.2)))) := by
  have q := s8_turnBy (n := n) (z : Int) h0 hW T hr hg ht ⟨by omega, by omega⟩
  rw [← qI_N] at q
  exact q
theorem s8_turnByM {n : Nat} {h : q_H} {un ta fl st sa ne so di pu at_ er en pa tr r g : Nat} {W : Nat → Nat} {x : mX} (z : Nat) (h0 : h 87 = MO un ta fl st sa ne so di pu at_ er en pa tr) (hW : h 88 = WA W) (T : wT W r g x) (hr : r + 39 ≤ 1131) (hg : 0 < g ∧ g < 1000) (ht : x.2.1 < 1000000) (hz : z < 1000000) : SP 0 yX8_turnBy cX8_turnBy 4 none [.ref 87, .int (nI r), .int (-nI z)] n h none (q_up h 88 (WA (wPut W r g (x.1, mTurn g x.2.1 (-(z : Int)), x.2.2)))) := by
  have q := s8_turnBy (n := n) (-(z : Int)) h0 hW T hr hg ht ⟨by omega, by omega⟩
  rw [← qI_neg, ← qI_N] at q
  exact q
set_option maxHeartbeats 2000000 in
set_option maxRecDepth 20000 in
theorem s8_pushes5 {n : Nat} {h : q_H} {un ta fl st sa ne so di pu at_ er en pa tr r g : Nat} {W : Nat → Nat} {x : mX} (j : Nat) (h0 : h 87 = MO un ta fl st sa ne so di pu at_ er en pa tr) (hW : h 88 = WA W) (T : wT W r g x) (hr : r + 39 ≤ 1131) (hv : mW g x) (hj : j < g) (h5 : x.1 (0 + j) = 5) : SP 1 yX8_pushes cX8_pushes 9 none [.ref 87, .int (nI r), .int (nI j)] n h none (q_up (q_up h 88 (WA (wPut W r g (x.1, mTurn g x.2.1 1, x.2.2)))) 87 (MO un ta fl st sa ne so di 1 at_ er en pa tr)) := by
  refine q_SPi RX8 rfl (by decide +kernel) (la := _) rfl rfl (fun Γ ad C F => ?_)
  have v1 := hv.1
  have v2 := hv.2.1 j hj
  have v3 := hv.2.2 j (by omega)
  have v5 := (hv.2.2 (x.1 (6 + j)) v3.2.1).2.2.2.1
  refine g_aload_n (pc := 0) C (hl := rfl) dX8_pushes_0 ?_
  refine g_get (pc := 1) C fl8_7 dX8_pushes_1 h0 rfl ?_
  refine g_iload_n (pc := 4) C (hl := rfl) dX8_pushes_4 ?_
  refine g_iconst (pc := 5) C qk_iconst_0 dX8_pushes_5 ?_
  refine g_iaddN (pc := 6) C dX8_pushes_6 ?_
  refine g_ialdV (pc := 7) C dX8_pushes_7 hW (by omega) (wT_n T) ?_
  refine g_istore_n (pc := 8) C rfl dX8_pushes_8 ?_
  refine g_aload_n (pc := 9) C (hl := rfl) dX8_pushes_9 ?_
  refine g_get (pc := 10) C fl8_7 dX8_pushes_10 h0 rfl ?_
  refine g_iload_n (pc := 13) C (hl := rfl) dX8_pushes_13 ?_
  refine g_iconst (pc := 14) C qk_iconst_3 dX8_pushes_14 ?_
  refine g_iaddN (pc := 15) C dX8_pushes_15 ?_
  refine g_iload_n (pc := 16) C (hl := rfl) dX8_pushes_16 ?_
  refine g_iaddN (pc := 17) C dX8_pushes_17 ?_
  refine g_ialdV (pc := 18) C dX8_pushes_18 hW (by omega) (wT_so T (by omega)) ?_
  refine g_istore (pc := 19) C rfl dX8_pushes_19 ?_
  refine g_aload_n (pc := 21) C (hl := rfl) dX8_pushes_21 ?_
  refine g_iconst (pc := 22) C qk_iconst_0 dX8_pushes_22 ?_
  refine g_put (pc := 23) C fp8_149 dX8_pushes_23 h0 (Nat.le_of_ble_eq_true rfl) ?_
  refine g_iload (pc := 26) C (hl := rfl) dX8_pushes_26 ?_
  refine g_iconst (pc := 28) C qk_iconst_5 dX8_pushes_28 ?_
  refine g_ic_neN (pc := 29) C 44 dX8_pushes_29 (by decide) (by omega) (fun q => absurd q ((fun z => z h5))) (fun _ => ?_)
  refine g_aload_n (pc := 32) C (hl := rfl) dX8_pushes_32 ?_
  refine g_iconst (pc := 33) C qk_iconst_1 dX8_pushes_33 ?_
  refine g_put (pc := 34) C fp8_149 dX8_pushes_34 (q_up_s _ _ _) (Nat.le_of_ble_eq_true rfl) ?_
  refine g_aload_n (pc := 37) C (hl := rfl) dX8_pushes_37 ?_
  refine g_iload_n (pc := 38) C (hl := rfl) dX8_pushes_38 ?_
  refine g_iconst (pc := 39) C qk_iconst_1 dX8_pushes_39 ?_
  refine g_V2u (pc := 40) C lv8_152 dX8_pushes_40 (s8_turnByN _ (q_up_s _ _ _) ((q_up_n _ _ (by decide)).trans ((q_up_n _ _ (by decide)).trans hW)) T hr (by omega) (by omega) (by omega)) (q_up_s _ _ _) (by decide) (Nat.le_of_ble_eq_true rfl) ?_
  exact g_vret (pc := 43) C F dX8_pushes_43 rfl rfl (by first | (simp only [q_up_u, q_up_c _ (show (87 : Nat) ≠ 88 by decide)]; done) | (simp only [q_up_u, q_up_c _ (show (87 : Nat) ≠ 88 by decide)]; rfl) | rfl)
set_option maxHeartbeats 2000000 in
set_option maxRecDepth 20000 in
theorem s8_pushesZ {n : Nat} {h : q_H} {un ta fl st sa ne so di pu at_ er en pa tr r g : Nat} {W : Nat → Nat} {x : mX} (j : Nat) (h0 : h 87 = MO un ta fl st sa ne so di pu at_ er en pa tr) (hW : h 88 = WA W) (T : wT W r g x) (hr : r + 39 ≤ 1131) (hv : mW g x) (hj : j < g) (h5 : ¬ x.1 (0 + j) = 5) (hz : x.1 (0 + j) = 4 ∨ g ≤ x.1 (6 + j) ∨ x.1 (24 + x.1 (6 + j)) = 0) : SP 1 yX8_pushes cX8_pushes 9 none [.ref 87, .int (nI r), .int (nI j)] n h none (q_up h 87 (MO un ta fl st sa ne so di 0 at_ er en pa tr)) := by
  refine q_SPi RX8 rfl (by decide +kernel) (la := _) rfl rfl (fun Γ ad C F => ?_)
  have v1 := hv.1
  have v2 := hv.2.1 j hj
  have v3 := hv.2.2 j (by omega)
  have v5 := (hv.2.2 (x.1 (6 + j)) v3.2.1).2.2.2.1
  refine g_aload_n (pc := 0) C (hl := rfl) dX8_pushes_0 ?_
  refine g_get (pc := 1) C fl8_7 dX8_pushes_1 h0 rfl ?_
  refine g_iload_n (pc := 4) C (hl := rfl) dX8_pushes_4 ?_
  refine g_iconst (pc := 5) C qk_iconst_0 dX8_pushes_5 ?_
  refine g_iaddN (pc := 6) C dX8_pushes_6 ?_
  refine g_ialdV (pc := 7) C dX8_pushes_7 hW (by omega) (wT_n T) ?_
  refine g_istore_n (pc := 8) C rfl dX8_pushes_8 ?_
  refine g_aload_n (pc := 9) C (hl := rfl) dX8_pushes_9 ?_
  refine g_get (pc := 10) C fl8_7 dX8_pushes_10 h0 rfl ?_
  refine g_iload_n (pc := 13) C (hl := rfl) dX8_pushes_13 ?_
  refine g_iconst (pc := 14) C qk_iconst_3 dX8_pushes_14 ?_
  refine g_iaddN (pc := 15) C dX8_pushes_15 ?_
  refine g_iload_n (pc := 16) C (hl := rfl) dX8_pushes_16 ?_
  refine g_iaddN (pc := 17) C dX8_pushes_17 ?_
  refine g_ialdV (pc := 18) C dX8_pushes_18 hW (by omega) (wT_so T (by omega)) ?_
  refine g_istore (pc := 19) C rfl dX8_pushes_19 ?_
  refine g_aload_n (pc := 21) C (hl := rfl) dX8_pushes_21 ?_
  refine g_iconst (pc := 22) C qk_iconst_0 dX8_pushes_22 ?_
  refine g_put (pc := 23) C fp8_149 dX8_pushes_23 h0 (Nat.le_of_ble_eq_true rfl) ?_
  refine g_iload (pc := 26) C (hl := rfl) dX8_pushes_26 ?_
  refine g_iconst (pc := 28) C qk_iconst_5 dX8_pushes_28 ?_
  refine g_ic_neN (pc := 29) C 44 dX8_pushes_29 (by decide) (by omega) (fun _ => ?_) (fun q => absurd q (h5))
  refine g_aload_n (pc := 44) C (hl := rfl) dX8_pushes_44 ?_
  refine g_get (pc := 45) C fl8_7 dX8_pushes_45 (q_up_s _ _ _) rfl ?_
  refine g_iload_n (pc := 48) C (hl := rfl) dX8_pushes_48 ?_
  refine g_bipush (pc := 49) C qk_bipush_9 dX8_pushes_49 ?_
  refine g_iaddN (pc := 51) C dX8_pushes_51 ?_
  refine g_iload_n (pc := 52) C (hl := rfl) dX8_pushes_52 ?_
  refine g_iaddN (pc := 53) C dX8_pushes_53 ?_
  refine g_ialdV (pc := 54) C dX8_pushes_54 ((q_up_n _ _ (by decide)).trans hW) (by omega) (wT_wa T (by omega)) ?_
  refine g_istore (pc := 55) C rfl dX8_pushes_55 ?_
  refine g_iload (pc := 57) C (hl := rfl) dX8_pushes_57 ?_
  refine g_iconst (pc := 59) C qk_iconst_4 dX8_pushes_59 ?_
  refine g_ic_eqN (pc := 60) C 84 dX8_pushes_60 (by decide) (by omega) (fun c60 => ?_) (fun c60 => ?_)
  · exact g_vret (pc := 84) C F dX8_pushes_84 rfl rfl (by first | (simp only [q_up_u, q_up_c _ (show (87 : Nat) ≠ 88 by decide)]; done) | (simp only [q_up_u, q_up_c _ (show (87 : Nat) ≠ 88 by decide)]; rfl) | rfl)
  · refine g_iload (pc := 63) C (hl := rfl) dX8_pushes_63 ?_
    refine g_iload_n (pc := 65) C (hl := rfl) dX8_pushes_65 ?_
    refine g_ic_geN (pc := 66) C 84 dX8_pushes_66 (by decide) (by omega) (fun c66 => ?_) (fun c66 => ?_)
    · exact g_vret (pc := 84) C F dX8_pushes_84 rfl rfl (by first | (simp only [q_up_u, q_up_c _ (show (87 : Nat) ≠ 88 by decide)]; done) | (simp only [q_up_u, q_up_c _ (show (87 : Nat) ≠ 88 by decide)]; rfl) | rfl)
    · refine g_aload_n (pc := 69) C (hl := rfl) dX8_pushes_69 ?_
      refine g_get (pc := 70) C fl8_7 dX8_pushes_70 (q_up_s _ _ _) rfl ?_
      refine g_iload_n (pc := 73) C (hl := rfl) dX8_pushes_73 ?_
      refine g_bipush (pc := 74) C qk_bipush_27 dX8_pushes_74 ?_
      refine g_iaddN (pc := 76) C dX8_pushes_76 ?_
      refine g_iload (pc := 77) C (hl := rfl) dX8_pushes_77 ?_
      refine g_iaddN (pc := 79) C dX8_pushes_79 ?_
      refine g_ialdV (pc := 80) C dX8_pushes_80 ((q_up_n _ _ (by decide)).trans hW) (by omega) (wT_po T v3.2.1) ?_
      refine g_if_neN (pc := 81) C 85 dX8_pushes_81 (by decide) (by omega) (fun c81 => ?_) (fun c81 => ?_)
      · exact absurd hz (fun z => z.elim c60 (fun z => z.elim (fun z => c66 z) (fun z => c81 z)))
      · exact g_vret (pc := 84) C F dX8_pushes_84 rfl rfl (by first | (simp only [q_up_u, q_up_c _ (show (87 : Nat) ≠ 88 by decide)]; done) | (simp only [q_up_u, q_up_c _ (show (87 : Nat) ≠ 88 by decide)]; rfl) | rfl)
set_option maxHeartbeats 2000000 in
set_option maxRecDepth 20000 in
theorem s8_pushesL {n : Nat} {h : q_H} {un ta fl st sa ne so di pu at_ er en pa tr r g : Nat} {W : Nat → Nat} {x : mX} {L p : Nat} (j : Nat) (h0 : h 87 = MO un ta fl st sa ne so di pu at_ er en pa tr) (hW : h 88 = WA W) (T : wT W r g x) (hr : r + 39 ≤ 1131) (hv : mW g x) (hj : j < g) (h5 : ¬ x.1 (0 + j) = 5) (hz : ¬ (x.1 (0 + j) = 4 ∨ g ≤ x.1 (6 + j) ∨ x.1 (24 + x.1 (6 + j)) = 0)) (hL : mLeft x.1 g x.2.1 j (x.1 (6 + j)) = L) (hlr : L ≤ g - L) (hp : p = min L 1) : SP 1 yX8_pushes cX8_pushes 9 none [.ref 87, .int (nI r), .int (nI j)] n h none (q_up (q_up h 88 (WA (wPut W r g (x.1, mTurn g x.2.1 (p : Int), x.2.2)))) 87 (MO un ta fl st sa ne so di p at_ er en pa tr)) := by
  refine q_SPi RX8 rfl (by decide +kernel) (la := _) rfl rfl (fun Γ ad C F => ?_)
  have v1 := hv.1
  have hl := mLeft_lt x.1 g x.2.1 j (x.1 (6 + j)) v1.1
  rw [hL] at hl
  have v2 := hv.2.1 j hj
  have v3 := hv.2.2 j (by omega)
  have v5 := (hv.2.2 (x.1 (6 + j)) v3.2.1).2.2.2.1
  refine g_aload_n (pc := 0) C (hl := rfl) dX8_pushes_0 ?_
  refine g_get (pc := 1) C fl8_7 dX8_pushes_1 h0 rfl ?_
  refine g_iload_n (pc := 4) C (hl := rfl) dX8_pushes_4 ?_
  refine g_iconst (pc := 5) C qk_iconst_0 dX8_pushes_5 ?_
  refine g_iaddN (pc := 6) C dX8_pushes_6 ?_
  refine g_ialdV (pc := 7) C dX8_pushes_7 hW (by omega) (wT_n T) ?_
  refine g_istore_n (pc := 8) C rfl dX8_pushes_8 ?_
  refine g_aload_n (pc := 9) C (hl := rfl) dX8_pushes_9 ?_
  refine g_get (pc := 10) C fl8_7 dX8_pushes_10 h0 rfl ?_
  refine g_iload_n (pc := 13) C (hl := rfl) dX8_pushes_13 ?_
  refine g_iconst (pc := 14) C qk_iconst_3 dX8_pushes_14 ?_
  refine g_iaddN (pc := 15) C dX8_pushes_15 ?_
  refine g_iload_n (pc := 16) C (hl := rfl) dX8_pushes_16 ?_
  refine g_iaddN (pc := 17) C dX8_pushes_17 ?_
  refine g_ialdV (pc := 18) C dX8_pushes_18 hW (by omega) (wT_so T (by omega)) ?_
  refine g_istore (pc := 19) C rfl dX8_pushes_19 ?_
  refine g_aload_n (pc := 21) C (hl := rfl) dX8_pushes_21 ?_
  refine g_iconst (pc := 22) C qk_iconst_0 dX8_pushes_22 ?_
  refine g_put (pc := 23) C fp8_149 dX8_pushes_23 h0 (Nat.le_of_ble_eq_true rfl) ?_
  refine g_iload (pc := 26) C (hl := rfl) dX8_pushes_26 ?_
  refine g_iconst (pc := 28) C qk_iconst_5 dX8_pushes_28 ?_
  refine g_ic_neN (pc := 29) C 44 dX8_pushes_29 (by decide) (by omega) (fun _ => ?_) (fun q => absurd q (h5))
  refine g_aload_n (pc := 44) C (hl := rfl) dX8_pushes_44 ?_
  refine g_get (pc := 45) C fl8_7 dX8_pushes_45 (q_up_s _ _ _) rfl ?_
  refine g_iload_n (pc := 48) C (hl := rfl) dX8_pushes_48 ?_
  refine g_bipush (pc := 49) C qk_bipush_9 dX8_pushes_49 ?_
  refine g_iaddN (pc := 51) C dX8_pushes_51 ?_
  refine g_iload_n (pc := 52) C (hl := rfl) dX8_pushes_52 ?_
  refine g_iaddN (pc := 53) C dX8_pushes_53 ?_
  refine g_ialdV (pc := 54) C dX8_pushes_54 ((q_up_n _ _ (by decide)).trans hW) (by omega) (wT_wa T (by omega)) ?_
  refine g_istore (pc := 55) C rfl dX8_pushes_55 ?_
  refine g_iload (pc := 57) C (hl := rfl) dX8_pushes_57 ?_
  refine g_iconst (pc := 59) C qk_iconst_4 dX8_pushes_59 ?_
  refine g_ic_eqN (pc := 60) C 84 dX8_pushes_60 (by decide) (by omega) (fun q => absurd q (fun q => hz (Or.inl q))) (fun _ => ?_)
  refine g_iload (pc := 63) C (hl := rfl) dX8_pushes_63 ?_
  refine g_iload_n (pc := 65) C (hl := rfl) dX8_pushes_65 ?_
  refine g_ic_geN (pc := 66) C 84 dX8_pushes_66 (by decide) (by omega) (fun q => absurd q (fun q => hz (Or.inr (Or.inl q)))) (fun _ => ?_)
  refine g_aload_n (pc := 69) C (hl := rfl) dX8_pushes_69 ?_
  refine g_get (pc := 70) C fl8_7 dX8_pushes_70 (q_up_s _ _ _) rfl ?_
  refine g_iload_n (pc := 73) C (hl := rfl) dX8_pushes_73 ?_
  refine g_bipush (pc := 74) C qk_bipush_27 dX8_pushes_74 ?_
  refine g_iaddN (pc := 76) C dX8_pushes_76 ?_
  refine g_iload (pc := 77) C (hl := rfl) dX8_pushes_77 ?_
  refine g_iaddN (pc := 79) C dX8_pushes_79 ?_
  refine g_ialdV (pc := 80) C dX8_pushes_80 ((q_up_n _ _ (by decide)).trans hW) (by omega) (wT_po T v3.2.1) ?_
  refine g_if_neN (pc := 81) C 85 dX8_pushes_81 (by decide) (by omega) (fun _ => ?_) (fun q => absurd q (fun q => hz (Or.inr (Or.inr q))))
  refine g_aload_n (pc := 85) C (hl := rfl) dX8_pushes_85 ?_
  refine g_iload_n (pc := 86) C (hl := rfl) dX8_pushes_86 ?_
  refine g_iload_n (pc := 87) C (hl := rfl) dX8_pushes_87 ?_
  refine g_V2v (pc := 88) C lv8_155 dX8_pushes_88 (s8_leftTo j (q_up_s _ _ _) ((q_up_n _ _ (by decide)).trans hW) T hr hv hj) (q_up_s _ _ _) (by decide) (Nat.le_of_ble_eq_true rfl) ?_
  rw [hL]
  refine g_istore (pc := 91) C rfl dX8_pushes_91 ?_
  refine g_iload_n (pc := 93) C (hl := rfl) dX8_pushes_93 ?_
  refine g_iconst (pc := 94) C qk_iconst_4 dX8_pushes_94 ?_
  refine g_idivN (pc := 95) C dX8_pushes_95 (by omega) ?_
  refine g_iconst (pc := 96) C qk_iconst_1 dX8_pushes_96 ?_
  refine g_ic_leN (pc := 97) C 106 dX8_pushes_97 (by decide) (by omega) (fun _ => ?_) (fun q => absurd (by omega) q)
  refine g_iconst (pc := 106) C qk_iconst_1 dX8_pushes_106 ?_
  refine g_istore (pc := 107) C rfl dX8_pushes_107 ?_
  refine g_iload (pc := 109) C (hl := rfl) dX8_pushes_109 ?_
  refine g_iload_n (pc := 111) C (hl := rfl) dX8_pushes_111 ?_
  refine g_iload (pc := 112) C (hl := rfl) dX8_pushes_112 ?_
  refine g_isubN (pc := 114) C dX8_pushes_114 (by omega) ?_
  refine g_ic_gtN (pc := 115) C 123 dX8_pushes_115 (by decide) (by omega) (fun q => absurd q (by omega)) (fun _ => ?_)
  refine g_iload (pc := 118) C (hl := rfl) dX8_pushes_118 ?_
  refine g_goto (pc := 120) C 127 dX8_pushes_120 (by decide) ?_
  refine g_istore (pc := 127) C rfl dX8_pushes_127 ?_
  refine g_aload_n (pc := 129) C (hl := rfl) dX8_pushes_129 ?_
  refine g_iload (pc := 130) C (hl := rfl) dX8_pushes_130 ?_
  refine g_iload (pc := 132) C (hl := rfl) dX8_pushes_132 ?_
  refine g_ic_geN (pc := 134) C 142 dX8_pushes_134 (by decide) (by omega) (fun c134 => ?_) (fun c134 => ?_)
  · obtain rfl : p = 1 := by omega
    refine g_iload (pc := 142) C (hl := rfl) dX8_pushes_142 ?_
    refine g_put (pc := 144) C fp8_149 dX8_pushes_144 (q_up_s _ _ _) (Nat.le_of_ble_eq_true rfl) ?_
    refine g_aload_n (pc := 147) C (hl := rfl) dX8_pushes_147 ?_
    refine g_iload_n (pc := 148) C (hl := rfl) dX8_pushes_148 ?_
    refine g_iload (pc := 149) C (hl := rfl) dX8_pushes_149 ?_
    refine g_iload_n (pc := 151) C (hl := rfl) dX8_pushes_151 ?_
    refine g_iload (pc := 152) C (hl := rfl) dX8_pushes_152 ?_
    refine g_isubN (pc := 154) C dX8_pushes_154 (by omega) ?_
    refine g_ic_gtN (pc := 155) C 165 dX8_pushes_155 (by decide) (by omega) (fun q => absurd q (by omega)) (fun _ => ?_)
    refine g_aload_n (pc := 158) C (hl := rfl) dX8_pushes_158 ?_
    refine g_get (pc := 159) C fl8_149 dX8_pushes_159 (q_up_s _ _ _) rfl ?_
    refine g_goto (pc := 162) C 170 dX8_pushes_162 (by decide) ?_
    refine g_V2u (pc := 170) C lv8_152 dX8_pushes_170 (s8_turnByN _ (q_up_s _ _ _) ((q_up_n _ _ (by decide)).trans ((q_up_n _ _ (by decide)).trans hW)) T hr (by omega) (by omega) (by omega)) (q_up_s _ _ _) (by decide) (Nat.le_of_ble_eq_true rfl) ?_
    exact g_vret (pc := 173) C F dX8_pushes_173 rfl rfl (by first | (simp only [q_up_u, q_up_c _ (show (87 : Nat) ≠ 88 by decide)]; done) | (simp only [q_up_u, q_up_c _ (show (87 : Nat) ≠ 88 by decide)]; rfl) | rfl)
  · obtain rfl : p = L := by omega
    refine g_iload (pc := 137) C (hl := rfl) dX8_pushes_137 ?_
    refine g_goto (pc := 139) C 144 dX8_pushes_139 (by decide) ?_
    refine g_put (pc := 144) C fp8_149 dX8_pushes_144 (q_up_s _ _ _) (Nat.le_of_ble_eq_true rfl) ?_
    refine g_aload_n (pc := 147) C (hl := rfl) dX8_pushes_147 ?_
    refine g_iload_n (pc := 148) C (hl := rfl) dX8_pushes_148 ?_
    refine g_iload (pc := 149) C (hl := rfl) dX8_pushes_149 ?_
    refine g_iload_n (pc := 151) C (hl := rfl) dX8_pushes_151 ?_
    refine g_iload (pc := 152) C (hl := rfl) dX8_pushes_152 ?_
    refine g_isubN (pc := 154) C dX8_pushes_154 (by omega) ?_
    refine g_ic_gtN (pc := 155) C 165 dX8_pushes_155 (by decide) (by omega) (fun q => absurd q (by omega)) (fun _ => ?_)
    refine g_aload_n (pc := 158) C (hl := rfl) dX8_pushes_158 ?_
    refine g_get (pc := 159) C fl8_149 dX8_pushes_159 (q_up_s _ _ _) rfl ?_
    refine g_goto (pc := 162) C 170 dX8_pushes_162 (by decide) ?_
    refine g_V2u (pc := 170) C lv8_152 dX8_pushes_170 (s8_turnByN _ (q_up_s _ _ _) ((q_up_n _ _ (by decide)).trans ((q_up_n _ _ (by decide)).trans hW)) T hr (by omega) (by omega) (by omega)) (q_up_s _ _ _) (by decide) (Nat.le_of_ble_eq_true rfl) ?_
    exact g_vret (pc := 173) C F dX8_pushes_173 rfl rfl (by first | (simp only [q_up_u, q_up_c _ (show (87 : Nat) ≠ 88 by decide)]; done) | (simp only [q_up_u, q_up_c _ (show (87 : Nat) ≠ 88 by decide)]; rfl) | rfl)
set_option maxHeartbeats 2000000 in
set_option maxRecDepth 20000 in
theorem s8_pushesR {n : Nat} {h : q_H} {un ta fl st sa ne so di pu at_ er en pa tr r g : Nat} {W : Nat → Nat} {x : mX} {L p : Nat} (j : Nat) (h0 : h 87 = MO un ta fl st sa ne so di pu at_ er en pa tr) (hW : h 88 = WA W) (T : wT W r g x) (hr : r + 39 ≤ 1131) (hv : mW g x) (hj : j < g) (h5 : ¬ x.1 (0 + j) = 5) (hz : ¬ (x.1 (0 + j) = 4 ∨ g ≤ x.1 (6 + j) ∨ x.1 (24 + x.1 (6 + j)) = 0)) (hL : mLeft x.1 g x.2.1 j (x.1 (6 + j)) = L) (hlr : ¬ L ≤ g - L) (hp : p = min (g - L) 1) : SP 1 yX8_pushes cX8_pushes 9 none [.ref 87, .int (nI r), .int (nI j)] n h none (q_up (q_up h 88 (WA (wPut W r g (x.1, mTurn g x.2.1 (-(p : Int)), x.2.2)))) 87 (MO un ta fl st sa ne so di p at_ er en pa tr)) := by
  refine q_SPi RX8 rfl (by decide +kernel) (la := _) rfl rfl (fun Γ ad C F => ?_)
  have v1 := hv.1
  have hl := mLeft_lt x.1 g x.2.1 j (x.1 (6 + j)) v1.1
  rw [hL] at hl
  have v2 := hv.2.1 j hj
  have v3 := hv.2.2 j (by omega)
  have v5 := (hv.2.2 (x.1 (6 + j)) v3.2.1).2.2.2.1
  refine g_aload_n (pc := 0) C (hl := rfl) dX8_pushes_0 ?_
  refine g_get (pc := 1) C fl8_7 dX8_pushes_1 h0 rfl ?_
  refine g_iload_n (pc := 4) C (hl := rfl) dX8_pushes_4 ?_
  refine g_iconst (pc := 5) C qk_iconst_0 dX8_pushes_5 ?_
  refine g_iaddN (pc := 6) C dX8_pushes_6 ?_
  refine g_ialdV (pc := 7) C dX8_pushes_7 hW (by omega) (wT_n T) ?_
  refine g_istore_n (pc := 8) C rfl dX8_pushes_8 ?_
  refine g_aload_n (pc := 9) C (hl := rfl) dX8_pushes_9 ?_
  refine g_get (pc := 10) C fl8_7 dX8_pushes_10 h0 rfl ?_
  refine g_iload_n (pc := 13) C (hl := rfl) dX8_pushes_13 ?_
  refine g_iconst (pc := 14) C qk_iconst_3 dX8_pushes_14 ?_
  refine g_iaddN (pc := 15) C dX8_pushes_15 ?_
  refine g_iload_n (pc := 16) C (hl := rfl) dX8_pushes_16 ?_
  refine g_iaddN (pc := 17) C dX8_pushes_17 ?_
  refine g_ialdV (pc := 18) C dX8_pushes_18 hW (by omega) (wT_so T (by omega)) ?_
  refine g_istore (pc := 19) C rfl dX8_pushes_19 ?_
  refine g_aload_n (pc := 21) C (hl := rfl) dX8_pushes_21 ?_
  refine g_iconst (pc := 22) C qk_iconst_0 dX8_pushes_22 ?_
  refine g_put (pc := 23) C fp8_149 dX8_pushes_23 h0 (Nat.le_of_ble_eq_true rfl) ?_
  refine g_iload (pc := 26) C (hl := rfl) dX8_pushes_26 ?_
  refine g_iconst (pc := 28) C qk_iconst_5 dX8_pushes_28 ?_
  refine g_ic_neN (pc := 29) C 44 dX8_pushes_29 (by decide) (by omega) (fun _ => ?_) (fun q => absurd q (h5))
  refine g_aload_n (pc := 44) C (hl := rfl) dX8_pushes_44 ?_
  refine g_get (pc := 45) C fl8_7 dX8_pushes_45 (q_up_s _ _ _) rfl ?_
  refine g_iload_n (pc := 48) C (hl := rfl) dX8_pushes_48 ?_
  refine g_bipush (pc := 49) C qk_bipush_9 dX8_pushes_49 ?_
  refine g_iaddN (pc := 51) C dX8_pushes_51 ?_
  refine g_iload_n (pc := 52) C (hl := rfl) dX8_pushes_52 ?_
  refine g_iaddN (pc := 53) C dX8_pushes_53 ?_
  refine g_ialdV (pc := 54) C dX8_pushes_54 ((q_up_n _ _ (by decide)).trans hW) (by omega) (wT_wa T (by omega)) ?_
  refine g_istore (pc := 55) C rfl dX8_pushes_55 ?_
  refine g_iload (pc := 57) C (hl := rfl) dX8_pushes_57 ?_
  refine g_iconst (pc := 59) C qk_iconst_4 dX8_pushes_59 ?_
  refine g_ic_eqN (pc := 60) C 84 dX8_pushes_60 (by decide) (by omega) (fun q => absurd q (fun q => hz (Or.inl q))) (fun _ => ?_)
  refine g_iload (pc := 63) C (hl := rfl) dX8_pushes_63 ?_
  refine g_iload_n (pc := 65) C (hl := rfl) dX8_pushes_65 ?_
  refine g_ic_geN (pc := 66) C 84 dX8_pushes_66 (by decide) (by omega) (fun q => absurd q (fun q => hz (Or.inr (Or.inl q)))) (fun _ => ?_)
  refine g_aload_n (pc := 69) C (hl := rfl) dX8_pushes_69 ?_
  refine g_get (pc := 70) C fl8_7 dX8_pushes_70 (q_up_s _ _ _) rfl ?_
  refine g_iload_n (pc := 73) C (hl := rfl) dX8_pushes_73 ?_
  refine g_bipush (pc := 74) C qk_bipush_27 dX8_pushes_74 ?_
  refine g_iaddN (pc := 76) C dX8_pushes_76 ?_
  refine g_iload (pc := 77) C (hl := rfl) dX8_pushes_77 ?_
  refine g_iaddN (pc := 79) C dX8_pushes_79 ?_
  refine g_ialdV (pc := 80) C dX8_pushes_80 ((q_up_n _ _ (by decide)).trans hW) (by omega) (wT_po T v3.2.1) ?_
  refine g_if_neN (pc := 81) C 85 dX8_pushes_81 (by decide) (by omega) (fun _ => ?_) (fun q => absurd q (fun q => hz (Or.inr (Or.inr q))))
  refine g_aload_n (pc := 85) C (hl := rfl) dX8_pushes_85 ?_
  refine g_iload_n (pc := 86) C (hl := rfl) dX8_pushes_86 ?_
  refine g_iload_n (pc := 87) C (hl := rfl) dX8_pushes_87 ?_
  refine g_V2v (pc := 88) C lv8_155 dX8_pushes_88 (s8_leftTo j (q_up_s _ _ _) ((q_up_n _ _ (by decide)).trans hW) T hr hv hj) (q_up_s _ _ _) (by decide) (Nat.le_of_ble_eq_true rfl) ?_
  rw [hL]
  refine g_istore (pc := 91) C rfl dX8_pushes_91 ?_
  refine g_iload_n (pc := 93) C (hl := rfl) dX8_pushes_93 ?_
  refine g_iconst (pc := 94) C qk_iconst_4 dX8_pushes_94 ?_
  refine g_idivN (pc := 95) C dX8_pushes_95 (by omega) ?_
  refine g_iconst (pc := 96) C qk_iconst_1 dX8_pushes_96 ?_
  refine g_ic_leN (pc := 97) C 106 dX8_pushes_97 (by decide) (by omega) (fun _ => ?_) (fun q => absurd (by omega) q)
  refine g_iconst (pc := 106) C qk_iconst_1 dX8_pushes_106 ?_
  refine g_istore (pc := 107) C rfl dX8_pushes_107 ?_
  refine g_iload (pc := 109) C (hl := rfl) dX8_pushes_109 ?_
  refine g_iload_n (pc := 111) C (hl := rfl) dX8_pushes_111 ?_
  refine g_iload (pc := 112) C (hl := rfl) dX8_pushes_112 ?_
  refine g_isubN (pc := 114) C dX8_pushes_114 (by omega) ?_
  refine g_ic_gtN (pc := 115) C 123 dX8_pushes_115 (by decide) (by omega) (fun _ => ?_) (fun q => absurd (by omega) q)
  refine g_iload_n (pc := 123) C (hl := rfl) dX8_pushes_123 ?_
  refine g_iload (pc := 124) C (hl := rfl) dX8_pushes_124 ?_
  refine g_isubN (pc := 126) C dX8_pushes_126 (by omega) ?_
  refine g_istore (pc := 127) C rfl dX8_pushes_127 ?_
  refine g_aload_n (pc := 129) C (hl := rfl) dX8_pushes_129 ?_
  refine g_iload (pc := 130) C (hl := rfl) dX8_pushes_130 ?_
  refine g_iload (pc := 132) C (hl := rfl) dX8_pushes_132 ?_
  refine g_ic_geN (pc := 134) C 142 dX8_pushes_134 (by decide) (by omega) (fun c134 => ?_) (fun c134 => ?_)
  · obtain rfl : p = 1 := by omega
    refine g_iload (pc := 142) C (hl := rfl) dX8_pushes_142 ?_
    refine g_put (pc := 144) C fp8_149 dX8_pushes_144 (q_up_s _ _ _) (Nat.le_of_ble_eq_true rfl) ?_
    refine g_aload_n (pc := 147) C (hl := rfl) dX8_pushes_147 ?_
    refine g_iload_n (pc := 148) C (hl := rfl) dX8_pushes_148 ?_
    refine g_iload (pc := 149) C (hl := rfl) dX8_pushes_149 ?_
    refine g_iload_n (pc := 151) C (hl := rfl) dX8_pushes_151 ?_
    refine g_iload (pc := 152) C (hl := rfl) dX8_pushes_152 ?_
    refine g_isubN (pc := 154) C dX8_pushes_154 (by omega) ?_
    refine g_ic_gtN (pc := 155) C 165 dX8_pushes_155 (by decide) (by omega) (fun _ => ?_) (fun q => absurd (by omega) q)
    refine g_aload_n (pc := 165) C (hl := rfl) dX8_pushes_165 ?_
    refine g_get (pc := 166) C fl8_149 dX8_pushes_166 (q_up_s _ _ _) rfl ?_
    refine g_ineg (pc := 169) C dX8_pushes_169 ?_
    refine g_V2u (pc := 170) C lv8_152 dX8_pushes_170 (s8_turnByM _ (q_up_s _ _ _) ((q_up_n _ _ (by decide)).trans ((q_up_n _ _ (by decide)).trans hW)) T hr (by omega) (by omega) (by omega)) (q_up_s _ _ _) (by decide) (Nat.le_of_ble_eq_true rfl) ?_
    exact g_vret (pc := 173) C F dX8_pushes_173 rfl rfl (by first | (simp only [q_up_u, q_up_c _ (show (87 : Nat) ≠ 88 by decide)]; done) | (simp only [q_up_u, q_up_c _ (show (87 : Nat) ≠ 88 by decide)]; rfl) | rfl)
  · obtain rfl : p = g - L := by omega
    refine g_iload (pc := 137) C (hl := rfl) dX8_pushes_137 ?_
    refine g_goto (pc := 139) C 144 dX8_pushes_139 (by decide) ?_
    refine g_put (pc := 144) C fp8_149 dX8_pushes_144 (q_up_s _ _ _) (Nat.le_of_ble_eq_true rfl) ?_
    refine g_aload_n (pc := 147) C (hl := rfl) dX8_pushes_147 ?_
    refine g_iload_n (pc := 148) C (hl := rfl) dX8_pushes_148 ?_
    refine g_iload (pc := 149) C (hl := rfl) dX8_pushes_149 ?_
    refine g_iload_n (pc := 151) C (hl := rfl) dX8_pushes_151 ?_
    refine g_iload (pc := 152) C (hl := rfl) dX8_pushes_152 ?_
    refine g_isubN (pc := 154) C dX8_pushes_154 (by omega) ?_
    refine g_ic_gtN (pc := 155) C 165 dX8_pushes_155 (by decide) (by omega) (fun _ => ?_) (fun q => absurd (by omega) q)
    refine g_aload_n (pc := 165) C (hl := rfl) dX8_pushes_165 ?_
    refine g_get (pc := 166) C fl8_149 dX8_pushes_166 (q_up_s _ _ _) rfl ?_
    refine g_ineg (pc := 169) C dX8_pushes_169 ?_
    refine g_V2u (pc := 170) C lv8_152 dX8_pushes_170 (s8_turnByM _ (q_up_s _ _ _) ((q_up_n _ _ (by decide)).trans ((q_up_n _ _ (by decide)).trans hW)) T hr (by omega) (by omega) (by omega)) (q_up_s _ _ _) (by decide) (Nat.le_of_ble_eq_true rfl) ?_
    exact g_vret (pc := 173) C F dX8_pushes_173 rfl rfl (by first | (simp only [q_up_u, q_up_c _ (show (87 : Nat) ≠ 88 by decide)]; done) | (simp only [q_up_u, q_up_c _ (show (87 : Nat) ≠ 88 by decide)]; rfl) | rfl)
theorem mTurn_0 {g tu : Nat} (h : tu < g) : mTurn g tu 0 = tu := by
  unfold mTurn
  rw [Int.add_zero, ← Int.natCast_emod, Int.toNat_natCast, Nat.mod_eq_of_lt h]
theorem s8_pushes {n : Nat} {h : q_H} {un ta fl st sa ne so di pu at_ er en pa tr r g : Nat} {W : Nat → Nat} {x : mX} (j : Nat) (h0 : h 87 = MO un ta fl st sa ne so di pu at_ er en pa tr) (hW : h 88 = WA W) (T : wT W r g x) (hr : r + 39 ≤ 1131) (hv : mW g x) (hj : j < g) : SP 1 yX8_pushes cX8_pushes 9 none [.ref 87, .int (nI r), .int (nI j)] n h none (q_up (q_up h 88 (WA (wPut W r g (x.1, mTurn g x.2.1 (mPush x.1 g x.2.1 j), x.2.2)))) 87 (MO un ta fl st sa ne so di (mPush x.1 g x.2.1 j).natAbs at_ er en pa tr)) := by
  have hg := hv.1
  by_cases h5 : x.1 (0 + j) = 5
  · rw [mPush_1 h5]
    exact s8_pushes5 j h0 hW T hr hv hj h5
  · by_cases hz : x.1 (0 + j) = 4 ∨ g ≤ x.1 (6 + j) ∨ x.1 (24 + x.1 (6 + j)) = 0
    · rw [mPush_0 h5 hz, mTurn_0 hg.2.2]
      show SP _ _ _ _ _ _ _ _ _ (q_up (q_up h 88 (WA (wPut W r g x))) 87 _)
      rw [wPut_self T, q_upI hW]
      exact s8_pushesZ j h0 hW T hr hv hj h5 hz
    · have e : max 1 (g / 4) = 1 := by omega
      by_cases hl : mLeft x.1 g x.2.1 j (x.1 (6 + j)) ≤ g - mLeft x.1 g x.2.1 j (x.1 (6 + j))
      · rw [mPush_L h5 hz hl, e]
        exact s8_pushesL j h0 hW T hr hv hj h5 hz rfl hl rfl
      · rw [mPush_R h5 hz hl, e, Int.natAbs_neg]
        exact s8_pushesR j h0 hW T hr hv hj h5 hz rfl hl rfl
set_option maxHeartbeats 2000000 in
set_option maxRecDepth 20000 in
theorem l8_g104 {Γ : q_X} {ad : Nat → Nat} {n : Nat} {h : q_H} {un ta fl st sa ne so di pu at_ er en pa tr r g : Nat} {W : Nat → Nat} {x : mX} {o E so_ may mo b : Nat} {hF : q_H} (h0 : h 87 = MO un ta fl st sa ne so di pu at_ er en pa tr) (hW : h 88 = WA W) (T : wT W r g x) (hr : r + 39 ≤ 1131) (ho : o < 6 ∧ E < 6 ∧ mo ≤ 2 ∧ x.1 (24 + E) < 1000000) (hb : b = min (x.1 (24 + E)) mo) (hF_ : hF = q_up (q_up h 88 (WA (wPut W r g (va_up (va_up x.1 (24 + E) (x.1 (24 + E) - b)) (18 + o) (va_up x.1 (24 + E) (x.1 (24 + E) - b) (18 + o) + b), x.2.1, x.2.2.1 + 1, x.2.2.2)))) 87 (MO un ta fl st sa ne so di pu b o E pa tr)) (C : q_C Γ ad 2 0 0 RX8 yX8_goMinute cX8_goMinute 7 none) (F : q_N Γ ad n none hF) : q_G Γ ad 7 104 [some (.ref 87), some (.int (nI r)), some (.int (nI o)), some (.int (nI E)), some (.int (nI so_)), some (.int (nI may)), some (.int (nI mo))] [] n h 0 0 := by
  refine g_aload_n (pc := 104) C (hl := rfl) dX8_goMinute_104 ?_
  refine g_aload_n (pc := 105) C (hl := rfl) dX8_goMinute_105 ?_
  refine g_get (pc := 106) C fl8_7 dX8_goMinute_106 h0 rfl ?_
  refine g_iload_n (pc := 109) C (hl := rfl) dX8_goMinute_109 ?_
  refine g_bipush (pc := 110) C qk_bipush_27 dX8_goMinute_110 ?_
  refine g_iaddN (pc := 112) C dX8_goMinute_112 ?_
  refine g_iload_n (pc := 113) C (hl := rfl) dX8_goMinute_113 ?_
  refine g_iaddN (pc := 114) C dX8_goMinute_114 ?_
  refine g_ialdV (pc := 115) C dX8_goMinute_115 hW (by omega) (wT_po T (by omega)) ?_
  refine g_iload (pc := 116) C (hl := rfl) dX8_goMinute_116 ?_
  refine g_ic_geN (pc := 118) C 135 dX8_goMinute_118 (by decide) (by omega) (fun c118 => ?_) (fun c118 => ?_)
  · obtain rfl : b = mo := by omega
    refine g_iload (pc := 135) C (hl := rfl) dX8_goMinute_135 ?_
    refine g_put (pc := 137) C fp8_168 dX8_goMinute_137 h0 (Nat.le_of_ble_eq_true rfl) ?_
    refine g_aload_n (pc := 140) C (hl := rfl) dX8_goMinute_140 ?_
    refine g_get (pc := 141) C fl8_7 dX8_goMinute_141 (q_up_s _ _ _) rfl ?_
    refine g_iload_n (pc := 144) C (hl := rfl) dX8_goMinute_144 ?_
    refine g_bipush (pc := 145) C qk_bipush_27 dX8_goMinute_145 ?_
    refine g_iaddN (pc := 147) C dX8_goMinute_147 ?_
    refine g_iload_n (pc := 148) C (hl := rfl) dX8_goMinute_148 ?_
    refine g_iaddN (pc := 149) C dX8_goMinute_149 ?_
    refine g_dup2 (pc := 150) C rfl rfl dX8_goMinute_150 ?_
    refine g_ialdV (pc := 151) C dX8_goMinute_151 ((q_up_n _ _ (by decide)).trans hW) (by omega) (wT_po T (by omega)) ?_
    refine g_aload_n (pc := 152) C (hl := rfl) dX8_goMinute_152 ?_
    refine g_get (pc := 153) C fl8_168 dX8_goMinute_153 (q_up_s _ _ _) rfl ?_
    refine g_isubN (pc := 156) C dX8_goMinute_156 (by omega) ?_
    refine g_iastV (pc := 157) C dX8_goMinute_157 ((q_up_n _ _ (by decide)).trans hW) (by omega) (wS_po T (by omega)) ?_
    refine g_aload_n (pc := 158) C (hl := rfl) dX8_goMinute_158 ?_
    refine g_get (pc := 159) C fl8_7 dX8_goMinute_159 ((q_up_n _ _ (by decide)).trans (q_up_s _ _ _)) rfl ?_
    refine g_iload_n (pc := 162) C (hl := rfl) dX8_goMinute_162 ?_
    refine g_bipush (pc := 163) C qk_bipush_15 dX8_goMinute_163 ?_
    refine g_iaddN (pc := 165) C dX8_goMinute_165 ?_
    refine g_iload_n (pc := 166) C (hl := rfl) dX8_goMinute_166 ?_
    refine g_iaddN (pc := 167) C dX8_goMinute_167 ?_
    refine g_dup2 (pc := 168) C rfl rfl dX8_goMinute_168 ?_
    refine g_ialdV (pc := 169) C dX8_goMinute_169 (q_up_s _ _ _) (by omega) (wT_ea (wT_put _ _ _ _) (by omega)) ?_
    refine g_aload_n (pc := 170) C (hl := rfl) dX8_goMinute_170 ?_
    refine g_get (pc := 171) C fl8_168 dX8_goMinute_171 ((q_up_n _ _ (by decide)).trans (q_up_s _ _ _)) rfl ?_
    refine g_iaddN (pc := 174) C dX8_goMinute_174 ?_
    refine g_iastV (pc := 175) C dX8_goMinute_175 (q_up_s _ _ _) (by omega) (wS_ea (wT_put _ _ _ _) (by omega)) ?_
    refine g_aload_n (pc := 176) C (hl := rfl) dX8_goMinute_176 ?_
    refine g_get (pc := 177) C fl8_7 dX8_goMinute_177 ((q_up_n _ _ (by decide)).trans ((q_up_n _ _ (by decide)).trans (q_up_s _ _ _))) rfl ?_
    refine g_iload_n (pc := 180) C (hl := rfl) dX8_goMinute_180 ?_
    refine g_iconst (pc := 181) C qk_iconst_2 dX8_goMinute_181 ?_
    refine g_iaddN (pc := 182) C dX8_goMinute_182 ?_
    refine g_dup2 (pc := 183) C rfl rfl dX8_goMinute_183 ?_
    refine g_ialdV (pc := 184) C dX8_goMinute_184 (q_up_s _ _ _) (by omega) (wT_m (wT_put _ _ _ _)) ?_
    refine g_iconst (pc := 185) C qk_iconst_1 dX8_goMinute_185 ?_
    refine g_iaddN (pc := 186) C dX8_goMinute_186 ?_
    refine g_iastV (pc := 187) C dX8_goMinute_187 (q_up_s _ _ _) (by omega) (wS_m (wT_put _ _ _ _)) ?_
    refine g_aload_n (pc := 188) C (hl := rfl) dX8_goMinute_188 ?_
    refine g_iload_n (pc := 189) C (hl := rfl) dX8_goMinute_189 ?_
    refine g_put (pc := 190) C fp8_171 dX8_goMinute_190 ((q_up_n _ _ (by decide)).trans ((q_up_n _ _ (by decide)).trans ((q_up_n _ _ (by decide)).trans (q_up_s _ _ _)))) (Nat.le_of_ble_eq_true rfl) ?_
    refine g_aload_n (pc := 193) C (hl := rfl) dX8_goMinute_193 ?_
    refine g_iload_n (pc := 194) C (hl := rfl) dX8_goMinute_194 ?_
    refine g_put (pc := 195) C fp8_174 dX8_goMinute_195 (q_up_s _ _ _) (Nat.le_of_ble_eq_true rfl) ?_
    exact g_vret (pc := 198) C F dX8_goMinute_198 rfl rfl (by rw [hF_]; simp only [q_up_u, q_up_c _ (show (87 : Nat) ≠ 88 by decide), wPut_put]; rfl)
  · obtain rfl : b = x.1 (24 + E) := by omega
    refine g_aload_n (pc := 121) C (hl := rfl) dX8_goMinute_121 ?_
    refine g_get (pc := 122) C fl8_7 dX8_goMinute_122 h0 rfl ?_
    refine g_iload_n (pc := 125) C (hl := rfl) dX8_goMinute_125 ?_
    refine g_bipush (pc := 126) C qk_bipush_27 dX8_goMinute_126 ?_
    refine g_iaddN (pc := 128) C dX8_goMinute_128 ?_
    refine g_iload_n (pc := 129) C (hl := rfl) dX8_goMinute_129 ?_
    refine g_iaddN (pc := 130) C dX8_goMinute_130 ?_
    refine g_ialdV (pc := 131) C dX8_goMinute_131 hW (by omega) (wT_po T (by omega)) ?_
    refine g_goto (pc := 132) C 137 dX8_goMinute_132 (by decide) ?_
    refine g_put (pc := 137) C fp8_168 dX8_goMinute_137 h0 (Nat.le_of_ble_eq_true rfl) ?_
    refine g_aload_n (pc := 140) C (hl := rfl) dX8_goMinute_140 ?_
    refine g_get (pc := 141) C fl8_7 dX8_goMinute_141 (q_up_s _ _ _) rfl ?_
    refine g_iload_n (pc := 144) C (hl := rfl) dX8_goMinute_144 ?_
    refine g_bipush (pc := 145) C qk_bipush_27 dX8_goMinute_145 ?_
    refine g_iaddN (pc := 147) C dX8_goMinute_147 ?_
    refine g_iload_n (pc := 148) C (hl := rfl) dX8_goMinute_148 ?_
    refine g_iaddN (pc := 149) C dX8_goMinute_149 ?_
    refine g_dup2 (pc := 150) C rfl rfl dX8_goMinute_150 ?_
    refine g_ialdV (pc := 151) C dX8_goMinute_151 ((q_up_n _ _ (by decide)).trans hW) (by omega) (wT_po T (by omega)) ?_
    refine g_aload_n (pc := 152) C (hl := rfl) dX8_goMinute_152 ?_
    refine g_get (pc := 153) C fl8_168 dX8_goMinute_153 (q_up_s _ _ _) rfl ?_
    refine g_isubN (pc := 156) C dX8_goMinute_156 (by omega) ?_
    refine g_iastV (pc := 157) C dX8_goMinute_157 ((q_up_n _ _ (by decide)).trans hW) (by omega) (wS_po T (by omega)) ?_
    refine g_aload_n (pc := 158) C (hl := rfl) dX8_goMinute_158 ?_
    refine g_get (pc := 159) C fl8_7 dX8_goMinute_159 ((q_up_n _ _ (by decide)).trans (q_up_s _ _ _)) rfl ?_
    refine g_iload_n (pc := 162) C (hl := rfl) dX8_goMinute_162 ?_
    refine g_bipush (pc := 163) C qk_bipush_15 dX8_goMinute_163 ?_
    refine g_iaddN (pc := 165) C dX8_goMinute_165 ?_
    refine g_iload_n (pc := 166) C (hl := rfl) dX8_goMinute_166 ?_
    refine g_iaddN (pc := 167) C dX8_goMinute_167 ?_
    refine g_dup2 (pc := 168) C rfl rfl dX8_goMinute_168 ?_
    refine g_ialdV (pc := 169) C dX8_goMinute_169 (q_up_s _ _ _) (by omega) (wT_ea (wT_put _ _ _ _) (by omega)) ?_
    refine g_aload_n (pc := 170) C (hl := rfl) dX8_goMinute_170 ?_
    refine g_get (pc := 171) C fl8_168 dX8_goMinute_171 ((q_up_n _ _ (by decide)).trans (q_up_s _ _ _)) rfl ?_
    refine g_iaddN (pc := 174) C dX8_goMinute_174 ?_
    refine g_iastV (pc := 175) C dX8_goMinute_175 (q_up_s _ _ _) (by omega) (wS_ea (wT_put _ _ _ _) (by omega)) ?_
    refine g_aload_n (pc := 176) C (hl := rfl) dX8_goMinute_176 ?_
    refine g_get (pc := 177) C fl8_7 dX8_goMinute_177 ((q_up_n _ _ (by decide)).trans ((q_up_n _ _ (by decide)).trans (q_up_s _ _ _))) rfl ?_
    refine g_iload_n (pc := 180) C (hl := rfl) dX8_goMinute_180 ?_
    refine g_iconst (pc := 181) C qk_iconst_2 dX8_goMinute_181 ?_
    refine g_iaddN (pc := 182) C dX8_goMinute_182 ?_
    refine g_dup2 (pc := 183) C rfl rfl dX8_goMinute_183 ?_
    refine g_ialdV (pc := 184) C dX8_goMinute_184 (q_up_s _ _ _) (by omega) (wT_m (wT_put _ _ _ _)) ?_
    refine g_iconst (pc := 185) C qk_iconst_1 dX8_goMinute_185 ?_
    refine g_iaddN (pc := 186) C dX8_goMinute_186 ?_
    refine g_iastV (pc := 187) C dX8_goMinute_187 (q_up_s _ _ _) (by omega) (wS_m (wT_put _ _ _ _)) ?_
    refine g_aload_n (pc := 188) C (hl := rfl) dX8_goMinute_188 ?_
    refine g_iload_n (pc := 189) C (hl := rfl) dX8_goMinute_189 ?_
    refine g_put (pc := 190) C fp8_171 dX8_goMinute_190 ((q_up_n _ _ (by decide)).trans ((q_up_n _ _ (by decide)).trans ((q_up_n _ _ (by decide)).trans (q_up_s _ _ _)))) (Nat.le_of_ble_eq_true rfl) ?_
    refine g_aload_n (pc := 193) C (hl := rfl) dX8_goMinute_193 ?_
    refine g_iload_n (pc := 194) C (hl := rfl) dX8_goMinute_194 ?_
    refine g_put (pc := 195) C fp8_174 dX8_goMinute_195 (q_up_s _ _ _) (Nat.le_of_ble_eq_true rfl) ?_
    exact g_vret (pc := 198) C F dX8_goMinute_198 rfl rfl (by rw [hF_]; simp only [q_up_u, q_up_c _ (show (87 : Nat) ≠ 88 by decide), wPut_put]; rfl)
theorem s8_on {n : Nat} {h : q_H} {un ta fl st sa ne so di pu at_ er en pa tr r g : Nat} {W : Nat → Nat} {x : mX} (h0 : h 87 = MO un ta fl st sa ne so di pu at_ er en pa tr) (hW : h 88 = WA W) (T : wT W r g x) (hr : r + 39 ≤ 1131) (hv : mW g x) (hs : x.2.2.1 % g < g) : SP 0 yX8_guestAt cX8_guestAt 4 (some .int) [.ref 87, .int (nI r), .int (nI (x.2.2.1 % g))] n h (some (.int (nI (mOn x.1 g x.2.2.1)))) h := s8_guestAt _ h0 hW T hr hv hs
theorem s8_pz {n : Nat} {h : q_H} {un ta fl st sa ne so di pu at_ er en pa tr r g : Nat} {W : Nat → Nat} {x : mX} (h0 : h 87 = MO un ta fl st sa ne so di pu at_ er en pa tr) (hW : h 88 = WA W) (T : wT W r g x) (hr : r + 39 ≤ 1131) (hv : mW g x) (ho : mOn x.1 g x.2.2.1 < g) : SP 1 yX8_pushes cX8_pushes 9 none [.ref 87, .int (nI r), .int (nI (mOn x.1 g x.2.2.1))] n h none (q_up (q_up h 88 (WA (wPut W r g (x.1, mTu x.1 g x.2.1 x.2.2.1, x.2.2)))) 87 (MO un ta fl st sa ne so di (mZ x.1 g x.2.1 x.2.2.1).natAbs at_ er en pa tr)) := s8_pushes _ h0 hW T hr hv ho
theorem s8_de {n : Nat} {h : q_H} {un ta fl st sa ne so di pu at_ er en pa tr r g : Nat} {W : Nat → Nat} {x : mX} (h0 : h 87 = MO un ta fl st sa ne so di pu at_ er en pa tr) (hW : h 88 = WA W) (T : wT W r g (x.1, mTu x.1 g x.2.1 x.2.2.1, x.2.2)) (hr : r + 39 ≤ 1131) (hv : mW g (x.1, mTu x.1 g x.2.1 x.2.2.1, x.2.2)) (ho : mOn x.1 g x.2.2.1 < g) : SP 0 yX8_dishBefore cX8_dishBefore 5 (some .int) [.ref 87, .int (nI r), .int (nI (mOn x.1 g x.2.2.1))] n h (some (.int (nI (mE x.1 g x.2.1 x.2.2.1)))) h := s8_dishBefore (x := (x.1, mTu x.1 g x.2.1 x.2.2.1, x.2.2)) _ h0 hW T hr hv ho
set_option maxHeartbeats 2000000 in
set_option maxRecDepth 20000 in
theorem s8_goMinute {n : Nat} {h : q_H} {un ta fl st sa ne so di pu at_ er en pa tr r g : Nat} {W : Nat → Nat} {x : mX} (h0 : h 87 = MO un ta fl st sa ne so di pu at_ er en pa tr) (hW : h 88 = WA W) (T : wT W r g x) (hr : r + 39 ≤ 1131) (hv : mW g x) (hm : x.2.2.1 < 1000000) : SP 2 yX8_goMinute cX8_goMinute 7 none [.ref 87, .int (nI r)] n h none (q_up (q_up h 88 (WA (wPut W r g (mNext g x)))) 87 (MX un ta fl st sa ne so di pa tr (mNext g x))) := by
  refine q_SPi RX8 rfl (by decide +kernel) (la := _) rfl rfl (fun Γ ad C F => ?_)
  have v1 := hv.1
  have ho := mOn_lt hv
  have he := mE_lt hv
  have v3 := hv.2.2 (mOn x.1 g x.2.2.1) (by omega)
  have v4 := (hv.2.2 (mE x.1 g x.2.1 x.2.2.1) (by omega)).2.2.2.1
  have hmg : x.2.2.1 % g < g := Nat.mod_lt _ v1.1
  have htu : mTu x.1 g x.2.1 x.2.2.1 < g := mTurn_lt _ _ _ v1.1
  have hv1 : mW g (x.1, mTu x.1 g x.2.1 x.2.2.1, x.2.2) := ⟨⟨v1.1, v1.2.1, htu⟩, hv.2.1, hv.2.2⟩
  have hEND : (q_up (q_up h 88 (WA (wPut W r g (mNext g x)))) 87 (MX un ta fl st sa ne so di pa tr (mNext g x))) = q_up (q_up (q_up (q_up h 88 (WA (wPut W r g (x.1, mTu x.1 g x.2.1 x.2.2.1, x.2.2)))) 87 (MO un ta fl st sa ne so di (mZ x.1 g x.2.1 x.2.2.1).natAbs at_ er en pa tr)) 88 (WA (wPut (wPut W r g (x.1, mTu x.1 g x.2.1 x.2.2.1, x.2.2)) r g (va_up (va_up x.1 (24 + mE x.1 g x.2.1 x.2.2.1) (x.1 (24 + mE x.1 g x.2.1 x.2.2.1) - mB x.1 g x.2.1 x.2.2.1)) (18 + mOn x.1 g x.2.2.1) (va_up x.1 (24 + mE x.1 g x.2.1 x.2.2.1) (x.1 (24 + mE x.1 g x.2.1 x.2.2.1) - mB x.1 g x.2.1 x.2.2.1) (18 + mOn x.1 g x.2.2.1) + mB x.1 g x.2.1 x.2.2.1), mTu x.1 g x.2.1 x.2.2.1, x.2.2.1 + 1, x.2.2.2)))) 87 (MO un ta fl st sa ne so di (mZ x.1 g x.2.1 x.2.2.1).natAbs (mB x.1 g x.2.1 x.2.2.1) (mOn x.1 g x.2.2.1) (mE x.1 g x.2.1 x.2.2.1) pa tr) := by
    simp only [q_up_u, q_up_c _ (show (87 : Nat) ≠ 88 by decide), wPut_put]
    rw [va_up_n (show 18 + mOn x.1 g x.2.2.1 ≠ 24 + mE x.1 g x.2.1 x.2.2.1 by omega)]
    rw [wPut_Q (z := mNext g x) ⟨rfl, rfl, rfl⟩]
    rfl
  refine g_aload_n (pc := 0) C (hl := rfl) dX8_goMinute_0 ?_
  refine g_iload_n (pc := 1) C (hl := rfl) dX8_goMinute_1 ?_
  refine g_aload_n (pc := 2) C (hl := rfl) dX8_goMinute_2 ?_
  refine g_get (pc := 3) C fl8_7 dX8_goMinute_3 h0 rfl ?_
  refine g_iload_n (pc := 6) C (hl := rfl) dX8_goMinute_6 ?_
  refine g_iconst (pc := 7) C qk_iconst_2 dX8_goMinute_7 ?_
  refine g_iaddN (pc := 8) C dX8_goMinute_8 ?_
  refine g_ialdV (pc := 9) C dX8_goMinute_9 hW (by omega) (wT_m T) ?_
  refine g_aload_n (pc := 10) C (hl := rfl) dX8_goMinute_10 ?_
  refine g_get (pc := 11) C fl8_7 dX8_goMinute_11 h0 rfl ?_
  refine g_iload_n (pc := 14) C (hl := rfl) dX8_goMinute_14 ?_
  refine g_iconst (pc := 15) C qk_iconst_0 dX8_goMinute_15 ?_
  refine g_iaddN (pc := 16) C dX8_goMinute_16 ?_
  refine g_ialdV (pc := 17) C dX8_goMinute_17 hW (by omega) (wT_n T) ?_
  refine g_iremN (pc := 18) C dX8_goMinute_18 (by exact ⟨by omega, by omega, by omega⟩) ?_
  refine g_V2v (pc := 19) C lv8_159 dX8_goMinute_19 (s8_on h0 hW T hr hv hmg) h0 (by decide) (Nat.le_of_ble_eq_true rfl) ?_
  refine g_istore_n (pc := 22) C rfl dX8_goMinute_22 ?_
  refine g_aload_n (pc := 23) C (hl := rfl) dX8_goMinute_23 ?_
  refine g_iload_n (pc := 24) C (hl := rfl) dX8_goMinute_24 ?_
  refine g_iload_n (pc := 25) C (hl := rfl) dX8_goMinute_25 ?_
  refine g_V2u (pc := 26) C lv8_162 dX8_goMinute_26 (s8_pz h0 hW T hr hv ho) h0 (by decide) (Nat.le_of_ble_eq_true rfl) ?_
  refine g_aload_n (pc := 29) C (hl := rfl) dX8_goMinute_29 ?_
  refine g_iload_n (pc := 30) C (hl := rfl) dX8_goMinute_30 ?_
  refine g_iload_n (pc := 31) C (hl := rfl) dX8_goMinute_31 ?_
  refine g_V2v (pc := 32) C lv8_165 dX8_goMinute_32 (s8_de (q_up_s _ _ _) ((q_up_n _ _ (by decide)).trans (q_up_s _ _ _)) (wT_put _ _ _ _) hr hv1 ho) (q_up_s _ _ _) (by decide) (Nat.le_of_ble_eq_true rfl) ?_
  refine g_istore_n (pc := 35) C rfl dX8_goMinute_35 ?_
  refine g_aload_n (pc := 36) C (hl := rfl) dX8_goMinute_36 ?_
  refine g_get (pc := 37) C fl8_7 dX8_goMinute_37 (q_up_s _ _ _) rfl ?_
  refine g_iload_n (pc := 40) C (hl := rfl) dX8_goMinute_40 ?_
  refine g_iconst (pc := 41) C qk_iconst_3 dX8_goMinute_41 ?_
  refine g_iaddN (pc := 42) C dX8_goMinute_42 ?_
  refine g_iload_n (pc := 43) C (hl := rfl) dX8_goMinute_43 ?_
  refine g_iaddN (pc := 44) C dX8_goMinute_44 ?_
  refine g_ialdV (pc := 45) C dX8_goMinute_45 ((q_up_n _ _ (by decide)).trans (q_up_s _ _ _)) (by omega) (show _ = x.1 (0 + mOn x.1 g x.2.2.1) from wT_so (wT_put _ _ _ _) (by omega)) ?_
  refine g_istore (pc := 46) C rfl dX8_goMinute_46 ?_
  refine g_iload (pc := 48) C (hl := rfl) dX8_goMinute_48 ?_
  refine g_iconst (pc := 50) C qk_iconst_3 dX8_goMinute_50 ?_
  refine g_ic_eqN (pc := 51) C 75 dX8_goMinute_51 (by decide) (by exact ⟨Nat.lt_of_lt_of_le v3.1 (by decide), by decide⟩) (fun c51 => ?_) (fun c51 => ?_)
  · refine g_iconst (pc := 75) C qk_iconst_1 dX8_goMinute_75 ?_
    refine g_goto (pc := 76) C 80 dX8_goMinute_76 (by decide) ?_
    refine g_istore (pc := 80) C rfl dX8_goMinute_80 ?_
    refine g_iload (pc := 82) C (hl := rfl) dX8_goMinute_82 ?_
    refine g_if_neN (pc := 84) C 91 dX8_goMinute_84 (by decide) (by decide) (fun _ => ?_) (fun q => absurd q (by decide))
    refine g_iload (pc := 91) C (hl := rfl) dX8_goMinute_91 ?_
    refine g_iconst (pc := 93) C qk_iconst_2 dX8_goMinute_93 ?_
    refine g_ic_neN (pc := 94) C 101 dX8_goMinute_94 (by decide) (by exact ⟨Nat.lt_of_lt_of_le v3.1 (by decide), by decide⟩) (fun c94 => ?_) (fun c94 => ?_)
    · refine g_iconst (pc := 101) C qk_iconst_1 dX8_goMinute_101 ?_
      refine g_istore (pc := 102) C rfl dX8_goMinute_102 ?_
      exact l8_g104 (b := mB x.1 g x.2.1 x.2.2.1) (q_up_s _ _ _) ((q_up_n _ _ (by decide)).trans (q_up_s _ _ _)) (wT_put _ _ _ _) hr ⟨by omega, by omega, by omega, Nat.lt_of_le_of_lt v4 (by decide)⟩ (by show mBite _ _ _ = _; unfold mBite; rw [if_neg (fun q => q.1 (Or.inl c51)), if_neg c94]) hEND C F
    · refine g_iconst (pc := 97) C qk_iconst_2 dX8_goMinute_97 ?_
      refine g_goto (pc := 98) C 102 dX8_goMinute_98 (by decide) ?_
      refine g_istore (pc := 102) C rfl dX8_goMinute_102 ?_
      exact l8_g104 (b := mB x.1 g x.2.1 x.2.2.1) (q_up_s _ _ _) ((q_up_n _ _ (by decide)).trans (q_up_s _ _ _)) (wT_put _ _ _ _) hr ⟨by omega, by omega, by omega, Nat.lt_of_le_of_lt v4 (by decide)⟩ (by show mBite _ _ _ = _; unfold mBite; rw [if_neg (fun q => q.1 (Or.inl c51)), if_pos c94]) hEND C F
  · refine g_iload (pc := 54) C (hl := rfl) dX8_goMinute_54 ?_
    refine g_iconst (pc := 56) C qk_iconst_5 dX8_goMinute_56 ?_
    refine g_ic_eqN (pc := 57) C 75 dX8_goMinute_57 (by decide) (by exact ⟨Nat.lt_of_lt_of_le v3.1 (by decide), by decide⟩) (fun c57 => ?_) (fun c57 => ?_)
    · refine g_iconst (pc := 75) C qk_iconst_1 dX8_goMinute_75 ?_
      refine g_goto (pc := 76) C 80 dX8_goMinute_76 (by decide) ?_
      refine g_istore (pc := 80) C rfl dX8_goMinute_80 ?_
      refine g_iload (pc := 82) C (hl := rfl) dX8_goMinute_82 ?_
      refine g_if_neN (pc := 84) C 91 dX8_goMinute_84 (by decide) (by decide) (fun _ => ?_) (fun q => absurd q (by decide))
      refine g_iload (pc := 91) C (hl := rfl) dX8_goMinute_91 ?_
      refine g_iconst (pc := 93) C qk_iconst_2 dX8_goMinute_93 ?_
      refine g_ic_neN (pc := 94) C 101 dX8_goMinute_94 (by decide) (by exact ⟨Nat.lt_of_lt_of_le v3.1 (by decide), by decide⟩) (fun c94 => ?_) (fun c94 => ?_)
      · refine g_iconst (pc := 101) C qk_iconst_1 dX8_goMinute_101 ?_
        refine g_istore (pc := 102) C rfl dX8_goMinute_102 ?_
        exact l8_g104 (b := mB x.1 g x.2.1 x.2.2.1) (q_up_s _ _ _) ((q_up_n _ _ (by decide)).trans (q_up_s _ _ _)) (wT_put _ _ _ _) hr ⟨by omega, by omega, by omega, Nat.lt_of_le_of_lt v4 (by decide)⟩ (by show mBite _ _ _ = _; unfold mBite; rw [if_neg (fun q => q.1 (Or.inr c57)), if_neg c94]) hEND C F
      · refine g_iconst (pc := 97) C qk_iconst_2 dX8_goMinute_97 ?_
        refine g_goto (pc := 98) C 102 dX8_goMinute_98 (by decide) ?_
        refine g_istore (pc := 102) C rfl dX8_goMinute_102 ?_
        exact l8_g104 (b := mB x.1 g x.2.1 x.2.2.1) (q_up_s _ _ _) ((q_up_n _ _ (by decide)).trans (q_up_s _ _ _)) (wT_put _ _ _ _) hr ⟨by omega, by omega, by omega, Nat.lt_of_le_of_lt v4 (by decide)⟩ (by show mBite _ _ _ = _; unfold mBite; rw [if_neg (fun q => q.1 (Or.inr c57)), if_pos c94]) hEND C F
    · refine g_aload_n (pc := 60) C (hl := rfl) dX8_goMinute_60 ?_
      refine g_get (pc := 61) C fl8_7 dX8_goMinute_61 (q_up_s _ _ _) rfl ?_
      refine g_iload_n (pc := 64) C (hl := rfl) dX8_goMinute_64 ?_
      refine g_bipush (pc := 65) C qk_bipush_9 dX8_goMinute_65 ?_
      refine g_iaddN (pc := 67) C dX8_goMinute_67 ?_
      refine g_iload_n (pc := 68) C (hl := rfl) dX8_goMinute_68 ?_
      refine g_iaddN (pc := 69) C dX8_goMinute_69 ?_
      refine g_ialdV (pc := 70) C dX8_goMinute_70 ((q_up_n _ _ (by decide)).trans (q_up_s _ _ _)) (by omega) (show _ = x.1 (6 + mOn x.1 g x.2.2.1) from wT_wa (wT_put _ _ _ _) (by omega)) ?_
      refine g_iload_n (pc := 71) C (hl := rfl) dX8_goMinute_71 ?_
      refine g_ic_neN (pc := 72) C 79 dX8_goMinute_72 (by decide) (by exact ⟨Nat.lt_of_lt_of_le v3.2.1 (by decide), Nat.lt_of_lt_of_le he (by omega)⟩) (fun c72 => ?_) (fun c72 => ?_)
      · refine g_iconst (pc := 79) C qk_iconst_0 dX8_goMinute_79 ?_
        refine g_istore (pc := 80) C rfl dX8_goMinute_80 ?_
        refine g_iload (pc := 82) C (hl := rfl) dX8_goMinute_82 ?_
        refine g_if_neN (pc := 84) C 91 dX8_goMinute_84 (by decide) (by decide) (fun q => absurd q (by decide)) (fun _ => ?_)
        refine g_iconst (pc := 87) C qk_iconst_0 dX8_goMinute_87 ?_
        refine g_goto (pc := 88) C 102 dX8_goMinute_88 (by decide) ?_
        refine g_istore (pc := 102) C rfl dX8_goMinute_102 ?_
        exact l8_g104 (b := mB x.1 g x.2.1 x.2.2.1) (q_up_s _ _ _) ((q_up_n _ _ (by decide)).trans (q_up_s _ _ _)) (wT_put _ _ _ _) hr ⟨by omega, by omega, by omega, Nat.lt_of_le_of_lt v4 (by decide)⟩ (by show mBite _ _ _ = _; unfold mBite; rw [if_pos ⟨fun q => q.elim c51 c57, c72⟩]; simp) hEND C F
      · refine g_iconst (pc := 75) C qk_iconst_1 dX8_goMinute_75 ?_
        refine g_goto (pc := 76) C 80 dX8_goMinute_76 (by decide) ?_
        refine g_istore (pc := 80) C rfl dX8_goMinute_80 ?_
        refine g_iload (pc := 82) C (hl := rfl) dX8_goMinute_82 ?_
        refine g_if_neN (pc := 84) C 91 dX8_goMinute_84 (by decide) (by decide) (fun _ => ?_) (fun q => absurd q (by decide))
        refine g_iload (pc := 91) C (hl := rfl) dX8_goMinute_91 ?_
        refine g_iconst (pc := 93) C qk_iconst_2 dX8_goMinute_93 ?_
        refine g_ic_neN (pc := 94) C 101 dX8_goMinute_94 (by decide) (by exact ⟨Nat.lt_of_lt_of_le v3.1 (by decide), by decide⟩) (fun c94 => ?_) (fun c94 => ?_)
        · refine g_iconst (pc := 101) C qk_iconst_1 dX8_goMinute_101 ?_
          refine g_istore (pc := 102) C rfl dX8_goMinute_102 ?_
          exact l8_g104 (b := mB x.1 g x.2.1 x.2.2.1) (q_up_s _ _ _) ((q_up_n _ _ (by decide)).trans (q_up_s _ _ _)) (wT_put _ _ _ _) hr ⟨by omega, by omega, by omega, Nat.lt_of_le_of_lt v4 (by decide)⟩ (by show mBite _ _ _ = _; unfold mBite; rw [if_neg (fun q => q.2 c72), if_neg c94]) hEND C F
        · refine g_iconst (pc := 97) C qk_iconst_2 dX8_goMinute_97 ?_
          refine g_goto (pc := 98) C 102 dX8_goMinute_98 (by decide) ?_
          refine g_istore (pc := 102) C rfl dX8_goMinute_102 ?_
          exact l8_g104 (b := mB x.1 g x.2.1 x.2.2.1) (q_up_s _ _ _) ((q_up_n _ _ (by decide)).trans (q_up_s _ _ _)) (wT_put _ _ _ _) hr ⟨by omega, by omega, by omega, Nat.lt_of_le_of_lt v4 (by decide)⟩ (by show mBite _ _ _ = _; unfold mBite; rw [if_neg (fun q => q.2 c72), if_pos c94]) hEND C F
def wPK (W : Nat → Nat) (r g : Nat) (x : mX) (k : Nat) : Nat → Nat := fun q => if r ≤ q ∧ q < r + k then wRo g x (q - r) else W q
theorem wPK_0 {W : Nat → Nat} {r g : Nat} {x : mX} : wPK W r g x 0 = W := by
  funext q; unfold wPK; rw [if_neg (by omega)]
theorem wPK_e {W : Nat → Nat} {r g : Nat} {x : mX} : wPK W r g x 39 = wPut W r g x := rfl
theorem wPK_s {W : Nat → Nat} {r g k : Nat} {x : mX} : va_up (wPK W r g x k) (r + k) (wRo g x k) = wPK W r g x (k + 1) := by
  funext q
  unfold va_up wPK
  by_cases h : q = r + k
  · rw [if_pos h, if_pos (by omega), show q - r = k by omega]
  · rw [if_neg h]
    by_cases h2 : r ≤ q ∧ q < r + k
    · rw [if_pos h2, if_pos (by omega)]
    · rw [if_neg h2, if_neg (by omega)]
theorem wPK_r {W : Nat → Nat} {r s g k : Nat} {x : mX} (T : wT W s g x) (hd : s + 39 ≤ r ∨ r + 39 ≤ s) (hk : k < 39) : wPK W r g x k (s + k) = wRo g x k := by
  unfold wPK
  rw [if_neg (by omega)]
  exact T k hk
set_option maxHeartbeats 2000000 in
set_option maxRecDepth 20000 in
theorem l8_cr {Γ : q_X} {ad : Nat → Nat} {n : Nat} {un ta fl st sa ne so di pu at_ er en pa tr r s g : Nat} {W : Nat → Nat} {x : mX} {hF : q_H} (T : wT W s g x) (hr : r + 39 ≤ 1131 ∧ s + 39 ≤ 1131) (hd : s + 39 ≤ r ∨ r + 39 ≤ s) (C : q_C Γ ad 0 0 0 RX8 yX8_copyRow cX8_copyRow 4 none) (F : q_N Γ ad n none hF) : ∀ (m i : Nat) (H : q_H), i + m = 40 → i ≤ 39 → H 87 = MO un ta fl st sa ne so di pu at_ er en pa tr → H 88 = WA (wPK W r g x i) → hF = q_up H 88 (WA (wPut W r g x)) → q_G Γ ad 4 2 [some (.ref 87), some (.int (nI s)), some (.int (nI r)), some (.int (nI i))] [] n H 0 0 := by
  intro m
  induction m with
  | zero => intro i H hm hi; omega
  | succ m ih =>
    intro i H hm hi h0 hW hH
    refine g_iload_n (pc := 2) C (hl := rfl) dX8_copyRow_2 ?_
    refine g_bipush (pc := 3) C qk_bipush_39 dX8_copyRow_3 ?_
    refine g_ic_geN (pc := 5) C 30 dX8_copyRow_5 (by decide) (by omega) (fun c5 => ?_) (fun c5 => ?_)
    · exact g_vret (pc := 30) C F dX8_copyRow_30 rfl rfl (by rw [hH, ← wPK_e, ← show i = 39 by omega]; exact (q_upI hW).symm)
    · refine g_aload_n (pc := 8) C (hl := rfl) dX8_copyRow_8 ?_
      refine g_get (pc := 9) C fl8_7 dX8_copyRow_9 h0 rfl ?_
      refine g_iload_n (pc := 12) C (hl := rfl) dX8_copyRow_12 ?_
      refine g_iload_n (pc := 13) C (hl := rfl) dX8_copyRow_13 ?_
      refine g_iaddN (pc := 14) C dX8_copyRow_14 ?_
      refine g_aload_n (pc := 15) C (hl := rfl) dX8_copyRow_15 ?_
      refine g_get (pc := 16) C fl8_7 dX8_copyRow_16 h0 rfl ?_
      refine g_iload_n (pc := 19) C (hl := rfl) dX8_copyRow_19 ?_
      refine g_iload_n (pc := 20) C (hl := rfl) dX8_copyRow_20 ?_
      refine g_iaddN (pc := 21) C dX8_copyRow_21 ?_
      refine g_ialdV (pc := 22) C dX8_copyRow_22 hW (by omega) (wPK_r T hd (by omega)) ?_
      refine g_iastV (pc := 23) C dX8_copyRow_23 hW (by omega) wPK_s ?_
      refine g_iincN (pc := 24) C (hl := rfl) (q_inc1 _) rfl dX8_copyRow_24 ?_
      refine g_goto (pc := 27) C 2 dX8_copyRow_27 (by decide) ?_
      exact ih (i + 1) _ (by omega) (by omega) ((q_up_n _ _ (by decide)).trans h0) (q_up_s _ _ _) (by rw [hH, q_up_u])
set_option maxHeartbeats 2000000 in
set_option maxRecDepth 20000 in
theorem s8_copyRow {n : Nat} {h : q_H} {un ta fl st sa ne so di pu at_ er en pa tr r s g : Nat} {W : Nat → Nat} {x : mX} (h0 : h 87 = MO un ta fl st sa ne so di pu at_ er en pa tr) (hW : h 88 = WA W) (T : wT W s g x) (hr : r + 39 ≤ 1131 ∧ s + 39 ≤ 1131) (hd : s + 39 ≤ r ∨ r + 39 ≤ s) : SP 0 yX8_copyRow cX8_copyRow 4 none [.ref 87, .int (nI s), .int (nI r)] n h none (q_up h 88 (WA (wPut W r g x))) := by
  refine q_SPi RX8 rfl (by decide +kernel) (la := _) rfl rfl (fun Γ ad C F => ?_)
  refine g_iconst (pc := 0) C qk_iconst_0 dX8_copyRow_0 ?_
  refine g_istore_n (pc := 1) C rfl dX8_copyRow_1 ?_
  exact l8_cr T hr hd C F 40 0 _ rfl (by decide) h0 (hW.trans (by rw [wPK_0])) rfl
def wSh (W : Nat → Nat) (k : Nat) : Nat → Nat := fun q => if 117 ≤ q ∧ q < 117 + k then W (q + 39) else W q
theorem wSh_0 {W : Nat → Nat} : wSh W 0 = W := by
  funext q; unfold wSh; rw [if_neg (by omega)]
theorem wSh_r {W : Nat → Nat} {k : Nat} : wSh W k (117 + k + 39) = W (117 + k + 39) := by
  unfold wSh; rw [if_neg (by omega)]
theorem wSh_s {W : Nat → Nat} {k : Nat} : va_up (wSh W k) (117 + k) (W (117 + k + 39)) = wSh W (k + 1) := by
  funext q
  unfold va_up wSh
  by_cases h : q = 117 + k
  · rw [if_pos h, if_pos (by omega), h]
  · rw [if_neg h]
    by_cases h2 : 117 ≤ q ∧ q < 117 + k
    · rw [if_pos h2, if_pos (by omega)]
    · rw [if_neg h2, if_neg (by omega)]
theorem wSh_T {W : Nat → Nat} {k r g : Nat} {x : mX} (h : r + 39 ≤ 117 ∨ 117 + k ≤ r) (T : wT W r g x) : wT (wSh W k) r g x := fun j hj => by
  unfold wSh
  rw [if_neg (by omega)]
  exact T j hj
theorem wSh_U {W : Nat → Nat} {r g : Nat} {x : mX} (h : 117 ≤ r ∧ r + 39 ≤ 1014) (T : wT W (r + 39) g x) : wT (wSh W 897) r g x := fun j hj => by
  unfold wSh
  rw [if_pos (by omega), show r + j + 39 = r + 39 + j by omega]
  exact T j hj
set_option maxHeartbeats 2000000 in
set_option maxRecDepth 20000 in
theorem s8_mindsL {n : Nat} {h : q_H} {un ta fl st sa ne so di pu at_ er en pa tr g : Nat} {W : Nat → Nat} {x : mX} (h0 : h 87 = MO un ta fl st sa ne so di pu at_ er en pa tr) (hW : h 88 = WA W) (T : wT W 0 g x) (hu : un < 24) : SP 1 yX8_minds cX8_minds 2 none [.ref 87] n h none (q_up (q_up h 88 (WA (wPut W (117 + 39 * un) g x))) 87 (MO (un + 1) ta fl st sa ne so di pu at_ er en pa tr)) := by
  refine q_SPi RX8 rfl (by decide +kernel) (la := _) rfl rfl (fun Γ ad C F => ?_)
  refine g_aload_n (pc := 0) C (hl := rfl) dX8_minds_0 ?_
  refine g_get (pc := 1) C fl8_146 dX8_minds_1 h0 rfl ?_
  refine g_bipush (pc := 4) C qk_bipush_24 dX8_minds_4 ?_
  refine g_ic_neN (pc := 6) C 55 dX8_minds_6 (by decide) (by omega) (fun _ => ?_) (fun q => absurd q (by omega))
  refine g_aload_n (pc := 55) C (hl := rfl) dX8_minds_55 ?_
  refine g_iconst (pc := 56) C qk_iconst_0 dX8_minds_56 ?_
  refine g_bipush (pc := 57) C qk_bipush_117 dX8_minds_57 ?_
  refine g_bipush (pc := 59) C qk_bipush_39 dX8_minds_59 ?_
  refine g_aload_n (pc := 61) C (hl := rfl) dX8_minds_61 ?_
  refine g_get (pc := 62) C fl8_146 dX8_minds_62 h0 rfl ?_
  refine g_imulN (pc := 65) C dX8_minds_65 ?_
  refine g_iaddN (pc := 66) C dX8_minds_66 ?_
  refine g_V2u (pc := 67) C lv8_142 dX8_minds_67 (s8_copyRow h0 hW T (by omega) (by omega)) h0 (by decide) (Nat.le_of_ble_eq_true rfl) ?_
  refine g_aload_n (pc := 70) C (hl := rfl) dX8_minds_70 ?_
  refine g_dup (pc := 71) C rfl dX8_minds_71 ?_
  refine g_get (pc := 72) C fl8_146 dX8_minds_72 ((q_up_n _ _ (by decide)).trans h0) rfl ?_
  refine g_iconst (pc := 75) C qk_iconst_1 dX8_minds_75 ?_
  refine g_iaddN (pc := 76) C dX8_minds_76 ?_
  refine g_put (pc := 77) C fp8_146 dX8_minds_77 ((q_up_n _ _ (by decide)).trans h0) (Nat.le_of_ble_eq_true rfl) ?_
  exact g_vret (pc := 80) C F dX8_minds_80 rfl rfl (by first | (simp only [q_up_u, q_up_c _ (show (87 : Nat) ≠ 88 by decide)]; done) | (simp only [q_up_u, q_up_c _ (show (87 : Nat) ≠ 88 by decide)]; rfl) | rfl)
set_option maxHeartbeats 2000000 in
set_option maxRecDepth 20000 in
theorem l8_mi {Γ : q_X} {ad : Nat → Nat} {n : Nat} {ta fl st sa ne so di pu at_ er en pa tr g : Nat} {W : Nat → Nat} {x : mX} {hF : q_H} (T : wT W 0 g x) (C : q_C Γ ad 1 0 0 RX8 yX8_minds cX8_minds 2 none) (F : q_N Γ ad n none hF) : ∀ (m i : Nat) (H : q_H), i + m = 898 → i ≤ 897 → H 87 = MO 24 ta fl st sa ne so di pu at_ er en pa tr → H 88 = WA (wSh W i) → hF = q_up (q_up H 88 (WA (wPut (wSh W 897) (117 + 39 * 23) g x))) 87 (MO 24 ta fl st sa ne so di pu at_ er en pa tr) → q_G Γ ad 2 11 [some (.ref 87), some (.int (nI i))] [] n H 0 0 := by
  intro m
  induction m with
  | zero => intro i H hm hi; omega
  | succ m ih =>
    intro i H hm hi h0 hW hH
    refine g_iload_n (pc := 11) C (hl := rfl) dX8_minds_11 ?_
    refine g_sipush (pc := 12) C qk_sipush_897 dX8_minds_12 ?_
    refine g_ic_geN (pc := 15) C 45 dX8_minds_15 (by decide) (by omega) (fun c15 => ?_) (fun c15 => ?_)
    · obtain rfl : i = 897 := by omega
      refine g_aload_n (pc := 45) C (hl := rfl) dX8_minds_45 ?_
      refine g_dup (pc := 46) C rfl dX8_minds_46 ?_
      refine g_get (pc := 47) C fl8_146 dX8_minds_47 h0 rfl ?_
      refine g_iconst (pc := 50) C qk_iconst_1 dX8_minds_50 ?_
      refine g_isubN (pc := 51) C dX8_minds_51 (by omega) ?_
      refine g_put (pc := 52) C fp8_146 dX8_minds_52 h0 (Nat.le_of_ble_eq_true rfl) ?_
      refine g_aload_n (pc := 55) C (hl := rfl) dX8_minds_55 ?_
      refine g_iconst (pc := 56) C qk_iconst_0 dX8_minds_56 ?_
      refine g_bipush (pc := 57) C qk_bipush_117 dX8_minds_57 ?_
      refine g_bipush (pc := 59) C qk_bipush_39 dX8_minds_59 ?_
      refine g_aload_n (pc := 61) C (hl := rfl) dX8_minds_61 ?_
      refine g_get (pc := 62) C fl8_146 dX8_minds_62 (q_up_s _ _ _) rfl ?_
      refine g_imulN (pc := 65) C dX8_minds_65 ?_
      refine g_iaddN (pc := 66) C dX8_minds_66 ?_
      refine g_V2u (pc := 67) C lv8_142 dX8_minds_67 (s8_copyRow (r := 117 + 39 * 23) (q_up_s _ _ _) ((q_up_n _ _ (by decide)).trans hW) (wSh_T (by omega) T) (by omega) (by omega)) (q_up_s _ _ _) (by decide) (Nat.le_of_ble_eq_true rfl) ?_
      refine g_aload_n (pc := 70) C (hl := rfl) dX8_minds_70 ?_
      refine g_dup (pc := 71) C rfl dX8_minds_71 ?_
      refine g_get (pc := 72) C fl8_146 dX8_minds_72 ((q_up_n _ _ (by decide)).trans (q_up_s _ _ _)) rfl ?_
      refine g_iconst (pc := 75) C qk_iconst_1 dX8_minds_75 ?_
      refine g_iaddN (pc := 76) C dX8_minds_76 ?_
      refine g_put (pc := 77) C fp8_146 dX8_minds_77 ((q_up_n _ _ (by decide)).trans (q_up_s _ _ _)) (Nat.le_of_ble_eq_true rfl) ?_
      exact g_vret (pc := 80) C F dX8_minds_80 rfl rfl (by rw [hH]; first | (simp only [q_up_u, q_up_c _ (show (87 : Nat) ≠ 88 by decide)]; done) | (simp only [q_up_u, q_up_c _ (show (87 : Nat) ≠ 88 by decide)]; rfl) | rfl)
    · refine g_aload_n (pc := 18) C (hl := rfl) dX8_minds_18 ?_
      refine g_get (pc := 19) C fl8_7 dX8_minds_19 h0 rfl ?_
      refine g_bipush (pc := 22) C qk_bipush_117 dX8_minds_22 ?_
      refine g_iload_n (pc := 24) C (hl := rfl) dX8_minds_24 ?_
      refine g_iaddN (pc := 25) C dX8_minds_25 ?_
      refine g_aload_n (pc := 26) C (hl := rfl) dX8_minds_26 ?_
      refine g_get (pc := 27) C fl8_7 dX8_minds_27 h0 rfl ?_
      refine g_bipush (pc := 30) C qk_bipush_117 dX8_minds_30 ?_
      refine g_iload_n (pc := 32) C (hl := rfl) dX8_minds_32 ?_
      refine g_iaddN (pc := 33) C dX8_minds_33 ?_
      refine g_bipush (pc := 34) C qk_bipush_39 dX8_minds_34 ?_
      refine g_iaddN (pc := 36) C dX8_minds_36 ?_
      refine g_ialdV (pc := 37) C dX8_minds_37 hW (by omega) wSh_r ?_
      refine g_iastV (pc := 38) C dX8_minds_38 hW (by omega) wSh_s ?_
      refine g_iincN (pc := 39) C (hl := rfl) (q_inc1 _) rfl dX8_minds_39 ?_
      refine g_goto (pc := 42) C 11 dX8_minds_42 (by decide) ?_
      exact ih (i + 1) _ (by omega) (by omega) ((q_up_n _ _ (by decide)).trans h0) (q_up_s _ _ _) (by rw [hH, q_up_u])
set_option maxHeartbeats 2000000 in
set_option maxRecDepth 20000 in
theorem s8_mindsF {n : Nat} {h : q_H} {ta fl st sa ne so di pu at_ er en pa tr g : Nat} {W : Nat → Nat} {x : mX} (h0 : h 87 = MO 24 ta fl st sa ne so di pu at_ er en pa tr) (hW : h 88 = WA W) (T : wT W 0 g x) : SP 1 yX8_minds cX8_minds 2 none [.ref 87] n h none (q_up (q_up h 88 (WA (wPut (wSh W 897) (117 + 39 * 23) g x))) 87 (MO 24 ta fl st sa ne so di pu at_ er en pa tr)) := by
  refine q_SPi RX8 rfl (by decide +kernel) (la := _) rfl rfl (fun Γ ad C F => ?_)
  refine g_aload_n (pc := 0) C (hl := rfl) dX8_minds_0 ?_
  refine g_get (pc := 1) C fl8_146 dX8_minds_1 h0 rfl ?_
  refine g_bipush (pc := 4) C qk_bipush_24 dX8_minds_4 ?_
  refine g_ic_neN (pc := 6) C 55 dX8_minds_6 (by decide) (by omega) (fun q => absurd q (fun z => z rfl)) (fun _ => ?_)
  refine g_iconst (pc := 9) C qk_iconst_0 dX8_minds_9 ?_
  refine g_istore_n (pc := 10) C rfl dX8_minds_10 ?_
  exact l8_mi T C F 898 0 _ rfl (by decide) h0 (hW.trans (by rw [wSh_0])) rfl
set_option maxHeartbeats 2000000 in
set_option maxRecDepth 20000 in
theorem l8_gms {Γ : q_X} {ad : Nat → Nat} {n un ta fl st sa ne so di tr g N : Nat} {hF : q_H} (hN : N < 1000) (C : q_C Γ ad 3 0 0 RX8 yX8_goMinutes cX8_goMinutes 3 none) (F : q_N Γ ad n none hF) : ∀ (k m i S : Nat) (x : mX) (W : Nat → Nat) (H : q_H), m < k → i + m = N → H 87 = MX un ta fl st sa ne so di S tr x → H 88 = WA W → wT W 1053 g x → mW g x → x.2.2.1 + m < 1000000 → S + 6 * m < 1000000 → hF = q_up (q_up H 88 (WA (wPut W 1053 g (mPass g 1000000 m S x).2))) 87 (MX un ta fl st sa ne so di (mPass g 1000000 m S x).1 tr (mPass g 1000000 m S x).2) → q_G Γ ad 3 7 [some (.ref 87), some (.int (nI N)), some (.int (nI i))] [] n H 0 0 := by
  intro k
  induction k with
  | zero => intro m i S x W H hm; omega
  | succ k ih =>
    intro m i S x W H hk hN2 h0 hW T hv hm hS hH
    refine g_iload_n (pc := 7) C (hl := rfl) dX8_goMinutes_7 ?_
    refine g_iload_n (pc := 8) C (hl := rfl) dX8_goMinutes_8 ?_
    refine g_ic_geN (pc := 9) C 38 dX8_goMinutes_9 (by decide) (by omega) (fun c9 => ?_) (fun c9 => ?_)
    · obtain rfl : m = 0 := by omega
      exact g_vret (pc := 38) C F dX8_goMinutes_38 rfl rfl (by rw [hH]; show H = q_up (q_up H 88 (WA (wPut W 1053 g x))) 87 (MX un ta fl st sa ne so di S tr x); rw [wPut_self T, q_upI hW, q_upI h0])
    · obtain ⟨m2, rfl⟩ : ∃ m2, m = m2 + 1 := ⟨m - 1, by omega⟩
      refine g_aload_n (pc := 12) C (hl := rfl) dX8_goMinutes_12 ?_
      refine g_sipush (pc := 13) C qk_sipush_1053 dX8_goMinutes_13 ?_
      refine g_V1u (pc := 16) C lv8_186 dX8_goMinutes_16 (s8_goMinute (r := 1053) h0 hW T (by decide) hv (by omega)) h0 (by decide) (Nat.le_of_ble_eq_true rfl) ?_
      refine g_aload_n (pc := 19) C (hl := rfl) dX8_goMinutes_19 ?_
      refine g_dup (pc := 20) C rfl dX8_goMinutes_20 ?_
      refine g_get (pc := 21) C fl8_205 dX8_goMinutes_21 (q_up_s _ _ _) rfl ?_
      refine g_aload_n (pc := 24) C (hl := rfl) dX8_goMinutes_24 ?_
      refine g_get (pc := 25) C fl8_149 dX8_goMinutes_25 (q_up_s _ _ _) rfl ?_
      refine g_iaddN (pc := 28) C dX8_goMinutes_28 ?_
      refine g_put (pc := 29) C fp8_205 dX8_goMinutes_29 (q_up_s _ _ _) (Nat.le_of_ble_eq_true rfl) ?_
      refine g_iincN (pc := 32) C (hl := rfl) (q_inc1 _) rfl dX8_goMinutes_32 ?_
      refine g_goto (pc := 35) C 7 dX8_goMinutes_35 (by decide) ?_
      have hp := mNext_p hv
      refine ih m2 (i + 1) (S + (mNext g x).2.2.2.2.1) (mNext g x) _ _ (by omega) (by omega) ((q_up_s _ _ _)) (((q_up_n _ _ (by decide)).trans ((q_up_n _ _ (by decide)).trans (q_up_s _ _ _)))) (wT_put _ _ _ _) (mNext_V hv) (by show x.2.2.1 + 1 + m2 < 1000000; omega) (by omega) ?_
      rw [hH]
      show q_up (q_up H 88 (WA (wPut W 1053 g (if S < 1000000 then mPass g 1000000 m2 _ _ else _).2))) 87 (MX un ta fl st sa ne so di (if S < 1000000 then mPass g 1000000 m2 _ _ else _).1 tr (if S < 1000000 then mPass g 1000000 m2 _ _ else _).2) = _
      rw [if_pos (by omega)]
      simp only [q_up_u, q_up_c _ (show (87 : Nat) ≠ 88 by decide), wPut_put]
set_option maxHeartbeats 2000000 in
set_option maxRecDepth 20000 in
theorem s8_goMinutes {n : Nat} {h : q_H} {un ta fl st sa ne so di pa tr g : Nat} {W : Nat → Nat} {x : mX} (N : Nat) (h0 : h 87 = MX un ta fl st sa ne so di pa tr x) (hW : h 88 = WA W) (T : wT W 1053 g x) (hv : mW g x) (hN : N < 1000) (hm : x.2.2.1 + N < 1000000) : SP 3 yX8_goMinutes cX8_goMinutes 3 none [.ref 87, .int (nI N)] n h none (q_up (q_up h 88 (WA (wPut W 1053 g (mPass g 1000000 N 0 x).2))) 87 (MX un ta fl st sa ne so di (mPass g 1000000 N 0 x).1 tr (mPass g 1000000 N 0 x).2)) := by
  refine q_SPi RX8 rfl (by decide +kernel) (la := _) rfl rfl (fun Γ ad C F => ?_)
  refine g_aload_n (pc := 0) C (hl := rfl) dX8_goMinutes_0 ?_
  refine g_iconst (pc := 1) C qk_iconst_0 dX8_goMinutes_1 ?_
  refine g_put (pc := 2) C fp8_205 dX8_goMinutes_2 h0 (Nat.le_of_ble_eq_true rfl) ?_
  refine g_iconst (pc := 5) C qk_iconst_0 dX8_goMinutes_5 ?_
  refine g_istore_n (pc := 6) C rfl dX8_goMinutes_6 ?_
  exact l8_gms hN C F (N + 1) N 0 0 x W _ (by omega) (by omega) (q_up_s _ _ _) ((q_up_n _ _ (by decide)).trans hW) T hv hm (by omega) (by first | (simp only [q_up_u, q_up_c _ (show (87 : Nat) ≠ 88 by decide)]; done) | (simp only [q_up_u, q_up_c _ (show (87 : Nat) ≠ 88 by decide)]; rfl) | rfl)
