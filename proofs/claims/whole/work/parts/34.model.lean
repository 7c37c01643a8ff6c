abbrev MO (un ta fl st sa ne so di pu at_ er en pa tr : Nat) : q_E := .inr (.inr (8, [.ref 88, .int (nI un), .ref 89, .int (nI ta), .int (nI fl), .int (nI st), .ref 90, .ref 91, .ref 92, .ref 93, .int (nI sa), .int (nI ne), .int (nI so), .int (nI di), .int (nI pu), .int (nI at_), .int (nI er), .int (nI en), .int (nI pa), .ref 94, .ref 95, .int (nI tr)]))
abbrev WA (W : Nat → Nat) : q_E := .inl (0, 1131, qN W)
theorem lg_lt {x z : Int64} : lg_cmp x z < 0 ↔ x < z := by
  unfold lg_cmp
  by_cases h : z < x
  · rw [if_pos h]
    exact ⟨fun q => absurd q (by decide), fun q => absurd (Int64.lt_trans h q) Int64.lt_irrefl⟩
  · rw [if_neg h]
    by_cases h2 : x = z
    · rw [if_pos h2]
      exact ⟨fun q => absurd q (by decide), fun q => absurd (h2 ▸ q) Int64.lt_irrefl⟩
    · rw [if_neg h2]
      exact ⟨fun _ => (Int64.lt_or_lt_of_ne h2).resolve_right h, fun _ => by decide⟩
theorem lg_gt {x z : Int64} : 0 < lg_cmp x z ↔ z < x := by
  unfold lg_cmp
  by_cases h : z < x
  · rw [if_pos h]
    exact ⟨fun _ => h, fun _ => by decide⟩
  · rw [if_neg h]
    by_cases h2 : x = z
    · rw [if_pos h2]
      exact ⟨fun q => absurd q (by decide), fun q => absurd q h⟩
    · rw [if_neg h2]
      exact ⟨fun q => absurd q (by decide), fun q => absurd q h⟩
theorem i64_lt {a b : Int32} : a.toInt64 < b.toInt64 ↔ a < b := by
  rw [Int64.lt_iff_toInt_lt, Int32.lt_iff_toInt_lt, Int32.toInt_toInt64, Int32.toInt_toInt64]
set_option maxHeartbeats 2000000 in
set_option maxRecDepth 20000 in
theorem s8_in {n : Nat} {h : q_H} (a lo hi : Int64) : SP 0 yX8_in cX8_in 6 (some .boolean) [.long a, .long lo, .long hi] n h (some (.int (if a < lo ∨ hi < a then nI 0 else nI 1))) h := by
  refine q_SPi RX8 rfl (by decide +kernel) (la := _) rfl rfl (fun Γ ad C F => ?_)
  refine g_lload_n (pc := 0) C (hl := rfl) dX8_in_0 ?_
  refine g_lload_n (pc := 1) C (hl := rfl) dX8_in_1 ?_
  refine g_lcmp (pc := 2) C dX8_in_2 ?_
  refine g_if_lt (pc := 3) C 17 dX8_in_3 (by decide) (fun c3 => ?_) (fun c3 => ?_)
  · refine g_iconst (pc := 17) C qk_iconst_0 dX8_in_17 ?_
    exact g_iret (pc := 18) C F dX8_in_18 rfl rfl (by simp only [lg_lt, lg_gt] at *; simp [*]) (rfl)
  · refine g_lload_n (pc := 6) C (hl := rfl) dX8_in_6 ?_
    refine g_lload (pc := 7) C (hl := rfl) dX8_in_7 ?_
    refine g_lcmp (pc := 9) C dX8_in_9 ?_
    refine g_if_gt (pc := 10) C 17 dX8_in_10 (by decide) (fun c10 => ?_) (fun c10 => ?_)
    · refine g_iconst (pc := 17) C qk_iconst_0 dX8_in_17 ?_
      exact g_iret (pc := 18) C F dX8_in_18 rfl rfl (by simp only [lg_lt, lg_gt] at *; simp [*]) (rfl)
    · refine g_iconst (pc := 13) C qk_iconst_1 dX8_in_13 ?_
      refine g_goto (pc := 14) C 18 dX8_in_14 (by decide) ?_
      exact g_iret (pc := 18) C F dX8_in_18 rfl rfl (by simp only [lg_lt, lg_gt] at *; simp [*]) (rfl)
