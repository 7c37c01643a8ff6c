theorem zw1_43 : Cond.arrayClass .int ∈ q_Z := q_zt1 (List.mem_of_getElem? (i := 43) rfl) rfl
theorem zw4_153 : Cond.arrayClass .boolean ∈ q_Z := q_zt4 (List.mem_of_getElem? (i := 153) rfl) rfl
theorem zw1_142 : Cond.classLink RX0 9 RX4 ∈ q_Z := q_zt1 (List.mem_of_getElem? (i := 142) rfl) rfl
theorem zw1_46 : Cond.instantiable RX4 8 ∈ q_Z := q_zt1 (List.mem_of_getElem? (i := 46) rfl) rfl
theorem zw1_48 : Cond.instanceMethod yX4_init ∈ q_Z := q_zt1 (List.mem_of_getElem? (i := 48) rfl) rfl
theorem zw1_161 : Cond.classLink RX2 9 RX4 ∈ q_Z := q_zt1 (List.mem_of_getElem? (i := 161) rfl) rfl
theorem zw1_91 : Cond.classLink RX5 9 RX6 ∈ q_Z := q_zt1 (List.mem_of_getElem? (i := 91) rfl) rfl
theorem zw1_92 : Cond.instantiable RX6 2 ∈ q_Z := q_zt1 (List.mem_of_getElem? (i := 92) rfl) rfl
theorem zw1_94 : Cond.instanceMethod yX6_init ∈ q_Z := q_zt1 (List.mem_of_getElem? (i := 94) rfl) rfl
theorem zw1_105 : Cond.classLink RX5 18 RX4 ∈ q_Z := q_zt1 (List.mem_of_getElem? (i := 105) rfl) rfl
theorem zw1_24 : Cond.classLink RX7 9 RX3 ∈ q_Z := q_zt1 (List.mem_of_getElem? (i := 24) rfl) rfl
theorem zw1_26 : Cond.instantiable RX3 3 ∈ q_Z := q_zt1 (List.mem_of_getElem? (i := 26) rfl) rfl
theorem zw1_28 : Cond.instanceMethod yX3_init ∈ q_Z := q_zt1 (List.mem_of_getElem? (i := 28) rfl) rfl
theorem zw1_44 : Cond.classLink RX7 16 RX4 ∈ q_Z := q_zt1 (List.mem_of_getElem? (i := 44) rfl) rfl
theorem zw1_85 : Cond.classLink RX7 23 RX5 ∈ q_Z := q_zt1 (List.mem_of_getElem? (i := 85) rfl) rfl
theorem zw1_86 : Cond.instantiable RX5 8 ∈ q_Z := q_zt1 (List.mem_of_getElem? (i := 86) rfl) rfl
theorem zw1_88 : Cond.instanceMethod yX5_init ∈ q_Z := q_zt1 (List.mem_of_getElem? (i := 88) rfl) rfl
theorem zw1_136 : Cond.classLink RX7 34 RX0 ∈ q_Z := q_zt1 (List.mem_of_getElem? (i := 136) rfl) rfl
theorem zw1_137 : Cond.instantiable RX0 3 ∈ q_Z := q_zt1 (List.mem_of_getElem? (i := 137) rfl) rfl
theorem zw1_138 : Cond.methodLink RX7 36 yX0_init ∈ q_Z := q_zt1 (List.mem_of_getElem? (i := 138) rfl) rfl
theorem zw1_139 : Cond.instanceMethod yX0_init ∈ q_Z := q_zt1 (List.mem_of_getElem? (i := 139) rfl) rfl
theorem zw1_155 : Cond.classLink RX7 41 RX2 ∈ q_Z := q_zt1 (List.mem_of_getElem? (i := 155) rfl) rfl
theorem zw1_156 : Cond.instantiable RX2 3 ∈ q_Z := q_zt1 (List.mem_of_getElem? (i := 156) rfl) rfl
theorem zw1_158 : Cond.instanceMethod yX2_init ∈ q_Z := q_zt1 (List.mem_of_getElem? (i := 158) rfl) rfl
theorem zw1_174 : Cond.classLink RX7 48 RX1 ∈ q_Z := q_zt1 (List.mem_of_getElem? (i := 174) rfl) rfl
theorem zw1_175 : Cond.instantiable RX1 6 ∈ q_Z := q_zt1 (List.mem_of_getElem? (i := 175) rfl) rfl
theorem zw1_177 : Cond.instanceMethod yX1_init ∈ q_Z := q_zt1 (List.mem_of_getElem? (i := 177) rfl) rfl
theorem zw1_16 : Cond.classLink RL 7 RX7 ∈ q_Z := q_zt1 (List.mem_of_getElem? (i := 16) rfl) rfl
theorem zw1_17 : Cond.instantiable RX7 9 ∈ q_Z := q_zt1 (List.mem_of_getElem? (i := 17) rfl) rfl
theorem zw4_80 : Cond.classLink RL 10 RX8 ∈ q_Z := q_zt4 (List.mem_of_getElem? (i := 80) rfl) rfl
theorem zw4_81 : Cond.instantiable RX8 22 ∈ q_Z := q_zt4 (List.mem_of_getElem? (i := 81) rfl) rfl
theorem zw1_18 : Cond.methodLink RL 9 yX7_init ∈ q_Z := q_zt1 (List.mem_of_getElem? (i := 18) rfl) rfl
theorem zw1_19 : Cond.instanceMethod yX7_init ∈ q_Z := q_zt1 (List.mem_of_getElem? (i := 19) rfl) rfl
theorem zw1_20 : Cond.code yX7_init cX7_init 2 none ∈ q_Z := q_zt1 (List.mem_of_getElem? (i := 20) rfl) rfl
theorem zw4_82 : Cond.methodLink RL 12 yX8_init ∈ q_Z := q_zt4 (List.mem_of_getElem? (i := 82) rfl) rfl
theorem zw4_83 : Cond.instanceMethod yX8_init ∈ q_Z := q_zt4 (List.mem_of_getElem? (i := 83) rfl) rfl
theorem zw4_84 : Cond.code yX8_init cX8_init 2 none ∈ q_Z := q_zt4 (List.mem_of_getElem? (i := 84) rfl) rfl
theorem nc0_9 : q_NC RX0 9 4 8 [.null, .int 0, .int 0, .int 0, .int 0, .int 0, .int 0, .int 0] := ⟨RX4, TX4, tyX4, rfl, us4, tyX4_ok, zw1_142, zw1_46, zw1_3, (fun j hj => by
    match j, hj with
    | 0, _ => rfl
    | 1, _ => rfl
    | 2, _ => rfl
    | 3, _ => rfl
    | 4, _ => rfl
    | 5, _ => rfl
    | 6, _ => rfl
    | 7, _ => rfl
    | k + 8, hk => omega), by intro v hv k hk; subst hk; simp at hv⟩
theorem li0_17 : q_LI RX0 17 yX4_init cX4_init 1 := ⟨⟨Or.inr ⟨RX7, List.mem_of_getElem? (i := 5) rfl⟩, zw1_48, zw1_3, zw1_49⟩, ⟨by decide, by decide, by decide +kernel⟩, by decide, rfl⟩
theorem nc2_9 : q_NC RX2 9 4 8 [.null, .int 0, .int 0, .int 0, .int 0, .int 0, .int 0, .int 0] := ⟨RX4, TX4, tyX4, rfl, us4, tyX4_ok, zw1_161, zw1_46, zw1_3, (fun j hj => by
    match j, hj with
    | 0, _ => rfl
    | 1, _ => rfl
    | 2, _ => rfl
    | 3, _ => rfl
    | 4, _ => rfl
    | 5, _ => rfl
    | 6, _ => rfl
    | 7, _ => rfl
    | k + 8, hk => omega), by intro v hv k hk; subst hk; simp at hv⟩
theorem li2_11 : q_LI RX2 11 yX4_init cX4_init 1 := ⟨⟨Or.inr ⟨RX7, List.mem_of_getElem? (i := 7) rfl⟩, zw1_48, zw1_3, zw1_49⟩, ⟨by decide, by decide, by decide +kernel⟩, by decide, rfl⟩
theorem nc5_9 : q_NC RX5 9 6 2 [.null, .int 0] := ⟨RX6, TX6, tyX6, rfl, us6, tyX6_ok, zw1_91, zw1_92, zw1_5, (fun j hj => by
    match j, hj with
    | 0, _ => rfl
    | 1, _ => rfl
    | k + 2, hk => omega), by intro v hv k hk; subst hk; simp at hv⟩
theorem li5_11 : q_LI RX5 11 yX6_init cX6_init 1 := ⟨⟨Or.inr ⟨RX7, List.mem_of_getElem? (i := 3) rfl⟩, zw1_94, zw1_5, zw1_95⟩, ⟨by decide, by decide, by decide +kernel⟩, by decide, rfl⟩
theorem nc5_18 : q_NC RX5 18 4 8 [.null, .int 0, .int 0, .int 0, .int 0, .int 0, .int 0, .int 0] := ⟨RX4, TX4, tyX4, rfl, us4, tyX4_ok, zw1_105, zw1_46, zw1_3, (fun j hj => by
    match j, hj with
    | 0, _ => rfl
    | 1, _ => rfl
    | 2, _ => rfl
    | 3, _ => rfl
    | 4, _ => rfl
    | 5, _ => rfl
    | 6, _ => rfl
    | 7, _ => rfl
    | k + 8, hk => omega), by intro v hv k hk; subst hk; simp at hv⟩
theorem li5_20 : q_LI RX5 20 yX4_init cX4_init 1 := ⟨⟨Or.inr ⟨RX7, List.mem_of_getElem? (i := 4) rfl⟩, zw1_48, zw1_3, zw1_49⟩, ⟨by decide, by decide, by decide +kernel⟩, by decide, rfl⟩
theorem nc7_9 : q_NC RX7 9 3 3 [.null, .int 0, .int 0] := ⟨RX3, TX3, tyX3, rfl, us3, tyX3_ok, zw1_24, zw1_26, zw1_2, (fun j hj => by
    match j, hj with
    | 0, _ => rfl
    | 1, _ => rfl
    | 2, _ => rfl
    | k + 3, hk => omega), by intro v hv k hk; subst hk; simp at hv⟩
theorem li7_15 : q_LI RX7 15 yX3_init cX3_init 1 := ⟨⟨Or.inr ⟨RX7, List.mem_of_getElem? (i := 0) rfl⟩, zw1_28, zw1_2, zw1_29⟩, ⟨by decide, by decide, by decide +kernel⟩, by decide, rfl⟩
theorem nc7_16 : q_NC RX7 16 4 8 [.null, .int 0, .int 0, .int 0, .int 0, .int 0, .int 0, .int 0] := ⟨RX4, TX4, tyX4, rfl, us4, tyX4_ok, zw1_44, zw1_46, zw1_3, (fun j hj => by
    match j, hj with
    | 0, _ => rfl
    | 1, _ => rfl
    | 2, _ => rfl
    | 3, _ => rfl
    | 4, _ => rfl
    | 5, _ => rfl
    | 6, _ => rfl
    | 7, _ => rfl
    | k + 8, hk => omega), by intro v hv k hk; subst hk; simp at hv⟩
theorem li7_22 : q_LI RX7 22 yX4_init cX4_init 1 := ⟨⟨Or.inr ⟨RX7, List.mem_of_getElem? (i := 1) rfl⟩, zw1_48, zw1_3, zw1_49⟩, ⟨by decide, by decide, by decide +kernel⟩, by decide, rfl⟩
theorem nc7_23 : q_NC RX7 23 5 8 [.null, .null, .int 0, .int 0, .int 0, .int 0, .int 0, .int 0] := ⟨RX5, TX5, tyX5, rfl, us5, tyX5_ok, zw1_85, zw1_86, zw1_4, (fun j hj => by
    match j, hj with
    | 0, _ => rfl
    | 1, _ => rfl
    | 2, _ => rfl
    | 3, _ => rfl
    | 4, _ => rfl
    | 5, _ => rfl
    | 6, _ => rfl
    | 7, _ => rfl
    | k + 8, hk => omega), by intro v hv k hk; subst hk; simp at hv⟩
theorem li7_25 : q_LI RX7 25 yX5_init cX5_init 1 := ⟨⟨Or.inr ⟨RX7, List.mem_of_getElem? (i := 2) rfl⟩, zw1_88, zw1_4, zw1_89⟩, ⟨by decide, by decide, by decide +kernel⟩, by decide, rfl⟩
theorem nc7_34 : q_NC RX7 34 0 3 [.null, .int 0, .int 0] := ⟨RX0, TX0, tyX0, rfl, us0, tyX0_ok, zw1_136, zw1_137, zw1_6, (fun j hj => by
    match j, hj with
    | 0, _ => rfl
    | 1, _ => rfl
    | 2, _ => rfl
    | k + 3, hk => omega), by intro v hv k hk; subst hk; simp at hv⟩
theorem li7_36 : q_LI RX7 36 yX0_init cX0_init 2 := ⟨⟨Or.inl zw1_138, zw1_139, zw1_6, zw1_140⟩, ⟨by decide, by decide, by decide +kernel⟩, by decide, rfl⟩
theorem nc7_41 : q_NC RX7 41 2 3 [.null, .null, .null] := ⟨RX2, TX2, tyX2, rfl, us2, tyX2_ok, zw1_155, zw1_156, zw1_7, (fun j hj => by
    match j, hj with
    | 0, _ => rfl
    | 1, _ => rfl
    | 2, _ => rfl
    | k + 3, hk => omega), by intro v hv k hk; subst hk; simp at hv⟩
theorem li7_43 : q_LI RX7 43 yX2_init cX2_init 1 := ⟨⟨Or.inr ⟨RX7, List.mem_of_getElem? (i := 6) rfl⟩, zw1_158, zw1_7, zw1_159⟩, ⟨by decide, by decide, by decide +kernel⟩, by decide, rfl⟩
theorem nc7_48 : q_NC RX7 48 1 6 [.null, .int 0, .int 0, .int 0, .int 0, .int 0] := ⟨RX1, TX1, tyX1, rfl, us1, tyX1_ok, zw1_174, zw1_175, zw1_8, (fun j hj => by
    match j, hj with
    | 0, _ => rfl
    | 1, _ => rfl
    | 2, _ => rfl
    | 3, _ => rfl
    | 4, _ => rfl
    | 5, _ => rfl
    | k + 6, hk => omega), by intro v hv k hk; subst hk; simp at hv⟩
theorem li7_50 : q_LI RX7 50 yX1_init cX1_init 1 := ⟨⟨Or.inr ⟨RX7, List.mem_of_getElem? (i := 8) rfl⟩, zw1_177, zw1_8, zw1_178⟩, ⟨by decide, by decide, by decide +kernel⟩, by decide, rfl⟩
theorem nc9_7 : q_NC RL 7 7 9 [.null, .null, .null, .null, .null, .null, .null, .int 0, .int 0] := ⟨RX7, TX7, tyX7, rfl, us7, tyX7_ok, zw1_16, zw1_17, zw1_1, (fun j hj => by
    match j, hj with
    | 0, _ => rfl
    | 1, _ => rfl
    | 2, _ => rfl
    | 3, _ => rfl
    | 4, _ => rfl
    | 5, _ => rfl
    | 6, _ => rfl
    | 7, _ => rfl
    | 8, _ => rfl
    | k + 9, hk => omega), by intro v hv k hk; subst hk; simp at hv⟩
theorem nc9_10 : q_NC RL 10 8 22 [.null, .int 0, .null, .int 0, .int 0, .int 0, .null, .null, .null, .null, .int 0, .int 0, .int 0, .int 0, .int 0, .int 0, .int 0, .int 0, .int 0, .null, .null, .int 0] := ⟨RX8, TX8, tyX8, rfl, us8, tyX8_ok, zw4_80, zw4_81, zw1_9, (fun j hj => by
    match j, hj with
    | 0, _ => rfl
    | 1, _ => rfl
    | 2, _ => rfl
    | 3, _ => rfl
    | 4, _ => rfl
    | 5, _ => rfl
    | 6, _ => rfl
    | 7, _ => rfl
    | 8, _ => rfl
    | 9, _ => rfl
    | 10, _ => rfl
    | 11, _ => rfl
    | 12, _ => rfl
    | 13, _ => rfl
    | 14, _ => rfl
    | 15, _ => rfl
    | 16, _ => rfl
    | 17, _ => rfl
    | 18, _ => rfl
    | 19, _ => rfl
    | 20, _ => rfl
    | 21, _ => rfl
    | k + 22, hk => omega), by intro v hv k hk; subst hk; simp at hv⟩
theorem li9_9 : q_LI RL 9 yX7_init cX7_init 2 := ⟨⟨Or.inl zw1_18, zw1_19, zw1_1, zw1_20⟩, ⟨by decide, by decide, by decide +kernel⟩, by decide, rfl⟩
theorem li9_12 : q_LI RL 12 yX8_init cX8_init 2 := ⟨⟨Or.inl zw4_82, zw4_83, zw1_9, zw4_84⟩, ⟨by decide, by decide, by decide +kernel⟩, by decide, rfl⟩
theorem q_okS_0 {n : Nat} : q_okS n [] := fun k hk => absurd hk List.not_mem_nil
theorem q_okS_i {n : Nat} {x : Int32} {st : List Value} (h : q_okS n st) : q_okS n (.int x :: st) := fun k hk => by
  rcases List.mem_cons.mp hk with e | e
  · cases e
  · exact h k e
theorem q_okS_r {n a : Nat} {st : List Value} (ha : a < n ∨ 200 ≤ a) (h : q_okS n st) : q_okS n (.ref a :: st) := fun k hk => by
  rcases List.mem_cons.mp hk with e | e
  · cases e; exact ha
  · exact h k e
theorem q_okV_0 {n : Nat} : q_okV n [] := fun k hk => absurd hk List.not_mem_nil
theorem q_okV_n {n : Nat} {la : List (Option Value)} (h : q_okV n la) : q_okV n (none :: la) := fun k hk => by
  rcases List.mem_cons.mp hk with e | e
  · cases e
  · exact h k e
theorem q_okV_i {n : Nat} {x : Int32} {la : List (Option Value)} (h : q_okV n la) : q_okV n (some (.int x) :: la) := fun k hk => by
  rcases List.mem_cons.mp hk with e | e
  · cases e
  · exact h k e
theorem q_okV_r {n a : Nat} {la : List (Option Value)} (ha : a < n ∨ 200 ≤ a) (h : q_okV n la) : q_okV n (some (.ref a) :: la) := fun k hk => by
  rcases List.mem_cons.mp hk with e | e
  · cases e; exact ha
  · exact h k e
theorem q_cm1o : ((Int32.ofInt (-1)) : Int32) = -1 := by decide
/-- a row of cells that were made in turn: each an object and its numbers -/
def q_blk (h : q_H) (ar t N b ci : Nat) (fo : Nat → List Value) (L i : Nat) : q_H := fun k => if k = ar then .inr (.inl (t, N, fun j => if j < i then some (b + 2 * j) else none)) else if b ≤ k ∧ k < b + 2 * i then (if (k - b) % 2 = 0 then .inr (.inr (ci, fo (k + 1))) else .inl (0, L, fun _ => 0)) else h k
theorem q_blk_0 {h : q_H} {ar t N b ci L : Nat} {fo : Nat → List Value} (hh : h ar = .inr (.inl (t, N, fun _ => none))) : h = q_blk h ar t N b ci fo L 0 := by
  funext k
  unfold q_blk
  by_cases hk : k = ar
  · rw [if_pos hk, hk, hh]
    simp
  · rw [if_neg hk, if_neg (by omega)]
theorem q_blk_a {h : q_H} {ar t N b ci L i : Nat} {fo : Nat → List Value} : q_blk h ar t N b ci fo L i ar = .inr (.inl (t, N, fun j => if j < i then some (b + 2 * j) else none)) := if_pos rfl
theorem q_blk_o {h : q_H} {ar t N b ci L i k : Nat} {fo : Nat → List Value} (h1 : k ≠ ar) (h2 : k < b ∨ b + 2 * i ≤ k) : q_blk h ar t N b ci fo L i k = h k := by
  unfold q_blk
  rw [if_neg h1, if_neg (by omega)]
theorem q_blk_e {h : q_H} {ar t N b ci L i j : Nat} {fo : Nat → List Value} (h1 : ar < b) (h2 : j < i) : q_blk h ar t N b ci fo L i (b + 2 * j) = .inr (.inr (ci, fo (b + 2 * j + 1))) := by
  unfold q_blk
  rw [if_neg (by omega), if_pos (by omega), if_pos (by omega)]
theorem q_blk_z {h : q_H} {ar t N b ci L i j : Nat} {fo : Nat → List Value} (h1 : ar < b) (h2 : j < i) : q_blk h ar t N b ci fo L i (b + 2 * j + 1) = .inl (0, L, fun _ => 0) := by
  unfold q_blk
  rw [if_neg (by omega), if_pos (by omega), if_neg (by omega)]
theorem q_blk_s {h : q_H} {ar t N b ci L i : Nat} {fo : Nat → List Value} {o0 : q_E} (h1 : ar < b) : q_up (q_up (q_up (q_up (q_blk h ar t N b ci fo L i) (b + 2 * i) o0) (b + 2 * i + 1) (.inl (0, L, fun _ => 0))) (b + 2 * i) (.inr (.inr (ci, fo (b + 2 * i + 1))))) ar (.inr (.inl (t, N, va_up (fun j => if j < i then some (b + 2 * j) else none) i (some (b + 2 * i))))) = q_blk h ar t N b ci fo L (i + 1) := by
  funext k
  by_cases hk : k = ar
  · subst hk
    rw [q_up_s, q_blk_a]
    congr 4
    funext j
    unfold va_up
    by_cases hj : j = i
    · rw [if_pos hj, if_pos (by omega), hj]
    · rw [if_neg hj]
      show (if j < i then some (b + 2 * j) else none) = _
      by_cases hj2 : j < i
      · rw [if_pos hj2, if_pos (by omega)]
      · rw [if_neg hj2, if_neg (by omega)]
  · rw [q_up_n _ _ hk]
    by_cases hk1 : k = b + 2 * i
    · subst hk1
      rw [q_up_s, q_blk_e h1 (Nat.lt_succ_self i)]
    · rw [q_up_n _ _ hk1]
      by_cases hk2 : k = b + 2 * i + 1
      · subst hk2
        rw [q_up_s, q_blk_z h1 (Nat.lt_succ_self i)]
      · rw [q_up_n _ _ hk2, q_up_n _ _ hk1]
        unfold q_blk
        rw [if_neg hk, if_neg hk]
        by_cases hk3 : b ≤ k ∧ k < b + 2 * i
        · rw [if_pos hk3, if_pos (show b ≤ k ∧ k < b + 2 * (i + 1) by omega)]
        · rw [if_neg hk3, if_neg (show ¬ (b ≤ k ∧ k < b + 2 * (i + 1)) by omega)]
abbrev fT (c : Nat) : List Value := [.ref c, .int 0, .int 0, .int 0, .int 0, .int 0, .int 0, .int 0]
abbrev fR (c : Nat) : List Value := [.ref c, .int (-1), .int 0]
set_option maxHeartbeats 2000000 in
set_option maxRecDepth 20000 in
theorem s4_init {a n : Nat} {h : q_H} (ha : a < n) (hn : n < 199) (hh : h a = .inr (.inr (4, [.null, .int 0, .int 0, .int 0, .int 0, .int 0, .int 0, .int 0]))) : SPA 1 48 1 yX4_init cX4_init 1 [.ref a] n h (n + 1) (q_up (q_up h n (.inl (0, 48, fun _ => 0))) a (.inr (.inr (4, fT n)))) := by
  refine q_SPAi RX4 rfl (by decide +kernel) (la := [some (.ref a)]) rfl rfl (fun Γ ad C F => ?_)
  refine g_aload_n (pc := 0) C (hl := rfl) dX4_init_0 ?_
  refine g_oinit (pc := 1) C lo4_3 dX4_init_1 (by decide) (by decide) ?_
  refine g_aload_n (pc := 4) C (hl := rfl) dX4_init_4 ?_
  refine g_bipush (pc := 5) C qk_bipush_48 dX4_init_5 ?_
  refine g_newi (pc := 7) C (N := 48) F q_NA.pp zw1_43 dX4_init_7 (by decide) (by decide) (by decide) (by omega) hn (q_okV_r (by omega) q_okV_0) (q_okS_r (by omega) q_okS_0) (Nat.le_of_ble_eq_true rfl) (Nat.le_of_ble_eq_true rfl) (fun ad C F => ?_)
  refine g_putF (pc := 9) C ff4_11 dX4_init_9 rfl ((q_up_n _ _ (by omega)).trans hh) (Nat.le_of_ble_eq_true rfl) (by omega) ?_
  exact g_vretA (pc := 12) C F dX4_init_12 rfl rfl rfl rfl rfl
set_option maxHeartbeats 2000000 in
set_option maxRecDepth 20000 in
theorem s3_init {a n : Nat} {h : q_H} (ha : a < n) (hn : n < 199) (hh : h a = .inr (.inr (3, [.null, .int 0, .int 0]))) : SPA 1 40 1 yX3_init cX3_init 1 [.ref a] n h (n + 1) (q_up (q_up h n (.inl (0, 40, fun _ => 0))) a (.inr (.inr (3, fR n)))) := by
  refine q_SPAi RX3 rfl (by decide +kernel) (la := [some (.ref a)]) rfl rfl (fun Γ ad C F => ?_)
  refine g_aload_n (pc := 0) C (hl := rfl) dX3_init_0 ?_
  refine g_oinit (pc := 1) C lo3_3 dX3_init_1 (by decide) (by decide) ?_
  refine g_aload_n (pc := 4) C (hl := rfl) dX3_init_4 ?_
  refine g_bipush (pc := 5) C qk_bipush_40 dX3_init_5 ?_
  refine g_newi (pc := 7) C (N := 40) F q_NA.pp zw1_43 dX3_init_7 (by decide) (by decide) (by decide) (by omega) hn (q_okV_r (by omega) q_okV_0) (q_okS_r (by omega) q_okS_0) (Nat.le_of_ble_eq_true rfl) (Nat.le_of_ble_eq_true rfl) (fun ad C F => ?_)
  refine g_putF (pc := 9) C ff3_9 dX3_init_9 rfl ((q_up_n _ _ (by omega)).trans hh) (Nat.le_of_ble_eq_true rfl) (by omega) ?_
  refine g_aload_n (pc := 12) C (hl := rfl) dX3_init_12 ?_
  refine g_iconst (pc := 13) C qk_iconst_m1 dX3_init_13 ?_
  refine g_put (pc := 14) C fp3_15 dX3_init_14 (q_up_s _ _ _) (Nat.le_of_ble_eq_true rfl) ?_
  exact g_vretA (pc := 17) C F dX3_init_17 rfl rfl rfl rfl (q_up_u _ _ _ _)
set_option maxHeartbeats 2000000 in
set_option maxRecDepth 20000 in
theorem s6_init {a n : Nat} {h : q_H} (ha : a < n) (hn : n < 199) (hh : h a = .inr (.inr (6, [.null, .int 0]))) : SPA 1 300 1 yX6_init cX6_init 1 [.ref a] n h (n + 1) (q_up (q_up h n (.inl (0, 300, fun _ => 0))) a (.inr (.inr (6, [.ref n, .int 0])))) := by
  refine q_SPAi RX6 rfl (by decide +kernel) (la := [some (.ref a)]) rfl rfl (fun Γ ad C F => ?_)
  refine g_aload_n (pc := 0) C (hl := rfl) dX6_init_0 ?_
  refine g_oinit (pc := 1) C lo6_3 dX6_init_1 (by decide) (by decide) ?_
  refine g_aload_n (pc := 4) C (hl := rfl) dX6_init_4 ?_
  refine g_sipush (pc := 5) C qk_sipush_300 dX6_init_5 ?_
  refine g_newi (pc := 8) C (N := 300) F q_NA.pp zw1_43 dX6_init_8 (by decide) (by decide) (by decide) (by omega) hn (q_okV_r (by omega) q_okV_0) (q_okS_r (by omega) q_okS_0) (Nat.le_of_ble_eq_true rfl) (Nat.le_of_ble_eq_true rfl) (fun ad C F => ?_)
  refine g_putF (pc := 10) C ff6_9 dX6_init_10 rfl ((q_up_n _ _ (by omega)).trans hh) (Nat.le_of_ble_eq_true rfl) (by omega) ?_
  exact g_vretA (pc := 13) C F dX6_init_13 rfl rfl rfl rfl rfl
set_option maxHeartbeats 2000000 in
set_option maxRecDepth 20000 in
theorem s1_init {a n : Nat} {h : q_H} (ha : a < n) (hn : n < 199) (hh : h a = .inr (.inr (1, [.null, .int 0, .int 0, .int 0, .int 0, .int 0]))) : SPA 1 16 1 yX1_init cX1_init 1 [.ref a] n h (n + 1) (q_up (q_up h n (.inl (0, 16, fun _ => 0))) a (.inr (.inr (1, [.ref n, .int 0, .int 0, .int 0, .int 0, .int 0])))) := by
  refine q_SPAi RX1 rfl (by decide +kernel) (la := [some (.ref a)]) rfl rfl (fun Γ ad C F => ?_)
  refine g_aload_n (pc := 0) C (hl := rfl) dX1_init_0 ?_
  refine g_oinit (pc := 1) C lo1_3 dX1_init_1 (by decide) (by decide) ?_
  refine g_aload_n (pc := 4) C (hl := rfl) dX1_init_4 ?_
  refine g_bipush (pc := 5) C qk_bipush_16 dX1_init_5 ?_
  refine g_newi (pc := 7) C (N := 16) F q_NA.pp zw1_43 dX1_init_7 (by decide) (by decide) (by decide) (by omega) hn (q_okV_r (by omega) q_okV_0) (q_okS_r (by omega) q_okS_0) (Nat.le_of_ble_eq_true rfl) (Nat.le_of_ble_eq_true rfl) (fun ad C F => ?_)
  refine g_putF (pc := 9) C ff1_9 dX1_init_9 rfl ((q_up_n _ _ (by omega)).trans hh) (Nat.le_of_ble_eq_true rfl) (by omega) ?_
  exact g_vretA (pc := 12) C F dX1_init_12 rfl rfl rfl rfl rfl
set_option maxHeartbeats 2000000 in
set_option maxRecDepth 20000 in
theorem s5_init {h : q_H} (hh : h 23 = .inr (.inr (5, [.null, .null, .int 0, .int 0, .int 0, .int 0, .int 0, .int 0]))) : SPA 4 358 2 yX5_init cX5_init 1 [.ref 23] 24 h 28 (q_up (q_up (q_up (q_up (q_up (q_up (q_up (q_up h 24 (.inr (.inr (6, [.null, .int 0])))) 25 (.inl (0, 300, fun _ => 0))) 24 (.inr (.inr (6, [.ref 25, .int 0])))) 23 (.inr (.inr (5, [.ref 24, .null, .int 0, .int 0, .int 0, .int 0, .int 0, .int 0])))) 26 (.inr (.inr (4, [.null, .int 0, .int 0, .int 0, .int 0, .int 0, .int 0, .int 0])))) 27 (.inl (0, 48, fun _ => 0))) 26 (.inr (.inr (4, [.ref 27, .int 0, .int 0, .int 0, .int 0, .int 0, .int 0, .int 0])))) 23 (.inr (.inr (5, [.ref 24, .ref 26, .int 0, .int 0, .int 0, .int 0, .int 0, .int 0])))) := by
  refine q_SPAi RX5 rfl (by decide +kernel) (la := [some (.ref 23)]) rfl rfl (fun Γ ad C F => ?_)
  refine g_aload_n (pc := 0) C (hl := rfl) dX5_init_0 ?_
  refine g_oinit (pc := 1) C lo5_3 dX5_init_1 (by decide) (by decide) ?_
  refine g_aload_n (pc := 4) C (hl := rfl) dX5_init_4 ?_
  refine g_new (pc := 5) C F q_NA.pp nc5_9 dX5_init_5 (Nat.le_of_ble_eq_true rfl) (Nat.le_of_ble_eq_true rfl) (q_okV_r (by omega) q_okV_0) (q_okS_r (by omega) q_okS_0) (Nat.le_of_ble_eq_true rfl) (Nat.le_of_ble_eq_true rfl) (fun ad C F => ?_)
  refine g_dup (pc := 8) C rfl dX5_init_8 ?_
  refine g_callI (pc := 9) C F q_NA.pp li5_11 dX5_init_9 (s6_init (by decide) (by decide) (q_up_s _ _ _)) (by decide) (Nat.le_of_ble_eq_true rfl) (by decide) (q_okV_r (by omega) q_okV_0) (q_okS_r (by omega) (q_okS_r (by omega) q_okS_0)) (Nat.le_of_ble_eq_true rfl) (Nat.le_of_ble_eq_true rfl) (fun ad C F => ?_)
  refine g_putF (pc := 12) C ff5_12 dX5_init_12 rfl ((q_up_n _ _ (by decide)).trans ((q_up_n _ _ (by decide)).trans ((q_up_n _ _ (by decide)).trans hh))) (Nat.le_of_ble_eq_true rfl) (Nat.le_of_ble_eq_true rfl) ?_
  refine g_aload_n (pc := 15) C (hl := rfl) dX5_init_15 ?_
  refine g_new (pc := 16) C F q_NA.pp nc5_18 dX5_init_16 (Nat.le_of_ble_eq_true rfl) (Nat.le_of_ble_eq_true rfl) (q_okV_r (by omega) q_okV_0) (q_okS_r (by omega) q_okS_0) (Nat.le_of_ble_eq_true rfl) (Nat.le_of_ble_eq_true rfl) (fun ad C F => ?_)
  refine g_dup (pc := 19) C rfl dX5_init_19 ?_
  refine g_callI (pc := 20) C F q_NA.pp li5_20 dX5_init_20 (s4_init (by decide) (by decide) (q_up_s _ _ _)) (by decide) (Nat.le_of_ble_eq_true rfl) (by decide) (q_okV_r (by omega) q_okV_0) (q_okS_r (by omega) (q_okS_r (by omega) q_okS_0)) (Nat.le_of_ble_eq_true rfl) (Nat.le_of_ble_eq_true rfl) (fun ad C F => ?_)
  refine g_putF (pc := 23) C ff5_21 dX5_init_23 rfl ((q_up_n _ _ (by decide)).trans ((q_up_n _ _ (by decide)).trans ((q_up_n _ _ (by decide)).trans (q_up_s _ _ _)))) (Nat.le_of_ble_eq_true rfl) (Nat.le_of_ble_eq_true rfl) ?_
  exact g_vretA (pc := 26) C F dX5_init_26 rfl rfl rfl rfl rfl
set_option maxHeartbeats 2000000 in
set_option maxRecDepth 20000 in
theorem s2_init {h : q_H} (hh : h 80 = .inr (.inr (2, [.null, .null, .null]))) : SPA 4 68 2 yX2_init cX2_init 1 [.ref 80] 81 h 85 (q_up (q_up (q_up (q_up (q_up (q_up (q_up (q_up h 81 (.inr (.inr (4, [.null, .int 0, .int 0, .int 0, .int 0, .int 0, .int 0, .int 0])))) 82 (.inl (0, 48, fun _ => 0))) 81 (.inr (.inr (4, [.ref 82, .int 0, .int 0, .int 0, .int 0, .int 0, .int 0, .int 0])))) 80 (.inr (.inr (2, [.ref 81, .null, .null])))) 83 (.inl (0, 6, fun _ => 0))) 80 (.inr (.inr (2, [.ref 81, .ref 83, .null])))) 84 (.inl (0, 6, fun _ => 0))) 80 (.inr (.inr (2, [.ref 81, .ref 83, .ref 84])))) := by
  refine q_SPAi RX2 rfl (by decide +kernel) (la := [some (.ref 80)]) rfl rfl (fun Γ ad C F => ?_)
  refine g_aload_n (pc := 0) C (hl := rfl) dX2_init_0 ?_
  refine g_oinit (pc := 1) C lo2_3 dX2_init_1 (by decide) (by decide) ?_
  refine g_aload_n (pc := 4) C (hl := rfl) dX2_init_4 ?_
  refine g_new (pc := 5) C F q_NA.pp nc2_9 dX2_init_5 (Nat.le_of_ble_eq_true rfl) (Nat.le_of_ble_eq_true rfl) (q_okV_r (by omega) q_okV_0) (q_okS_r (by omega) q_okS_0) (Nat.le_of_ble_eq_true rfl) (Nat.le_of_ble_eq_true rfl) (fun ad C F => ?_)
  refine g_dup (pc := 8) C rfl dX2_init_8 ?_
  refine g_callI (pc := 9) C F q_NA.pp li2_11 dX2_init_9 (s4_init (by decide) (by decide) (q_up_s _ _ _)) (by decide) (Nat.le_of_ble_eq_true rfl) (by decide) (q_okV_r (by omega) q_okV_0) (q_okS_r (by omega) (q_okS_r (by omega) q_okS_0)) (Nat.le_of_ble_eq_true rfl) (Nat.le_of_ble_eq_true rfl) (fun ad C F => ?_)
  refine g_putF (pc := 12) C ff2_12 dX2_init_12 rfl ((q_up_n _ _ (by decide)).trans ((q_up_n _ _ (by decide)).trans ((q_up_n _ _ (by decide)).trans hh))) (Nat.le_of_ble_eq_true rfl) (Nat.le_of_ble_eq_true rfl) ?_
  refine g_aload_n (pc := 15) C (hl := rfl) dX2_init_15 ?_
  refine g_bipush (pc := 16) C qk_bipush_6 dX2_init_16 ?_
  refine g_newi (pc := 18) C (N := 6) F q_NA.pp zw1_43 dX2_init_18 (by decide) (by decide) (by decide) (Nat.le_of_ble_eq_true rfl) (Nat.le_of_ble_eq_true rfl) (q_okV_r (by omega) q_okV_0) (q_okS_r (by omega) q_okS_0) (Nat.le_of_ble_eq_true rfl) (Nat.le_of_ble_eq_true rfl) (fun ad C F => ?_)
  refine g_putF (pc := 20) C ff2_18 dX2_init_20 rfl ((q_up_n _ _ (by decide)).trans (q_up_s _ _ _)) (Nat.le_of_ble_eq_true rfl) (Nat.le_of_ble_eq_true rfl) ?_
  refine g_aload_n (pc := 23) C (hl := rfl) dX2_init_23 ?_
  refine g_bipush (pc := 24) C qk_bipush_6 dX2_init_24 ?_
  refine g_newi (pc := 26) C (N := 6) F q_NA.pp zw1_43 dX2_init_26 (by decide) (by decide) (by decide) (Nat.le_of_ble_eq_true rfl) (Nat.le_of_ble_eq_true rfl) (q_okV_r (by omega) q_okV_0) (q_okS_r (by omega) q_okS_0) (Nat.le_of_ble_eq_true rfl) (Nat.le_of_ble_eq_true rfl) (fun ad C F => ?_)
  refine g_putF (pc := 28) C ff2_22 dX2_init_28 rfl ((q_up_n _ _ (by decide)).trans (q_up_s _ _ _)) (Nat.le_of_ble_eq_true rfl) (Nat.le_of_ble_eq_true rfl) ?_
  exact g_vretA (pc := 31) C F dX2_init_31 rfl rfl rfl rfl rfl
set_option maxHeartbeats 2000000 in
set_option maxRecDepth 20000 in
theorem l0_init {Γ : q_X} {hE h1 : q_H} (h0 : h1 30 = .inr (.inr (0, [.ref 31, .int 0, .int 0]))) (k : ∀ ad : Nat → Nat, q_C Γ ad 2 49 1368 RX0 yX0_init cX0_init 2 none → q_NA Γ 49 1368 31 80 hE ad → q_G Γ ad 2 43 [some (.ref 30), some (.int (nI 24))] [] 80 (q_blk h1 31 1 24 32 4 fT 48 24) 49 1368) : ∀ (m i : Nat) (ad : Nat → Nat) (H : q_H) (n e1 e2 : Nat), q_C Γ ad 2 49 1368 RX0 yX0_init cX0_init 2 none → q_NA Γ 49 1368 31 80 hE ad → 24 < i + m → i ≤ 24 → H = (q_blk h1 31 1 24 32 4 fT 48 i) → n = 32 + 2 * i → e1 = 1 + 2 * i → e2 = 24 + 56 * i → q_G Γ ad 2 15 [some (.ref 30), some (.int (nI i))] [] n H e1 e2 := by
  intro m
  induction m with
  | zero => intros; omega
  | succ m ih =>
    intro i ad H n e1 e2 C F hm hi hH hn he1 he2
    have hA : H 30 = .inr (.inr (0, [.ref 31, .int 0, .int 0])) := by rw [hH, q_blk_o (by decide) (Or.inl (by decide))]; exact h0
    have hB : H 31 = .inr (.inl (1, 24, fun j => if j < i then some (32 + 2 * j) else none)) := by rw [hH, q_blk_a]
    refine g_iload_n (pc := 15) C (hl := rfl) dX0_init_15 ?_
    refine g_aload_n (pc := 16) C (hl := rfl) dX0_init_16 ?_
    refine g_get (pc := 17) C fl0_11 dX0_init_17 hA rfl ?_
    refine g_alenrN (pc := 20) C dX0_init_20 hB ?_
    refine g_ic_geN (pc := 21) C 43 dX0_init_21 (by decide) (by omega) (fun c1 => ?_) (fun c1 => ?_)
    · have hi2 : i = 24 := by omega
      subst hi2
      subst hn he1 he2 hH
      exact k ad C F
    · refine g_aload_n (pc := 24) C (hl := rfl) dX0_init_24 ?_
      refine g_get (pc := 25) C fl0_11 dX0_init_25 hA rfl ?_
      refine g_iload_n (pc := 28) C (hl := rfl) dX0_init_28 ?_
      refine g_new (pc := 29) C F q_NA.pp nc0_9 dX0_init_29 (by omega) (by omega) (q_okV_r (by omega) (q_okV_i q_okV_0)) (q_okS_i (q_okS_r (by omega) q_okS_0)) (by omega) (by omega) (fun ad C F => ?_)
      refine g_dup (pc := 32) C rfl dX0_init_32 ?_
      refine g_callI (pc := 33) C F q_NA.pp li0_17 dX0_init_33 (s4_init (Nat.lt_succ_self n) (by omega) (q_up_s _ _ _)) (by decide) (by omega) (Nat.le_of_ble_eq_true rfl) (q_okV_r (by omega) (q_okV_i q_okV_0)) (q_okS_r (by omega) (q_okS_i (q_okS_r (by omega) q_okS_0))) (by omega) (by omega) (fun ad C F => ?_)
      refine g_aast (pc := 36) C dX0_init_36 ((q_up_n _ _ (by omega)).trans ((q_up_n _ _ (by omega)).trans ((q_up_n _ _ (by omega)).trans hB))) (q_up_s _ _ _) (by intro z; cases z) rfl (vp_in_nI (by omega) (by decide)) (by omega) ?_
      refine g_iincN (pc := 37) C (hl := rfl) (q_inc1 _) rfl dX0_init_37 ?_
      refine g_goto (pc := 40) C 15 dX0_init_40 (by decide) ?_
      refine ih (i + 1) ad _ _ _ _ C F (by omega) (by omega) ?_ (by omega) (by omega) (by omega)
      rw [nI_clamp (by omega), hH, hn]
      exact q_blk_s (by decide)
set_option maxHeartbeats 2000000 in
set_option maxRecDepth 20000 in
theorem s0_init {h : q_H} (hh : h 30 = .inr (.inr (0, [.null, .int 0, .int 0]))) : SPA 49 1368 2 yX0_init cX0_init 2 [.ref 30] 31 h 80 (q_blk (q_up (q_up h 31 (.inr (.inl (1, 24, fun _ => none)))) 30 (.inr (.inr (0, [.ref 31, .int 0, .int 0])))) 31 1 24 32 4 fT 48 24) := by
  refine q_SPAi RX0 rfl (by decide +kernel) (la := [some (.ref 30), none]) rfl rfl (fun Γ ad C F => ?_)
  refine g_aload_n (pc := 0) C (hl := rfl) dX0_init_0 ?_
  refine g_oinit (pc := 1) C lo0_3 dX0_init_1 (by decide) (by decide) ?_
  refine g_aload_n (pc := 4) C (hl := rfl) dX0_init_4 ?_
  refine g_bipush (pc := 5) C qk_bipush_24 dX0_init_5 ?_
  refine g_newq (pc := 7) C (N := 24) 1 F q_NA.pp zw1_142 dX0_init_7 (by decide) (by decide) (by decide) (Nat.le_of_ble_eq_true rfl) (Nat.le_of_ble_eq_true rfl) (q_okV_r (by omega) (q_okV_n q_okV_0)) (q_okS_r (by omega) q_okS_0) (Nat.le_of_ble_eq_true rfl) (Nat.le_of_ble_eq_true rfl) (fun ad C F => ?_)
  refine g_putF (pc := 10) C ff0_11 dX0_init_10 rfl ((q_up_n _ _ (by decide)).trans hh) (Nat.le_of_ble_eq_true rfl) (Nat.le_of_ble_eq_true rfl) ?_
  refine g_iconst (pc := 13) C qk_iconst_0 dX0_init_13 ?_
  refine g_istore_n (pc := 14) C rfl dX0_init_14 ?_
  exact l0_init (q_up_s _ _ _) (fun ad C F => g_vretA (pc := 43) C F dX0_init_43 rfl rfl rfl rfl rfl) 25 0 ad _ _ _ _ C F (by decide) (by decide) (q_blk_0 ((q_up_n _ _ (by decide)).trans (q_up_s _ _ _))) rfl rfl rfl
set_option maxHeartbeats 2000000 in
set_option maxRecDepth 20000 in
theorem l7_rows {Γ : q_X} {hE h1 : q_H} (h0 : h1 0 = .inr (.inr (7, [.ref 1, .null, .null, .null, .null, .null, .null, .int 0, .int 0]))) (k : ∀ ad : Nat → Nat, q_C Γ ad 3 86 2352 RX7 yX7_init cX7_init 2 none → q_NA Γ 86 2352 1 87 hE ad → q_G Γ ad 2 43 [some (.ref 0), some (.int (nI 8))] [] 18 (q_blk h1 1 0 8 2 3 fR 40 8) 17 352) : ∀ (m i : Nat) (ad : Nat → Nat) (H : q_H) (n e1 e2 : Nat), q_C Γ ad 3 86 2352 RX7 yX7_init cX7_init 2 none → q_NA Γ 86 2352 1 87 hE ad → 8 < i + m → i ≤ 8 → H = (q_blk h1 1 0 8 2 3 fR 40 i) → n = 2 + 2 * i → e1 = 1 + 2 * i → e2 = 8 + 43 * i → q_G Γ ad 2 15 [some (.ref 0), some (.int (nI i))] [] n H e1 e2 := by
  intro m
  induction m with
  | zero => intros; omega
  | succ m ih =>
    intro i ad H n e1 e2 C F hm hi hH hn he1 he2
    have hA : H 0 = .inr (.inr (7, [.ref 1, .null, .null, .null, .null, .null, .null, .int 0, .int 0])) := by rw [hH, q_blk_o (by decide) (Or.inl (by decide))]; exact h0
    have hB : H 1 = .inr (.inl (0, 8, fun j => if j < i then some (2 + 2 * j) else none)) := by rw [hH, q_blk_a]
    refine g_iload_n (pc := 15) C (hl := rfl) dX7_init_15 ?_
    refine g_aload_n (pc := 16) C (hl := rfl) dX7_init_16 ?_
    refine g_get (pc := 17) C fl7_11 dX7_init_17 hA rfl ?_
    refine g_alenrN (pc := 20) C dX7_init_20 hB ?_
    refine g_ic_geN (pc := 21) C 43 dX7_init_21 (by decide) (by omega) (fun c1 => ?_) (fun c1 => ?_)
    · have hi2 : i = 8 := by omega
      subst hi2
      subst hn he1 he2 hH
      exact k ad C F
    · refine g_aload_n (pc := 24) C (hl := rfl) dX7_init_24 ?_
      refine g_get (pc := 25) C fl7_11 dX7_init_25 hA rfl ?_
      refine g_iload_n (pc := 28) C (hl := rfl) dX7_init_28 ?_
      refine g_new (pc := 29) C F q_NA.pp nc7_9 dX7_init_29 (by omega) (by omega) (q_okV_r (by omega) (q_okV_i q_okV_0)) (q_okS_i (q_okS_r (by omega) q_okS_0)) (by omega) (by omega) (fun ad C F => ?_)
      refine g_dup (pc := 32) C rfl dX7_init_32 ?_
      refine g_callI (pc := 33) C F q_NA.pp li7_15 dX7_init_33 (s3_init (Nat.lt_succ_self n) (by omega) (q_up_s _ _ _)) (by decide) (by omega) (Nat.le_of_ble_eq_true rfl) (q_okV_r (by omega) (q_okV_i q_okV_0)) (q_okS_r (by omega) (q_okS_i (q_okS_r (by omega) q_okS_0))) (by omega) (by omega) (fun ad C F => ?_)
      refine g_aast (pc := 36) C dX7_init_36 ((q_up_n _ _ (by omega)).trans ((q_up_n _ _ (by omega)).trans ((q_up_n _ _ (by omega)).trans hB))) (q_up_s _ _ _) (by intro z; cases z) rfl (vp_in_nI (by omega) (by decide)) (by omega) ?_
      refine g_iincN (pc := 37) C (hl := rfl) (q_inc1 _) rfl dX7_init_37 ?_
      refine g_goto (pc := 40) C 15 dX7_init_40 (by decide) ?_
      refine ih (i + 1) ad _ _ _ _ C F (by omega) (by omega) ?_ (by omega) (by omega) (by omega)
      rw [nI_clamp (by omega), hH, hn]
      exact q_blk_s (by decide)
set_option maxHeartbeats 2000000 in
set_option maxRecDepth 20000 in
theorem l7_images {Γ : q_X} {hE h1 : q_H} (h0 : h1 0 = .inr (.inr (7, [.ref 1, .null, .null, .null, .ref 18, .null, .null, .int 0, .int 0]))) (k : ∀ ad : Nat → Nat, q_C Γ ad 3 86 2352 RX7 yX7_init cX7_init 2 none → q_NA Γ 86 2352 1 87 hE ad → q_G Γ ad 2 81 [some (.ref 0), some (.int (nI 2))] [] 23 (q_blk h1 18 1 2 19 4 fT 48 2) 22 466) : ∀ (m i : Nat) (ad : Nat → Nat) (H : q_H) (n e1 e2 : Nat), q_C Γ ad 3 86 2352 RX7 yX7_init cX7_init 2 none → q_NA Γ 86 2352 1 87 hE ad → 2 < i + m → i ≤ 2 → H = (q_blk h1 18 1 2 19 4 fT 48 i) → n = 19 + 2 * i → e1 = 18 + 2 * i → e2 = 354 + 56 * i → q_G Γ ad 2 53 [some (.ref 0), some (.int (nI i))] [] n H e1 e2 := by
  intro m
  induction m with
  | zero => intros; omega
  | succ m ih =>
    intro i ad H n e1 e2 C F hm hi hH hn he1 he2
    have hA : H 0 = .inr (.inr (7, [.ref 1, .null, .null, .null, .ref 18, .null, .null, .int 0, .int 0])) := by rw [hH, q_blk_o (by decide) (Or.inl (by decide))]; exact h0
    have hB : H 18 = .inr (.inl (1, 2, fun j => if j < i then some (19 + 2 * j) else none)) := by rw [hH, q_blk_a]
    refine g_iload_n (pc := 53) C (hl := rfl) dX7_init_53 ?_
    refine g_aload_n (pc := 54) C (hl := rfl) dX7_init_54 ?_
    refine g_get (pc := 55) C fl7_18 dX7_init_55 hA rfl ?_
    refine g_alenrN (pc := 58) C dX7_init_58 hB ?_
    refine g_ic_geN (pc := 59) C 81 dX7_init_59 (by decide) (by omega) (fun c1 => ?_) (fun c1 => ?_)
    · have hi2 : i = 2 := by omega
      subst hi2
      subst hn he1 he2 hH
      exact k ad C F
    · refine g_aload_n (pc := 62) C (hl := rfl) dX7_init_62 ?_
      refine g_get (pc := 63) C fl7_18 dX7_init_63 hA rfl ?_
      refine g_iload_n (pc := 66) C (hl := rfl) dX7_init_66 ?_
      refine g_new (pc := 67) C F q_NA.pp nc7_16 dX7_init_67 (by omega) (by omega) (q_okV_r (by omega) (q_okV_i q_okV_0)) (q_okS_i (q_okS_r (by omega) q_okS_0)) (by omega) (by omega) (fun ad C F => ?_)
      refine g_dup (pc := 70) C rfl dX7_init_70 ?_
      refine g_callI (pc := 71) C F q_NA.pp li7_22 dX7_init_71 (s4_init (Nat.lt_succ_self n) (by omega) (q_up_s _ _ _)) (by decide) (by omega) (Nat.le_of_ble_eq_true rfl) (q_okV_r (by omega) (q_okV_i q_okV_0)) (q_okS_r (by omega) (q_okS_i (q_okS_r (by omega) q_okS_0))) (by omega) (by omega) (fun ad C F => ?_)
      refine g_aast (pc := 74) C dX7_init_74 ((q_up_n _ _ (by omega)).trans ((q_up_n _ _ (by omega)).trans ((q_up_n _ _ (by omega)).trans hB))) (q_up_s _ _ _) (by intro z; cases z) rfl (vp_in_nI (by omega) (by decide)) (by omega) ?_
      refine g_iincN (pc := 75) C (hl := rfl) (q_inc1 _) rfl dX7_init_75 ?_
      refine g_goto (pc := 78) C 53 dX7_init_78 (by decide) ?_
      refine ih (i + 1) ad _ _ _ _ C F (by omega) (by omega) ?_ (by omega) (by omega) (by omega)
      rw [nI_clamp (by omega), hH, hn]
      exact q_blk_s (by decide)
def h7z (h : q_H) : q_H := (q_up (q_up (q_up (q_up (q_up (q_up (q_up (q_up (q_up (q_up (q_up (q_up (q_up (q_up (q_up (q_blk (q_up (q_up (q_up (q_up (q_up (q_up (q_up (q_up (q_up (q_up (q_up (q_up (q_up (q_up (q_up (q_up (q_up (q_blk (q_up (q_up (q_blk (q_up (q_up h 1 (.inr (.inl (0, 8, fun _ => none)))) 0 (.inr (.inr (7, [.ref 1, .null, .null, .null, .null, .null, .null, .int 0, .int 0])))) 1 0 8 2 3 fR 40 8) 18 (.inr (.inl (1, 2, fun _ => none)))) 0 (.inr (.inr (7, [.ref 1, .null, .null, .null, .ref 18, .null, .null, .int 0, .int 0])))) 18 1 2 19 4 fT 48 2) 23 (.inr (.inr (5, [.null, .null, .int 0, .int 0, .int 0, .int 0, .int 0, .int 0])))) 24 (.inr (.inr (6, [.null, .int 0])))) 25 (.inl (0, 300, fun _ => 0))) 24 (.inr (.inr (6, [.ref 25, .int 0])))) 23 (.inr (.inr (5, [.ref 24, .null, .int 0, .int 0, .int 0, .int 0, .int 0, .int 0])))) 26 (.inr (.inr (4, [.null, .int 0, .int 0, .int 0, .int 0, .int 0, .int 0, .int 0])))) 27 (.inl (0, 48, fun _ => 0))) 26 (.inr (.inr (4, [.ref 27, .int 0, .int 0, .int 0, .int 0, .int 0, .int 0, .int 0])))) 23 (.inr (.inr (5, [.ref 24, .ref 26, .int 0, .int 0, .int 0, .int 0, .int 0, .int 0])))) 0 (.inr (.inr (7, [.ref 1, .ref 23, .null, .null, .ref 18, .null, .null, .int 0, .int 0])))) 28 (.inr (.inr (4, [.null, .int 0, .int 0, .int 0, .int 0, .int 0, .int 0, .int 0])))) 29 (.inl (0, 48, fun _ => 0))) 28 (.inr (.inr (4, [.ref 29, .int 0, .int 0, .int 0, .int 0, .int 0, .int 0, .int 0])))) 0 (.inr (.inr (7, [.ref 1, .ref 23, .ref 28, .null, .ref 18, .null, .null, .int 0, .int 0])))) 30 (.inr (.inr (0, [.null, .int 0, .int 0])))) 31 (.inr (.inl (1, 24, fun _ => none)))) 30 (.inr (.inr (0, [.ref 31, .int 0, .int 0])))) 31 1 24 32 4 fT 48 24) 0 (.inr (.inr (7, [.ref 1, .ref 23, .ref 28, .ref 30, .ref 18, .null, .null, .int 0, .int 0])))) 80 (.inr (.inr (2, [.null, .null, .null])))) 81 (.inr (.inr (4, [.null, .int 0, .int 0, .int 0, .int 0, .int 0, .int 0, .int 0])))) 82 (.inl (0, 48, fun _ => 0))) 81 (.inr (.inr (4, [.ref 82, .int 0, .int 0, .int 0, .int 0, .int 0, .int 0, .int 0])))) 80 (.inr (.inr (2, [.ref 81, .null, .null])))) 83 (.inl (0, 6, fun _ => 0))) 80 (.inr (.inr (2, [.ref 81, .ref 83, .null])))) 84 (.inl (0, 6, fun _ => 0))) 80 (.inr (.inr (2, [.ref 81, .ref 83, .ref 84])))) 0 (.inr (.inr (7, [.ref 1, .ref 23, .ref 28, .ref 30, .ref 18, .ref 80, .null, .int 0, .int 0])))) 85 (.inr (.inr (1, [.null, .int 0, .int 0, .int 0, .int 0, .int 0])))) 86 (.inl (0, 16, fun _ => 0))) 85 (.inr (.inr (1, [.ref 86, .int 0, .int 0, .int 0, .int 0, .int 0])))) 0 (.inr (.inr (7, [.ref 1, .ref 23, .ref 28, .ref 30, .ref 18, .ref 80, .ref 85, .int 0, .int 0]))))
set_option maxHeartbeats 2000000 in
set_option maxRecDepth 20000 in
theorem s7_init {h : q_H} (hh : h 0 = .inr (.inr (7, [.null, .null, .null, .null, .null, .null, .null, .int 0, .int 0]))) : SPA 86 2352 3 yX7_init cX7_init 2 [.ref 0] 1 h 87 (h7z h) := by
  refine q_SPAi RX7 rfl (by decide +kernel) (la := [some (.ref 0), none]) rfl rfl (fun Γ ad C F => ?_)
  refine g_aload_n (pc := 0) C (hl := rfl) dX7_init_0 ?_
  refine g_oinit (pc := 1) C lo7_1 dX7_init_1 (by decide) (by decide) ?_
  refine g_aload_n (pc := 4) C (hl := rfl) dX7_init_4 ?_
  refine g_bipush (pc := 5) C qk_bipush_8 dX7_init_5 ?_
  refine g_newq (pc := 7) C (N := 8) 0 F q_NA.pp zw1_24 dX7_init_7 (by decide) (by decide) (by decide) (Nat.le_of_ble_eq_true rfl) (Nat.le_of_ble_eq_true rfl) (q_okV_r (by omega) (q_okV_n q_okV_0)) (q_okS_r (by omega) q_okS_0) (Nat.le_of_ble_eq_true rfl) (Nat.le_of_ble_eq_true rfl) (fun ad C F => ?_)
  refine g_putF (pc := 10) C ff7_11 dX7_init_10 rfl ((q_up_n _ _ (by decide)).trans hh) (Nat.le_of_ble_eq_true rfl) (Nat.le_of_ble_eq_true rfl) ?_
  refine g_iconst (pc := 13) C qk_iconst_0 dX7_init_13 ?_
  refine g_istore_n (pc := 14) C rfl dX7_init_14 ?_
  refine l7_rows (q_up_s _ _ _) (fun ad C F => ?_) 9 0 ad _ _ _ _ C F (by decide) (by decide) (q_blk_0 ((q_up_n _ _ (by decide)).trans (q_up_s _ _ _))) rfl rfl rfl
  refine g_aload_n (pc := 43) C (hl := rfl) dX7_init_43 ?_
  refine g_iconst (pc := 44) C qk_iconst_2 dX7_init_44 ?_
  refine g_newq (pc := 45) C (N := 2) 1 F q_NA.pp zw1_44 dX7_init_45 (by decide) (by decide) (by decide) (Nat.le_of_ble_eq_true rfl) (Nat.le_of_ble_eq_true rfl) (q_okV_r (by omega) (q_okV_i q_okV_0)) (q_okS_r (by omega) q_okS_0) (Nat.le_of_ble_eq_true rfl) (Nat.le_of_ble_eq_true rfl) (fun ad C F => ?_)
  refine g_putF (pc := 48) C ff7_18 dX7_init_48 rfl ((q_up_n _ _ (by decide)).trans ((q_blk_o (by decide) (by decide)).trans (q_up_s _ _ _))) (Nat.le_of_ble_eq_true rfl) (Nat.le_of_ble_eq_true rfl) ?_
  refine g_iconst (pc := 51) C qk_iconst_0 dX7_init_51 ?_
  refine g_istore_n (pc := 52) C rfl dX7_init_52 ?_
  refine l7_images (q_up_s _ _ _) (fun ad C F => ?_) 3 0 ad _ _ _ _ C F (by decide) (by decide) (q_blk_0 ((q_up_n _ _ (by decide)).trans (q_up_s _ _ _))) rfl rfl rfl
  refine g_aload_n (pc := 81) C (hl := rfl) dX7_init_81 ?_
  refine g_new (pc := 82) C F q_NA.pp nc7_23 dX7_init_82 (Nat.le_of_ble_eq_true rfl) (Nat.le_of_ble_eq_true rfl) (q_okV_r (by omega) (q_okV_i q_okV_0)) (q_okS_r (by omega) q_okS_0) (Nat.le_of_ble_eq_true rfl) (Nat.le_of_ble_eq_true rfl) (fun ad C F => ?_)
  refine g_dup (pc := 85) C rfl dX7_init_85 ?_
  refine g_callI (pc := 86) C F q_NA.pp li7_25 dX7_init_86 (s5_init (q_up_s _ _ _)) (by decide) (Nat.le_of_ble_eq_true rfl) (by decide) (q_okV_r (by omega) (q_okV_i q_okV_0)) (q_okS_r (by omega) (q_okS_r (by omega) q_okS_0)) (Nat.le_of_ble_eq_true rfl) (Nat.le_of_ble_eq_true rfl) (fun ad C F => ?_)
  refine g_putF (pc := 89) C ff7_26 dX7_init_89 rfl ((q_up_n _ _ (by decide)).trans ((q_up_n _ _ (by decide)).trans ((q_up_n _ _ (by decide)).trans ((q_up_n _ _ (by decide)).trans ((q_up_n _ _ (by decide)).trans ((q_up_n _ _ (by decide)).trans ((q_up_n _ _ (by decide)).trans ((q_up_n _ _ (by decide)).trans ((q_up_n _ _ (by decide)).trans ((q_blk_o (by decide) (by decide)).trans (q_up_s _ _ _))))))))))) (Nat.le_of_ble_eq_true rfl) (Nat.le_of_ble_eq_true rfl) ?_
  refine g_aload_n (pc := 92) C (hl := rfl) dX7_init_92 ?_
  refine g_new (pc := 93) C F q_NA.pp nc7_16 dX7_init_93 (Nat.le_of_ble_eq_true rfl) (Nat.le_of_ble_eq_true rfl) (q_okV_r (by omega) (q_okV_i q_okV_0)) (q_okS_r (by omega) q_okS_0) (Nat.le_of_ble_eq_true rfl) (Nat.le_of_ble_eq_true rfl) (fun ad C F => ?_)
  refine g_dup (pc := 96) C rfl dX7_init_96 ?_
  refine g_callI (pc := 97) C F q_NA.pp li7_22 dX7_init_97 (s4_init (by decide) (by decide) (q_up_s _ _ _)) (by decide) (Nat.le_of_ble_eq_true rfl) (by decide) (q_okV_r (by omega) (q_okV_i q_okV_0)) (q_okS_r (by omega) (q_okS_r (by omega) q_okS_0)) (Nat.le_of_ble_eq_true rfl) (Nat.le_of_ble_eq_true rfl) (fun ad C F => ?_)
  refine g_putF (pc := 100) C ff7_30 dX7_init_100 rfl ((q_up_n _ _ (by decide)).trans ((q_up_n _ _ (by decide)).trans ((q_up_n _ _ (by decide)).trans (q_up_s _ _ _)))) (Nat.le_of_ble_eq_true rfl) (Nat.le_of_ble_eq_true rfl) ?_
  refine g_aload_n (pc := 103) C (hl := rfl) dX7_init_103 ?_
  refine g_new (pc := 104) C F q_NA.pp nc7_34 dX7_init_104 (Nat.le_of_ble_eq_true rfl) (Nat.le_of_ble_eq_true rfl) (q_okV_r (by omega) (q_okV_i q_okV_0)) (q_okS_r (by omega) q_okS_0) (Nat.le_of_ble_eq_true rfl) (Nat.le_of_ble_eq_true rfl) (fun ad C F => ?_)
  refine g_dup (pc := 107) C rfl dX7_init_107 ?_
  refine g_callI (pc := 108) C F q_NA.pp li7_36 dX7_init_108 (s0_init (q_up_s _ _ _)) (by decide) (Nat.le_of_ble_eq_true rfl) (by decide) (q_okV_r (by omega) (q_okV_i q_okV_0)) (q_okS_r (by omega) (q_okS_r (by omega) q_okS_0)) (Nat.le_of_ble_eq_true rfl) (Nat.le_of_ble_eq_true rfl) (fun ad C F => ?_)
  refine g_putF (pc := 111) C ff7_37 dX7_init_111 rfl ((q_blk_o (by decide) (by decide)).trans ((q_up_n _ _ (by decide)).trans ((q_up_n _ _ (by decide)).trans ((q_up_n _ _ (by decide)).trans (q_up_s _ _ _))))) (Nat.le_of_ble_eq_true rfl) (Nat.le_of_ble_eq_true rfl) ?_
  refine g_aload_n (pc := 114) C (hl := rfl) dX7_init_114 ?_
  refine g_new (pc := 115) C F q_NA.pp nc7_41 dX7_init_115 (Nat.le_of_ble_eq_true rfl) (Nat.le_of_ble_eq_true rfl) (q_okV_r (by omega) (q_okV_i q_okV_0)) (q_okS_r (by omega) q_okS_0) (Nat.le_of_ble_eq_true rfl) (Nat.le_of_ble_eq_true rfl) (fun ad C F => ?_)
  refine g_dup (pc := 118) C rfl dX7_init_118 ?_
  refine g_callI (pc := 119) C F q_NA.pp li7_43 dX7_init_119 (s2_init (q_up_s _ _ _)) (by decide) (Nat.le_of_ble_eq_true rfl) (by decide) (q_okV_r (by omega) (q_okV_i q_okV_0)) (q_okS_r (by omega) (q_okS_r (by omega) q_okS_0)) (Nat.le_of_ble_eq_true rfl) (Nat.le_of_ble_eq_true rfl) (fun ad C F => ?_)
  refine g_putF (pc := 122) C ff7_44 dX7_init_122 rfl ((q_up_n _ _ (by decide)).trans ((q_up_n _ _ (by decide)).trans ((q_up_n _ _ (by decide)).trans ((q_up_n _ _ (by decide)).trans ((q_up_n _ _ (by decide)).trans ((q_up_n _ _ (by decide)).trans ((q_up_n _ _ (by decide)).trans ((q_up_n _ _ (by decide)).trans ((q_up_n _ _ (by decide)).trans (q_up_s _ _ _)))))))))) (Nat.le_of_ble_eq_true rfl) (Nat.le_of_ble_eq_true rfl) ?_
  refine g_aload_n (pc := 125) C (hl := rfl) dX7_init_125 ?_
  refine g_new (pc := 126) C F q_NA.pp nc7_48 dX7_init_126 (Nat.le_of_ble_eq_true rfl) (Nat.le_of_ble_eq_true rfl) (q_okV_r (by omega) (q_okV_i q_okV_0)) (q_okS_r (by omega) q_okS_0) (Nat.le_of_ble_eq_true rfl) (Nat.le_of_ble_eq_true rfl) (fun ad C F => ?_)
  refine g_dup (pc := 129) C rfl dX7_init_129 ?_
  refine g_callI (pc := 130) C F q_NA.pp li7_50 dX7_init_130 (s1_init (by decide) (by decide) (q_up_s _ _ _)) (by decide) (Nat.le_of_ble_eq_true rfl) (by decide) (q_okV_r (by omega) (q_okV_i q_okV_0)) (q_okS_r (by omega) (q_okS_r (by omega) q_okS_0)) (Nat.le_of_ble_eq_true rfl) (Nat.le_of_ble_eq_true rfl) (fun ad C F => ?_)
  refine g_putF (pc := 133) C ff7_51 dX7_init_133 rfl ((q_up_n _ _ (by decide)).trans ((q_up_n _ _ (by decide)).trans ((q_up_n _ _ (by decide)).trans (q_up_s _ _ _)))) (Nat.le_of_ble_eq_true rfl) (Nat.le_of_ble_eq_true rfl) ?_
  exact g_vretA (pc := 136) C F dX7_init_136 rfl rfl rfl rfl rfl
set_option maxHeartbeats 2000000 in
set_option maxRecDepth 20000 in
theorem l8_init {Γ : q_X} {hE : q_H} {ad : Nat → Nat} (C : q_C Γ ad 1 8 1825 RX8 yX8_init cX8_init 2 none) (F : q_NA Γ 8 1825 88 96 hE ad) : ∀ (m i : Nat) (K : Nat → Int32) (H : q_H), 8 < i + m → i ≤ 8 → H 87 = .inr (.inr (8, [.ref 88, .int 0, .ref 89, .int 0, .int 0, .int 0, .ref 90, .ref 91, .ref 92, .ref 93, .int 0, .int 0, .int 0, .int 0, .int 0, .int 0, .int 0, .int 0, .int 0, .ref 94, .ref 95, .int 0])) → H 90 = .inl (0, 8, K) → (∀ j, j < i → K j = -1) → hE = q_up H 90 (.inl (0, 8, fun _ => -1)) → q_G Γ ad 2 72 [some (.ref 87), some (.int (nI i))] [] 96 H 8 1825 := by
  intro m
  induction m with
  | zero => intros; omega
  | succ m ih =>
    intro i K H hm hi ho hl hK hH
    refine g_iload_n (pc := 72) C (hl := rfl) dX8_init_72 ?_
    refine g_bipush (pc := 73) C qk_bipush_8 dX8_init_73 ?_
    refine g_ic_geN (pc := 75) C 91 dX8_init_75 (by decide) (by omega) (fun c1 => ?_) (fun c1 => ?_)
    · refine g_arr (F := fun _ => -1) hl (fun j hj => hK j (by omega)) ?_
      exact g_vretA (pc := 91) C F dX8_init_91 rfl rfl rfl rfl hH.symm
    · refine g_aload_n (pc := 78) C (hl := rfl) dX8_init_78 ?_
      refine g_get (pc := 79) C fl8_16 dX8_init_79 ho rfl ?_
      refine g_iload_n (pc := 82) C (hl := rfl) dX8_init_82 ?_
      refine g_iconst (pc := 83) C qk_iconst_m1 dX8_init_83 ?_
      refine g_iast (pc := 84) C dX8_init_84 hl (vp_in_nI (by omega) (by decide)) ?_
      refine g_iincN (pc := 85) C (hl := rfl) (q_inc1 _) rfl dX8_init_85 ?_
      refine g_goto (pc := 88) C 72 dX8_init_88 (by decide) ?_
      exact ih (i + 1) _ _ (by omega) (by omega) ((q_up_n _ _ (by decide)).trans ho) (q_up_s _ _ _) (fun j hj => by
        rw [nI_clamp (by omega)]
        unfold upd
        by_cases hj2 : j = i
        · rw [if_pos hj2]
        · rw [if_neg hj2]; exact hK j (by omega)) (by rw [q_up_u]; exact hH)
def h8z (h : q_H) : q_H := (q_up (q_up (q_up (q_up (q_up (q_up (q_up (q_up (q_up (q_up (q_up (q_up (q_up (q_up (q_up (q_up (q_up h 88 (.inl (0, 1131, fun _ => 0))) 87 (.inr (.inr (8, [.ref 88, .int 0, .null, .int 0, .int 0, .int 0, .null, .null, .null, .null, .int 0, .int 0, .int 0, .int 0, .int 0, .int 0, .int 0, .int 0, .int 0, .null, .null, .int 0])))) 89 (.inl (0, 300, fun _ => 0))) 87 (.inr (.inr (8, [.ref 88, .int 0, .ref 89, .int 0, .int 0, .int 0, .null, .null, .null, .null, .int 0, .int 0, .int 0, .int 0, .int 0, .int 0, .int 0, .int 0, .int 0, .null, .null, .int 0])))) 90 (.inl (0, 8, fun _ => 0))) 87 (.inr (.inr (8, [.ref 88, .int 0, .ref 89, .int 0, .int 0, .int 0, .ref 90, .null, .null, .null, .int 0, .int 0, .int 0, .int 0, .int 0, .int 0, .int 0, .int 0, .int 0, .null, .null, .int 0])))) 91 (.inl (0, 8, fun _ => 0))) 87 (.inr (.inr (8, [.ref 88, .int 0, .ref 89, .int 0, .int 0, .int 0, .ref 90, .ref 91, .null, .null, .int 0, .int 0, .int 0, .int 0, .int 0, .int 0, .int 0, .int 0, .int 0, .null, .null, .int 0])))) 92 (.inl (0, 320, fun _ => 0))) 87 (.inr (.inr (8, [.ref 88, .int 0, .ref 89, .int 0, .int 0, .int 0, .ref 90, .ref 91, .ref 92, .null, .int 0, .int 0, .int 0, .int 0, .int 0, .int 0, .int 0, .int 0, .int 0, .null, .null, .int 0])))) 93 (.inl (0, 40, fun _ => 0))) 87 (.inr (.inr (8, [.ref 88, .int 0, .ref 89, .int 0, .int 0, .int 0, .ref 90, .ref 91, .ref 92, .ref 93, .int 0, .int 0, .int 0, .int 0, .int 0, .int 0, .int 0, .int 0, .int 0, .null, .null, .int 0])))) 94 (.inl (1, 2, fun _ => 0))) 87 (.inr (.inr (8, [.ref 88, .int 0, .ref 89, .int 0, .int 0, .int 0, .ref 90, .ref 91, .ref 92, .ref 93, .int 0, .int 0, .int 0, .int 0, .int 0, .int 0, .int 0, .int 0, .int 0, .ref 94, .null, .int 0])))) 95 (.inl (0, 16, fun _ => 0))) 87 (.inr (.inr (8, [.ref 88, .int 0, .ref 89, .int 0, .int 0, .int 0, .ref 90, .ref 91, .ref 92, .ref 93, .int 0, .int 0, .int 0, .int 0, .int 0, .int 0, .int 0, .int 0, .int 0, .ref 94, .ref 95, .int 0])))) 90 (.inl (0, 8, fun _ => -1)))
set_option maxHeartbeats 2000000 in
set_option maxRecDepth 20000 in
theorem s8_init {h : q_H} (hh : h 87 = .inr (.inr (8, [.null, .int 0, .null, .int 0, .int 0, .int 0, .null, .null, .null, .null, .int 0, .int 0, .int 0, .int 0, .int 0, .int 0, .int 0, .int 0, .int 0, .null, .null, .int 0]))) : SPA 8 1825 1 yX8_init cX8_init 2 [.ref 87] 88 h 96 (h8z h) := by
  refine q_SPAi RX8 rfl (by decide +kernel) (la := [some (.ref 87), none]) rfl rfl (fun Γ ad C F => ?_)
  refine g_aload_n (pc := 0) C (hl := rfl) dX8_init_0 ?_
  refine g_oinit (pc := 1) C lo8_1 dX8_init_1 (by decide) (by decide) ?_
  refine g_aload_n (pc := 4) C (hl := rfl) dX8_init_4 ?_
  refine g_sipush (pc := 5) C qk_sipush_1131 dX8_init_5 ?_
  refine g_newi (pc := 8) C (N := 1131) F q_NA.pp zw1_43 dX8_init_8 (by decide) (by decide) (by decide) (Nat.le_of_ble_eq_true rfl) (Nat.le_of_ble_eq_true rfl) (q_okV_r (by omega) (q_okV_n q_okV_0)) (q_okS_r (by omega) q_okS_0) (Nat.le_of_ble_eq_true rfl) (Nat.le_of_ble_eq_true rfl) (fun ad C F => ?_)
  refine g_putF (pc := 10) C ff8_7 dX8_init_10 rfl ((q_up_n _ _ (by decide)).trans hh) (Nat.le_of_ble_eq_true rfl) (Nat.le_of_ble_eq_true rfl) ?_
  refine g_aload_n (pc := 13) C (hl := rfl) dX8_init_13 ?_
  refine g_sipush (pc := 14) C qk_sipush_300 dX8_init_14 ?_
  refine g_newi (pc := 17) C (N := 300) F q_NA.pp zw1_43 dX8_init_17 (by decide) (by decide) (by decide) (Nat.le_of_ble_eq_true rfl) (Nat.le_of_ble_eq_true rfl) (q_okV_r (by omega) (q_okV_n q_okV_0)) (q_okS_r (by omega) q_okS_0) (Nat.le_of_ble_eq_true rfl) (Nat.le_of_ble_eq_true rfl) (fun ad C F => ?_)
  refine g_putF (pc := 19) C ff8_13 dX8_init_19 rfl ((q_up_n _ _ (by decide)).trans (q_up_s _ _ _)) (Nat.le_of_ble_eq_true rfl) (Nat.le_of_ble_eq_true rfl) ?_
  refine g_aload_n (pc := 22) C (hl := rfl) dX8_init_22 ?_
  refine g_bipush (pc := 23) C qk_bipush_8 dX8_init_23 ?_
  refine g_newi (pc := 25) C (N := 8) F q_NA.pp zw1_43 dX8_init_25 (by decide) (by decide) (by decide) (Nat.le_of_ble_eq_true rfl) (Nat.le_of_ble_eq_true rfl) (q_okV_r (by omega) (q_okV_n q_okV_0)) (q_okS_r (by omega) q_okS_0) (Nat.le_of_ble_eq_true rfl) (Nat.le_of_ble_eq_true rfl) (fun ad C F => ?_)
  refine g_putF (pc := 27) C ff8_16 dX8_init_27 rfl ((q_up_n _ _ (by decide)).trans (q_up_s _ _ _)) (Nat.le_of_ble_eq_true rfl) (Nat.le_of_ble_eq_true rfl) ?_
  refine g_aload_n (pc := 30) C (hl := rfl) dX8_init_30 ?_
  refine g_bipush (pc := 31) C qk_bipush_8 dX8_init_31 ?_
  refine g_newi (pc := 33) C (N := 8) F q_NA.pp zw1_43 dX8_init_33 (by decide) (by decide) (by decide) (Nat.le_of_ble_eq_true rfl) (Nat.le_of_ble_eq_true rfl) (q_okV_r (by omega) (q_okV_n q_okV_0)) (q_okS_r (by omega) q_okS_0) (Nat.le_of_ble_eq_true rfl) (Nat.le_of_ble_eq_true rfl) (fun ad C F => ?_)
  refine g_putF (pc := 35) C ff8_19 dX8_init_35 rfl ((q_up_n _ _ (by decide)).trans (q_up_s _ _ _)) (Nat.le_of_ble_eq_true rfl) (Nat.le_of_ble_eq_true rfl) ?_
  refine g_aload_n (pc := 38) C (hl := rfl) dX8_init_38 ?_
  refine g_sipush (pc := 39) C qk_sipush_320 dX8_init_39 ?_
  refine g_newi (pc := 42) C (N := 320) F q_NA.pp zw1_43 dX8_init_42 (by decide) (by decide) (by decide) (Nat.le_of_ble_eq_true rfl) (Nat.le_of_ble_eq_true rfl) (q_okV_r (by omega) (q_okV_n q_okV_0)) (q_okS_r (by omega) q_okS_0) (Nat.le_of_ble_eq_true rfl) (Nat.le_of_ble_eq_true rfl) (fun ad C F => ?_)
  refine g_putF (pc := 44) C ff8_22 dX8_init_44 rfl ((q_up_n _ _ (by decide)).trans (q_up_s _ _ _)) (Nat.le_of_ble_eq_true rfl) (Nat.le_of_ble_eq_true rfl) ?_
  refine g_aload_n (pc := 47) C (hl := rfl) dX8_init_47 ?_
  refine g_bipush (pc := 48) C qk_bipush_40 dX8_init_48 ?_
  refine g_newi (pc := 50) C (N := 40) F q_NA.pp zw1_43 dX8_init_50 (by decide) (by decide) (by decide) (Nat.le_of_ble_eq_true rfl) (Nat.le_of_ble_eq_true rfl) (q_okV_r (by omega) (q_okV_n q_okV_0)) (q_okS_r (by omega) q_okS_0) (Nat.le_of_ble_eq_true rfl) (Nat.le_of_ble_eq_true rfl) (fun ad C F => ?_)
  refine g_putF (pc := 52) C ff8_25 dX8_init_52 rfl ((q_up_n _ _ (by decide)).trans (q_up_s _ _ _)) (Nat.le_of_ble_eq_true rfl) (Nat.le_of_ble_eq_true rfl) ?_
  refine g_aload_n (pc := 55) C (hl := rfl) dX8_init_55 ?_
  refine g_iconst (pc := 56) C qk_iconst_2 dX8_init_56 ?_
  refine g_newz (pc := 57) C (N := 2) F q_NA.pp zw4_153 dX8_init_57 (by decide) (by decide) (by decide) (Nat.le_of_ble_eq_true rfl) (Nat.le_of_ble_eq_true rfl) (q_okV_r (by omega) (q_okV_n q_okV_0)) (q_okS_r (by omega) q_okS_0) (Nat.le_of_ble_eq_true rfl) (Nat.le_of_ble_eq_true rfl) (fun ad C F => ?_)
  refine g_putF (pc := 59) C ff8_28 dX8_init_59 rfl ((q_up_n _ _ (by decide)).trans (q_up_s _ _ _)) (Nat.le_of_ble_eq_true rfl) (Nat.le_of_ble_eq_true rfl) ?_
  refine g_aload_n (pc := 62) C (hl := rfl) dX8_init_62 ?_
  refine g_bipush (pc := 63) C qk_bipush_16 dX8_init_63 ?_
  refine g_newi (pc := 65) C (N := 16) F q_NA.pp zw1_43 dX8_init_65 (by decide) (by decide) (by decide) (Nat.le_of_ble_eq_true rfl) (Nat.le_of_ble_eq_true rfl) (q_okV_r (by omega) (q_okV_n q_okV_0)) (q_okS_r (by omega) q_okS_0) (Nat.le_of_ble_eq_true rfl) (Nat.le_of_ble_eq_true rfl) (fun ad C F => ?_)
  refine g_putF (pc := 67) C ff8_32 dX8_init_67 rfl ((q_up_n _ _ (by decide)).trans (q_up_s _ _ _)) (Nat.le_of_ble_eq_true rfl) (Nat.le_of_ble_eq_true rfl) ?_
  refine g_iconst (pc := 70) C qk_iconst_0 dX8_init_70 ?_
  refine g_istore_n (pc := 71) C rfl dX8_init_71 ?_
  exact l8_init C F 9 0 _ _ (by decide) (by decide) (q_up_s _ _ _) ((q_up_n _ _ (by decide)).trans ((q_up_n _ _ (by decide)).trans ((q_up_n _ _ (by decide)).trans ((q_up_n _ _ (by decide)).trans ((q_up_n _ _ (by decide)).trans ((q_up_n _ _ (by decide)).trans ((q_up_n _ _ (by decide)).trans ((q_up_n _ _ (by decide)).trans ((q_up_n _ _ (by decide)).trans ((q_up_n _ _ (by decide)).trans ((q_up_n _ _ (by decide)).trans (q_up_s _ _ _)))))))))))) (fun j hj => absurd hj (Nat.not_lt_zero j)) rfl
