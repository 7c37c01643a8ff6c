theorem g_ialdV {Γ : q_X} {ad : Nat → Nat} {d mc ms : Nat} {own : String} {y : MethodName} {cc : ByteArray} {nL : Nat} {ret : Option FieldType} {pc : Nat} {la : List (Option Value)} {st : List Value} {n : Nat} {h : q_H} {k1 k2 : Nat} (C : q_C Γ ad d mc ms own y cc nL ret) {a N j v : Nat} {f : Nat → Nat} (hdg : decode cc pc = .ok (.iaload, 1)) (hh : h a = .inl (0, N, qN f)) (hj : j < N ∧ N < 2 ^ 31) (hv : f j = v) (kk : q_G Γ ad nL (pc + 1) la (.int (nI v) :: st) n h k1 k2) : q_G Γ ad nL pc la (.int (nI j) :: .ref a :: st) n h k1 k2 := g_ialdN C hdg hh hj (by rw [hv]; exact kk)
theorem g_iastV {Γ : q_X} {ad : Nat → Nat} {d mc ms : Nat} {own : String} {y : MethodName} {cc : ByteArray} {nL : Nat} {ret : Option FieldType} {pc : Nat} {la : List (Option Value)} {st : List Value} {n : Nat} {h : q_H} {k1 k2 : Nat} (C : q_C Γ ad d mc ms own y cc nL ret) {a N j x : Nat} {f F : Nat → Nat} (hdg : decode cc pc = .ok (.iastore, 1)) (hh : h a = .inl (0, N, qN f)) (hj : j < N ∧ N < 2 ^ 31) (hv : va_up f j x = F) (kk : q_G Γ ad nL (pc + 1) la st n (q_up h a (.inl (0, N, qN F))) k1 k2) : q_G Γ ad nL pc la (.int (nI x) :: .int (nI j) :: .ref a :: st) n h k1 k2 := g_iastN C hdg hh hj (by rw [hv]; exact kk)
theorem g_iremE {Γ : q_X} {ad : Nat → Nat} {d mc ms : Nat} {own : String} {y : MethodName} {cc : ByteArray} {nL : Nat} {ret : Option FieldType} {pc : Nat} {la : List (Option Value)} {st : List Value} {n : Nat} {h : q_H} {k1 k2 : Nat} (C : q_C Γ ad d mc ms own y cc nL ret) {x z w : Int32} (hne : ¬ z = 0) (hw : x - x / z * z = w) (hdg : decode cc pc = .ok (.irem, 1)) (kk : q_G Γ ad nL (pc + 1) la (.int w :: st) n h k1 k2) : q_G Γ ad nL pc la (.int z :: .int x :: st) n h k1 k2 := g_irem C hne hdg (by rw [hw]; exact kk)
/-- a row of the model's numbers: as many, turn, minute, then sorts, wants, eaten, seats, portions, slots -/
def wRo (g : Nat) (x : mX) (j : Nat) : Nat := if j = 0 then g else if j = 1 then x.2.1 else if j = 2 then x.2.2.1 else if j < 9 then x.1 (0 + (j - 3)) else if j < 15 then x.1 (6 + (j - 9)) else if j < 21 then x.1 (18 + (j - 15)) else if j < 27 then x.1 (12 + (j - 21)) else if j < 33 then x.1 (24 + (j - 27)) else x.1 (30 + (j - 33))
def wPut (W : Nat → Nat) (r g : Nat) (x : mX) : Nat → Nat := fun k => if r ≤ k ∧ k < r + 39 then wRo g x (k - r) else W k
def wT (W : Nat → Nat) (r g : Nat) (x : mX) : Prop := ∀ j, j < 39 → W (r + j) = wRo g x j
theorem wT_put (W : Nat → Nat) (r g : Nat) (x : mX) : wT (wPut W r g x) r g x := fun j hj => by
  unfold wPut
  rw [if_pos (by omega), Nat.add_sub_cancel_left]
theorem wPut_self {W : Nat → Nat} {r g : Nat} {x : mX} (T : wT W r g x) : wPut W r g x = W := by
  funext k
  unfold wPut
  split
  · have := T (k - r) (by omega)
    rw [show r + (k - r) = k by omega] at this
    exact this.symm
  · rfl
theorem wPut_put (W : Nat → Nat) (r g g2 : Nat) (x z : mX) : wPut (wPut W r g x) r g2 z = wPut W r g2 z := by
  funext k
  unfold wPut
  split <;> rfl
theorem wPut_o {W : Nat → Nat} {r g k : Nat} {x : mX} (h : k < r ∨ r + 39 ≤ k) : wPut W r g x k = W k := by
  unfold wPut
  rw [if_neg (by omega)]
theorem wT_o {W : Nat → Nat} {r s g g2 : Nat} {x z : mX} (h : r + 39 ≤ s ∨ s + 39 ≤ r) (T : wT W s g2 z) : wT (wPut W r g x) s g2 z := fun j hj => by
  rw [wPut_o (by omega)]
  exact T j hj
/-- only turn, minute and cells count -/
def wQ (x z : mX) : Prop := x.1 = z.1 ∧ x.2.1 = z.2.1 ∧ x.2.2.1 = z.2.2.1
theorem wQ_r (x : mX) : wQ x x := ⟨rfl, rfl, rfl⟩
theorem wQ_s {x z : mX} (h : wQ x z) : wQ z x := ⟨h.1.symm, h.2.1.symm, h.2.2.symm⟩
theorem wRo_Q {g j : Nat} {x z : mX} (h : wQ x z) : wRo g x j = wRo g z j := by
  obtain ⟨h1, h2, h3⟩ := h
  unfold wRo
  rw [h1, h2, h3]
theorem wPut_Q {W : Nat → Nat} {r g : Nat} {x z : mX} (h : wQ x z) : wPut W r g x = wPut W r g z := by
  funext k
  unfold wPut
  rw [wRo_Q h]
theorem wT_Q {W : Nat → Nat} {r g : Nat} {x z : mX} (h : wQ x z) (T : wT W r g x) : wT W r g z := fun j hj => (T j hj).trans (wRo_Q h)
theorem mNext_Q {g : Nat} {x z : mX} (h : wQ x z) : mNext g x = mNext g z := by
  obtain ⟨h1, h2, h3⟩ := h
  unfold mNext
  rw [h1, h2, h3]
theorem mW_Q {g : Nat} {x z : mX} (h : wQ x z) (v : mW g x) : mW g z := by
  obtain ⟨h1, h2, h3⟩ := h
  unfold mW at v ⊢
  rw [← h1, ← h2, ← h3]
  exact v
theorem mPass_Q {g lim : Nat} {x z : mX} (h : wQ x z) : ∀ (m S : Nat), (mPass g lim m S x).1 = (mPass g lim m S z).1 ∧ wQ (mPass g lim m S x).2 (mPass g lim m S z).2
  | 0, _ => ⟨rfl, h⟩
  | m + 1, S => by
    unfold mPass
    rw [mNext_Q h]
    split
    · exact ⟨rfl, wQ_r _⟩
    · exact ⟨rfl, h⟩
theorem wT_n {W : Nat → Nat} {r g : Nat} {x : mX} (T : wT W r g x) : W (r + 0) = g := T 0 (by decide)
theorem wT_t {W : Nat → Nat} {r g : Nat} {x : mX} (T : wT W r g x) : W (r + 1) = x.2.1 := T 1 (by decide)
theorem wT_m {W : Nat → Nat} {r g : Nat} {x : mX} (T : wT W r g x) : W (r + 2) = x.2.2.1 := T 2 (by decide)
theorem wT_so {W : Nat → Nat} {r g : Nat} {x : mX} (T : wT W r g x) {i : Nat} (hi : i < 6) : W (r + 3 + i) = x.1 (0 + i) := by
  have h := T (3 + i) (by omega)
  rw [← Nat.add_assoc] at h
  rw [h]
  unfold wRo
  rw [if_neg (by omega)]; rw [if_neg (by omega)]; rw [if_neg (by omega)];  rw [if_pos (by omega)]
  exact congrArg x.1 (by omega)
theorem wT_wa {W : Nat → Nat} {r g : Nat} {x : mX} (T : wT W r g x) {i : Nat} (hi : i < 6) : W (r + 9 + i) = x.1 (6 + i) := by
  have h := T (9 + i) (by omega)
  rw [← Nat.add_assoc] at h
  rw [h]
  unfold wRo
  rw [if_neg (by omega)]; rw [if_neg (by omega)]; rw [if_neg (by omega)]; rw [if_neg (by omega)]; rw [if_pos (by omega)]
  exact congrArg x.1 (by omega)
theorem wT_ea {W : Nat → Nat} {r g : Nat} {x : mX} (T : wT W r g x) {i : Nat} (hi : i < 6) : W (r + 15 + i) = x.1 (18 + i) := by
  have h := T (15 + i) (by omega)
  rw [← Nat.add_assoc] at h
  rw [h]
  unfold wRo
  rw [if_neg (by omega)]; rw [if_neg (by omega)]; rw [if_neg (by omega)]; rw [if_neg (by omega)]; rw [if_neg (by omega)]; rw [if_pos (by omega)]
  exact congrArg x.1 (by omega)
theorem wT_se {W : Nat → Nat} {r g : Nat} {x : mX} (T : wT W r g x) {i : Nat} (hi : i < 6) : W (r + 21 + i) = x.1 (12 + i) := by
  have h := T (21 + i) (by omega)
  rw [← Nat.add_assoc] at h
  rw [h]
  unfold wRo
  rw [if_neg (by omega)]; rw [if_neg (by omega)]; rw [if_neg (by omega)]; rw [if_neg (by omega)]; rw [if_neg (by omega)]; rw [if_neg (by omega)]; rw [if_pos (by omega)]
  exact congrArg x.1 (by omega)
theorem wT_po {W : Nat → Nat} {r g : Nat} {x : mX} (T : wT W r g x) {i : Nat} (hi : i < 6) : W (r + 27 + i) = x.1 (24 + i) := by
  have h := T (27 + i) (by omega)
  rw [← Nat.add_assoc] at h
  rw [h]
  unfold wRo
  rw [if_neg (by omega)]; rw [if_neg (by omega)]; rw [if_neg (by omega)]; rw [if_neg (by omega)]; rw [if_neg (by omega)]; rw [if_neg (by omega)]; rw [if_neg (by omega)]; rw [if_pos (by omega)]
  exact congrArg x.1 (by omega)
theorem wT_sl {W : Nat → Nat} {r g : Nat} {x : mX} (T : wT W r g x) {i : Nat} (hi : i < 6) : W (r + 33 + i) = x.1 (30 + i) := by
  have h := T (33 + i) (by omega)
  rw [← Nat.add_assoc] at h
  rw [h]
  unfold wRo
  rw [if_neg (by omega)]; rw [if_neg (by omega)]; rw [if_neg (by omega)]; rw [if_neg (by omega)]; rw [if_neg (by omega)]; rw [if_neg (by omega)]; rw [if_neg (by omega)]; rw [if_neg (by omega)]; skip
  exact congrArg x.1 (by omega)
theorem wT0_n {W : Nat → Nat} {g : Nat} {x : mX} (T : wT W 0 g x) : W 0 = g := wT_n T
theorem wT0_t {W : Nat → Nat} {g : Nat} {x : mX} (T : wT W 0 g x) : W 1 = x.2.1 := wT_t T
theorem wT0_m {W : Nat → Nat} {g : Nat} {x : mX} (T : wT W 0 g x) : W 2 = x.2.2.1 := wT_m T
theorem wT0_so {W : Nat → Nat} {g : Nat} {x : mX} (T : wT W 0 g x) {i : Nat} (hi : i < 6) : W (3 + i) = x.1 (0 + i) := wT_so T hi
theorem wT0_wa {W : Nat → Nat} {g : Nat} {x : mX} (T : wT W 0 g x) {i : Nat} (hi : i < 6) : W (9 + i) = x.1 (6 + i) := wT_wa T hi
theorem wT0_ea {W : Nat → Nat} {g : Nat} {x : mX} (T : wT W 0 g x) {i : Nat} (hi : i < 6) : W (15 + i) = x.1 (18 + i) := wT_ea T hi
theorem wT0_se {W : Nat → Nat} {g : Nat} {x : mX} (T : wT W 0 g x) {i : Nat} (hi : i < 6) : W (21 + i) = x.1 (12 + i) := wT_se T hi
theorem wT0_po {W : Nat → Nat} {g : Nat} {x : mX} (T : wT W 0 g x) {i : Nat} (hi : i < 6) : W (27 + i) = x.1 (24 + i) := wT_po T hi
theorem wT0_sl {W : Nat → Nat} {g : Nat} {x : mX} (T : wT W 0 g x) {i : Nat} (hi : i < 6) : W (33 + i) = x.1 (30 + i) := wT_sl T hi
theorem wT3_n {W : Nat → Nat} {g : Nat} {x : mX} (T : wT W 1053 g x) : W 1053 = g := wT_n T
theorem wT3_t {W : Nat → Nat} {g : Nat} {x : mX} (T : wT W 1053 g x) : W 1054 = x.2.1 := wT_t T
theorem wT3_m {W : Nat → Nat} {g : Nat} {x : mX} (T : wT W 1053 g x) : W 1055 = x.2.2.1 := wT_m T
theorem wT3_so {W : Nat → Nat} {g : Nat} {x : mX} (T : wT W 1053 g x) {i : Nat} (hi : i < 6) : W (1056 + i) = x.1 (0 + i) := wT_so T hi
theorem wT3_wa {W : Nat → Nat} {g : Nat} {x : mX} (T : wT W 1053 g x) {i : Nat} (hi : i < 6) : W (1062 + i) = x.1 (6 + i) := wT_wa T hi
theorem wT3_ea {W : Nat → Nat} {g : Nat} {x : mX} (T : wT W 1053 g x) {i : Nat} (hi : i < 6) : W (1068 + i) = x.1 (18 + i) := wT_ea T hi
theorem wT3_se {W : Nat → Nat} {g : Nat} {x : mX} (T : wT W 1053 g x) {i : Nat} (hi : i < 6) : W (1074 + i) = x.1 (12 + i) := wT_se T hi
theorem wT3_po {W : Nat → Nat} {g : Nat} {x : mX} (T : wT W 1053 g x) {i : Nat} (hi : i < 6) : W (1080 + i) = x.1 (24 + i) := wT_po T hi
theorem wT3_sl {W : Nat → Nat} {g : Nat} {x : mX} (T : wT W 1053 g x) {i : Nat} (hi : i < 6) : W (1086 + i) = x.1 (30 + i) := wT_sl T hi
theorem wT2_n {W : Nat → Nat} {g : Nat} {x : mX} (T : wT W 1092 g x) : W 1092 = g := wT_n T
theorem wT2_t {W : Nat → Nat} {g : Nat} {x : mX} (T : wT W 1092 g x) : W 1093 = x.2.1 := wT_t T
theorem wT2_m {W : Nat → Nat} {g : Nat} {x : mX} (T : wT W 1092 g x) : W 1094 = x.2.2.1 := wT_m T
theorem wT2_so {W : Nat → Nat} {g : Nat} {x : mX} (T : wT W 1092 g x) {i : Nat} (hi : i < 6) : W (1095 + i) = x.1 (0 + i) := wT_so T hi
theorem wT2_wa {W : Nat → Nat} {g : Nat} {x : mX} (T : wT W 1092 g x) {i : Nat} (hi : i < 6) : W (1101 + i) = x.1 (6 + i) := wT_wa T hi
theorem wT2_ea {W : Nat → Nat} {g : Nat} {x : mX} (T : wT W 1092 g x) {i : Nat} (hi : i < 6) : W (1107 + i) = x.1 (18 + i) := wT_ea T hi
theorem wT2_se {W : Nat → Nat} {g : Nat} {x : mX} (T : wT W 1092 g x) {i : Nat} (hi : i < 6) : W (1113 + i) = x.1 (12 + i) := wT_se T hi
theorem wT2_po {W : Nat → Nat} {g : Nat} {x : mX} (T : wT W 1092 g x) {i : Nat} (hi : i < 6) : W (1119 + i) = x.1 (24 + i) := wT_po T hi
theorem wT2_sl {W : Nat → Nat} {g : Nat} {x : mX} (T : wT W 1092 g x) {i : Nat} (hi : i < 6) : W (1125 + i) = x.1 (30 + i) := wT_sl T hi
theorem wS_g {W : Nat → Nat} {r g k v : Nat} {x z : mX} (T : wT W r g x) {j : Nat} (hk : k = r + j) (hj : j < 39) (h : ∀ i, i < 39 → (if i = j then v else wRo g x i) = wRo g z i) : va_up W k v = wPut W r g z := by
  subst hk
  funext q
  unfold va_up wPut
  by_cases hq : r ≤ q ∧ q < r + 39
  · rw [if_pos hq, ← h (q - r) (by omega)]
    by_cases he : q = r + j
    · rw [if_pos he, if_pos (by omega)]
    · rw [if_neg he, if_neg (by omega), ← T (q - r) (by omega), show r + (q - r) = q by omega]
  · rw [if_neg hq, if_neg (by omega)]
theorem wS_t {W : Nat → Nat} {r g v : Nat} {x : mX} (T : wT W r g x) : va_up W (r + 1) v = wPut W r g (x.1, v, x.2.2) := wS_g T rfl (by decide) (fun i hi => by
  unfold wRo
  by_cases h : i = 1
  · subst h; rfl
  · simp only [if_neg h])
theorem wS_m {W : Nat → Nat} {r g v : Nat} {x : mX} (T : wT W r g x) : va_up W (r + 2) v = wPut W r g (x.1, x.2.1, v, x.2.2.2) := wS_g T rfl (by decide) (fun i hi => by
  unfold wRo
  by_cases h : i = 2
  · subst h; rfl
  · simp only [if_neg h])
theorem wS_c {W : Nat → Nat} {r g v : Nat} {x : mX} (T : wT W r g x) (o c : Nat) (i : Nat) (hoc : (o = 3 ∧ c = 0) ∨ (o = 9 ∧ c = 6) ∨ (o = 15 ∧ c = 18) ∨ (o = 21 ∧ c = 12) ∨ (o = 27 ∧ c = 24) ∨ (o = 33 ∧ c = 30)) (hi : i < 6) : va_up W (r + o + i) v = wPut W r g (va_up x.1 (c + i) v, x.2) := wS_g T (Nat.add_assoc _ _ _) (by omega) (fun q hq => by
  unfold wRo va_up
  dsimp only
  repeat' split
  all_goals first | rfl | omega | (exact absurd (by omega) (by assumption)))
theorem wS_so {W : Nat → Nat} {r g v : Nat} {x : mX} (T : wT W r g x) {i : Nat} (hi : i < 6) : va_up W (r + 3 + i) v = wPut W r g (va_up x.1 (0 + i) v, x.2) := wS_c T 3 0 i (by omega) hi
theorem wS0_so {W : Nat → Nat} {g v : Nat} {x : mX} (T : wT W 0 g x) {i : Nat} (hi : i < 6) : va_up W (3 + i) v = wPut W 0 g (va_up x.1 (0 + i) v, x.2) := wS_so T hi
theorem wS3_so {W : Nat → Nat} {g v : Nat} {x : mX} (T : wT W 1053 g x) {i : Nat} (hi : i < 6) : va_up W (1056 + i) v = wPut W 1053 g (va_up x.1 (0 + i) v, x.2) := wS_so T hi
theorem wS2_so {W : Nat → Nat} {g v : Nat} {x : mX} (T : wT W 1092 g x) {i : Nat} (hi : i < 6) : va_up W (1095 + i) v = wPut W 1092 g (va_up x.1 (0 + i) v, x.2) := wS_so T hi
theorem wS_wa {W : Nat → Nat} {r g v : Nat} {x : mX} (T : wT W r g x) {i : Nat} (hi : i < 6) : va_up W (r + 9 + i) v = wPut W r g (va_up x.1 (6 + i) v, x.2) := wS_c T 9 6 i (by omega) hi
theorem wS0_wa {W : Nat → Nat} {g v : Nat} {x : mX} (T : wT W 0 g x) {i : Nat} (hi : i < 6) : va_up W (9 + i) v = wPut W 0 g (va_up x.1 (6 + i) v, x.2) := wS_wa T hi
theorem wS3_wa {W : Nat → Nat} {g v : Nat} {x : mX} (T : wT W 1053 g x) {i : Nat} (hi : i < 6) : va_up W (1062 + i) v = wPut W 1053 g (va_up x.1 (6 + i) v, x.2) := wS_wa T hi
theorem wS2_wa {W : Nat → Nat} {g v : Nat} {x : mX} (T : wT W 1092 g x) {i : Nat} (hi : i < 6) : va_up W (1101 + i) v = wPut W 1092 g (va_up x.1 (6 + i) v, x.2) := wS_wa T hi
theorem wS_ea {W : Nat → Nat} {r g v : Nat} {x : mX} (T : wT W r g x) {i : Nat} (hi : i < 6) : va_up W (r + 15 + i) v = wPut W r g (va_up x.1 (18 + i) v, x.2) := wS_c T 15 18 i (by omega) hi
theorem wS0_ea {W : Nat → Nat} {g v : Nat} {x : mX} (T : wT W 0 g x) {i : Nat} (hi : i < 6) : va_up W (15 + i) v = wPut W 0 g (va_up x.1 (18 + i) v, x.2) := wS_ea T hi
theorem wS3_ea {W : Nat → Nat} {g v : Nat} {x : mX} (T : wT W 1053 g x) {i : Nat} (hi : i < 6) : va_up W (1068 + i) v = wPut W 1053 g (va_up x.1 (18 + i) v, x.2) := wS_ea T hi
theorem wS2_ea {W : Nat → Nat} {g v : Nat} {x : mX} (T : wT W 1092 g x) {i : Nat} (hi : i < 6) : va_up W (1107 + i) v = wPut W 1092 g (va_up x.1 (18 + i) v, x.2) := wS_ea T hi
theorem wS_se {W : Nat → Nat} {r g v : Nat} {x : mX} (T : wT W r g x) {i : Nat} (hi : i < 6) : va_up W (r + 21 + i) v = wPut W r g (va_up x.1 (12 + i) v, x.2) := wS_c T 21 12 i (by omega) hi
theorem wS0_se {W : Nat → Nat} {g v : Nat} {x : mX} (T : wT W 0 g x) {i : Nat} (hi : i < 6) : va_up W (21 + i) v = wPut W 0 g (va_up x.1 (12 + i) v, x.2) := wS_se T hi
theorem wS3_se {W : Nat → Nat} {g v : Nat} {x : mX} (T : wT W 1053 g x) {i : Nat} (hi : i < 6) : va_up W (1074 + i) v = wPut W 1053 g (va_up x.1 (12 + i) v, x.2) := wS_se T hi
theorem wS2_se {W : Nat → Nat} {g v : Nat} {x : mX} (T : wT W 1092 g x) {i : Nat} (hi : i < 6) : va_up W (1113 + i) v = wPut W 1092 g (va_up x.1 (12 + i) v, x.2) := wS_se T hi
theorem wS_po {W : Nat → Nat} {r g v : Nat} {x : mX} (T : wT W r g x) {i : Nat} (hi : i < 6) : va_up W (r + 27 + i) v = wPut W r g (va_up x.1 (24 + i) v, x.2) := wS_c T 27 24 i (by omega) hi
theorem wS0_po {W : Nat → Nat} {g v : Nat} {x : mX} (T : wT W 0 g x) {i : Nat} (hi : i < 6) : va_up W (27 + i) v = wPut W 0 g (va_up x.1 (24 + i) v, x.2) := wS_po T hi
theorem wS3_po {W : Nat → Nat} {g v : Nat} {x : mX} (T : wT W 1053 g x) {i : Nat} (hi : i < 6) : va_up W (1080 + i) v = wPut W 1053 g (va_up x.1 (24 + i) v, x.2) := wS_po T hi
theorem wS2_po {W : Nat → Nat} {g v : Nat} {x : mX} (T : wT W 1092 g x) {i : Nat} (hi : i < 6) : va_up W (1119 + i) v = wPut W 1092 g (va_up x.1 (24 + i) v, x.2) := wS_po T hi
theorem wS_sl {W : Nat → Nat} {r g v : Nat} {x : mX} (T : wT W r g x) {i : Nat} (hi : i < 6) : va_up W (r + 33 + i) v = wPut W r g (va_up x.1 (30 + i) v, x.2) := wS_c T 33 30 i (by omega) hi
theorem wS0_sl {W : Nat → Nat} {g v : Nat} {x : mX} (T : wT W 0 g x) {i : Nat} (hi : i < 6) : va_up W (33 + i) v = wPut W 0 g (va_up x.1 (30 + i) v, x.2) := wS_sl T hi
theorem wS3_sl {W : Nat → Nat} {g v : Nat} {x : mX} (T : wT W 1053 g x) {i : Nat} (hi : i < 6) : va_up W (1086 + i) v = wPut W 1053 g (va_up x.1 (30 + i) v, x.2) := wS_sl T hi
theorem wS2_sl {W : Nat → Nat} {g v : Nat} {x : mX} (T : wT W 1092 g x) {i : Nat} (hi : i < 6) : va_up W (1125 + i) v = wPut W 1092 g (va_up x.1 (30 + i) v, x.2) := wS_sl T hi
theorem wS2 {W : Nat → Nat} {r g : Nat} {x z : mX} {k v : Nat} (h : va_up (wPut W r g x) k v = wPut (wPut W r g x) r g z) : va_up (wPut W r g x) k v = wPut W r g z := h.trans (wPut_put _ _ _ _ _ _)
theorem q_em (z : Int) (g : Nat) (hg : 0 < g) : z % g = if 0 ≤ z.tmod g then z.tmod g else z.tmod g + g := by
  have hgI : (0 : Int) < (g : Int) := by omega
  have b1 : z.tmod g < g := Int.tmod_lt_of_pos _ hgI
  have b2 : -(g : Int) < z.tmod g := Int.lt_tmod_of_pos _ hgI
  have h0 := Int.emod_nonneg z (by omega : (g : Int) ≠ 0)
  have h1 := Int.emod_lt_of_pos z hgI
  have h2 := Int.mul_tdiv_add_tmod z g
  have h3 := Int.mul_ediv_add_emod z g
  have key : ∃ k : Int, z % g - z.tmod g = g * k := ⟨z.tdiv g - z / g, by rw [Int.mul_sub]; omega⟩
  obtain ⟨k, hk⟩ := key
  split
  · have : k = 0 := by
      rcases Int.lt_trichotomy k 0 with z | z | z
      · have : (g : Int) * k ≤ g * (-1) := Int.mul_le_mul_of_nonneg_left (by omega) (by omega)
        omega
      · exact z
      · have : (g : Int) * 1 ≤ g * k := Int.mul_le_mul_of_nonneg_left (by omega) (by omega)
        omega
    subst this
    omega
  · have : k = 1 := by
      rcases Int.lt_trichotomy k 1 with z | z | z
      · have : (g : Int) * k ≤ g * 0 := Int.mul_le_mul_of_nonneg_left (by omega) (by omega)
        omega
      · exact z
      · have : (g : Int) * 2 ≤ g * k := Int.mul_le_mul_of_nonneg_left (by omega) (by omega)
        omega
    subst this
    omega
theorem q_tr {z : Int} {g : Nat} (hg : 0 < g ∧ g < 1000) (h1 : -1000000000 < z) (h2 : z < 1000000000) : qI z - qI z / nI g * nI g = qI (z.tmod g) := by
  rw [qI_N g, qI_div (by omega) (by omega) (by omega) (by omega), qI_mul, qI_sub]
  congr 1
  have := Int.tmod_add_mul_tdiv z g
  rw [Int.mul_comm] at this
  omega
theorem q_tr2 {z : Int} {g : Nat} (hg : 0 < g ∧ g < 1000) : qI (z.tmod g + g) = nI (z.tmod g + g).toNat := by
  have hgI : (0 : Int) < (g : Int) := by omega
  have b2 : -(g : Int) < z.tmod g := Int.lt_tmod_of_pos _ hgI
  rw [qI_N, Int.toNat_of_nonneg (by omega)]
theorem q_tr3 {z : Int} {g : Nat} (hg : 0 < g ∧ g < 1000) : (z.tmod g + g).toNat % g = (z % g).toNat ∧ (z.tmod g + g).toNat < 2000 := by
  have hgI : (0 : Int) < (g : Int) := by omega
  have b1 : z.tmod g < g := Int.tmod_lt_of_pos _ hgI
  have b2 : -(g : Int) < z.tmod g := Int.lt_tmod_of_pos _ hgI
  refine ⟨?_, by omega⟩
  have e := q_em z g hg.1
  split at e
  · rw [e, show (z.tmod g + g).toNat = (z.tmod g).toNat + g by omega, Nat.add_mod_right, Nat.mod_eq_of_lt (by omega)]
  · rw [e, Nat.mod_eq_of_lt (by omega)]
theorem q_lf {a b c g : Nat} (hb : b < g) (hc : c < g) : (a + 2 * g - b - c) % g = (((a : Int) - b - c) % (g : Int)).toNat := by
  have e : ((a : Int) - b - c) % (g : Int) = ((a + 2 * g - b - c : Nat) : Int) % (g : Int) := by
    rw [show ((a + 2 * g - b - c : Nat) : Int) = ((a : Int) - b - c) + g * 2 by omega, Int.add_mul_emod_self_left]
  rw [e, ← Int.natCast_emod, Int.toNat_natCast]
abbrev MX (un ta fl st sa ne so di pa tr : Nat) (x : mX) : q_E := MO un ta fl st sa ne so di x.2.2.2.2.1 x.2.2.2.2.2.2 x.2.2.2.1 x.2.2.2.2.2.1 pa tr
set_option maxHeartbeats 2000000 in
set_option maxRecDepth 20000 in
theorem s8_turnBy {n : Nat} {h : q_H} {un ta fl st sa ne so di pu at_ er en pa tr r g : Nat} {W : Nat → Nat} {x : mX} (z : Int) (h0 : h 87 = MO un ta fl st sa ne so di pu at_ er en pa tr) (hW : h 88 = WA W) (T : wT W r g x) (hr : r + 39 ≤ 1131) (hg : 0 < g ∧ g < 1000) (ht : x.2.1 < 1000000) (hz : -1000000 < z ∧ z < 1000000) : SP 0 yX8_turnBy cX8_turnBy 4 none [.ref 87, .int (nI r), .int (qI z)] n h none (q_up h 88 (WA (wPut W r g (x.1, mTurn g x.2.1 z, x.2.2)))) := by
  refine q_SPi RX8 rfl (by decide +kernel) (la := _) rfl rfl (fun Γ ad C F => ?_)
  refine g_aload_n (pc := 0) C (hl := rfl) dX8_turnBy_0 ?_
  refine g_get (pc := 1) C fl8_7 dX8_turnBy_1 h0 rfl ?_
  refine g_iload_n (pc := 4) C (hl := rfl) dX8_turnBy_4 ?_
  refine g_iconst (pc := 5) C qk_iconst_0 dX8_turnBy_5 ?_
  refine g_iaddN (pc := 6) C dX8_turnBy_6 ?_
  refine g_ialdV (pc := 7) C dX8_turnBy_7 hW (by omega) (wT_n T) ?_
  refine g_istore_n (pc := 8) C rfl dX8_turnBy_8 ?_
  refine g_aload_n (pc := 9) C (hl := rfl) dX8_turnBy_9 ?_
  refine g_get (pc := 10) C fl8_7 dX8_turnBy_10 h0 rfl ?_
  refine g_iload_n (pc := 13) C (hl := rfl) dX8_turnBy_13 ?_
  refine g_iconst (pc := 14) C qk_iconst_1 dX8_turnBy_14 ?_
  refine g_iaddN (pc := 15) C dX8_turnBy_15 ?_
  refine g_aload_n (pc := 16) C (hl := rfl) dX8_turnBy_16 ?_
  refine g_get (pc := 17) C fl8_7 dX8_turnBy_17 h0 rfl ?_
  refine g_iload_n (pc := 20) C (hl := rfl) dX8_turnBy_20 ?_
  refine g_iconst (pc := 21) C qk_iconst_1 dX8_turnBy_21 ?_
  refine g_iaddN (pc := 22) C dX8_turnBy_22 ?_
  refine g_ialdV (pc := 23) C dX8_turnBy_23 hW (by omega) (wT_t T) ?_
  refine g_iload_n (pc := 24) C (hl := rfl) dX8_turnBy_24 ?_
  refine g_iaddE (pc := 25) C (w := qI ((x.2.1 : Int) + z)) (by rw [qI_N, qI_add]) dX8_turnBy_25 ?_
  refine g_iload_n (pc := 26) C (hl := rfl) dX8_turnBy_26 ?_
  refine g_iremE (pc := 27) C (nI_ne0 hg.1 (by omega)) (q_tr hg (by omega) (by omega)) dX8_turnBy_27 ?_
  refine g_iload_n (pc := 28) C (hl := rfl) dX8_turnBy_28 ?_
  refine g_iaddE (pc := 29) C (w := nI (((x.2.1 : Int) + z).tmod g + g).toNat) (by rw [qI_N g, qI_add]; exact q_tr2 hg) dX8_turnBy_29 ?_
  refine g_iload_n (pc := 30) C (hl := rfl) dX8_turnBy_30 ?_
  refine g_iremN (pc := 31) C dX8_turnBy_31 ⟨Nat.lt_trans (q_tr3 hg).2 (by decide), hg.1, by omega⟩ ?_
  refine g_iastV (pc := 32) C dX8_turnBy_32 hW (by omega) (wS_t T) ?_
  exact g_vret (pc := 33) C F dX8_turnBy_33 rfl rfl (by rw [(q_tr3 hg).1]; rfl)
set_option maxHeartbeats 2000000 in
set_option maxRecDepth 20000 in
theorem s8_leftTo {n : Nat} {h : q_H} {un ta fl st sa ne so di pu at_ er en pa tr r g : Nat} {W : Nat → Nat} {x : mX} (j : Nat) (h0 : h 87 = MO un ta fl st sa ne so di pu at_ er en pa tr) (hW : h 88 = WA W) (T : wT W r g x) (hr : r + 39 ≤ 1131) (hv : mW g x) (hj : j < g) : SP 0 yX8_leftTo cX8_leftTo 4 (some .int) [.ref 87, .int (nI r), .int (nI j)] n h (some (.int (nI (mLeft x.1 g x.2.1 j (x.1 (6 + j)))))) h := by
  refine q_SPi RX8 rfl (by decide +kernel) (la := _) rfl rfl (fun Γ ad C F => ?_)
  have v1 := hv.1
  have v2 := hv.2.1 j hj
  have v3 := hv.2.2 j (by omega)
  have v4 := (hv.2.2 (x.1 (6 + j)) v3.2.1).2.2.2.2.2
  refine g_aload_n (pc := 0) C (hl := rfl) dX8_leftTo_0 ?_
  refine g_get (pc := 1) C fl8_7 dX8_leftTo_1 h0 rfl ?_
  refine g_iload_n (pc := 4) C (hl := rfl) dX8_leftTo_4 ?_
  refine g_iconst (pc := 5) C qk_iconst_0 dX8_leftTo_5 ?_
  refine g_iaddN (pc := 6) C dX8_leftTo_6 ?_
  refine g_ialdV (pc := 7) C dX8_leftTo_7 hW (by omega) (wT_n T) ?_
  refine g_istore_n (pc := 8) C rfl dX8_leftTo_8 ?_
  refine g_aload_n (pc := 9) C (hl := rfl) dX8_leftTo_9 ?_
  refine g_get (pc := 10) C fl8_7 dX8_leftTo_10 h0 rfl ?_
  refine g_iload_n (pc := 13) C (hl := rfl) dX8_leftTo_13 ?_
  refine g_bipush (pc := 14) C qk_bipush_33 dX8_leftTo_14 ?_
  refine g_iaddN (pc := 16) C dX8_leftTo_16 ?_
  refine g_aload_n (pc := 17) C (hl := rfl) dX8_leftTo_17 ?_
  refine g_get (pc := 18) C fl8_7 dX8_leftTo_18 h0 rfl ?_
  refine g_iload_n (pc := 21) C (hl := rfl) dX8_leftTo_21 ?_
  refine g_bipush (pc := 22) C qk_bipush_9 dX8_leftTo_22 ?_
  refine g_iaddN (pc := 24) C dX8_leftTo_24 ?_
  refine g_iload_n (pc := 25) C (hl := rfl) dX8_leftTo_25 ?_
  refine g_iaddN (pc := 26) C dX8_leftTo_26 ?_
  refine g_ialdV (pc := 27) C dX8_leftTo_27 hW (by omega) (wT_wa T (by omega)) ?_
  refine g_iaddN (pc := 28) C dX8_leftTo_28 ?_
  refine g_ialdV (pc := 29) C dX8_leftTo_29 hW (by omega) (wT_sl T v3.2.1) ?_
  refine g_iconst (pc := 30) C qk_iconst_2 dX8_leftTo_30 ?_
  refine g_iload_n (pc := 31) C (hl := rfl) dX8_leftTo_31 ?_
  refine g_imulN (pc := 32) C dX8_leftTo_32 ?_
  refine g_iaddN (pc := 33) C dX8_leftTo_33 ?_
  refine g_aload_n (pc := 34) C (hl := rfl) dX8_leftTo_34 ?_
  refine g_get (pc := 35) C fl8_7 dX8_leftTo_35 h0 rfl ?_
  refine g_iload_n (pc := 38) C (hl := rfl) dX8_leftTo_38 ?_
  refine g_bipush (pc := 39) C qk_bipush_21 dX8_leftTo_39 ?_
  refine g_iaddN (pc := 41) C dX8_leftTo_41 ?_
  refine g_iload_n (pc := 42) C (hl := rfl) dX8_leftTo_42 ?_
  refine g_iaddN (pc := 43) C dX8_leftTo_43 ?_
  refine g_ialdV (pc := 44) C dX8_leftTo_44 hW (by omega) (wT_se T (by omega)) ?_
  refine g_isubN (pc := 45) C dX8_leftTo_45 (by omega) ?_
  refine g_aload_n (pc := 46) C (hl := rfl) dX8_leftTo_46 ?_
  refine g_get (pc := 47) C fl8_7 dX8_leftTo_47 h0 rfl ?_
  refine g_iload_n (pc := 50) C (hl := rfl) dX8_leftTo_50 ?_
  refine g_iconst (pc := 51) C qk_iconst_1 dX8_leftTo_51 ?_
  refine g_iaddN (pc := 52) C dX8_leftTo_52 ?_
  refine g_ialdV (pc := 53) C dX8_leftTo_53 hW (by omega) (wT_t T) ?_
  refine g_isubN (pc := 54) C dX8_leftTo_54 (by omega) ?_
  refine g_iload_n (pc := 55) C (hl := rfl) dX8_leftTo_55 ?_
  refine g_iremN (pc := 56) C dX8_leftTo_56 (by exact ⟨by omega, by omega, by omega⟩) ?_
  exact g_iret (pc := 57) C F dX8_leftTo_57 rfl rfl (by rw [q_lf v2.1 v1.2.2]; rfl) (rfl)
set_option maxHeartbeats 2000000 in
set_option maxRecDepth 20000 in
theorem l8_ga {Γ : q_X} {ad : Nat → Nat} {n : Nat} {h : q_H} {un ta fl st sa ne so di pu at_ er en pa tr r g : Nat} {W : Nat → Nat} {x : mX} {s : Nat} (h0 : h 87 = MO un ta fl st sa ne so di pu at_ er en pa tr) (hW : h 88 = WA W) (T : wT W r g x) (hr : r + 39 ≤ 1131) (hv : mW g x) (hs : s < g) (C : q_C Γ ad 0 0 0 RX8 yX8_guestAt cX8_guestAt 4 (some .int)) (F : q_N Γ ad n (some (.int (nI (x.1 (36 + s))))) h) : ∀ (m i : Nat), x.1 (36 + s) < i + m → i ≤ x.1 (36 + s) → q_G Γ ad 4 2 [some (.ref 87), some (.int (nI r)), some (.int (nI s)), some (.int (nI i))] [] n h 0 0 := by
  intro m
  induction m with
  | zero => intro i; intros; omega
  | succ m ih =>
    intro i hm hi
    have v1 := hv.1
    have v2 := hv.2.1 s hs
    have v3 := hv.2.2 i (by omega)
    refine g_aload_n (pc := 2) C (hl := rfl) dX8_guestAt_2 ?_
    refine g_get (pc := 3) C fl8_7 dX8_guestAt_3 h0 rfl ?_
    refine g_iload_n (pc := 6) C (hl := rfl) dX8_guestAt_6 ?_
    refine g_bipush (pc := 7) C qk_bipush_21 dX8_guestAt_7 ?_
    refine g_iaddN (pc := 9) C dX8_guestAt_9 ?_
    refine g_iload_n (pc := 10) C (hl := rfl) dX8_guestAt_10 ?_
    refine g_iaddN (pc := 11) C dX8_guestAt_11 ?_
    refine g_ialdV (pc := 12) C dX8_guestAt_12 hW (by omega) (wT_se T (by omega)) ?_
    refine g_iload_n (pc := 13) C (hl := rfl) dX8_guestAt_13 ?_
    refine g_ic_eqN (pc := 14) C 23 dX8_guestAt_14 (by decide) (by omega) (fun c14 => ?_) (fun c14 => ?_)
    · refine g_iload_n (pc := 23) C (hl := rfl) dX8_guestAt_23 ?_
      exact g_iret (pc := 24) C F dX8_guestAt_24 rfl rfl (by rw [show i = x.1 (36 + s) by rw [← c14]; exact (hv.2.1 i (by omega)).2.2.2.2.1.symm]) (rfl)
    · refine g_iincN (pc := 17) C (hl := rfl) (q_inc1 _) rfl dX8_guestAt_17 ?_
      refine g_goto (pc := 20) C 2 dX8_guestAt_20 (by decide) ?_
      exact ih (i + 1) (by omega) (Nat.lt_of_le_of_ne hi (fun q => c14 (by rw [q]; exact v2.2.2.2.2.2.1)))
set_option maxHeartbeats 2000000 in
set_option maxRecDepth 20000 in
theorem s8_guestAt {n : Nat} {h : q_H} {un ta fl st sa ne so di pu at_ er en pa tr r g : Nat} {W : Nat → Nat} {x : mX} (s : Nat) (h0 : h 87 = MO un ta fl st sa ne so di pu at_ er en pa tr) (hW : h 88 = WA W) (T : wT W r g x) (hr : r + 39 ≤ 1131) (hv : mW g x) (hs : s < g) : SP 0 yX8_guestAt cX8_guestAt 4 (some .int) [.ref 87, .int (nI r), .int (nI s)] n h (some (.int (nI (x.1 (36 + s))))) h := by
  refine q_SPi RX8 rfl (by decide +kernel) (la := _) rfl rfl (fun Γ ad C F => ?_)
  refine g_iconst (pc := 0) C qk_iconst_0 dX8_guestAt_0 ?_
  refine g_istore_n (pc := 1) C rfl dX8_guestAt_1 ?_
  exact l8_ga h0 hW T hr hv hs C F 7 0 (by have := hv.2.1 s hs; have := hv.1.2.1; omega) (Nat.zero_le _)
set_option maxHeartbeats 2000000 in
set_option maxRecDepth 20000 in
theorem l8_db {Γ : q_X} {ad : Nat → Nat} {n : Nat} {h : q_H} {un ta fl st sa ne so di pu at_ er en pa tr r g : Nat} {W : Nat → Nat} {x : mX} {s j : Nat} (h0 : h 87 = MO un ta fl st sa ne so di pu at_ er en pa tr) (hW : h 88 = WA W) (T : wT W r g x) (hr : r + 39 ≤ 1131) (hv : mW g x) (hs : s < g) (C : q_C Γ ad 0 0 0 RX8 yX8_dishBefore cX8_dishBefore 5 (some .int)) (F : q_N Γ ad n (some (.int (nI (x.1 (42 + s))))) h) : ∀ (m i : Nat), x.1 (42 + s) < i + m → i ≤ x.1 (42 + s) → q_G Γ ad 5 33 [some (.ref 87), some (.int (nI r)), some (.int (nI j)), some (.int (nI s)), some (.int (nI i))] [] n h 0 0 := by
  intro m
  induction m with
  | zero => intro i; intros; omega
  | succ m ih =>
    intro i hm hi
    have v1 := hv.1
    have v2 := hv.2.1 s hs
    have v3 := hv.2.2 i (by omega)
    refine g_aload_n (pc := 33) C (hl := rfl) dX8_dishBefore_33 ?_
    refine g_get (pc := 34) C fl8_7 dX8_dishBefore_34 h0 rfl ?_
    refine g_iload_n (pc := 37) C (hl := rfl) dX8_dishBefore_37 ?_
    refine g_bipush (pc := 38) C qk_bipush_33 dX8_dishBefore_38 ?_
    refine g_iaddN (pc := 40) C dX8_dishBefore_40 ?_
    refine g_iload (pc := 41) C (hl := rfl) dX8_dishBefore_41 ?_
    refine g_iaddN (pc := 43) C dX8_dishBefore_43 ?_
    refine g_ialdV (pc := 44) C dX8_dishBefore_44 hW (by omega) (wT_sl T (by omega)) ?_
    refine g_iload_n (pc := 45) C (hl := rfl) dX8_dishBefore_45 ?_
    refine g_ic_eqN (pc := 46) C 55 dX8_dishBefore_46 (by decide) (by omega) (fun c46 => ?_) (fun c46 => ?_)
    · refine g_iload (pc := 55) C (hl := rfl) dX8_dishBefore_55 ?_
      exact g_iret (pc := 57) C F dX8_dishBefore_57 rfl rfl (by rw [show i = x.1 (42 + s) by rw [← c46]; exact (hv.2.1 i (by omega)).2.2.2.2.2.2.1.symm]) (rfl)
    · refine g_iincN (pc := 49) C (hl := rfl) (q_inc1 _) rfl dX8_dishBefore_49 ?_
      refine g_goto (pc := 52) C 33 dX8_dishBefore_52 (by decide) ?_
      exact ih (i + 1) (by omega) (Nat.lt_of_le_of_ne hi (fun q => c46 (by rw [q]; exact v2.2.2.2.2.2.2.2.1)))
set_option maxHeartbeats 2000000 in
set_option maxRecDepth 20000 in
theorem s8_dishBefore {n : Nat} {h : q_H} {un ta fl st sa ne so di pu at_ er en pa tr r g : Nat} {W : Nat → Nat} {x : mX} (j : Nat) (h0 : h 87 = MO un ta fl st sa ne so di pu at_ er en pa tr) (hW : h 88 = WA W) (T : wT W r g x) (hr : r + 39 ≤ 1131) (hv : mW g x) (hj : j < g) : SP 0 yX8_dishBefore cX8_dishBefore 5 (some .int) [.ref 87, .int (nI r), .int (nI j)] n h (some (.int (nI (mDish x.1 g x.2.1 j)))) h := by
  refine q_SPi RX8 rfl (by decide +kernel) (la := _) rfl rfl (fun Γ ad C F => ?_)
  have v1 := hv.1
  have v2 := hv.2.1 j hj
  have v4 : (x.1 (12 + j) + x.2.1) % g < g := Nat.mod_lt _ v1.1
  have v5 := hv.2.1 _ v4
  refine g_aload_n (pc := 0) C (hl := rfl) dX8_dishBefore_0 ?_
  refine g_get (pc := 1) C fl8_7 dX8_dishBefore_1 h0 rfl ?_
  refine g_iload_n (pc := 4) C (hl := rfl) dX8_dishBefore_4 ?_
  refine g_bipush (pc := 5) C qk_bipush_21 dX8_dishBefore_5 ?_
  refine g_iaddN (pc := 7) C dX8_dishBefore_7 ?_
  refine g_iload_n (pc := 8) C (hl := rfl) dX8_dishBefore_8 ?_
  refine g_iaddN (pc := 9) C dX8_dishBefore_9 ?_
  refine g_ialdV (pc := 10) C dX8_dishBefore_10 hW (by omega) (wT_se T (by omega)) ?_
  refine g_aload_n (pc := 11) C (hl := rfl) dX8_dishBefore_11 ?_
  refine g_get (pc := 12) C fl8_7 dX8_dishBefore_12 h0 rfl ?_
  refine g_iload_n (pc := 15) C (hl := rfl) dX8_dishBefore_15 ?_
  refine g_iconst (pc := 16) C qk_iconst_1 dX8_dishBefore_16 ?_
  refine g_iaddN (pc := 17) C dX8_dishBefore_17 ?_
  refine g_ialdV (pc := 18) C dX8_dishBefore_18 hW (by omega) (wT_t T) ?_
  refine g_iaddN (pc := 19) C dX8_dishBefore_19 ?_
  refine g_aload_n (pc := 20) C (hl := rfl) dX8_dishBefore_20 ?_
  refine g_get (pc := 21) C fl8_7 dX8_dishBefore_21 h0 rfl ?_
  refine g_iload_n (pc := 24) C (hl := rfl) dX8_dishBefore_24 ?_
  refine g_iconst (pc := 25) C qk_iconst_0 dX8_dishBefore_25 ?_
  refine g_iaddN (pc := 26) C dX8_dishBefore_26 ?_
  refine g_ialdV (pc := 27) C dX8_dishBefore_27 hW (by omega) (wT_n T) ?_
  refine g_iremN (pc := 28) C dX8_dishBefore_28 (by exact ⟨by omega, by omega, by omega⟩) ?_
  refine g_istore_n (pc := 29) C rfl dX8_dishBefore_29 ?_
  refine g_iconst (pc := 30) C qk_iconst_0 dX8_dishBefore_30 ?_
  refine g_istore (pc := 31) C rfl dX8_dishBefore_31 ?_
  exact l8_db (s := (x.1 (12 + j) + x.2.1) % g) h0 hW T hr hv v4 C F 7 0 (by omega) (Nat.zero_le _)
