section QN
variable {Γ : q_X} {ad : Nat → Nat} {d mc ms : Nat} {own : String} {y : MethodName} {cc : ByteArray} {nL : Nat} {ret : Option FieldType} {pc : Nat} {la : List (Option Value)} {st : List Value} {n : Nat} {h : q_H} {k1 k2 : Nat}
def qN (f : Nat → Nat) : Nat → Int32 := fun k => nI (f k)
theorem qN_up (f : Nat → Nat) (k x : Nat) : upd (qN f) k (nI x) = qN (va_up f k x) := by
  funext j
  unfold upd qN va_up
  by_cases hj : j = k <;> simp [hj]
theorem g_iaddN (C : q_C Γ ad d mc ms own y cc nL ret) {a b : Nat} (hdg : decode cc pc = .ok (.iadd, 1)) (kk : q_G Γ ad nL (pc + 1) la (.int (nI (a + b)) :: st) n h k1 k2) : q_G Γ ad nL pc la (.int (nI b) :: .int (nI a) :: st) n h k1 k2 := g_iadd C hdg (by rw [nI_add]; exact kk)
theorem g_isubN (C : q_C Γ ad d mc ms own y cc nL ret) {a b : Nat} (hdg : decode cc pc = .ok (.isub, 1)) (hb : b ≤ a) (kk : q_G Γ ad nL (pc + 1) la (.int (nI (a - b)) :: st) n h k1 k2) : q_G Γ ad nL pc la (.int (nI b) :: .int (nI a) :: st) n h k1 k2 := g_isub C hdg (by rw [pk_sub hb]; exact kk)
theorem g_imulN (C : q_C Γ ad d mc ms own y cc nL ret) {a b : Nat} (hdg : decode cc pc = .ok (.imul, 1)) (kk : q_G Γ ad nL (pc + 1) la (.int (nI (a * b)) :: st) n h k1 k2) : q_G Γ ad nL pc la (.int (nI b) :: .int (nI a) :: st) n h k1 k2 := g_imul C hdg (by rw [pk_mul]; exact kk)
theorem g_iremN (C : q_C Γ ad d mc ms own y cc nL ret) {a b : Nat} (hdg : decode cc pc = .ok (.irem, 1)) (hq : a < 2 ^ 31 ∧ 0 < b ∧ b < 2 ^ 31) (kk : q_G Γ ad nL (pc + 1) la (.int (nI (a % b)) :: st) n h k1 k2) : q_G Γ ad nL pc la (.int (nI b) :: .int (nI a) :: st) n h k1 k2 := g_irem C (nI_ne0 hq.2.1 hq.2.2) hdg (by rw [pk_rem hq.1 hq.2.1 hq.2.2]; exact kk)
theorem g_idivN (C : q_C Γ ad d mc ms own y cc nL ret) {a b : Nat} (hdg : decode cc pc = .ok (.idiv, 1)) (hq : a < 2 ^ 31 ∧ 0 < b ∧ b < 2 ^ 31) (kk : q_G Γ ad nL (pc + 1) la (.int (nI (a / b)) :: st) n h k1 k2) : q_G Γ ad nL pc la (.int (nI b) :: .int (nI a) :: st) n h k1 k2 := g_idiv C (nI_ne0 hq.2.1 hq.2.2) hdg (by rw [pk_div hq.1 hq.2.1 hq.2.2]; exact kk)
theorem g_iincN (C : q_C Γ ad d mc ms own y cc nL ret) {k a b : Nat} {z : Int} (hl : la[k]? = some (some (.int (nI a)))) (hv : nI a + Int32.ofInt z = nI b) (hst : q_st la k = true) (hdg : decode cc pc = .ok (.iinc k z, 3)) (kk : q_G Γ ad nL (pc + 3) (la.set k (some (.int (nI b)))) st n h k1 k2) : q_G Γ ad nL pc la st n h k1 k2 := g_iinc C hl hv hst hdg kk
theorem q_inc1 (a : Nat) : nI a + Int32.ofInt 1 = nI (a + 1) := nI_1 a
theorem q_dec1 (a : Nat) : nI (a + 1) + Int32.ofInt (-1) = nI a := pk_m1 a
theorem g_ialdN (C : q_C Γ ad d mc ms own y cc nL ret) {a N j : Nat} {f : Nat → Nat} (hdg : decode cc pc = .ok (.iaload, 1)) (hh : h a = .inl (0, N, qN f)) (hj : j < N ∧ N < 2 ^ 31) (kk : q_G Γ ad nL (pc + 1) la (.int (nI (f j)) :: st) n h k1 k2) : q_G Γ ad nL pc la (.int (nI j) :: .ref a :: st) n h k1 k2 := by
  refine g_iald C hdg hh (vp_in_nI hj.1 hj.2) ?_
  rw [nI_clamp (Nat.lt_trans hj.1 hj.2)]
  exact kk
theorem g_ialdM (C : q_C Γ ad d mc ms own y cc nL ret) {a N j : Nat} {f : Nat → Int32} (hdg : decode cc pc = .ok (.iaload, 1)) (hh : h a = .inl (0, N, f)) (hj : j < N ∧ N < 2 ^ 31) (kk : q_G Γ ad nL (pc + 1) la (.int (f j) :: st) n h k1 k2) : q_G Γ ad nL pc la (.int (nI j) :: .ref a :: st) n h k1 k2 := by
  refine g_iald C hdg hh (vp_in_nI hj.1 hj.2) ?_
  rw [nI_clamp (Nat.lt_trans hj.1 hj.2)]
  exact kk
theorem g_zaldN (C : q_C Γ ad d mc ms own y cc nL ret) {a N j : Nat} {f : Nat → Nat} (hdg : decode cc pc = .ok (.baload, 1)) (hh : h a = .inl (1, N, qN f)) (hj : j < N ∧ N < 2 ^ 31) (kk : q_G Γ ad nL (pc + 1) la (.int (nI (f j)) :: st) n h k1 k2) : q_G Γ ad nL pc la (.int (nI j) :: .ref a :: st) n h k1 k2 := by
  refine g_zald C hdg hh (vp_in_nI hj.1 hj.2) ?_
  rw [nI_clamp (Nat.lt_trans hj.1 hj.2)]
  exact kk
theorem g_iastN (C : q_C Γ ad d mc ms own y cc nL ret) {a N j x : Nat} {f : Nat → Nat} (hdg : decode cc pc = .ok (.iastore, 1)) (hh : h a = .inl (0, N, qN f)) (hj : j < N ∧ N < 2 ^ 31) (kk : q_G Γ ad nL (pc + 1) la st n (q_up h a (.inl (0, N, qN (va_up f j x)))) k1 k2) : q_G Γ ad nL pc la (.int (nI x) :: .int (nI j) :: .ref a :: st) n h k1 k2 := by
  refine g_iast C hdg hh (vp_in_nI hj.1 hj.2) ?_
  rw [nI_clamp (Nat.lt_trans hj.1 hj.2), qN_up]
  exact kk
theorem g_iastM (C : q_C Γ ad d mc ms own y cc nL ret) {a N j : Nat} {f : Nat → Int32} {x : Int32} (hdg : decode cc pc = .ok (.iastore, 1)) (hh : h a = .inl (0, N, f)) (hj : j < N ∧ N < 2 ^ 31) (kk : q_G Γ ad nL (pc + 1) la st n (q_up h a (.inl (0, N, va_up f j x))) k1 k2) : q_G Γ ad nL pc la (.int x :: .int (nI j) :: .ref a :: st) n h k1 k2 := by
  refine g_iast C hdg hh (vp_in_nI hj.1 hj.2) ?_
  rw [nI_clamp (Nat.lt_trans hj.1 hj.2)]
  exact kk
theorem g_zastN (C : q_C Γ ad d mc ms own y cc nL ret) {a N j x : Nat} {f : Nat → Nat} (hdg : decode cc pc = .ok (.bastore, 1)) (hh : h a = .inl (1, N, qN f)) (hj : j < N ∧ N < 2 ^ 31) (hx : vp_nar .boolean (nI x) = nI x) (kk : q_G Γ ad nL (pc + 1) la st n (q_up h a (.inl (1, N, qN (va_up f j x)))) k1 k2) : q_G Γ ad nL pc la (.int (nI x) :: .int (nI j) :: .ref a :: st) n h k1 k2 := by
  refine g_zast C hdg hh (vp_in_nI hj.1 hj.2) ?_
  rw [nI_clamp (Nat.lt_trans hj.1 hj.2), hx, qN_up]
  exact kk
theorem g_aaldN (C : q_C Γ ad d mc ms own y cc nL ret) {a N t j b : Nat} {f : Nat → Option Nat} (hdg : decode cc pc = .ok (.aaload, 1)) (hh : h a = .inr (.inl (t, N, f))) (hj : j < N ∧ N < 2 ^ 31) (hb : f j = some b) (kk : q_G Γ ad nL (pc + 1) la (.ref b :: st) n h k1 k2) : q_G Γ ad nL pc la (.int (nI j) :: .ref a :: st) n h k1 k2 :=
  g_aald C hdg hh (vp_in_nI hj.1 hj.2) (by rw [nI_clamp (Nat.lt_trans hj.1 hj.2), hb]; rfl) kk
theorem g_alenN (C : q_C Γ ad d mc ms own y cc nL ret) {a k N : Nat} {f : Nat → Int32} (hdg : decode cc pc = .ok (.arraylength, 1)) (hh : h a = .inl (k, N, f)) (kk : q_G Γ ad nL (pc + 1) la (.int (nI N) :: st) n h k1 k2) : q_G Γ ad nL pc la (.ref a :: st) n h k1 k2 := g_alen C hdg hh rfl kk
theorem g_alenrN (C : q_C Γ ad d mc ms own y cc nL ret) {a k N : Nat} {f : Nat → Option Nat} (hdg : decode cc pc = .ok (.arraylength, 1)) (hh : h a = .inr (.inl (k, N, f))) (kk : q_G Γ ad nL (pc + 1) la (.int (nI N) :: st) n h k1 k2) : q_G Γ ad nL pc la (.ref a :: st) n h k1 k2 := g_alenr C hdg hh rfl kk
theorem g_minN (C : q_C Γ ad d mc ms own y cc nL ret) {ix a b : Nat} (hl : q_LM own ix Lib.Math.min.name Lib.Math.min.code 2) (hdg : decode cc pc = .ok (.invokestatic ix, 3)) (hq : a < 2 ^ 31 ∧ b < 2 ^ 31) (hd : 1 ≤ d) (hst : (st.map fun v => v.category).sum ≤ 8) (hk : k1 ≤ mc ∧ k2 ≤ ms) (kk : q_G Γ ad nL (pc + 3) la (.int (nI (min a b)) :: st) n h k1 k2) : q_G Γ ad nL pc la (.int (nI b) :: .int (nI a) :: st) n h k1 k2 := by
  refine g_min C hl hdg hd hst hk ?_
  rw [show (if nI b < nI a then nI b else nI a) = nI (min a b) by
    by_cases hb : b < a
    · rw [if_pos (nI_lt hb hq.1), Nat.min_eq_right (Nat.le_of_lt hb)]
    · rw [if_neg (nI_nlt (Nat.not_lt.mp hb) hq.2), Nat.min_eq_left (Nat.not_lt.mp hb)]]
  exact kk
theorem g_maxN (C : q_C Γ ad d mc ms own y cc nL ret) {ix a b : Nat} (hl : q_LM own ix Lib.Math.max.name Lib.Math.max.code 2) (hdg : decode cc pc = .ok (.invokestatic ix, 3)) (hq : a < 2 ^ 31 ∧ b < 2 ^ 31) (hd : 1 ≤ d) (hst : (st.map fun v => v.category).sum ≤ 8) (hk : k1 ≤ mc ∧ k2 ≤ ms) (kk : q_G Γ ad nL (pc + 3) la (.int (nI (max a b)) :: st) n h k1 k2) : q_G Γ ad nL pc la (.int (nI b) :: .int (nI a) :: st) n h k1 k2 := by
  refine g_max C hl hdg hd hst hk ?_
  rw [show (if nI a < nI b then nI b else nI a) = nI (max a b) by
    by_cases hb : a < b
    · rw [if_pos (nI_lt hb hq.2), Nat.max_eq_right (Nat.le_of_lt hb)]
    · rw [if_neg (nI_nlt (Nat.not_lt.mp hb) hq.1), Nat.max_eq_left (Nat.not_lt.mp hb)]]
  exact kk
theorem g_ic_eqN (C : q_C Γ ad d mc ms own y cc nL ret) {a b : Nat} {off : Int} (tgt : Nat) (hdg : decode cc pc = .ok (.if_icmp .eq off, 3)) (ht : (pc : Int) + off = (tgt : Int)) (hq : a < 2 ^ 31 ∧ b < 2 ^ 31) (kt : a = b → q_G Γ ad nL tgt la st n h k1 k2) (kf : ¬ (a = b) → q_G Γ ad nL (pc + 3) la st n h k1 k2) : q_G Γ ad nL pc la (.int (nI b) :: .int (nI a) :: st) n h k1 k2 := g_ic_eq C tgt hdg ht (fun q => kt ((nI_eq hq.1 hq.2).mp q)) (fun q => kf (fun z => q ((nI_eq hq.1 hq.2).mpr z)))
theorem g_ic_neN (C : q_C Γ ad d mc ms own y cc nL ret) {a b : Nat} {off : Int} (tgt : Nat) (hdg : decode cc pc = .ok (.if_icmp .ne off, 3)) (ht : (pc : Int) + off = (tgt : Int)) (hq : a < 2 ^ 31 ∧ b < 2 ^ 31) (kt : ¬ a = b → q_G Γ ad nL tgt la st n h k1 k2) (kf : a = b → q_G Γ ad nL (pc + 3) la st n h k1 k2) : q_G Γ ad nL pc la (.int (nI b) :: .int (nI a) :: st) n h k1 k2 := g_ic_ne C tgt hdg ht (fun q => kt (fun z => q ((nI_eq hq.1 hq.2).mpr z))) (fun q => kf ((nI_eq hq.1 hq.2).mp q))
theorem g_ic_ltN (C : q_C Γ ad d mc ms own y cc nL ret) {a b : Nat} {off : Int} (tgt : Nat) (hdg : decode cc pc = .ok (.if_icmp .lt off, 3)) (ht : (pc : Int) + off = (tgt : Int)) (hq : a < 2 ^ 31 ∧ b < 2 ^ 31) (kt : a < b → q_G Γ ad nL tgt la st n h k1 k2) (kf : ¬ (a < b) → q_G Γ ad nL (pc + 3) la st n h k1 k2) : q_G Γ ad nL pc la (.int (nI b) :: .int (nI a) :: st) n h k1 k2 := g_ic_lt C tgt hdg ht (fun q => kt ((nI_ltI hq.1 hq.2).mp q)) (fun q => kf (fun z => q ((nI_ltI hq.1 hq.2).mpr z)))
theorem g_ic_geN (C : q_C Γ ad d mc ms own y cc nL ret) {a b : Nat} {off : Int} (tgt : Nat) (hdg : decode cc pc = .ok (.if_icmp .ge off, 3)) (ht : (pc : Int) + off = (tgt : Int)) (hq : a < 2 ^ 31 ∧ b < 2 ^ 31) (kt : b ≤ a → q_G Γ ad nL tgt la st n h k1 k2) (kf : ¬ (b ≤ a) → q_G Γ ad nL (pc + 3) la st n h k1 k2) : q_G Γ ad nL pc la (.int (nI b) :: .int (nI a) :: st) n h k1 k2 := g_ic_ge C tgt hdg ht (fun q => kt ((nI_leI hq.2 hq.1).mp q)) (fun q => kf (fun z => q ((nI_leI hq.2 hq.1).mpr z)))
theorem g_ic_gtN (C : q_C Γ ad d mc ms own y cc nL ret) {a b : Nat} {off : Int} (tgt : Nat) (hdg : decode cc pc = .ok (.if_icmp .gt off, 3)) (ht : (pc : Int) + off = (tgt : Int)) (hq : a < 2 ^ 31 ∧ b < 2 ^ 31) (kt : b < a → q_G Γ ad nL tgt la st n h k1 k2) (kf : ¬ (b < a) → q_G Γ ad nL (pc + 3) la st n h k1 k2) : q_G Γ ad nL pc la (.int (nI b) :: .int (nI a) :: st) n h k1 k2 := g_ic_gt C tgt hdg ht (fun q => kt ((nI_ltI hq.2 hq.1).mp q)) (fun q => kf (fun z => q ((nI_ltI hq.2 hq.1).mpr z)))
theorem g_ic_leN (C : q_C Γ ad d mc ms own y cc nL ret) {a b : Nat} {off : Int} (tgt : Nat) (hdg : decode cc pc = .ok (.if_icmp .le off, 3)) (ht : (pc : Int) + off = (tgt : Int)) (hq : a < 2 ^ 31 ∧ b < 2 ^ 31) (kt : a ≤ b → q_G Γ ad nL tgt la st n h k1 k2) (kf : ¬ (a ≤ b) → q_G Γ ad nL (pc + 3) la st n h k1 k2) : q_G Γ ad nL pc la (.int (nI b) :: .int (nI a) :: st) n h k1 k2 := g_ic_le C tgt hdg ht (fun q => kt ((nI_leI hq.1 hq.2).mp q)) (fun q => kf (fun z => q ((nI_leI hq.1 hq.2).mpr z)))
theorem q_n0 {a : Nat} (ha : a < 2 ^ 31) : nI a = 0 ↔ a = 0 := ⟨fun q => by rcases Nat.eq_zero_or_pos a with z | z; exact z; exact absurd q (nI_ne0 z ha), fun q => by subst q; rfl⟩
theorem g_if_eqN (C : q_C Γ ad d mc ms own y cc nL ret) {a : Nat} {off : Int} (tgt : Nat) (hdg : decode cc pc = .ok (.ifCond .eq off, 3)) (ht : (pc : Int) + off = (tgt : Int)) (hq : a < 2 ^ 31) (kt : a = 0 → q_G Γ ad nL tgt la st n h k1 k2) (kf : ¬ a = 0 → q_G Γ ad nL (pc + 3) la st n h k1 k2) : q_G Γ ad nL pc la (.int (nI a) :: st) n h k1 k2 := g_if_eq C tgt hdg ht (fun q => kt ((q_n0 hq).mp q)) (fun q => kf (fun z => q ((q_n0 hq).mpr z)))
theorem g_if_neN (C : q_C Γ ad d mc ms own y cc nL ret) {a : Nat} {off : Int} (tgt : Nat) (hdg : decode cc pc = .ok (.ifCond .ne off, 3)) (ht : (pc : Int) + off = (tgt : Int)) (hq : a < 2 ^ 31) (kt : ¬ a = 0 → q_G Γ ad nL tgt la st n h k1 k2) (kf : a = 0 → q_G Γ ad nL (pc + 3) la st n h k1 k2) : q_G Γ ad nL pc la (.int (nI a) :: st) n h k1 k2 := g_if_ne C tgt hdg ht (fun q => kt (fun z => q ((q_n0 hq).mpr z))) (fun q => kf ((q_n0 hq).mp q))
theorem g_if_ltN (C : q_C Γ ad d mc ms own y cc nL ret) {a : Nat} {off : Int} (tgt : Nat) (hdg : decode cc pc = .ok (.ifCond .lt off, 3)) (ht : (pc : Int) + off = (tgt : Int)) (hq : a < 2 ^ 31) (kf : q_G Γ ad nL (pc + 3) la st n h k1 k2) : q_G Γ ad nL pc la (.int (nI a) :: st) n h k1 k2 := g_if_lt C tgt hdg ht (fun q => absurd q (nI_pos hq)) (fun _ => kf)
theorem g_if_geN (C : q_C Γ ad d mc ms own y cc nL ret) {a : Nat} {off : Int} (tgt : Nat) (hdg : decode cc pc = .ok (.ifCond .ge off, 3)) (ht : (pc : Int) + off = (tgt : Int)) (hq : a < 2 ^ 31) (kt : q_G Γ ad nL tgt la st n h k1 k2) : q_G Γ ad nL pc la (.int (nI a) :: st) n h k1 k2 := g_if_ge C tgt hdg ht (fun _ => kt) (fun q => absurd (nI_pos' hq) q)
theorem q_p0 {a : Nat} (ha : a < 2 ^ 31) : 0 < nI a ↔ 0 < a := by have h := nI_ltI (a := 0) (b := a) (by decide) ha; exact h
theorem g_if_gtN (C : q_C Γ ad d mc ms own y cc nL ret) {a : Nat} {off : Int} (tgt : Nat) (hdg : decode cc pc = .ok (.ifCond .gt off, 3)) (ht : (pc : Int) + off = (tgt : Int)) (hq : a < 2 ^ 31) (kt : 0 < a → q_G Γ ad nL tgt la st n h k1 k2) (kf : ¬ 0 < a → q_G Γ ad nL (pc + 3) la st n h k1 k2) : q_G Γ ad nL pc la (.int (nI a) :: st) n h k1 k2 := g_if_gt C tgt hdg ht (fun q => kt ((q_p0 hq).mp q)) (fun q => kf (fun z => q ((q_p0 hq).mpr z)))
theorem q_l0 {a : Nat} (ha : a < 2 ^ 31) : nI a ≤ 0 ↔ a ≤ 0 := by have h := nI_leI (a := a) (b := 0) ha (by decide); exact h
theorem g_if_leN (C : q_C Γ ad d mc ms own y cc nL ret) {a : Nat} {off : Int} (tgt : Nat) (hdg : decode cc pc = .ok (.ifCond .le off, 3)) (ht : (pc : Int) + off = (tgt : Int)) (hq : a < 2 ^ 31) (kt : a ≤ 0 → q_G Γ ad nL tgt la st n h k1 k2) (kf : ¬ a ≤ 0 → q_G Γ ad nL (pc + 3) la st n h k1 k2) : q_G Γ ad nL pc la (.int (nI a) :: st) n h k1 k2 := g_if_le C tgt hdg ht (fun q => kt ((q_l0 hq).mp q)) (fun q => kf (fun z => q ((q_l0 hq).mpr z)))
theorem qk_bipush_m100 : (Int8.ofInt (-100)).toInt32 = (-100 : Int32) := by decide +kernel
theorem qk_bipush_m9 : (Int8.ofInt (-9)).toInt32 = (-9 : Int32) := by decide +kernel
theorem qk_bipush_6 : (Int8.ofInt (6)).toInt32 = nI 6 := by decide +kernel
theorem qk_bipush_7 : (Int8.ofInt (7)).toInt32 = nI 7 := by decide +kernel
theorem qk_bipush_8 : (Int8.ofInt (8)).toInt32 = nI 8 := by decide +kernel
theorem qk_bipush_9 : (Int8.ofInt (9)).toInt32 = nI 9 := by decide +kernel
theorem qk_bipush_10 : (Int8.ofInt (10)).toInt32 = nI 10 := by decide +kernel
theorem qk_bipush_11 : (Int8.ofInt (11)).toInt32 = nI 11 := by decide +kernel
theorem qk_bipush_12 : (Int8.ofInt (12)).toInt32 = nI 12 := by decide +kernel
theorem qk_bipush_13 : (Int8.ofInt (13)).toInt32 = nI 13 := by decide +kernel
theorem qk_bipush_14 : (Int8.ofInt (14)).toInt32 = nI 14 := by decide +kernel
theorem qk_bipush_15 : (Int8.ofInt (15)).toInt32 = nI 15 := by decide +kernel
theorem qk_bipush_16 : (Int8.ofInt (16)).toInt32 = nI 16 := by decide +kernel
theorem qk_bipush_20 : (Int8.ofInt (20)).toInt32 = nI 20 := by decide +kernel
theorem qk_bipush_21 : (Int8.ofInt (21)).toInt32 = nI 21 := by decide +kernel
theorem qk_bipush_22 : (Int8.ofInt (22)).toInt32 = nI 22 := by decide +kernel
theorem qk_bipush_23 : (Int8.ofInt (23)).toInt32 = nI 23 := by decide +kernel
theorem qk_bipush_24 : (Int8.ofInt (24)).toInt32 = nI 24 := by decide +kernel
theorem qk_bipush_27 : (Int8.ofInt (27)).toInt32 = nI 27 := by decide +kernel
theorem qk_bipush_30 : (Int8.ofInt (30)).toInt32 = nI 30 := by decide +kernel
theorem qk_bipush_32 : (Int8.ofInt (32)).toInt32 = nI 32 := by decide +kernel
theorem qk_bipush_33 : (Int8.ofInt (33)).toInt32 = nI 33 := by decide +kernel
theorem qk_bipush_39 : (Int8.ofInt (39)).toInt32 = nI 39 := by decide +kernel
theorem qk_bipush_40 : (Int8.ofInt (40)).toInt32 = nI 40 := by decide +kernel
theorem qk_bipush_48 : (Int8.ofInt (48)).toInt32 = nI 48 := by decide +kernel
theorem qk_bipush_57 : (Int8.ofInt (57)).toInt32 = nI 57 := by decide +kernel
theorem qk_bipush_59 : (Int8.ofInt (59)).toInt32 = nI 59 := by decide +kernel
theorem qk_bipush_63 : (Int8.ofInt (63)).toInt32 = nI 63 := by decide +kernel
theorem qk_bipush_97 : (Int8.ofInt (97)).toInt32 = nI 97 := by decide +kernel
theorem qk_bipush_99 : (Int8.ofInt (99)).toInt32 = nI 99 := by decide +kernel
theorem qk_bipush_100 : (Int8.ofInt (100)).toInt32 = nI 100 := by decide +kernel
theorem qk_bipush_101 : (Int8.ofInt (101)).toInt32 = nI 101 := by decide +kernel
theorem qk_bipush_102 : (Int8.ofInt (102)).toInt32 = nI 102 := by decide +kernel
theorem qk_bipush_103 : (Int8.ofInt (103)).toInt32 = nI 103 := by decide +kernel
theorem qk_bipush_104 : (Int8.ofInt (104)).toInt32 = nI 104 := by decide +kernel
theorem qk_bipush_105 : (Int8.ofInt (105)).toInt32 = nI 105 := by decide +kernel
theorem qk_bipush_107 : (Int8.ofInt (107)).toInt32 = nI 107 := by decide +kernel
theorem qk_bipush_110 : (Int8.ofInt (110)).toInt32 = nI 110 := by decide +kernel
theorem qk_bipush_114 : (Int8.ofInt (114)).toInt32 = nI 114 := by decide +kernel
theorem qk_bipush_115 : (Int8.ofInt (115)).toInt32 = nI 115 := by decide +kernel
theorem qk_bipush_116 : (Int8.ofInt (116)).toInt32 = nI 116 := by decide +kernel
theorem qk_bipush_117 : (Int8.ofInt (117)).toInt32 = nI 117 := by decide +kernel
theorem qk_bipush_121 : (Int8.ofInt (121)).toInt32 = nI 121 := by decide +kernel
theorem qk_bipush_122 : (Int8.ofInt (122)).toInt32 = nI 122 := by decide +kernel
theorem qk_iconst_m1 : Int32.ofInt (-1) = (-1 : Int32) := by decide +kernel
theorem qk_iconst_0 : Int32.ofInt (0) = nI 0 := by decide +kernel
theorem qk_iconst_1 : Int32.ofInt (1) = nI 1 := by decide +kernel
theorem qk_iconst_2 : Int32.ofInt (2) = nI 2 := by decide +kernel
theorem qk_iconst_3 : Int32.ofInt (3) = nI 3 := by decide +kernel
theorem qk_iconst_4 : Int32.ofInt (4) = nI 4 := by decide +kernel
theorem qk_iconst_5 : Int32.ofInt (5) = nI 5 := by decide +kernel
theorem qk_sipush_200 : (Int16.ofInt (200)).toInt32 = nI 200 := by decide +kernel
theorem qk_sipush_255 : (Int16.ofInt (255)).toInt32 = nI 255 := by decide +kernel
theorem qk_sipush_300 : (Int16.ofInt (300)).toInt32 = nI 300 := by decide +kernel
theorem qk_sipush_320 : (Int16.ofInt (320)).toInt32 = nI 320 := by decide +kernel
theorem qk_sipush_897 : (Int16.ofInt (897)).toInt32 = nI 897 := by decide +kernel
theorem qk_sipush_999 : (Int16.ofInt (999)).toInt32 = nI 999 := by decide +kernel
theorem qk_sipush_1000 : (Int16.ofInt (1000)).toInt32 = nI 1000 := by decide +kernel
theorem qk_sipush_1053 : (Int16.ofInt (1053)).toInt32 = nI 1053 := by decide +kernel
theorem qk_sipush_1054 : (Int16.ofInt (1054)).toInt32 = nI 1054 := by decide +kernel
theorem qk_sipush_1062 : (Int16.ofInt (1062)).toInt32 = nI 1062 := by decide +kernel
theorem qk_sipush_1068 : (Int16.ofInt (1068)).toInt32 = nI 1068 := by decide +kernel
theorem qk_sipush_1074 : (Int16.ofInt (1074)).toInt32 = nI 1074 := by decide +kernel
theorem qk_sipush_1080 : (Int16.ofInt (1080)).toInt32 = nI 1080 := by decide +kernel
theorem qk_sipush_1086 : (Int16.ofInt (1086)).toInt32 = nI 1086 := by decide +kernel
theorem qk_sipush_1092 : (Int16.ofInt (1092)).toInt32 = nI 1092 := by decide +kernel
theorem qk_sipush_1095 : (Int16.ofInt (1095)).toInt32 = nI 1095 := by decide +kernel
theorem qk_sipush_1101 : (Int16.ofInt (1101)).toInt32 = nI 1101 := by decide +kernel
theorem qk_sipush_1113 : (Int16.ofInt (1113)).toInt32 = nI 1113 := by decide +kernel
theorem qk_sipush_1119 : (Int16.ofInt (1119)).toInt32 = nI 1119 := by decide +kernel
theorem qk_sipush_1125 : (Int16.ofInt (1125)).toInt32 = nI 1125 := by decide +kernel
theorem qk_sipush_1131 : (Int16.ofInt (1131)).toInt32 = nI 1131 := by decide +kernel
end QN
