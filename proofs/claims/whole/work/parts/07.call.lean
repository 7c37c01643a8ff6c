section QK
variable {Γ : q_X} {ad : Nat → Nat} {d mc ms : Nat} {own : String} {y : MethodName} {cc : ByteArray} {nL : Nat} {ret : Option FieldType} {pc : Nat} {la : List (Option Value)} {st : List Value} {n : Nat} {h : q_H} {k1 k2 : Nat}
theorem q_cats (ad : Nat → Nat) (st : List Value) : ((st.map (q_cv ad)).map fun v => v.category).sum = (st.map fun v => v.category).sum := by
  rw [List.map_map]
  congr 2
  funext v
  exact q_cv_cat ad v
/-- Math.min, max, abs -/
def q_LM (own : String) (ix : Nat) (z : MethodName) (b : ByteArray) (k : Nat) : Prop := Cond.methodLink own ix z ∈ q_Z ∧ Cond.static z ∈ q_Z ∧ Cond.initialized "java/lang/Math" ∈ q_Z ∧ Cond.code z b k (some .int) ∈ q_Z
theorem g_min (C : q_C Γ ad d mc ms own y cc nL ret) {ix : Nat} {x z : Int32} (hl : q_LM own ix Lib.Math.min.name Lib.Math.min.code 2) (hdg : decode cc pc = .ok (.invokestatic ix, 3)) (hd : 1 ≤ d) (hst : (st.map fun v => v.category).sum ≤ 8) (hk : k1 ≤ mc ∧ k2 ≤ ms) (kk : q_G Γ ad nL (pc + 3) la (.int (if z < x then z else x) :: st) n h k1 k2) : q_G Γ ad nL pc la (.int z :: .int x :: st) n h k1 k2 := by
  obtain ⟨p, l, e, R, s, m, args, below, meth, c, D, A, Q⟩ := Γ
  intro H locs ls hI hL
  obtain ⟨C1, C2, C3, C4, C5, C6, C7, C8, C9, C10, C11, rfl⟩ := C
  exact va_mmin C1 C2 (by rw [C3]; exact hL.1.symm) C5 (C6 _ (List.mem_cons_of_mem _ hl.1)) (C6 _ (List.mem_cons_of_mem _ hl.2.1)) (C6 _ (List.mem_cons_of_mem _ hl.2.2.1)) (C6 _ (List.mem_cons_of_mem _ hl.2.2.2)) hd (by rw [q_cats]; show _ ≤ 32 * d; omega) hk.1 hk.2 hdg (kk H locs ls hI hL)
theorem g_max (C : q_C Γ ad d mc ms own y cc nL ret) {ix : Nat} {x z : Int32} (hl : q_LM own ix Lib.Math.max.name Lib.Math.max.code 2) (hdg : decode cc pc = .ok (.invokestatic ix, 3)) (hd : 1 ≤ d) (hst : (st.map fun v => v.category).sum ≤ 8) (hk : k1 ≤ mc ∧ k2 ≤ ms) (kk : q_G Γ ad nL (pc + 3) la (.int (if x < z then z else x) :: st) n h k1 k2) : q_G Γ ad nL pc la (.int z :: .int x :: st) n h k1 k2 := by
  obtain ⟨p, l, e, R, s, m, args, below, meth, c, D, A, Q⟩ := Γ
  intro H locs ls hI hL
  obtain ⟨C1, C2, C3, C4, C5, C6, C7, C8, C9, C10, C11, rfl⟩ := C
  exact va_mmax C1 C2 (by rw [C3]; exact hL.1.symm) C5 (C6 _ (List.mem_cons_of_mem _ hl.1)) (C6 _ (List.mem_cons_of_mem _ hl.2.1)) (C6 _ (List.mem_cons_of_mem _ hl.2.2.1)) (C6 _ (List.mem_cons_of_mem _ hl.2.2.2)) hd (by rw [q_cats]; show _ ≤ 32 * d; omega) hk.1 hk.2 hdg (kk H locs ls hI hL)
theorem g_abs (C : q_C Γ ad d mc ms own y cc nL ret) {ix : Nat} {x : Int32} (hl : q_LM own ix Lib.Math.abs.name Lib.Math.abs.code 1) (hdg : decode cc pc = .ok (.invokestatic ix, 3)) (hd : 1 ≤ d) (hst : (st.map fun v => v.category).sum ≤ 8) (hk : k1 ≤ mc ∧ k2 ≤ ms) (kk : q_G Γ ad nL (pc + 3) la (.int (if 0 ≤ x then x else 0 - x) :: st) n h k1 k2) : q_G Γ ad nL pc la (.int x :: st) n h k1 k2 := by
  obtain ⟨p, l, e, R, s, m, args, below, meth, c, D, A, Q⟩ := Γ
  intro H locs ls hI hL
  obtain ⟨C1, C2, C3, C4, C5, C6, C7, C8, C9, C10, C11, rfl⟩ := C
  exact va_mabs C1 C2 (by rw [C3]; exact hL.1.symm) C5 (C6 _ (List.mem_cons_of_mem _ hl.1)) (C6 _ (List.mem_cons_of_mem _ hl.2.1)) (C6 _ (List.mem_cons_of_mem _ hl.2.2.1)) (C6 _ (List.mem_cons_of_mem _ hl.2.2.2)) hd (by rw [q_cats]; show _ ≤ 32 * d; omega) hk.1 hk.2 hdg (kk H locs ls hI hL)
def q_LY (own : String) (ix : Nat) : Prop := Cond.methodLink own ix arraycopyName ∈ q_Z ∧ Cond.native arraycopyName ∈ q_Z ∧ Cond.static arraycopyName ∈ q_Z ∧ Cond.initialized "java/lang/System" ∈ q_Z
theorem g_acopy (C : q_C Γ ad d mc ms own y cc nL ret) {ix a a0 n0 n1 : Nat} {f g F : Nat → Int32} {sp dp z : Int32} (hl : q_LY own ix) (hdg : decode cc pc = .ok (.invokestatic ix, 3)) (h0 : h a0 = .inl (0, n0, f)) (h1 : h a = .inl (0, n1, g)) (hs : ¬ sp < 0) (hp : ¬ dp < 0) (hz : ¬ z < 0) (h4 : sp.toNatClampNeg + z.toNatClampNeg ≤ n0) (h5 : dp.toNatClampNeg + z.toNatClampNeg ≤ n1) (hF : ∀ j : Nat, j < n1 → va_cpy f g sp.toNatClampNeg dp.toNatClampNeg z.toNatClampNeg j = F j) (hd : 1 ≤ d) (hst : (st.map fun v => v.category).sum ≤ 8) (kk : q_G Γ ad nL (pc + 3) la st n (q_up h a (.inl (0, n1, F))) k1 k2) : q_G Γ ad nL pc la (.int z :: .int dp :: .ref a :: .int sp :: .ref a0 :: st) n h k1 k2 := by
  obtain ⟨p, l, e, R, s, m, args, below, meth, c, D, A, Q⟩ := Γ
  intro H locs ls hI hL
  obtain ⟨ws, tys, hK, hP, hD, hS, hSim⟩ := id hI
  obtain ⟨e0, i1, i2, i3⟩ := hSim.2.2 a0 (q_nd_a h0)
  obtain ⟨e1, j1, j2, j3⟩ := hSim.2.2 a (q_nd_a h1)
  rw [h0] at i2
  rw [h1] at j2
  obtain ⟨cA, t0, f', rfl, ht0, hf'⟩ := i2
  obtain ⟨cB, t1, g', rfl, ht1, hg'⟩ := j2
  obtain ⟨C1, C2, C3, C4, C5, C6, C7, C8, C9, C10, C11, rfl⟩ := C
  exact va_copyi (D := D) (ty := .int) C1 C2 (by rw [C3]; exact hL.1.symm) C5 (C6 _ (List.mem_cons_of_mem _ hl.1)) (C6 _ (List.mem_cons_of_mem _ hl.2.1)) (C6 _ (List.mem_cons_of_mem _ hl.2.2.1)) (C6 _ (List.mem_cons_of_mem _ hl.2.2.2)) hK hP hD hS a0 a t0 t1 i1 j1 ht0 ht1 rfl hs hp hz h4 h5 (fun i _ => rfl) hd (by rw [q_cats, show nativeFrameWords "java/lang/System" "arraycopy" 5 = 7 by decide +kernel]; show _ ≤ 32 * d; omega) hdg (fun H1 locs1 hP1 hD1 hS1 => kk H1 locs1 ls ⟨_, tys, hK, hP1, hD1, hS1, hSim.set (D := D) (A := A) j1 ⟨cB, t1, _, rfl, ht1, fun j hj => by
    refine Eq.trans ?_ (hF j hj)
    unfold va_cpy
    by_cases hj2 : dp.toNatClampNeg ≤ j ∧ j < dp.toNatClampNeg + z.toNatClampNeg
    · rw [if_pos hj2, if_pos hj2]; exact hf' _ (by show _ < n0; omega)
    · rw [if_neg hj2, if_neg hj2]; exact hg' j hj⟩ trivial⟩ hL)
/-- Object() -/
def q_LO (own : String) (ix : Nat) : Prop := Cond.methodLink own ix objectInit ∈ q_Z ∧ Cond.instanceMethod objectInit ∈ q_Z ∧ Cond.code objectInit ⟨#[0xb1]⟩ 1 none ∈ q_Z
theorem g_oinit (C : q_C Γ ad d mc ms own y cc nL ret) {ix a : Nat} (hl : q_LO own ix) (hdg : decode cc pc = .ok (.invokespecial ix, 3)) (hd : 1 ≤ d) (hst : (st.map fun v => v.category).sum ≤ 8) (kk : q_G Γ ad nL (pc + 3) la st n h k1 k2) : q_G Γ ad nL pc la (.ref a :: st) n h k1 k2 := by
  obtain ⟨p, l, e, R, s, m, args, below, meth, c, D, A, Q⟩ := Γ
  intro H locs ls hI hL
  obtain ⟨C1, C2, C3, C4, C5, C6, C7, C8, C9, C10, C11, rfl⟩ := C
  exact W.objInit C1 C2 C5 (C6 _ (List.mem_cons_of_mem _ hl.1)) (C6 _ (List.mem_cons_of_mem _ hl.2.1)) (C6 _ (List.mem_cons_of_mem _ hl.2.2)) (g := F0 m pc ls _) rfl (by rw [C3]; exact hL.1) rfl hdg hd (by rw [q_cats]; show 2 * 0 + _ + 12 ≤ 32 * d; omega) (kk H locs ls hI hL)
-- answers
theorem q_end {D : va_G} {A : Nat → Prop} {s : State} {H : Heap} {locs : List Loc} {args : Array Value} {r : Option Value} (hI : q_I D A s H locs ad n h) : ∀ t : State, t.heap = H → s.WarmedH t.vm → q_Q D A ad n h r args s (.returned (r.map (q_cv ad))) t := by
  intro t ht hW
  obtain ⟨ws, tys, hK, hP, hD, hS, hSim⟩ := hI
  exact ⟨⟨rfl, ws, tys, by rw [ht]; exact hP, va_K.moved hW.alike hK, hD, hSim⟩, hS.F ht⟩
theorem g_iret (C : q_C Γ ad d mc ms own y cc nL ret) {v : Int32} {ty : FieldType} {r : Option Value} {h' : q_H} (F : q_N Γ ad n r h') (hdg : decode cc pc = .ok (.ireturn, 1)) (hr : ret = some ty) (hn : narrow ty (.int v) = .int v) (e1 : some (.int v) = r) (e2 : h = h') : q_G Γ ad nL pc la [.int v] n h 0 0 := by
  obtain ⟨p, l, e, R, s, m, args, below, meth, c, D, A, Q⟩ := Γ
  intro H locs ls hI hL
  subst e1
  subst e2
  have F : Q = _ := F
  subst F
  have hlk : meth.locks = false := C.2.2.2.2.2.2.1
  obtain ⟨_, _, _, _, _, hS, _⟩ := id hI
  exact W.zret C.1 C.2.1 (C.2.2.2.1.trans hr) hn (q_end (r := some (.int v)) hI) hS.2.2 hdg hlk
theorem g_aret (C : q_C Γ ad d mc ms own y cc nL ret) {v : Value} {ty : String} {r : Option Value} {h' : q_H} (F : q_N Γ ad n r h') (hdg : decode cc pc = .ok (.areturn, 1)) (hr : ret = some (.object ty)) (hv : v = .null ∨ ∃ a, v = .ref a) (e1 : some v = r) (e2 : h = h') : q_G Γ ad nL pc la [v] n h 0 0 := by
  obtain ⟨p, l, e, R, s, m, args, below, meth, c, D, A, Q⟩ := Γ
  intro H locs ls hI hL
  subst e1
  subst e2
  have F : Q = _ := F
  subst F
  have hlk : meth.locks = false := C.2.2.2.2.2.2.1
  obtain ⟨_, _, _, _, _, hS, _⟩ := id hI
  exact W.aret C.1 C.2.1 (C.2.2.2.1.trans hr) (Or.inl ⟨_, rfl⟩) (by rcases hv with rfl | ⟨a, rfl⟩; exact Or.inl rfl; exact Or.inr ⟨_, rfl⟩) (q_end (r := some v) hI) hS.2.2 hdg hlk
theorem g_vret (C : q_C Γ ad d mc ms own y cc nL ret) {r : Option Value} {h' : q_H} (F : q_N Γ ad n r h') (hdg : decode cc pc = .ok (.return_, 1)) (hr : ret = none) (e1 : none = r) (e2 : h = h') : q_G Γ ad nL pc la [] n h 0 0 := by
  obtain ⟨p, l, e, R, s, m, args, below, meth, c, D, A, Q⟩ := Γ
  intro H locs ls hI hL
  subst e1
  subst e2
  have F : Q = _ := F
  subst F
  have hlk : meth.locks = false := C.2.2.2.2.2.2.1
  obtain ⟨_, _, _, _, _, hS, _⟩ := id hI
  exact W.vret C.1 C.2.1 (C.2.2.2.1.trans hr) (q_end (r := none) hI) hS.2.2 hdg hlk
-- calls
theorem q_goodA {y : MethodName} {cc : ByteArray} {nL : Nat} {ret : Option FieldType} {l : List Cond} (h : ∀ w ∈ l, w ∈ q_Z) : GoodIn (q_ws y cc nL ret) l := fun w hw => ⟨List.mem_cons_of_mem _ (h w hw), good_of_word (List.mem_filter.mp (h w hw)).2⟩
theorem q_wsZ {y : MethodName} {cc : ByteArray} {nL : Nat} {ret : Option FieldType} (h : Cond.code y cc nL ret ∈ q_Z) : ∀ w ∈ q_ws y cc nL ret, w ∈ q_Z := fun w hw => by
  rcases List.mem_cons.mp hw with rfl | hw
  · exact h
  · exact hw
def q_LV (own : String) (ix ci : Nat) (y : MethodName) (cc : ByteArray) (maxL : Nat) (ret : Option FieldType) (np : Nat) : Prop :=
  (Cond.methodLink own ix y ∈ q_Z ∧ Cond.instanceMethod y ∈ q_Z ∧ Cond.selects y.cls y y ∈ q_Z ∧ Cond.initialized y.cls ∈ q_Z ∧ Cond.code y cc maxL ret ∈ q_Z) ∧ (y.cls ≠ "java/lang/invoke/MethodHandle" ∧ y.cls ≠ "java/lang/invoke/VarHandle" ∧ (parseMethodDescriptor y.desc).map (fun d => d.parameters.length) = some np) ∧ (vwCl[ci]?).map (fun r => r.1) = some y.cls ∧ maxL ≤ 13 ∧ ci < 1000
def q_LS (own : String) (ix : Nat) (y : MethodName) (cc : ByteArray) (maxL : Nat) (ret : Option FieldType) (np : Nat) : Prop :=
  ((Cond.methodLink own ix y ∈ q_Z ∨ ∃ host : String, (own, ix, y, host) ∈ q_nm) ∧ Cond.static y ∈ q_Z ∧ Cond.initialized y.cls ∈ q_Z ∧ Cond.code y cc maxL ret ∈ q_Z) ∧ (y.cls ≠ "java/lang/invoke/MethodHandle" ∧ y.cls ≠ "java/lang/invoke/VarHandle" ∧ (parseMethodDescriptor y.desc).map (fun d => d.parameters.length) = some np) ∧ maxL ≤ 13
/-- what is behind a call -/
theorem q_back {p : Program} {l : Launch} {e : Env} {R : Room} {s : State} {m : MethodId} {args : Array Value} {below : List Frame} {meth : Method} {c : Code} {D : va_G} {A : Nat → Prop} {Q : State → Prop} {H : Heap} {locs : List Loc} {ls : Array Slot} {st0 rest : List Value} {a : Array Value} {r2 : Option Value} {h2 : q_H}
    (hr : va_Run p l e R s m args below meth c H locs 0 0 0 0 (F0 m pc ls st0) rest (q_Q D (q_A ad n H.size) ad n h2 r2 a) (q_A ad n H.size)) (hA : ∀ q, s.heap.size ≤ q → A q) (hI : q_I D A s H locs ad n h)
    (kk : ∀ (H1 : Heap) (locs1 : List Loc), q_I D A s H1 locs1 ad n h2 → W p l e R s m args below meth c H1 locs1 0 0 Q (F0 m (pc + 3) ls ((r2.map (q_cv ad)).toList ++ rest))) : W p l e R s m args below meth c H locs 0 0 Q (F0 m pc ls st0) := by
  obtain ⟨ws, tys, hK, hP, hD, hS, hSim⟩ := hI
  have hAA : ∀ q, q_A ad n H.size q → A q := by
    intro q hq
    rcases hq with ⟨k, hk, rfl⟩ | hq
    · have hkl : k < ws.length := by rw [hSim.1.1]; exact hk
      have h1 := hD.2 k _ (List.getElem?_eq_getElem hkl)
      rwa [hSim.2.1 k _ (List.getElem?_eq_getElem hkl)] at h1
    · exact hA q (Nat.le_trans hS.1 hq)
  intro T hT X
  obtain ⟨v, st₀, t, T', L, h0, X', hL, e1, e2, ⟨⟨hv, ws1, tys1, hP1, hK1, hD1, hS1⟩, hz, hk⟩, st⟩ := hr T hT X
  cases hv
  rw [h0] at hz hk
  have hal : s.vm.Alike t.vm := by rw [← e2]; exact X'.warmed.alike
  obtain ⟨t2, a1, b1⟩ := kk T'.heap (locs ++ L) ⟨ws1, tys1, va_K.moved hal.symm hK1, by rw [e1]; exact hP1, hD1.weaken (fun _ q _ h => hAA _ h), ⟨Nat.le_trans hS.1 (by rw [e1]; exact hz), fun q h1 h2 => by rw [e1, hk q (Nat.lt_of_lt_of_le h1 hS.1) (fun z => h2 (hAA q z))]; exact hS.2.1 q h1 h2, fun q hq => by
      rcases List.mem_append.mp hq with h | h
      · exact hS.2.2 q h
      · exact hAA _ (hL q h)⟩, hS1⟩ T' rfl X'
  exact ⟨t2, st t2 a1, b1⟩
/-- the world that a callee gets -/
theorem q_give {p : Program} {s : State} {D : va_G} {A : Nat → Prop} {H : Heap} {locs : List Loc} {as : List Value} (hNW : q_NW s) (hSF : q_SF ad A s s.heap) (hA : ∀ q, s.heap.size ≤ q → A q) (hI : q_I D A s H locs ad n h) : PreS s H (va_Pc (as.map (q_cv ad)) (q_B D ad H.size n h)) (as.map (q_cv ad)) := by
  obtain ⟨ws, tys, hK, hP, hD, hS, hSim⟩ := hI
  refine ⟨q_blind, fun U hU hW => ⟨rfl, by rw [hU], ⟨ws, tys, by rw [hU]; exact hP, va_K.moved hW.alike hK, hD.weaken (fun _ _ _ _ => trivial), hSim⟩, hNW.warm hW, ?_⟩⟩
  rw [hU]
  refine hSF.warm hW hS.2.1 ?_
  intro q hq
  rcases hq with ⟨k, hk, rfl⟩ | hq
  · have hkl : k < ws.length := by rw [hSim.1.1]; exact hk
    have h1 := hD.2 k _ (List.getElem?_eq_getElem hkl)
    rwa [hSim.2.1 k _ (List.getElem?_eq_getElem hkl)] at h1
  · exact hA q (Nat.le_trans hS.1 hq)
theorem g_callV (C : q_C Γ ad d 0 0 own y cc nL ret) {d2 ix ci np a : Nat} {y2 : MethodName} {cc2 : ByteArray} {maxL2 : Nat} {ret2 : Option FieldType} {as fs : List Value} {r2 : Option Value} {h2 : q_H} (hl : q_LV own ix ci y2 cc2 maxL2 ret2 np) (hdg : decode cc pc = .ok (.invokevirtual ix, 3)) (hs : SP d2 y2 cc2 maxL2 ret2 (.ref a :: as) n h r2 h2) (hh : h a = .inr (.inr (ci, fs))) (hd : d2 < d) (hst : (st.map fun v => v.category).sum ≤ 8) (hnp : as.length = np) (kk : q_G Γ ad nL (pc + 3) la (r2.toList ++ st) n h2 0 0) : q_G Γ ad nL pc la (as.reverse ++ .ref a :: st) n h 0 0 := by
  obtain ⟨p, l, e, R, s, m, args, below, meth, c, D, A, Q⟩ := Γ
  intro H locs ls hI hL
  obtain ⟨C1, C2, C3, C4, C5, C6, C7, C8, C9, C10, C11, rfl⟩ := C
  obtain ⟨⟨l1, l2, l3, l4, l5⟩, l6, l7, l8, l9⟩ := hl
  have hp := q_give (p := p) (as := .ref a :: as) C8 C9 C10 hI
  obtain ⟨ws, tys, hK, hP, hD, hS, hSim⟩ := id hI
  obtain ⟨e0, i1, i2, i3⟩ := hSim.2.2 a (q_nd_o hh (fun z => by injection z with z1 z2; omega))
  rw [hh] at i2
  have i2 : e0 = .inr (ci, fs.map (q_cv ad)) := i2
  subst i2
  cases hr : vwCl[ci]? with
  | none => rw [hr] at l7; cases l7
  | some r =>
    rw [hr] at l7
    have hr1 : r.1 = y2.cls := Option.some.inj l7
    have hrecv := va_recv hK hP hr i1
    rw [hr1] at hrecv
    have hrun := va_runV (As := as.map (q_cv ad)) (rest := st.map (q_cv ad)) (b := ad a) (H := H) (g := F0 m pc ls ((as.reverse ++ .ref a :: st).map (q_cv ad))) (cells := 0) (slots := 0) (locs := locs) (below := below) (meth := meth) (e := e) (R := q_rm d 0 0) (C := y2.cls) (own := own) ⟨C1, C2, C3, C5, C6⟩ (hs l D ad H.size) (cwV np C6 (q_goodA (fun w hw => by
        unfold wsV at hw
        rcases List.mem_append.mp hw with hw | hw
        · simp only [List.mem_cons, List.not_mem_nil, or_false] at hw
          rcases hw with rfl | rfl | rfl | rfl
          · exact l1
          · exact l2
          · exact l3
          · exact l4
        · exact q_wsZ l5 w hw)) rfl rfl rfl ⟨rfl, l6⟩ ⟨hd, by show 8 + (maxL2 + 11) + 32 * d2 ≤ 32 * d; omega⟩) ⟨hp.1, hrecv, hp.2⟩ rfl (by rw [List.length_map]; exact hnp) hL.1 (by show List.map _ _ = _; rw [List.map_append, List.map_reverse]; rfl) (by rw [q_cats]; show 2 * 0 + _ ≤ 8; omega) hdg ⟨Nat.zero_le _, Nat.zero_le _⟩
    refine q_back hrun C10 hI (fun H1 locs1 hI1 => ?_)
    have := kk H1 locs1 ls hI1 hL
    rw [List.map_append] at this
    cases r2 <;> exact this
theorem g_callS (C : q_C Γ ad d 0 0 own y cc nL ret) {d2 ix np : Nat} {y2 : MethodName} {cc2 : ByteArray} {maxL2 : Nat} {ret2 : Option FieldType} {as : List Value} {r2 : Option Value} {h2 : q_H} (hl : q_LS own ix y2 cc2 maxL2 ret2 np) (hdg : decode cc pc = .ok (.invokestatic ix, 3)) (hs : SP d2 y2 cc2 maxL2 ret2 as n h r2 h2) (hd : d2 < d) (hst : (st.map fun v => v.category).sum ≤ 8) (hnp : as.length = np) (kk : q_G Γ ad nL (pc + 3) la (r2.toList ++ st) n h2 0 0) : q_G Γ ad nL pc la (as.reverse ++ st) n h 0 0 := by
  obtain ⟨p, l, e, R, s, m, args, below, meth, c, D, A, Q⟩ := Γ
  intro H locs ls hI hL
  obtain ⟨C1, C2, C3, C4, C5, C6, C7, C8, C9, C10, C11, rfl⟩ := C
  obtain ⟨⟨l1, l2, l4, l5⟩, l6, l8⟩ := hl
  have hp := q_give (p := p) (as := as) C8 C9 C10 hI
  have hrun : va_Run p l e (q_rm d 0 0) s m args below meth c H locs 0 0 0 0 (F0 m pc ls ((as.reverse ++ st).map (q_cv ad))) (st.map (q_cv ad)) (q_Q D (q_A ad n H.size) ad n h2 r2 (as.map (q_cv ad)).toArray) (q_A ad n H.size) := by
    rcases l1 with l1 | ⟨host, l1⟩
    · exact va_runS (As := as.map (q_cv ad)) (own := own) ⟨C1, C2, C3, C5, C6⟩ (hs l D ad H.size) (va_cwS np C6 (q_goodA (fun w hw => by
        unfold va_wsS at hw
        rcases List.mem_append.mp hw with hw | hw
        · simp only [List.mem_cons, List.not_mem_nil, or_false] at hw
          rcases hw with rfl | rfl | rfl
          · exact l1
          · exact l2
          · exact l4
        · exact q_wsZ l5 w hw)) rfl rfl rfl l6 ⟨hd, by show 8 + (maxL2 + 11) + 32 * d2 ≤ 32 * d; omega⟩) hp rfl (by rw [List.length_map]; exact hnp) hL.1 (by show List.map _ _ = _; rw [List.map_append, List.map_reverse]) (by rw [q_cats]; show 2 * 0 + _ ≤ 8; omega) hdg ⟨Nat.zero_le _, Nat.zero_le _⟩
    · exact va_runSN (As := as.map (q_cv ad)) (own := own) (host := host) ⟨C1, C2, C3, C5, C6⟩ (hs l D ad H.size) ⟨va_cnB np C6 (q_good l5) rfl rfl rfl (C8.2.1 _ l1) (C6 _ (List.mem_cons_of_mem _ l4)) l6 ⟨hd, by show 8 + (maxL2 + 11) + 32 * d2 ≤ 32 * d; omega⟩, C6 _ (List.mem_cons_of_mem _ l2), trivial⟩ hp rfl (by rw [List.length_map]; exact hnp) hL.1 (by show List.map _ _ = _; rw [List.map_append, List.map_reverse]) (by rw [q_cats]; show 2 * 0 + _ ≤ 8; omega) hdg ⟨Nat.zero_le _, Nat.zero_le _⟩
  refine q_back hrun C10 hI (fun H1 locs1 hI1 => ?_)
  have := kk H1 locs1 ls hI1 hL
  rw [List.map_append] at this
  cases r2 <;> exact this
theorem g_V0v (C : q_C Γ ad d 0 0 own y cc nL ret) {d2 ix ci a : Nat} {y2 : MethodName} {cc2 : ByteArray} {maxL2 : Nat} {ret2 : Option FieldType} {fs : List Value}  {v : Value} {h2 : q_H} (hl : q_LV own ix ci y2 cc2 maxL2 ret2 0) (hdg : decode cc pc = .ok (.invokevirtual ix, 3)) (hs : SP d2 y2 cc2 maxL2 ret2 [.ref a] n h (some v) h2) (hh : h a = .inr (.inr (ci, fs))) (hd : d2 < d) (hst : (st.map fun v => v.category).sum ≤ 8) (kk : q_G Γ ad nL (pc + 3) la (v :: st) n h2 0 0) : q_G Γ ad nL pc la (.ref a :: st) n h 0 0 :=
  g_callV (as := []) C hl hdg hs hh hd hst rfl kk
theorem g_V0u (C : q_C Γ ad d 0 0 own y cc nL ret) {d2 ix ci a : Nat} {y2 : MethodName} {cc2 : ByteArray} {maxL2 : Nat} {ret2 : Option FieldType} {fs : List Value}   {h2 : q_H} (hl : q_LV own ix ci y2 cc2 maxL2 ret2 0) (hdg : decode cc pc = .ok (.invokevirtual ix, 3)) (hs : SP d2 y2 cc2 maxL2 ret2 [.ref a] n h none h2) (hh : h a = .inr (.inr (ci, fs))) (hd : d2 < d) (hst : (st.map fun v => v.category).sum ≤ 8) (kk : q_G Γ ad nL (pc + 3) la st n h2 0 0) : q_G Γ ad nL pc la (.ref a :: st) n h 0 0 :=
  g_callV (as := []) C hl hdg hs hh hd hst rfl kk
theorem g_V1v (C : q_C Γ ad d 0 0 own y cc nL ret) {d2 ix ci a : Nat} {y2 : MethodName} {cc2 : ByteArray} {maxL2 : Nat} {ret2 : Option FieldType} {fs : List Value} {x1 : Value} {v : Value} {h2 : q_H} (hl : q_LV own ix ci y2 cc2 maxL2 ret2 1) (hdg : decode cc pc = .ok (.invokevirtual ix, 3)) (hs : SP d2 y2 cc2 maxL2 ret2 [.ref a, x1] n h (some v) h2) (hh : h a = .inr (.inr (ci, fs))) (hd : d2 < d) (hst : (st.map fun v => v.category).sum ≤ 8) (kk : q_G Γ ad nL (pc + 3) la (v :: st) n h2 0 0) : q_G Γ ad nL pc la (x1 :: .ref a :: st) n h 0 0 :=
  g_callV (as := [x1]) C hl hdg hs hh hd hst rfl kk
theorem g_S1v (C : q_C Γ ad d 0 0 own y cc nL ret) {d2 ix : Nat} {y2 : MethodName} {cc2 : ByteArray} {maxL2 : Nat} {ret2 : Option FieldType} {x1 : Value} {v : Value} {h2 : q_H} (hl : q_LS own ix y2 cc2 maxL2 ret2 1) (hdg : decode cc pc = .ok (.invokestatic ix, 3)) (hs : SP d2 y2 cc2 maxL2 ret2 [x1] n h (some v) h2) (hd : d2 < d) (hst : (st.map fun v => v.category).sum ≤ 8) (kk : q_G Γ ad nL (pc + 3) la (v :: st) n h2 0 0) : q_G Γ ad nL pc la (x1 :: st) n h 0 0 :=
  g_callS (as := [x1]) C hl hdg hs hd hst rfl kk
theorem g_V1u (C : q_C Γ ad d 0 0 own y cc nL ret) {d2 ix ci a : Nat} {y2 : MethodName} {cc2 : ByteArray} {maxL2 : Nat} {ret2 : Option FieldType} {fs : List Value} {x1 : Value}  {h2 : q_H} (hl : q_LV own ix ci y2 cc2 maxL2 ret2 1) (hdg : decode cc pc = .ok (.invokevirtual ix, 3)) (hs : SP d2 y2 cc2 maxL2 ret2 [.ref a, x1] n h none h2) (hh : h a = .inr (.inr (ci, fs))) (hd : d2 < d) (hst : (st.map fun v => v.category).sum ≤ 8) (kk : q_G Γ ad nL (pc + 3) la st n h2 0 0) : q_G Γ ad nL pc la (x1 :: .ref a :: st) n h 0 0 :=
  g_callV (as := [x1]) C hl hdg hs hh hd hst rfl kk
theorem g_S1u (C : q_C Γ ad d 0 0 own y cc nL ret) {d2 ix : Nat} {y2 : MethodName} {cc2 : ByteArray} {maxL2 : Nat} {ret2 : Option FieldType} {x1 : Value}  {h2 : q_H} (hl : q_LS own ix y2 cc2 maxL2 ret2 1) (hdg : decode cc pc = .ok (.invokestatic ix, 3)) (hs : SP d2 y2 cc2 maxL2 ret2 [x1] n h none h2) (hd : d2 < d) (hst : (st.map fun v => v.category).sum ≤ 8) (kk : q_G Γ ad nL (pc + 3) la st n h2 0 0) : q_G Γ ad nL pc la (x1 :: st) n h 0 0 :=
  g_callS (as := [x1]) C hl hdg hs hd hst rfl kk
theorem g_V2v (C : q_C Γ ad d 0 0 own y cc nL ret) {d2 ix ci a : Nat} {y2 : MethodName} {cc2 : ByteArray} {maxL2 : Nat} {ret2 : Option FieldType} {fs : List Value} {x1 x2 : Value} {v : Value} {h2 : q_H} (hl : q_LV own ix ci y2 cc2 maxL2 ret2 2) (hdg : decode cc pc = .ok (.invokevirtual ix, 3)) (hs : SP d2 y2 cc2 maxL2 ret2 [.ref a, x1, x2] n h (some v) h2) (hh : h a = .inr (.inr (ci, fs))) (hd : d2 < d) (hst : (st.map fun v => v.category).sum ≤ 8) (kk : q_G Γ ad nL (pc + 3) la (v :: st) n h2 0 0) : q_G Γ ad nL pc la (x2 :: x1 :: .ref a :: st) n h 0 0 :=
  g_callV (as := [x1, x2]) C hl hdg hs hh hd hst rfl kk
theorem g_S2v (C : q_C Γ ad d 0 0 own y cc nL ret) {d2 ix : Nat} {y2 : MethodName} {cc2 : ByteArray} {maxL2 : Nat} {ret2 : Option FieldType} {x1 x2 : Value} {v : Value} {h2 : q_H} (hl : q_LS own ix y2 cc2 maxL2 ret2 2) (hdg : decode cc pc = .ok (.invokestatic ix, 3)) (hs : SP d2 y2 cc2 maxL2 ret2 [x1, x2] n h (some v) h2) (hd : d2 < d) (hst : (st.map fun v => v.category).sum ≤ 8) (kk : q_G Γ ad nL (pc + 3) la (v :: st) n h2 0 0) : q_G Γ ad nL pc la (x2 :: x1 :: st) n h 0 0 :=
  g_callS (as := [x1, x2]) C hl hdg hs hd hst rfl kk
theorem g_V2u (C : q_C Γ ad d 0 0 own y cc nL ret) {d2 ix ci a : Nat} {y2 : MethodName} {cc2 : ByteArray} {maxL2 : Nat} {ret2 : Option FieldType} {fs : List Value} {x1 x2 : Value}  {h2 : q_H} (hl : q_LV own ix ci y2 cc2 maxL2 ret2 2) (hdg : decode cc pc = .ok (.invokevirtual ix, 3)) (hs : SP d2 y2 cc2 maxL2 ret2 [.ref a, x1, x2] n h none h2) (hh : h a = .inr (.inr (ci, fs))) (hd : d2 < d) (hst : (st.map fun v => v.category).sum ≤ 8) (kk : q_G Γ ad nL (pc + 3) la st n h2 0 0) : q_G Γ ad nL pc la (x2 :: x1 :: .ref a :: st) n h 0 0 :=
  g_callV (as := [x1, x2]) C hl hdg hs hh hd hst rfl kk
theorem g_S2u (C : q_C Γ ad d 0 0 own y cc nL ret) {d2 ix : Nat} {y2 : MethodName} {cc2 : ByteArray} {maxL2 : Nat} {ret2 : Option FieldType} {x1 x2 : Value}  {h2 : q_H} (hl : q_LS own ix y2 cc2 maxL2 ret2 2) (hdg : decode cc pc = .ok (.invokestatic ix, 3)) (hs : SP d2 y2 cc2 maxL2 ret2 [x1, x2] n h none h2) (hd : d2 < d) (hst : (st.map fun v => v.category).sum ≤ 8) (kk : q_G Γ ad nL (pc + 3) la st n h2 0 0) : q_G Γ ad nL pc la (x2 :: x1 :: st) n h 0 0 :=
  g_callS (as := [x1, x2]) C hl hdg hs hd hst rfl kk
theorem g_V3v (C : q_C Γ ad d 0 0 own y cc nL ret) {d2 ix ci a : Nat} {y2 : MethodName} {cc2 : ByteArray} {maxL2 : Nat} {ret2 : Option FieldType} {fs : List Value} {x1 x2 x3 : Value} {v : Value} {h2 : q_H} (hl : q_LV own ix ci y2 cc2 maxL2 ret2 3) (hdg : decode cc pc = .ok (.invokevirtual ix, 3)) (hs : SP d2 y2 cc2 maxL2 ret2 [.ref a, x1, x2, x3] n h (some v) h2) (hh : h a = .inr (.inr (ci, fs))) (hd : d2 < d) (hst : (st.map fun v => v.category).sum ≤ 8) (kk : q_G Γ ad nL (pc + 3) la (v :: st) n h2 0 0) : q_G Γ ad nL pc la (x3 :: x2 :: x1 :: .ref a :: st) n h 0 0 :=
  g_callV (as := [x1, x2, x3]) C hl hdg hs hh hd hst rfl kk
theorem g_S3v (C : q_C Γ ad d 0 0 own y cc nL ret) {d2 ix : Nat} {y2 : MethodName} {cc2 : ByteArray} {maxL2 : Nat} {ret2 : Option FieldType} {x1 x2 x3 : Value} {v : Value} {h2 : q_H} (hl : q_LS own ix y2 cc2 maxL2 ret2 3) (hdg : decode cc pc = .ok (.invokestatic ix, 3)) (hs : SP d2 y2 cc2 maxL2 ret2 [x1, x2, x3] n h (some v) h2) (hd : d2 < d) (hst : (st.map fun v => v.category).sum ≤ 8) (kk : q_G Γ ad nL (pc + 3) la (v :: st) n h2 0 0) : q_G Γ ad nL pc la (x3 :: x2 :: x1 :: st) n h 0 0 :=
  g_callS (as := [x1, x2, x3]) C hl hdg hs hd hst rfl kk
theorem g_V3u (C : q_C Γ ad d 0 0 own y cc nL ret) {d2 ix ci a : Nat} {y2 : MethodName} {cc2 : ByteArray} {maxL2 : Nat} {ret2 : Option FieldType} {fs : List Value} {x1 x2 x3 : Value}  {h2 : q_H} (hl : q_LV own ix ci y2 cc2 maxL2 ret2 3) (hdg : decode cc pc = .ok (.invokevirtual ix, 3)) (hs : SP d2 y2 cc2 maxL2 ret2 [.ref a, x1, x2, x3] n h none h2) (hh : h a = .inr (.inr (ci, fs))) (hd : d2 < d) (hst : (st.map fun v => v.category).sum ≤ 8) (kk : q_G Γ ad nL (pc + 3) la st n h2 0 0) : q_G Γ ad nL pc la (x3 :: x2 :: x1 :: .ref a :: st) n h 0 0 :=
  g_callV (as := [x1, x2, x3]) C hl hdg hs hh hd hst rfl kk
theorem g_S3u (C : q_C Γ ad d 0 0 own y cc nL ret) {d2 ix : Nat} {y2 : MethodName} {cc2 : ByteArray} {maxL2 : Nat} {ret2 : Option FieldType} {x1 x2 x3 : Value}  {h2 : q_H} (hl : q_LS own ix y2 cc2 maxL2 ret2 3) (hdg : decode cc pc = .ok (.invokestatic ix, 3)) (hs : SP d2 y2 cc2 maxL2 ret2 [x1, x2, x3] n h none h2) (hd : d2 < d) (hst : (st.map fun v => v.category).sum ≤ 8) (kk : q_G Γ ad nL (pc + 3) la st n h2 0 0) : q_G Γ ad nL pc la (x3 :: x2 :: x1 :: st) n h 0 0 :=
  g_callS (as := [x1, x2, x3]) C hl hdg hs hd hst rfl kk
theorem g_V4v (C : q_C Γ ad d 0 0 own y cc nL ret) {d2 ix ci a : Nat} {y2 : MethodName} {cc2 : ByteArray} {maxL2 : Nat} {ret2 : Option FieldType} {fs : List Value} {x1 x2 x3 x4 : Value} {v : Value} {h2 : q_H} (hl : q_LV own ix ci y2 cc2 maxL2 ret2 4) (hdg : decode cc pc = .ok (.invokevirtual ix, 3)) (hs : SP d2 y2 cc2 maxL2 ret2 [.ref a, x1, x2, x3, x4] n h (some v) h2) (hh : h a = .inr (.inr (ci, fs))) (hd : d2 < d) (hst : (st.map fun v => v.category).sum ≤ 8) (kk : q_G Γ ad nL (pc + 3) la (v :: st) n h2 0 0) : q_G Γ ad nL pc la (x4 :: x3 :: x2 :: x1 :: .ref a :: st) n h 0 0 :=
  g_callV (as := [x1, x2, x3, x4]) C hl hdg hs hh hd hst rfl kk
theorem g_S4v (C : q_C Γ ad d 0 0 own y cc nL ret) {d2 ix : Nat} {y2 : MethodName} {cc2 : ByteArray} {maxL2 : Nat} {ret2 : Option FieldType} {x1 x2 x3 x4 : Value} {v : Value} {h2 : q_H} (hl : q_LS own ix y2 cc2 maxL2 ret2 4) (hdg : decode cc pc = .ok (.invokestatic ix, 3)) (hs : SP d2 y2 cc2 maxL2 ret2 [x1, x2, x3, x4] n h (some v) h2) (hd : d2 < d) (hst : (st.map fun v => v.category).sum ≤ 8) (kk : q_G Γ ad nL (pc + 3) la (v :: st) n h2 0 0) : q_G Γ ad nL pc la (x4 :: x3 :: x2 :: x1 :: st) n h 0 0 :=
  g_callS (as := [x1, x2, x3, x4]) C hl hdg hs hd hst rfl kk
theorem g_V4u (C : q_C Γ ad d 0 0 own y cc nL ret) {d2 ix ci a : Nat} {y2 : MethodName} {cc2 : ByteArray} {maxL2 : Nat} {ret2 : Option FieldType} {fs : List Value} {x1 x2 x3 x4 : Value}  {h2 : q_H} (hl : q_LV own ix ci y2 cc2 maxL2 ret2 4) (hdg : decode cc pc = .ok (.invokevirtual ix, 3)) (hs : SP d2 y2 cc2 maxL2 ret2 [.ref a, x1, x2, x3, x4] n h none h2) (hh : h a = .inr (.inr (ci, fs))) (hd : d2 < d) (hst : (st.map fun v => v.category).sum ≤ 8) (kk : q_G Γ ad nL (pc + 3) la st n h2 0 0) : q_G Γ ad nL pc la (x4 :: x3 :: x2 :: x1 :: .ref a :: st) n h 0 0 :=
  g_callV (as := [x1, x2, x3, x4]) C hl hdg hs hh hd hst rfl kk
theorem g_S4u (C : q_C Γ ad d 0 0 own y cc nL ret) {d2 ix : Nat} {y2 : MethodName} {cc2 : ByteArray} {maxL2 : Nat} {ret2 : Option FieldType} {x1 x2 x3 x4 : Value}  {h2 : q_H} (hl : q_LS own ix y2 cc2 maxL2 ret2 4) (hdg : decode cc pc = .ok (.invokestatic ix, 3)) (hs : SP d2 y2 cc2 maxL2 ret2 [x1, x2, x3, x4] n h none h2) (hd : d2 < d) (hst : (st.map fun v => v.category).sum ≤ 8) (kk : q_G Γ ad nL (pc + 3) la st n h2 0 0) : q_G Γ ad nL pc la (x4 :: x3 :: x2 :: x1 :: st) n h 0 0 :=
  g_callS (as := [x1, x2, x3, x4]) C hl hdg hs hd hst rfl kk
theorem g_V5v (C : q_C Γ ad d 0 0 own y cc nL ret) {d2 ix ci a : Nat} {y2 : MethodName} {cc2 : ByteArray} {maxL2 : Nat} {ret2 : Option FieldType} {fs : List Value} {x1 x2 x3 x4 x5 : Value} {v : Value} {h2 : q_H} (hl : q_LV own ix ci y2 cc2 maxL2 ret2 5) (hdg : decode cc pc = .ok (.invokevirtual ix, 3)) (hs : SP d2 y2 cc2 maxL2 ret2 [.ref a, x1, x2, x3, x4, x5] n h (some v) h2) (hh : h a = .inr (.inr (ci, fs))) (hd : d2 < d) (hst : (st.map fun v => v.category).sum ≤ 8) (kk : q_G Γ ad nL (pc + 3) la (v :: st) n h2 0 0) : q_G Γ ad nL pc la (x5 :: x4 :: x3 :: x2 :: x1 :: .ref a :: st) n h 0 0 :=
  g_callV (as := [x1, x2, x3, x4, x5]) C hl hdg hs hh hd hst rfl kk
theorem g_S5v (C : q_C Γ ad d 0 0 own y cc nL ret) {d2 ix : Nat} {y2 : MethodName} {cc2 : ByteArray} {maxL2 : Nat} {ret2 : Option FieldType} {x1 x2 x3 x4 x5 : Value} {v : Value} {h2 : q_H} (hl : q_LS own ix y2 cc2 maxL2 ret2 5) (hdg : decode cc pc = .ok (.invokestatic ix, 3)) (hs : SP d2 y2 cc2 maxL2 ret2 [x1, x2, x3, x4, x5] n h (some v) h2) (hd : d2 < d) (hst : (st.map fun v => v.category).sum ≤ 8) (kk : q_G Γ ad nL (pc + 3) la (v :: st) n h2 0 0) : q_G Γ ad nL pc la (x5 :: x4 :: x3 :: x2 :: x1 :: st) n h 0 0 :=
  g_callS (as := [x1, x2, x3, x4, x5]) C hl hdg hs hd hst rfl kk
theorem g_V5u (C : q_C Γ ad d 0 0 own y cc nL ret) {d2 ix ci a : Nat} {y2 : MethodName} {cc2 : ByteArray} {maxL2 : Nat} {ret2 : Option FieldType} {fs : List Value} {x1 x2 x3 x4 x5 : Value}  {h2 : q_H} (hl : q_LV own ix ci y2 cc2 maxL2 ret2 5) (hdg : decode cc pc = .ok (.invokevirtual ix, 3)) (hs : SP d2 y2 cc2 maxL2 ret2 [.ref a, x1, x2, x3, x4, x5] n h none h2) (hh : h a = .inr (.inr (ci, fs))) (hd : d2 < d) (hst : (st.map fun v => v.category).sum ≤ 8) (kk : q_G Γ ad nL (pc + 3) la st n h2 0 0) : q_G Γ ad nL pc la (x5 :: x4 :: x3 :: x2 :: x1 :: .ref a :: st) n h 0 0 :=
  g_callV (as := [x1, x2, x3, x4, x5]) C hl hdg hs hh hd hst rfl kk
theorem g_S5u (C : q_C Γ ad d 0 0 own y cc nL ret) {d2 ix : Nat} {y2 : MethodName} {cc2 : ByteArray} {maxL2 : Nat} {ret2 : Option FieldType} {x1 x2 x3 x4 x5 : Value}  {h2 : q_H} (hl : q_LS own ix y2 cc2 maxL2 ret2 5) (hdg : decode cc pc = .ok (.invokestatic ix, 3)) (hs : SP d2 y2 cc2 maxL2 ret2 [x1, x2, x3, x4, x5] n h none h2) (hd : d2 < d) (hst : (st.map fun v => v.category).sum ≤ 8) (kk : q_G Γ ad nL (pc + 3) la st n h2 0 0) : q_G Γ ad nL pc la (x5 :: x4 :: x3 :: x2 :: x1 :: st) n h 0 0 :=
  g_callS (as := [x1, x2, x3, x4, x5]) C hl hdg hs hd hst rfl kk
end QK
