section QR
variable {Γ : q_X} {ad : Nat → Nat} {d mc ms : Nat} {own : String} {y : MethodName} {cc : ByteArray} {nL : Nat} {ret : Option FieldType} {pc : Nat} {la : List (Option Value)} {st : List Value} {n : Nat} {h : q_H} {k1 k2 : Nat}
theorem g_iconst (C : q_C Γ ad d mc ms own y cc nL ret) {z : Int} {v : Int32} (hv : Int32.ofInt z = v) (hdg : decode cc pc = .ok (.iconst z, 1)) (kk : q_G Γ ad nL (pc + 1) la (.int v :: st) n h k1 k2) : q_G Γ ad nL pc la st n h k1 k2 := by
  obtain ⟨p, l, e, R, s, m, args, below, meth, c, D, A, Q⟩ := Γ
  intro H locs ls hI hL
  exact lv_iconst C.1 C.2.1 hdg hv (kk H locs ls hI hL)
theorem g_bipush (C : q_C Γ ad d mc ms own y cc nL ret) {z : Int} {v : Int32} (hv : (Int8.ofInt z).toInt32 = v) (hdg : decode cc pc = .ok (.bipush z, 2)) (kk : q_G Γ ad nL (pc + 2) la (.int v :: st) n h k1 k2) : q_G Γ ad nL pc la st n h k1 k2 := by
  obtain ⟨p, l, e, R, s, m, args, below, meth, c, D, A, Q⟩ := Γ
  intro H locs ls hI hL
  exact lv_bipush C.1 C.2.1 hdg hv (kk H locs ls hI hL)
theorem g_sipush (C : q_C Γ ad d mc ms own y cc nL ret) {z : Int} {v : Int32} (hv : (Int16.ofInt z).toInt32 = v) (hdg : decode cc pc = .ok (.sipush z, 3)) (kk : q_G Γ ad nL (pc + 3) la (.int v :: st) n h k1 k2) : q_G Γ ad nL pc la st n h k1 k2 := by
  obtain ⟨p, l, e, R, s, m, args, below, meth, c, D, A, Q⟩ := Γ
  intro H locs ls hI hL
  exact lv_sipush C.1 C.2.1 hdg hv (kk H locs ls hI hL)
theorem g_lconst (C : q_C Γ ad d mc ms own y cc nL ret) {z : Fin 2} {v : Int64} (hv : Int64.ofNat (z : Nat) = v) (hdg : decode cc pc = .ok (.lconst z, 1)) (kk : q_G Γ ad nL (pc + 1) la (.long v :: st) n h k1 k2) : q_G Γ ad nL pc la st n h k1 k2 := by
  obtain ⟨p, l, e, R, s, m, args, below, meth, c, D, A, Q⟩ := Γ
  intro H locs ls hI hL
  exact lv_lconst C.1 C.2.1 hdg hv (kk H locs ls hI hL)
theorem g_null (C : q_C Γ ad d mc ms own y cc nL ret)  (hdg : decode cc pc = .ok (.aconst_null, 1)) (kk : q_G Γ ad nL (pc + 1) la (.null :: st) n h k1 k2) : q_G Γ ad nL pc la st n h k1 k2 := by
  obtain ⟨p, l, e, R, s, m, args, below, meth, c, D, A, Q⟩ := Γ
  intro H locs ls hI hL
  exact lv_null C.1 C.2.1 hdg (kk H locs ls hI hL)
theorem g_ldc (C : q_C Γ ad d mc ms own y cc nL ret) {ix : Nat} {v : Int32} (hw : Cond.constant own ix v ∈ q_Z) (hdg : decode cc pc = .ok (.ldc ix, 2)) (kk : q_G Γ ad nL (pc + 2) la (.int v :: st) n h k1 k2) : q_G Γ ad nL pc la st n h k1 k2 := by
  obtain ⟨p, l, e, R, s, m, args, below, meth, c, D, A, Q⟩ := Γ
  intro H locs ls hI hL
  exact lv_ldc C.1 C.2.1 C.2.2.2.2.1 (C.2.2.2.2.2.1 _ (List.mem_cons_of_mem _ hw)) hdg (kk H locs ls hI hL)
theorem g_ldcw (C : q_C Γ ad d mc ms own y cc nL ret) {ix : Nat} {v : Int32} (hw : Cond.constant own ix v ∈ q_Z) (hdg : decode cc pc = .ok (.ldc_w ix, 3)) (kk : q_G Γ ad nL (pc + 3) la (.int v :: st) n h k1 k2) : q_G Γ ad nL pc la st n h k1 k2 := by
  obtain ⟨p, l, e, R, s, m, args, below, meth, c, D, A, Q⟩ := Γ
  intro H locs ls hI hL
  exact lv_ldcw C.1 C.2.1 C.2.2.2.2.1 (C.2.2.2.2.2.1 _ (List.mem_cons_of_mem _ hw)) hdg (kk H locs ls hI hL)
theorem g_ldc2 (C : q_C Γ ad d mc ms own y cc nL ret) {ix : Nat} {v : Int64} (hw : Cond.constantLong own ix v ∈ q_Z) (hdg : decode cc pc = .ok (.ldc2_w ix, 3)) (kk : q_G Γ ad nL (pc + 3) la (.long v :: st) n h k1 k2) : q_G Γ ad nL pc la st n h k1 k2 := by
  obtain ⟨p, l, e, R, s, m, args, below, meth, c, D, A, Q⟩ := Γ
  intro H locs ls hI hL
  exact lv_ldc2 C.1 C.2.1 C.2.2.2.2.1 (C.2.2.2.2.2.1 _ (List.mem_cons_of_mem _ hw)) hdg (kk H locs ls hI hL)
theorem g_iload_n (C : q_C Γ ad d mc ms own y cc nL ret) {k : Fin 4} {x : Int32} (hl : la[(k : Nat)]? = some (some (.int x))) (hdg : decode cc pc = .ok (.iload_n k, 1)) (kk : q_G Γ ad nL (pc + 1) la (.int x :: st) n h k1 k2) : q_G Γ ad nL pc la st n h k1 k2 := by
  obtain ⟨p, l, e, R, s, m, args, below, meth, c, D, A, Q⟩ := Γ
  intro H locs ls hI hL
  exact lv_iload_n C.1 C.2.1 hdg rfl (hL.2.2.2 _ _ hl) (kk H locs ls hI hL)
theorem g_iload (C : q_C Γ ad d mc ms own y cc nL ret) {k : Nat} {x : Int32} (hl : la[k]? = some (some (.int x))) (hdg : decode cc pc = .ok (.iload k, 2)) (kk : q_G Γ ad nL (pc + 2) la (.int x :: st) n h k1 k2) : q_G Γ ad nL pc la st n h k1 k2 := by
  obtain ⟨p, l, e, R, s, m, args, below, meth, c, D, A, Q⟩ := Γ
  intro H locs ls hI hL
  exact lv_iload C.1 C.2.1 hdg (hL.2.2.2 _ _ hl) (kk H locs ls hI hL)
theorem g_lload_n (C : q_C Γ ad d mc ms own y cc nL ret) {k : Fin 4} {x : Int64} (hl : la[(k : Nat)]? = some (some (.long x))) (hdg : decode cc pc = .ok (.lload_n k, 1)) (kk : q_G Γ ad nL (pc + 1) la (.long x :: st) n h k1 k2) : q_G Γ ad nL pc la st n h k1 k2 := by
  obtain ⟨p, l, e, R, s, m, args, below, meth, c, D, A, Q⟩ := Γ
  intro H locs ls hI hL
  exact lv_lload_n C.1 C.2.1 hdg rfl (hL.2.2.2 _ _ hl) (kk H locs ls hI hL)
theorem g_lload (C : q_C Γ ad d mc ms own y cc nL ret) {k : Nat} {x : Int64} (hl : la[k]? = some (some (.long x))) (hdg : decode cc pc = .ok (.lload k, 2)) (kk : q_G Γ ad nL (pc + 2) la (.long x :: st) n h k1 k2) : q_G Γ ad nL pc la st n h k1 k2 := by
  obtain ⟨p, l, e, R, s, m, args, below, meth, c, D, A, Q⟩ := Γ
  intro H locs ls hI hL
  exact lv_lload C.1 C.2.1 hdg (hL.2.2.2 _ _ hl) (kk H locs ls hI hL)
theorem g_aload_n (C : q_C Γ ad d mc ms own y cc nL ret) {k : Fin 4} {x : Nat} (hl : la[(k : Nat)]? = some (some (.ref x))) (hdg : decode cc pc = .ok (.aload_n k, 1)) (kk : q_G Γ ad nL (pc + 1) la (.ref x :: st) n h k1 k2) : q_G Γ ad nL pc la st n h k1 k2 := by
  obtain ⟨p, l, e, R, s, m, args, below, meth, c, D, A, Q⟩ := Γ
  intro H locs ls hI hL
  exact lv_aload_n C.1 C.2.1 hdg rfl (hL.2.2.2 _ _ hl) (kk H locs ls hI hL)
theorem g_aload (C : q_C Γ ad d mc ms own y cc nL ret) {k : Nat} {x : Nat} (hl : la[k]? = some (some (.ref x))) (hdg : decode cc pc = .ok (.aload k, 2)) (kk : q_G Γ ad nL (pc + 2) la (.ref x :: st) n h k1 k2) : q_G Γ ad nL pc la st n h k1 k2 := by
  obtain ⟨p, l, e, R, s, m, args, below, meth, c, D, A, Q⟩ := Γ
  intro H locs ls hI hL
  exact lv_aload C.1 C.2.1 hdg (hL.2.2.2 _ _ hl) (kk H locs ls hI hL)
theorem g_aload_nN (C : q_C Γ ad d mc ms own y cc nL ret) {k : Fin 4} (hl : la[(k : Nat)]? = some (some .null)) (hdg : decode cc pc = .ok (.aload_n k, 1)) (kk : q_G Γ ad nL (pc + 1) la (.null :: st) n h k1 k2) : q_G Γ ad nL pc la st n h k1 k2 := by
  obtain ⟨p, l, e, R, s, m, args, below, meth, c, D, A, Q⟩ := Γ
  intro H locs ls hI hL
  exact lv_aload_nN C.1 C.2.1 hdg rfl (hL.2.2.2 _ _ hl) (kk H locs ls hI hL)
theorem g_aloadN (C : q_C Γ ad d mc ms own y cc nL ret) {k : Nat} (hl : la[k]? = some (some .null)) (hdg : decode cc pc = .ok (.aload k, 2)) (kk : q_G Γ ad nL (pc + 2) la (.null :: st) n h k1 k2) : q_G Γ ad nL pc la st n h k1 k2 := by
  obtain ⟨p, l, e, R, s, m, args, below, meth, c, D, A, Q⟩ := Γ
  intro H locs ls hI hL
  exact lv_aloadN C.1 C.2.1 hdg (hL.2.2.2 _ _ hl) (kk H locs ls hI hL)
def q_st (la : List (Option Value)) (i : Nat) : Bool := decide (i < la.length) && (match i with
  | 0 => true
  | j + 1 => match la[j]? with
    | some (some (.long _)) => false
    | some (some (.double _)) => false
    | _ => true)
def q_en (ad : Nat → Nat) (la : List (Option Value)) : List (Nat × Value) := (List.range la.length).filterMap fun i => match la[i]? with
  | some (some v) => some (i, q_cv ad v)
  | _ => none
theorem q_en_has {ls : Array Slot} (hL : q_L ad nL la ls) : lv_has ls nL (q_en ad la) := by
  refine ⟨hL.1, hL.2.1, fun q hq => ?_⟩
  obtain ⟨i, -, hi⟩ := List.mem_filterMap.mp hq
  cases hv : la[i]? with
  | none => rw [hv] at hi; cases hi
  | some o =>
    cases o with
    | none => rw [hv] at hi; cases hi
    | some v => rw [hv] at hi; cases hi; exact hL.2.2.2 i v hv
theorem q_en_mem {i : Nat} {v : Value} (h : la[i]? = some (some v)) : (i, q_cv ad v) ∈ q_en ad la := by
  refine List.mem_filterMap.mpr ⟨i, List.mem_range.mpr (List.getElem?_eq_some_iff.mp h).1, ?_⟩
  rw [h]
theorem q_L_set {ls' : Array Slot} {i : Nat} {v : Value} (hlen : la.length = nL) (hst : q_st la i = true) (hh : lv_has ls' nL ((i, q_cv ad v) :: (q_en ad la).filter (fun q => !(q.1 == i) && !(q.1 + 1 == i && q.2.category == 2)))) : q_L ad nL (la.set i (some v)) ls' := by
  refine ⟨hh.1, hh.2.1, by rw [List.length_set]; exact hlen, fun j u hj => ?_⟩
  unfold q_st at hst
  simp only [Bool.and_eq_true, decide_eq_true_eq] at hst
  by_cases hij : j = i
  · subst hij
    rw [List.getElem?_set_self hst.1] at hj
    cases hj
    exact hh.2.2 _ List.mem_cons_self
  · rw [List.getElem?_set_ne (Ne.symm hij)] at hj
    refine hh.2.2 _ (List.mem_cons_of_mem _ (List.mem_filter.mpr ⟨q_en_mem hj, ?_⟩))
    simp only [Bool.and_eq_true, Bool.not_eq_true', beq_eq_false_iff_ne, ne_eq, Bool.and_eq_false_iff]
    refine ⟨hij, ?_⟩
    by_cases h1 : j + 1 = i
    · right
      subst h1
      have h2 := hst.2
      dsimp only at h2
      rw [hj] at h2
      rw [q_cv_cat]
      intro hc
      cases u <;> simp [Value.category] at hc h2
    · exact Or.inl h1
theorem q_st_lt {i : Nat} (h : q_st la i = true) : i < la.length := by
  unfold q_st at h
  simp only [Bool.and_eq_true, decide_eq_true_eq] at h
  exact h.1
theorem g_istore_n (C : q_C Γ ad d mc ms own y cc nL ret) {k : Fin 4} {x : Int32} (hst : q_st la (k : Nat) = true) (hdg : decode cc pc = .ok (.istore_n k, 1)) (kk : q_G Γ ad nL (pc + 1) (la.set (k : Nat) (some (.int x))) st n h k1 k2) : q_G Γ ad nL pc la ((.int x) :: st) n h k1 k2 := by
  obtain ⟨p, l, e, R, s, m, args, below, meth, c, D, A, Q⟩ := Γ
  intro H locs ls hI hL
  exact lv_istore_n C.1 C.2.1 hdg rfl (q_en_has hL) (by have := q_st_lt hst; rw [hL.2.2.1] at this; exact this) rfl (fun ls1 hl1 => kk H locs ls1 hI (q_L_set hL.2.2.1 hst hl1))
theorem g_istore (C : q_C Γ ad d mc ms own y cc nL ret) {k : Nat} {x : Int32} (hst : q_st la k = true) (hdg : decode cc pc = .ok (.istore k, 2)) (kk : q_G Γ ad nL (pc + 2) (la.set k (some (.int x))) st n h k1 k2) : q_G Γ ad nL pc la ((.int x) :: st) n h k1 k2 := by
  obtain ⟨p, l, e, R, s, m, args, below, meth, c, D, A, Q⟩ := Γ
  intro H locs ls hI hL
  exact lv_istore C.1 C.2.1 hdg (q_en_has hL) (by have := q_st_lt hst; rw [hL.2.2.1] at this; exact this) rfl (fun ls1 hl1 => kk H locs ls1 hI (q_L_set hL.2.2.1 hst hl1))
theorem g_astore_n (C : q_C Γ ad d mc ms own y cc nL ret) {k : Fin 4} {x : Nat} (hst : q_st la (k : Nat) = true) (hdg : decode cc pc = .ok (.astore_n k, 1)) (kk : q_G Γ ad nL (pc + 1) (la.set (k : Nat) (some (.ref x))) st n h k1 k2) : q_G Γ ad nL pc la ((.ref x) :: st) n h k1 k2 := by
  obtain ⟨p, l, e, R, s, m, args, below, meth, c, D, A, Q⟩ := Γ
  intro H locs ls hI hL
  exact lv_astore_n C.1 C.2.1 hdg rfl (q_en_has hL) (by have := q_st_lt hst; rw [hL.2.2.1] at this; exact this) rfl (fun ls1 hl1 => kk H locs ls1 hI (q_L_set hL.2.2.1 hst hl1))
theorem g_astore (C : q_C Γ ad d mc ms own y cc nL ret) {k : Nat} {x : Nat} (hst : q_st la k = true) (hdg : decode cc pc = .ok (.astore k, 2)) (kk : q_G Γ ad nL (pc + 2) (la.set k (some (.ref x))) st n h k1 k2) : q_G Γ ad nL pc la ((.ref x) :: st) n h k1 k2 := by
  obtain ⟨p, l, e, R, s, m, args, below, meth, c, D, A, Q⟩ := Γ
  intro H locs ls hI hL
  exact lv_astore C.1 C.2.1 hdg (q_en_has hL) (by have := q_st_lt hst; rw [hL.2.2.1] at this; exact this) rfl (fun ls1 hl1 => kk H locs ls1 hI (q_L_set hL.2.2.1 hst hl1))
theorem g_astore_nN (C : q_C Γ ad d mc ms own y cc nL ret) {k : Fin 4}  (hst : q_st la (k : Nat) = true) (hdg : decode cc pc = .ok (.astore_n k, 1)) (kk : q_G Γ ad nL (pc + 1) (la.set (k : Nat) (some .null)) st n h k1 k2) : q_G Γ ad nL pc la (.null :: st) n h k1 k2 := by
  obtain ⟨p, l, e, R, s, m, args, below, meth, c, D, A, Q⟩ := Γ
  intro H locs ls hI hL
  exact lv_astore_nN C.1 C.2.1 hdg rfl (q_en_has hL) (by have := q_st_lt hst; rw [hL.2.2.1] at this; exact this) rfl (fun ls1 hl1 => kk H locs ls1 hI (q_L_set hL.2.2.1 hst hl1))
theorem g_astoreN (C : q_C Γ ad d mc ms own y cc nL ret) {k : Nat}  (hst : q_st la k = true) (hdg : decode cc pc = .ok (.astore k, 2)) (kk : q_G Γ ad nL (pc + 2) (la.set k (some .null)) st n h k1 k2) : q_G Γ ad nL pc la (.null :: st) n h k1 k2 := by
  obtain ⟨p, l, e, R, s, m, args, below, meth, c, D, A, Q⟩ := Γ
  intro H locs ls hI hL
  exact lv_astoreN C.1 C.2.1 hdg (q_en_has hL) (by have := q_st_lt hst; rw [hL.2.2.1] at this; exact this) rfl (fun ls1 hl1 => kk H locs ls1 hI (q_L_set hL.2.2.1 hst hl1))
theorem g_iinc (C : q_C Γ ad d mc ms own y cc nL ret) {k : Nat} {z : Int} {x v : Int32} (hl : la[k]? = some (some (.int x))) (hv : x + Int32.ofInt z = v) (hst : q_st la k = true) (hdg : decode cc pc = .ok (.iinc k z, 3)) (kk : q_G Γ ad nL (pc + 3) (la.set k (some (.int v))) st n h k1 k2) : q_G Γ ad nL pc la st n h k1 k2 := by
  obtain ⟨p, l, e, R, s, m, args, below, meth, c, D, A, Q⟩ := Γ
  intro H locs ls hI hL
  have hen := q_en_mem (ad := ad) hl
  obtain ⟨j, hj⟩ := List.getElem?_of_mem hen
  exact lv_iinc (v := v) C.1 C.2.1 hdg (q_en_has hL) hj hv (by have := q_st_lt hst; rw [hL.2.2.1] at this; exact this) rfl (fun ls1 hl1 => kk H locs ls1 hI (q_L_set (v := .int v) hL.2.2.1 hst hl1))
theorem g_iadd (C : q_C Γ ad d mc ms own y cc nL ret) {x z : Int32} (hdg : decode cc pc = .ok (.iadd, 1)) (kk : q_G Γ ad nL (pc + 1) la (.int (x + z) :: st) n h k1 k2) : q_G Γ ad nL pc la (.int z :: .int x :: st) n h k1 k2 := by
  obtain ⟨p, l, e, R, s, m, args, below, meth, c, D, A, Q⟩ := Γ
  intro H locs ls hI hL
  exact lv_iadd C.1 C.2.1 hdg (kk H locs ls hI hL)
theorem g_isub (C : q_C Γ ad d mc ms own y cc nL ret) {x z : Int32} (hdg : decode cc pc = .ok (.isub, 1)) (kk : q_G Γ ad nL (pc + 1) la (.int (x - z) :: st) n h k1 k2) : q_G Γ ad nL pc la (.int z :: .int x :: st) n h k1 k2 := by
  obtain ⟨p, l, e, R, s, m, args, below, meth, c, D, A, Q⟩ := Γ
  intro H locs ls hI hL
  exact lv_isub C.1 C.2.1 hdg (kk H locs ls hI hL)
theorem g_imul (C : q_C Γ ad d mc ms own y cc nL ret) {x z : Int32} (hdg : decode cc pc = .ok (.imul, 1)) (kk : q_G Γ ad nL (pc + 1) la (.int (x * z) :: st) n h k1 k2) : q_G Γ ad nL pc la (.int z :: .int x :: st) n h k1 k2 := by
  obtain ⟨p, l, e, R, s, m, args, below, meth, c, D, A, Q⟩ := Γ
  intro H locs ls hI hL
  exact lv_imul C.1 C.2.1 hdg (kk H locs ls hI hL)
theorem g_iand (C : q_C Γ ad d mc ms own y cc nL ret) {x z : Int32} (hdg : decode cc pc = .ok (.iand, 1)) (kk : q_G Γ ad nL (pc + 1) la (.int (x &&& z) :: st) n h k1 k2) : q_G Γ ad nL pc la (.int z :: .int x :: st) n h k1 k2 := by
  obtain ⟨p, l, e, R, s, m, args, below, meth, c, D, A, Q⟩ := Γ
  intro H locs ls hI hL
  exact lv_iand C.1 C.2.1 hdg (kk H locs ls hI hL)
theorem g_ior (C : q_C Γ ad d mc ms own y cc nL ret) {x z : Int32} (hdg : decode cc pc = .ok (.ior, 1)) (kk : q_G Γ ad nL (pc + 1) la (.int (x ||| z) :: st) n h k1 k2) : q_G Γ ad nL pc la (.int z :: .int x :: st) n h k1 k2 := by
  obtain ⟨p, l, e, R, s, m, args, below, meth, c, D, A, Q⟩ := Γ
  intro H locs ls hI hL
  exact lv_ior C.1 C.2.1 hdg (kk H locs ls hI hL)
theorem g_idiv (C : q_C Γ ad d mc ms own y cc nL ret) {x z : Int32} (hne : ¬ z = 0) (hdg : decode cc pc = .ok (.idiv, 1)) (kk : q_G Γ ad nL (pc + 1) la (.int (x / z) :: st) n h k1 k2) : q_G Γ ad nL pc la (.int z :: .int x :: st) n h k1 k2 := by
  obtain ⟨p, l, e, R, s, m, args, below, meth, c, D, A, Q⟩ := Γ
  intro H locs ls hI hL
  exact lv_idiv C.1 C.2.1 hdg hne (kk H locs ls hI hL)
theorem g_irem (C : q_C Γ ad d mc ms own y cc nL ret) {x z : Int32} (hne : ¬ z = 0) (hdg : decode cc pc = .ok (.irem, 1)) (kk : q_G Γ ad nL (pc + 1) la (.int (x - x / z * z) :: st) n h k1 k2) : q_G Γ ad nL pc la (.int z :: .int x :: st) n h k1 k2 := by
  obtain ⟨p, l, e, R, s, m, args, below, meth, c, D, A, Q⟩ := Γ
  intro H locs ls hI hL
  exact lv_irem C.1 C.2.1 hdg hne (kk H locs ls hI hL)
theorem g_ineg (C : q_C Γ ad d mc ms own y cc nL ret) {x : Int32} (hdg : decode cc pc = .ok (.ineg, 1)) (kk : q_G Γ ad nL (pc + 1) la (.int (-x) :: st) n h k1 k2) : q_G Γ ad nL pc la (.int x :: st) n h k1 k2 := by
  obtain ⟨p, l, e, R, s, m, args, below, meth, c, D, A, Q⟩ := Γ
  intro H locs ls hI hL
  exact lv_ineg C.1 C.2.1 hdg (kk H locs ls hI hL)
theorem g_ladd (C : q_C Γ ad d mc ms own y cc nL ret) {x z : Int64} (hdg : decode cc pc = .ok (.ladd, 1)) (kk : q_G Γ ad nL (pc + 1) la (.long (x + z) :: st) n h k1 k2) : q_G Γ ad nL pc la (.long z :: .long x :: st) n h k1 k2 := by
  obtain ⟨p, l, e, R, s, m, args, below, meth, c, D, A, Q⟩ := Γ
  intro H locs ls hI hL
  exact lv_ladd C.1 C.2.1 hdg (kk H locs ls hI hL)
theorem g_land (C : q_C Γ ad d mc ms own y cc nL ret) {x z : Int64} (hdg : decode cc pc = .ok (.land, 1)) (kk : q_G Γ ad nL (pc + 1) la (.long (x &&& z) :: st) n h k1 k2) : q_G Γ ad nL pc la (.long z :: .long x :: st) n h k1 k2 := by
  obtain ⟨p, l, e, R, s, m, args, below, meth, c, D, A, Q⟩ := Γ
  intro H locs ls hI hL
  exact lv_land C.1 C.2.1 hdg (kk H locs ls hI hL)
theorem g_lor (C : q_C Γ ad d mc ms own y cc nL ret) {x z : Int64} (hdg : decode cc pc = .ok (.lor, 1)) (kk : q_G Γ ad nL (pc + 1) la (.long (x ||| z) :: st) n h k1 k2) : q_G Γ ad nL pc la (.long z :: .long x :: st) n h k1 k2 := by
  obtain ⟨p, l, e, R, s, m, args, below, meth, c, D, A, Q⟩ := Γ
  intro H locs ls hI hL
  exact lv_lor C.1 C.2.1 hdg (kk H locs ls hI hL)
theorem g_lshl (C : q_C Γ ad d mc ms own y cc nL ret) {x v : Int64} {z : Int32} (hv : x <<< (z.toInt64 &&& 63) = v) (hdg : decode cc pc = .ok (.lshl, 1)) (kk : q_G Γ ad nL (pc + 1) la (.long v :: st) n h k1 k2) : q_G Γ ad nL pc la (.int z :: .long x :: st) n h k1 k2 := by
  obtain ⟨p, l, e, R, s, m, args, below, meth, c, D, A, Q⟩ := Γ
  intro H locs ls hI hL
  exact lv_lshl C.1 C.2.1 hdg hv (kk H locs ls hI hL)
theorem g_lshr (C : q_C Γ ad d mc ms own y cc nL ret) {x v : Int64} {z : Int32} (hv : x >>> (z.toInt64 &&& 63) = v) (hdg : decode cc pc = .ok (.lshr, 1)) (kk : q_G Γ ad nL (pc + 1) la (.long v :: st) n h k1 k2) : q_G Γ ad nL pc la (.int z :: .long x :: st) n h k1 k2 := by
  obtain ⟨p, l, e, R, s, m, args, below, meth, c, D, A, Q⟩ := Γ
  intro H locs ls hI hL
  exact lv_lshr C.1 C.2.1 hdg hv (kk H locs ls hI hL)
theorem g_i2l (C : q_C Γ ad d mc ms own y cc nL ret) {x : Int32} {v : Int64} (hv : x.toInt64 = v) (hdg : decode cc pc = .ok (.i2l, 1)) (kk : q_G Γ ad nL (pc + 1) la (.long v :: st) n h k1 k2) : q_G Γ ad nL pc la (.int x :: st) n h k1 k2 := by
  obtain ⟨p, l, e, R, s, m, args, below, meth, c, D, A, Q⟩ := Γ
  intro H locs ls hI hL
  exact lv_i2l C.1 C.2.1 hdg hv (kk H locs ls hI hL)
theorem g_l2i (C : q_C Γ ad d mc ms own y cc nL ret) {x : Int64} {v : Int32} (hv : x.toInt32 = v) (hdg : decode cc pc = .ok (.l2i, 1)) (kk : q_G Γ ad nL (pc + 1) la (.int v :: st) n h k1 k2) : q_G Γ ad nL pc la (.long x :: st) n h k1 k2 := by
  obtain ⟨p, l, e, R, s, m, args, below, meth, c, D, A, Q⟩ := Γ
  intro H locs ls hI hL
  exact lv_l2i C.1 C.2.1 hdg hv (kk H locs ls hI hL)
theorem g_i2b (C : q_C Γ ad d mc ms own y cc nL ret) {x v : Int32} (hv : x.toInt8.toInt32 = v) (hdg : decode cc pc = .ok (.i2b, 1)) (kk : q_G Γ ad nL (pc + 1) la (.int v :: st) n h k1 k2) : q_G Γ ad nL pc la (.int x :: st) n h k1 k2 := by
  obtain ⟨p, l, e, R, s, m, args, below, meth, c, D, A, Q⟩ := Γ
  intro H locs ls hI hL
  exact lv_i2b C.1 C.2.1 hdg hv (kk H locs ls hI hL)
theorem g_i2s (C : q_C Γ ad d mc ms own y cc nL ret) {x v : Int32} (hv : x.toInt16.toInt32 = v) (hdg : decode cc pc = .ok (.i2s, 1)) (kk : q_G Γ ad nL (pc + 1) la (.int v :: st) n h k1 k2) : q_G Γ ad nL pc la (.int x :: st) n h k1 k2 := by
  obtain ⟨p, l, e, R, s, m, args, below, meth, c, D, A, Q⟩ := Γ
  intro H locs ls hI hL
  exact lv_i2s C.1 C.2.1 hdg hv (kk H locs ls hI hL)
theorem g_lcmp (C : q_C Γ ad d mc ms own y cc nL ret) {x z : Int64} (hdg : decode cc pc = .ok (.lcmp, 1)) (kk : q_G Γ ad nL (pc + 1) la (.int (lg_cmp x z) :: st) n h k1 k2) : q_G Γ ad nL pc la (.long z :: .long x :: st) n h k1 k2 := by
  obtain ⟨p, l, e, R, s, m, args, below, meth, c, D, A, Q⟩ := Γ
  intro H locs ls hI hL
  exact W.lcmp C.1 C.2.1 hdg (kk H locs ls hI hL)
theorem g_dup (C : q_C Γ ad d mc ms own y cc nL ret) {v : Value} (hc : v.category = 1) (hdg : decode cc pc = .ok (.dup, 1)) (kk : q_G Γ ad nL (pc + 1) la (v :: v :: st) n h k1 k2) : q_G Γ ad nL pc la (v :: st) n h k1 k2 := by
  obtain ⟨p, l, e, R, s, m, args, below, meth, c, D, A, Q⟩ := Γ
  intro H locs ls hI hL
  exact lv_dup C.1 C.2.1 hdg ((q_cv_cat ad v).trans hc) (kk H locs ls hI hL)
theorem g_dup2 (C : q_C Γ ad d mc ms own y cc nL ret) {v w : Value} (hc : v.category = 1) (hd : w.category = 1) (hdg : decode cc pc = .ok (.dup2, 1)) (kk : q_G Γ ad nL (pc + 1) la (v :: w :: v :: w :: st) n h k1 k2) : q_G Γ ad nL pc la (v :: w :: st) n h k1 k2 := by
  obtain ⟨p, l, e, R, s, m, args, below, meth, c, D, A, Q⟩ := Γ
  intro H locs ls hI hL
  exact lv_dup2_11 C.1 C.2.1 hdg ((q_cv_cat ad v).trans hc) ((q_cv_cat ad w).trans hd) (kk H locs ls hI hL)
theorem g_pop (C : q_C Γ ad d mc ms own y cc nL ret) {v : Value} (hc : v.category = 1) (hdg : decode cc pc = .ok (.pop, 1)) (kk : q_G Γ ad nL (pc + 1) la st n h k1 k2) : q_G Γ ad nL pc la (v :: st) n h k1 k2 := by
  obtain ⟨p, l, e, R, s, m, args, below, meth, c, D, A, Q⟩ := Γ
  intro H locs ls hI hL
  exact lv_pop C.1 C.2.1 hdg ((q_cv_cat ad v).trans hc) (kk H locs ls hI hL)
theorem g_ishl (C : q_C Γ ad d mc ms own y cc nL ret) {x z : Int32} (hdg : decode cc pc = .ok (.ishl, 1)) (kk : q_G Γ ad nL (pc + 1) la (.int (x <<< (z &&& 31)) :: st) n h k1 k2) : q_G Γ ad nL pc la (.int z :: .int x :: st) n h k1 k2 := by
  obtain ⟨p, l, e, R, s, m, args, below, meth, c, D, A, Q⟩ := Γ
  intro H locs ls hI hL
  exact lv_ishl C.1 C.2.1 hdg (kk H locs ls hI hL)
theorem g_ishr (C : q_C Γ ad d mc ms own y cc nL ret) {x z : Int32} (hdg : decode cc pc = .ok (.ishr, 1)) (kk : q_G Γ ad nL (pc + 1) la (.int (x >>> (z &&& 31)) :: st) n h k1 k2) : q_G Γ ad nL pc la (.int z :: .int x :: st) n h k1 k2 := by
  obtain ⟨p, l, e, R, s, m, args, below, meth, c, D, A, Q⟩ := Γ
  intro H locs ls hI hL
  exact lv_ishr C.1 C.2.1 hdg (kk H locs ls hI hL)
theorem g_if_eq (C : q_C Γ ad d mc ms own y cc nL ret) {x : Int32} {off : Int} (tgt : Nat) (hdg : decode cc pc = .ok (.ifCond .eq off, 3)) (ht : (pc : Int) + off = (tgt : Int)) (kt : x = 0 → q_G Γ ad nL tgt la st n h k1 k2) (kf : ¬ (x = 0) → q_G Γ ad nL (pc + 3) la st n h k1 k2) : q_G Γ ad nL pc la (.int x :: st) n h k1 k2 := by
  obtain ⟨p, l, e, R, s, m, args, below, meth, c, D, A, Q⟩ := Γ
  intro H locs ls hI hL
  exact lv_if_eq C.1 C.2.1 hdg ht (fun q => kt q H locs ls hI hL) (fun q => kf q H locs ls hI hL)
theorem g_ic_eq (C : q_C Γ ad d mc ms own y cc nL ret) {x z : Int32} {off : Int} (tgt : Nat) (hdg : decode cc pc = .ok (.if_icmp .eq off, 3)) (ht : (pc : Int) + off = (tgt : Int)) (kt : x = z → q_G Γ ad nL tgt la st n h k1 k2) (kf : ¬ (x = z) → q_G Γ ad nL (pc + 3) la st n h k1 k2) : q_G Γ ad nL pc la (.int z :: .int x :: st) n h k1 k2 := by
  obtain ⟨p, l, e, R, s, m, args, below, meth, c, D, A, Q⟩ := Γ
  intro H locs ls hI hL
  exact lv_icmp_eq C.1 C.2.1 hdg ht (fun q => kt q H locs ls hI hL) (fun q => kf q H locs ls hI hL)
theorem g_if_ne (C : q_C Γ ad d mc ms own y cc nL ret) {x : Int32} {off : Int} (tgt : Nat) (hdg : decode cc pc = .ok (.ifCond .ne off, 3)) (ht : (pc : Int) + off = (tgt : Int)) (kt : ¬ x = 0 → q_G Γ ad nL tgt la st n h k1 k2) (kf : x = 0 → q_G Γ ad nL (pc + 3) la st n h k1 k2) : q_G Γ ad nL pc la (.int x :: st) n h k1 k2 := by
  obtain ⟨p, l, e, R, s, m, args, below, meth, c, D, A, Q⟩ := Γ
  intro H locs ls hI hL
  exact lv_if_ne C.1 C.2.1 hdg ht (fun q => kt q H locs ls hI hL) (fun q => kf q H locs ls hI hL)
theorem g_ic_ne (C : q_C Γ ad d mc ms own y cc nL ret) {x z : Int32} {off : Int} (tgt : Nat) (hdg : decode cc pc = .ok (.if_icmp .ne off, 3)) (ht : (pc : Int) + off = (tgt : Int)) (kt : ¬ x = z → q_G Γ ad nL tgt la st n h k1 k2) (kf : x = z → q_G Γ ad nL (pc + 3) la st n h k1 k2) : q_G Γ ad nL pc la (.int z :: .int x :: st) n h k1 k2 := by
  obtain ⟨p, l, e, R, s, m, args, below, meth, c, D, A, Q⟩ := Γ
  intro H locs ls hI hL
  exact lv_icmp_ne C.1 C.2.1 hdg ht (fun q => kt q H locs ls hI hL) (fun q => kf q H locs ls hI hL)
theorem g_if_lt (C : q_C Γ ad d mc ms own y cc nL ret) {x : Int32} {off : Int} (tgt : Nat) (hdg : decode cc pc = .ok (.ifCond .lt off, 3)) (ht : (pc : Int) + off = (tgt : Int)) (kt : x < 0 → q_G Γ ad nL tgt la st n h k1 k2) (kf : ¬ (x < 0) → q_G Γ ad nL (pc + 3) la st n h k1 k2) : q_G Γ ad nL pc la (.int x :: st) n h k1 k2 := by
  obtain ⟨p, l, e, R, s, m, args, below, meth, c, D, A, Q⟩ := Γ
  intro H locs ls hI hL
  exact lv_if_lt C.1 C.2.1 hdg ht (fun q => kt q H locs ls hI hL) (fun q => kf q H locs ls hI hL)
theorem g_ic_lt (C : q_C Γ ad d mc ms own y cc nL ret) {x z : Int32} {off : Int} (tgt : Nat) (hdg : decode cc pc = .ok (.if_icmp .lt off, 3)) (ht : (pc : Int) + off = (tgt : Int)) (kt : x < z → q_G Γ ad nL tgt la st n h k1 k2) (kf : ¬ (x < z) → q_G Γ ad nL (pc + 3) la st n h k1 k2) : q_G Γ ad nL pc la (.int z :: .int x :: st) n h k1 k2 := by
  obtain ⟨p, l, e, R, s, m, args, below, meth, c, D, A, Q⟩ := Γ
  intro H locs ls hI hL
  exact lv_icmp_lt C.1 C.2.1 hdg ht (fun q => kt q H locs ls hI hL) (fun q => kf q H locs ls hI hL)
theorem g_if_ge (C : q_C Γ ad d mc ms own y cc nL ret) {x : Int32} {off : Int} (tgt : Nat) (hdg : decode cc pc = .ok (.ifCond .ge off, 3)) (ht : (pc : Int) + off = (tgt : Int)) (kt : 0 ≤ x → q_G Γ ad nL tgt la st n h k1 k2) (kf : ¬ (0 ≤ x) → q_G Γ ad nL (pc + 3) la st n h k1 k2) : q_G Γ ad nL pc la (.int x :: st) n h k1 k2 := by
  obtain ⟨p, l, e, R, s, m, args, below, meth, c, D, A, Q⟩ := Γ
  intro H locs ls hI hL
  exact lv_if_ge C.1 C.2.1 hdg ht (fun q => kt q H locs ls hI hL) (fun q => kf q H locs ls hI hL)
theorem g_ic_ge (C : q_C Γ ad d mc ms own y cc nL ret) {x z : Int32} {off : Int} (tgt : Nat) (hdg : decode cc pc = .ok (.if_icmp .ge off, 3)) (ht : (pc : Int) + off = (tgt : Int)) (kt : z ≤ x → q_G Γ ad nL tgt la st n h k1 k2) (kf : ¬ (z ≤ x) → q_G Γ ad nL (pc + 3) la st n h k1 k2) : q_G Γ ad nL pc la (.int z :: .int x :: st) n h k1 k2 := by
  obtain ⟨p, l, e, R, s, m, args, below, meth, c, D, A, Q⟩ := Γ
  intro H locs ls hI hL
  exact lv_icmp_ge C.1 C.2.1 hdg ht (fun q => kt q H locs ls hI hL) (fun q => kf q H locs ls hI hL)
theorem g_if_gt (C : q_C Γ ad d mc ms own y cc nL ret) {x : Int32} {off : Int} (tgt : Nat) (hdg : decode cc pc = .ok (.ifCond .gt off, 3)) (ht : (pc : Int) + off = (tgt : Int)) (kt : 0 < x → q_G Γ ad nL tgt la st n h k1 k2) (kf : ¬ (0 < x) → q_G Γ ad nL (pc + 3) la st n h k1 k2) : q_G Γ ad nL pc la (.int x :: st) n h k1 k2 := by
  obtain ⟨p, l, e, R, s, m, args, below, meth, c, D, A, Q⟩ := Γ
  intro H locs ls hI hL
  exact lv_if_gt C.1 C.2.1 hdg ht (fun q => kt q H locs ls hI hL) (fun q => kf q H locs ls hI hL)
theorem g_ic_gt (C : q_C Γ ad d mc ms own y cc nL ret) {x z : Int32} {off : Int} (tgt : Nat) (hdg : decode cc pc = .ok (.if_icmp .gt off, 3)) (ht : (pc : Int) + off = (tgt : Int)) (kt : z < x → q_G Γ ad nL tgt la st n h k1 k2) (kf : ¬ (z < x) → q_G Γ ad nL (pc + 3) la st n h k1 k2) : q_G Γ ad nL pc la (.int z :: .int x :: st) n h k1 k2 := by
  obtain ⟨p, l, e, R, s, m, args, below, meth, c, D, A, Q⟩ := Γ
  intro H locs ls hI hL
  exact lv_icmp_gt C.1 C.2.1 hdg ht (fun q => kt q H locs ls hI hL) (fun q => kf q H locs ls hI hL)
theorem g_if_le (C : q_C Γ ad d mc ms own y cc nL ret) {x : Int32} {off : Int} (tgt : Nat) (hdg : decode cc pc = .ok (.ifCond .le off, 3)) (ht : (pc : Int) + off = (tgt : Int)) (kt : x ≤ 0 → q_G Γ ad nL tgt la st n h k1 k2) (kf : ¬ (x ≤ 0) → q_G Γ ad nL (pc + 3) la st n h k1 k2) : q_G Γ ad nL pc la (.int x :: st) n h k1 k2 := by
  obtain ⟨p, l, e, R, s, m, args, below, meth, c, D, A, Q⟩ := Γ
  intro H locs ls hI hL
  exact lv_if_le C.1 C.2.1 hdg ht (fun q => kt q H locs ls hI hL) (fun q => kf q H locs ls hI hL)
theorem g_ic_le (C : q_C Γ ad d mc ms own y cc nL ret) {x z : Int32} {off : Int} (tgt : Nat) (hdg : decode cc pc = .ok (.if_icmp .le off, 3)) (ht : (pc : Int) + off = (tgt : Int)) (kt : x ≤ z → q_G Γ ad nL tgt la st n h k1 k2) (kf : ¬ (x ≤ z) → q_G Γ ad nL (pc + 3) la st n h k1 k2) : q_G Γ ad nL pc la (.int z :: .int x :: st) n h k1 k2 := by
  obtain ⟨p, l, e, R, s, m, args, below, meth, c, D, A, Q⟩ := Γ
  intro H locs ls hI hL
  exact lv_icmp_le C.1 C.2.1 hdg ht (fun q => kt q H locs ls hI hL) (fun q => kf q H locs ls hI hL)
theorem g_goto (C : q_C Γ ad d mc ms own y cc nL ret) {off : Int} (tgt : Nat) (hdg : decode cc pc = .ok (.goto off, 3)) (ht : (pc : Int) + off = (tgt : Int)) (kk : q_G Γ ad nL tgt la st n h k1 k2) : q_G Γ ad nL pc la st n h k1 k2 := by
  obtain ⟨p, l, e, R, s, m, args, below, meth, c, D, A, Q⟩ := Γ
  intro H locs ls hI hL
  exact lv_goto C.1 C.2.1 hdg ht (kk H locs ls hI hL)
theorem g_ifnull (C : q_C Γ ad d mc ms own y cc nL ret) {x : Nat} {off : Int} (hdg : decode cc pc = .ok (.ifnull off, 3)) (kk : q_G Γ ad nL (pc + 3) la st n h k1 k2) : q_G Γ ad nL pc la (.ref x :: st) n h k1 k2 := by
  obtain ⟨p, l, e, R, s, m, args, below, meth, c, D, A, Q⟩ := Γ
  intro H locs ls hI hL
  exact lv_ifnull C.1 C.2.1 hdg (kk H locs ls hI hL)
theorem g_ifnullN (C : q_C Γ ad d mc ms own y cc nL ret) {off : Int} (tgt : Nat) (hdg : decode cc pc = .ok (.ifnull off, 3)) (ht : (pc : Int) + off = (tgt : Int)) (kk : q_G Γ ad nL tgt la st n h k1 k2) : q_G Γ ad nL pc la (.null :: st) n h k1 k2 := by
  obtain ⟨p, l, e, R, s, m, args, below, meth, c, D, A, Q⟩ := Γ
  intro H locs ls hI hL
  exact lv_ifnullN C.1 C.2.1 hdg ht (kk H locs ls hI hL)
theorem g_ifnonnull (C : q_C Γ ad d mc ms own y cc nL ret) {x : Nat} {off : Int} (tgt : Nat) (hdg : decode cc pc = .ok (.ifnonnull off, 3)) (ht : (pc : Int) + off = (tgt : Int)) (kk : q_G Γ ad nL tgt la st n h k1 k2) : q_G Γ ad nL pc la (.ref x :: st) n h k1 k2 := by
  obtain ⟨p, l, e, R, s, m, args, below, meth, c, D, A, Q⟩ := Γ
  intro H locs ls hI hL
  exact lv_ifnonnull C.1 C.2.1 hdg ht (kk H locs ls hI hL)
theorem g_ifnonnullN (C : q_C Γ ad d mc ms own y cc nL ret) {off : Int} (hdg : decode cc pc = .ok (.ifnonnull off, 3)) (kk : q_G Γ ad nL (pc + 3) la st n h k1 k2) : q_G Γ ad nL pc la (.null :: st) n h k1 k2 := by
  obtain ⟨p, l, e, R, s, m, args, below, meth, c, D, A, Q⟩ := Γ
  intro H locs ls hI hL
  exact lv_ifnonnullN C.1 C.2.1 hdg (kk H locs ls hI hL)
theorem g_lsw (C : q_C Γ ad d mc ms own y cc nL ret) {df : Int} {ps : Array (Int × Int)} {len : Nat} {x : Int32} {off : Int} (tgt : Nat) (hdg : decode cc pc = .ok (.lookupswitch df ps, len)) (hp : (ps.toList.zip (ps.toList.drop 1)).all (fun (a, next) => a.1 < next.1) = true) (ho : Op.lookupswitch.offset ps.toList df x.toInt = off) (ht : (pc : Int) + off = (tgt : Int)) (kk : q_G Γ ad nL tgt la st n h k1 k2) : q_G Γ ad nL pc la (.int x :: st) n h k1 k2 := by
  obtain ⟨p, l, e, R, s, m, args, below, meth, c, D, A, Q⟩ := Γ
  intro H locs ls hI hL
  exact lv_lookup C.1 C.2.1 hdg hp ho ht (kk H locs ls hI hL)
theorem g_tsO (C : q_C Γ ad d mc ms own y cc nL ret) {df lo hi : Int} {offs : Array Int} {len : Nat} {x : Int32} (tgt : Nat) (hdg : decode cc pc = .ok (.tableswitch df lo hi offs, len)) (ho : x.toInt < lo ∨ hi < x.toInt) (ht : (pc : Int) + df = (tgt : Int)) (kk : q_G Γ ad nL tgt la st n h k1 k2) : q_G Γ ad nL pc la (.int x :: st) n h k1 k2 := by
  obtain ⟨p, l, e, R, s, m, args, below, meth, c, D, A, Q⟩ := Γ
  intro H locs ls hI hL
  exact lv_tableOut C.1 C.2.1 hdg ho ht (kk H locs ls hI hL)
theorem g_tsI (C : q_C Γ ad d mc ms own y cc nL ret) {df lo hi : Int} {offs : Array Int} {len : Nat} {x : Int32} {off : Int} (tgt : Nat) (hdg : decode cc pc = .ok (.tableswitch df lo hi offs, len)) (h1 : ¬ x.toInt < lo) (h2 : ¬ hi < x.toInt) (ho : offs[(x.toInt - lo).toNat]? = some off) (ht : (pc : Int) + off = (tgt : Int)) (kk : q_G Γ ad nL tgt la st n h k1 k2) : q_G Γ ad nL pc la (.int x :: st) n h k1 k2 := by
  obtain ⟨p, l, e, R, s, m, args, below, meth, c, D, A, Q⟩ := Γ
  intro H locs ls hI hL
  exact lv_tableIn C.1 C.2.1 hdg h1 h2 ho ht (kk H locs ls hI hL)
end QR
