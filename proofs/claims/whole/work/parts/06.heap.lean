section QH
variable {Γ : q_X} {ad : Nat → Nat} {d mc ms : Nat} {own : String} {y : MethodName} {cc : ByteArray} {nL : Nat} {ret : Option FieldType} {pc : Nat} {la : List (Option Value)} {st : List Value} {n : Nat} {h : q_H} {k1 k2 : Nat}
theorem q_up_s (h : q_H) (a : Nat) (e : q_E) : q_up h a e a = e := if_pos rfl
theorem q_up_n (h : q_H) {a b : Nat} (e : q_E) (hb : b ≠ a) : q_up h a e b = h b := if_neg hb
theorem q_nd_o {ci : Nat} {fs : List Value} {e : q_E} (he : e = .inr (.inr (ci, fs))) (hne : (ci, fs) ≠ (1000, [])) : e ≠ q_dead := by
  rw [he]; intro h; apply hne; unfold q_dead at h; injection h with h; injection h
theorem q_nd_a {x : Nat × Nat × (Nat → Int32)} {e : q_E} (he : e = .inl x) : e ≠ q_dead := by rw [he]; intro h; cases h
theorem q_nd_r {x : Nat × Nat × (Nat → Option Nat)} {e : q_E} (he : e = .inr (.inl x)) : e ≠ q_dead := by rw [he]; intro h; cases h
/-- one cell becomes another -/
theorem q_Sim.set {D : va_G} {A : Nat → Prop} {tys : List (ClassId × FieldType)} {ws : va_W} {a : Nat} {c : q_E} {e0 e : va_E} (hS : q_Sim ad n h tys ws) (h0 : ws[a]? = some (ad a, e0)) (hc : q_CR ad tys c e) (ho : q_okE n c) : q_Sim ad n (q_up h a c) tys (ws.set a (ad a, e)) := by
  have hl := (List.getElem?_eq_some_iff.mp h0).1
  refine ⟨⟨by rw [List.length_set]; exact hS.1.1, hS.1.2⟩, fun k q hk => ?_, fun k hk => ?_⟩
  · by_cases hka : k = a
    · subst hka
      rw [List.getElem?_set_self hl] at hk
      cases hk
      rfl
    · rw [List.getElem?_set_ne (Ne.symm hka)] at hk
      exact hS.2.1 k q hk
  · by_cases hka : k = a
    · subst hka
      rw [q_up_s]
      exact ⟨e, by rw [List.getElem?_set_self hl], hc, ho⟩
    · rw [q_up_n _ _ hka] at hk ⊢
      rw [List.getElem?_set_ne (Ne.symm hka)]
      exact hS.2.2 k hk
/-- a field: class ci, place k -/
def q_FL (own : String) (ix ci k : Nat) : Prop := ∃ (C : String) (T : u_T) (N : Nat) (ty : Nat → FieldType), vwCl[ci]? = some (C, T, N) ∧ k < N ∧ (∀ w ∈ u_ws C T N, w ∈ q_Z) ∧ (Cond.fieldLink own ix C (T k).2.1 (T k).2.2.1 ∈ q_Z ∨ ∃ host : String, (own, ix, C, (T k).2.1, (T k).2.2.1, host) ∈ q_nf) ∧ (T k).1 = C ∧ (∀ j, j < N → parseFieldDescriptor (T j).2.2.1 = some (ty j)) ∧ (∀ a, a < N → ∀ b, b < N → a ≠ b → (T a).2.1 ≠ (T b).2.1)
def q_FP (own : String) (ix ci k : Nat) : Prop := ∃ (C : String) (T : u_T) (N : Nat) (ty : Nat → FieldType), vwCl[ci]? = some (C, T, N) ∧ k < N ∧ (∀ w ∈ u_ws C T N, w ∈ q_Z) ∧ Cond.fieldLink own ix C (T k).2.1 (T k).2.2.1 ∈ q_Z ∧ (T k).1 = C ∧ (∀ j, j < N → parseFieldDescriptor (T j).2.2.1 = some (ty j)) ∧ (∀ a, a < N → ∀ b, b < N → a ≠ b → (T a).2.1 ≠ (T b).2.1) ∧ (T k).2.2.2 = false ∧ ty k = .int
def q_FF (own : String) (ix ci k : Nat) : Prop := ∃ (C : String) (T : u_T) (N : Nat) (ty : Nat → FieldType), vwCl[ci]? = some (C, T, N) ∧ k < N ∧ (∀ w ∈ u_ws C T N, w ∈ q_Z) ∧ Cond.fieldLink own ix C (T k).2.1 (T k).2.2.1 ∈ q_Z ∧ (T k).1 = C ∧ (∀ j, j < N → parseFieldDescriptor (T j).2.2.1 = some (ty j)) ∧ (∀ a, a < N → ∀ b, b < N → a ≠ b → (T a).2.1 ≠ (T b).2.1) ∧ (T k).2.2.2 = true ∧ C = own ∧ ((∃ z, ty k = .object z) ∨ ∃ z, ty k = .array z)
theorem g_get (C : q_C Γ ad d mc ms own y cc nL ret) {ix ci k a : Nat} {fs : List Value} {v : Value} (hf : q_FL own ix ci k) (hdg : decode cc pc = .ok (.getfield ix, 3)) (hh : h a = .inr (.inr (ci, fs))) (hv : fs[k]? = some v) (kk : q_G Γ ad nL (pc + 3) la (v :: st) n h k1 k2) : q_G Γ ad nL pc la (.ref a :: st) n h k1 k2 := by
  obtain ⟨p, l, e, R, s, m, args, below, meth, c, D, A, Q⟩ := Γ
  intro H locs ls hI hL
  obtain ⟨CC, T, N, ty, f1, f2, f3, f4, f5, f6, f7⟩ := hf
  obtain ⟨ws, tys, hK, hP, hD, hS, hSim⟩ := id hI
  obtain ⟨e0, h1, h2, h3⟩ := hSim.2.2 a (q_nd_o hh (fun z => by cases z; cases hv))
  rw [hh] at h2
  have h2 : e0 = .inr (ci, fs.map (q_cv ad)) := h2
  subst h2
  have hts := C.2.2.2.2.2.1
  have hv' : (fs.map (q_cv ad))[k]? = some (q_cv ad v) := by rw [List.getElem?_map, hv]; rfl
  rcases f4 with f4 | ⟨host, f4⟩
  · exact va_get (D := D) (ci := ci) (v := q_cv ad v) (C := CC) (T := T) (N := N) (ref := CC) C.1 C.2.1 hts (fun w hw => List.mem_cons_of_mem _ (f3 w hw)) C.2.2.2.2.1 hK hP a h1 f1 k f2 (hts _ (List.mem_cons_of_mem _ f4)) (fun x h9 => by rw [f5] at h9; exact h9) hv' hdg (kk H locs ls hI hL)
  · exact va_getN (D := D) (ci := ci) (v := q_cv ad v) (C := CC) (T := T) (N := N) (ref := CC) (host := host) C.1 C.2.1 hts (fun w hw => List.mem_cons_of_mem _ (f3 w hw)) C.2.2.2.2.1 hK hP a h1 f1 k f2 (va_Nw.use rfl (C.2.2.2.2.2.2.2.1.1 _ f4)) (fun x h9 => by rw [f5] at h9; exact h9) hv' hdg (kk H locs ls hI hL)
theorem q_ok_set {fs : List Value} {k : Nat} {v : Value} (ho : ∀ w ∈ fs, q_ok n w = true) (hv : q_ok n v = true) : ∀ w ∈ fs.set k v, q_ok n w = true := fun w hw => by
  rcases List.mem_or_eq_of_mem_set hw with h | h
  · exact ho w h
  · rw [h]; exact hv
theorem g_put (C : q_C Γ ad d mc ms own y cc nL ret) {ix ci k a : Nat} {fs : List Value} {x : Int32} (hf : q_FP own ix ci k) (hdg : decode cc pc = .ok (.putfield ix, 3)) (hh : h a = .inr (.inr (ci, fs))) (hk : k < fs.length) (kk : q_G Γ ad nL (pc + 3) la st n (q_up h a (.inr (.inr (ci, fs.set k (.int x))))) k1 k2) : q_G Γ ad nL pc la (.int x :: .ref a :: st) n h k1 k2 := by
  obtain ⟨p, l, e, R, s, m, args, below, meth, c, D, A, Q⟩ := Γ
  intro H locs ls hI hL
  obtain ⟨CC, T, N, ty, f1, f2, f3, f4, f5, f6, f7, f8, f9⟩ := hf
  obtain ⟨ws, tys, hK, hP, hD, hS, hSim⟩ := id hI
  obtain ⟨e0, h1, h2, h3⟩ := hSim.2.2 a (q_nd_o hh (fun z => by cases z; cases hk))
  rw [hh] at h2 h3
  have h2 : e0 = .inr (ci, fs.map (q_cv ad)) := h2
  subst h2
  have hts := C.2.2.2.2.2.1
  refine va_put (D := D) (ci := ci) (v := .int x) (ty := .int) (C := CC) (T := T) (N := N) (ref := CC) C.1 C.2.1 hts (fun w hw => List.mem_cons_of_mem _ (f3 w hw)) ty f6 f7 C.2.2.2.2.1 hK hP hD hS a h1 f1 k f2 (hts _ (List.mem_cons_of_mem _ f4)) (fun x h9 => by rw [f5] at h9; exact h9) f8 (by rw [f6 k f2, f9]) rfl rfl (by rw [List.length_map]; exact hk) hdg (fun H1 locs1 hP1 hD1 hS1 => ?_)
  refine kk H1 locs1 ls ⟨_, tys, hK, hP1, hD1, hS1, hSim.set (D := D) (A := A) h1 ?_ (q_ok_set h3 rfl)⟩ hL
  show _ = _
  rw [List.map_set]
  rfl
theorem g_putF (C : q_C Γ ad d mc ms own y cc nL ret) {ix ci k a b : Nat} {fs : List Value} (hf : q_FF own ix ci k) (hdg : decode cc pc = .ok (.putfield ix, 3)) (hi : y.name = "<init>") (hh : h a = .inr (.inr (ci, fs))) (hk : k < fs.length) (hb : b < n) (kk : q_G Γ ad nL (pc + 3) la st n (q_up h a (.inr (.inr (ci, fs.set k (.ref b))))) k1 k2) : q_G Γ ad nL pc la (.ref b :: .ref a :: st) n h k1 k2 := by
  obtain ⟨p, l, e, R, s, m, args, below, meth, c, D, A, Q⟩ := Γ
  intro H locs ls hI hL
  obtain ⟨CC, T, N, ty, f1, f2, f3, f4, f5, f6, f7, f8, f9, f10⟩ := hf
  obtain ⟨ws, tys, hK, hP, hD, hS, hSim⟩ := id hI
  obtain ⟨e0, h1, h2, h3⟩ := hSim.2.2 a (q_nd_o hh (fun z => by cases z; cases hk))
  rw [hh] at h2 h3
  have h2 : e0 = .inr (ci, fs.map (q_cv ad)) := h2
  subst h2
  have hts := C.2.2.2.2.2.1
  refine va_putF (D := D) (ci := ci) (v := .ref (ad b)) (ty := ty k) (C := CC) (T := T) (N := N) (ref := CC) C.1 C.2.1 hts (fun w hw => List.mem_cons_of_mem _ (f3 w hw)) ty f6 f7 C.2.2.2.2.1 hK hP hD hS a h1 f1 k f2 (hts _ (List.mem_cons_of_mem _ f4)) (fun x h9 => by rw [f5] at h9; exact h9) f8 (C.2.2.2.2.2.2.2.2.2.2.1.trans hi) (f5.trans f9) (f6 k f2) (by rcases f10 with ⟨z, h⟩ | ⟨z, h⟩ <;> rw [h] <;> rfl) (by rcases f10 with ⟨z, h⟩ | ⟨z, h⟩ <;> rw [h] <;> rfl) (by rw [List.length_map]; exact hk) hdg (fun H1 locs1 hP1 hD1 hS1 => ?_)
  refine kk H1 locs1 ls ⟨_, tys, hK, hP1, hD1, hS1, hSim.set (D := D) (A := A) h1 ?_ (q_ok_set h3 (by show (decide _ || _) = true; rw [decide_eq_true hb]; rfl))⟩ hL
  show _ = _
  rw [List.map_set]
  rfl
-- arrays
theorem g_alen (C : q_C Γ ad d mc ms own y cc nL ret) {a : Nat} {x : Nat × Nat × (Nat → Int32)} {v : Int32} (hdg : decode cc pc = .ok (.arraylength, 1)) (hh : h a = .inl x) (hv : Int32.ofNat x.2.1 = v) (kk : q_G Γ ad nL (pc + 1) la (.int v :: st) n h k1 k2) : q_G Γ ad nL pc la (.ref a :: st) n h k1 k2 := by
  obtain ⟨p, l, e, R, s, m, args, below, meth, c, D, A, Q⟩ := Γ
  intro H locs ls hI hL
  obtain ⟨ws, tys, hK, hP, hD, hS, hSim⟩ := id hI
  obtain ⟨e0, h1, h2, h3⟩ := hSim.2.2 a (q_nd_a hh)
  rw [hh] at h2
  obtain ⟨cA, t0, f', rfl, ht, -⟩ := h2
  exact va_alen (D := D) C.1 C.2.1 hK hP a t0 h1 ht hv hdg (kk H locs ls hI hL)
theorem g_alenr (C : q_C Γ ad d mc ms own y cc nL ret) {a : Nat} {x : Nat × Nat × (Nat → Option Nat)} {v : Int32} (hdg : decode cc pc = .ok (.arraylength, 1)) (hh : h a = .inr (.inl x)) (hv : Int32.ofNat x.2.1 = v) (kk : q_G Γ ad nL (pc + 1) la (.int v :: st) n h k1 k2) : q_G Γ ad nL pc la (.ref a :: st) n h k1 k2 := by
  obtain ⟨p, l, e, R, s, m, args, below, meth, c, D, A, Q⟩ := Γ
  intro H locs ls hI hL
  obtain ⟨ws, tys, hK, hP, hD, hS, hSim⟩ := id hI
  obtain ⟨e0, h1, h2, h3⟩ := hSim.2.2 a (q_nd_r hh)
  rw [hh] at h2
  obtain ⟨cA, t0, rfl, ht⟩ := h2
  exact va_alen (D := D) C.1 C.2.1 hK hP a t0 h1 ht hv hdg (kk H locs ls hI hL)
/-- an array's numbers, told otherwise -/
theorem g_arr {a k N : Nat} {f F : Nat → Int32} (hh : h a = .inl (k, N, f)) (hF : ∀ j : Nat, j < N → f j = F j) (kk : q_G Γ ad nL pc la st n (q_up h a (.inl (k, N, F))) k1 k2) : q_G Γ ad nL pc la st n h k1 k2 := by
  obtain ⟨p, l, e, R, s, m, args, below, meth, c, D, A, Q⟩ := Γ
  intro H locs ls hI hL
  refine kk H locs ls ?_ hL
  obtain ⟨ws, tys, hK, hP, hD, hS, hSim⟩ := id hI
  refine ⟨ws, tys, hK, hP, hD, hS, hSim.1, hSim.2.1, fun j hj => ?_⟩
  by_cases hja : j = a
  · subst hja
    obtain ⟨e0, h1, h2, h3⟩ := hSim.2.2 j (q_nd_a hh)
    rw [hh] at h2
    obtain ⟨cA, t0, f', rfl, ht, hf⟩ := h2
    rw [q_up_s]
    exact ⟨_, h1, ⟨cA, t0, f', rfl, ht, fun i hi => (hf i hi).trans (hF i hi)⟩, trivial⟩
  · rw [q_up_n _ _ hja] at hj ⊢
    exact hSim.2.2 j hj
theorem g_iald (C : q_C Γ ad d mc ms own y cc nL ret) {a N : Nat} {f : Nat → Int32} {i : Int32} (hdg : decode cc pc = .ok (.iaload, 1)) (hh : h a = .inl (0, N, f)) (hin : vp_in i N) (kk : q_G Γ ad nL (pc + 1) la (.int (f i.toNatClampNeg) :: st) n h k1 k2) : q_G Γ ad nL pc la (.int i :: .ref a :: st) n h k1 k2 := by
  obtain ⟨p, l, e, R, s, m, args, below, meth, c, D, A, Q⟩ := Γ
  intro H locs ls hI hL
  obtain ⟨ws, tys, hK, hP, hD, hS, hSim⟩ := id hI
  obtain ⟨e0, h1, h2, h3⟩ := hSim.2.2 a (q_nd_a hh)
  rw [hh] at h2
  obtain ⟨cA, t0, f', rfl, ht, hf⟩ := h2
  have kk := kk H locs ls hI hL
  rw [show f i.toNatClampNeg = f' i.toNatClampNeg from (hf _ (Nat.not_le.mp fun q => hin (Or.inr q))).symm] at kk
  exact va_iald (D := D) C.1 C.2.1 hK hP a t0 h1 ht hin hdg kk
theorem g_zald (C : q_C Γ ad d mc ms own y cc nL ret) {a N : Nat} {f : Nat → Int32} {i : Int32} (hdg : decode cc pc = .ok (.baload, 1)) (hh : h a = .inl (1, N, f)) (hin : vp_in i N) (kk : q_G Γ ad nL (pc + 1) la (.int (f i.toNatClampNeg) :: st) n h k1 k2) : q_G Γ ad nL pc la (.int i :: .ref a :: st) n h k1 k2 := by
  obtain ⟨p, l, e, R, s, m, args, below, meth, c, D, A, Q⟩ := Γ
  intro H locs ls hI hL
  obtain ⟨ws, tys, hK, hP, hD, hS, hSim⟩ := id hI
  obtain ⟨e0, h1, h2, h3⟩ := hSim.2.2 a (q_nd_a hh)
  rw [hh] at h2
  obtain ⟨cA, t0, f', rfl, ht, hf⟩ := h2
  have kk := kk H locs ls hI hL
  rw [show f i.toNatClampNeg = f' i.toNatClampNeg from (hf _ (Nat.not_le.mp fun q => hin (Or.inr q))).symm] at kk
  exact va_zald (D := D) C.1 C.2.1 hK hP a t0 h1 ht hin hdg kk
theorem q_upd_agree {f f' : Nat → Int32} {k j : Nat} {x : Int32} (h : f' j = f j) : upd f' k x j = upd f k x j := by
  unfold upd
  by_cases hj : j = k
  · rw [if_pos hj, if_pos hj]
  · rw [if_neg hj, if_neg hj]; exact h
theorem g_iast (C : q_C Γ ad d mc ms own y cc nL ret) {a N : Nat} {f : Nat → Int32} {i x : Int32} (hdg : decode cc pc = .ok (.iastore, 1)) (hh : h a = .inl (0, N, f)) (hin : vp_in i N) (kk : q_G Γ ad nL (pc + 1) la st n (q_up h a (.inl (0, N, upd f i.toNatClampNeg x))) k1 k2) : q_G Γ ad nL pc la (.int x :: .int i :: .ref a :: st) n h k1 k2 := by
  obtain ⟨p, l, e, R, s, m, args, below, meth, c, D, A, Q⟩ := Γ
  intro H locs ls hI hL
  obtain ⟨ws, tys, hK, hP, hD, hS, hSim⟩ := id hI
  obtain ⟨e0, h1, h2, h3⟩ := hSim.2.2 a (q_nd_a hh)
  rw [hh] at h2
  obtain ⟨cA, t0, f', rfl, ht, hf⟩ := h2
  exact va_iast (D := D) C.1 C.2.1 hK hP hD hS a t0 h1 ht hin hdg (fun H1 locs1 hP1 hD1 hS1 => kk H1 locs1 ls ⟨_, tys, hK, hP1, hD1, hS1, hSim.set (D := D) (A := A) h1 ⟨cA, t0, _, rfl, ht, fun j hj => q_upd_agree (hf j hj)⟩ trivial⟩ hL)
theorem g_zast (C : q_C Γ ad d mc ms own y cc nL ret) {a N : Nat} {f : Nat → Int32} {i x : Int32} (hdg : decode cc pc = .ok (.bastore, 1)) (hh : h a = .inl (1, N, f)) (hin : vp_in i N) (kk : q_G Γ ad nL (pc + 1) la st n (q_up h a (.inl (1, N, upd f i.toNatClampNeg (vp_nar .boolean x)))) k1 k2) : q_G Γ ad nL pc la (.int x :: .int i :: .ref a :: st) n h k1 k2 := by
  obtain ⟨p, l, e, R, s, m, args, below, meth, c, D, A, Q⟩ := Γ
  intro H locs ls hI hL
  obtain ⟨ws, tys, hK, hP, hD, hS, hSim⟩ := id hI
  obtain ⟨e0, h1, h2, h3⟩ := hSim.2.2 a (q_nd_a hh)
  rw [hh] at h2
  obtain ⟨cA, t0, f', rfl, ht, hf⟩ := h2
  exact va_zast (D := D) C.1 C.2.1 hK hP hD hS a t0 h1 ht hin hdg (fun H1 locs1 hP1 hD1 hS1 => kk H1 locs1 ls ⟨_, tys, hK, hP1, hD1, hS1, hSim.set (D := D) (A := A) h1 ⟨cA, t0, _, rfl, ht, fun j hj => q_upd_agree (hf j hj)⟩ trivial⟩ hL)
theorem q_cv_rf (o : Option Nat) : q_cv ad (va_rf o) = va_rf (o.map ad) := by cases o <;> rfl
theorem g_aald (C : q_C Γ ad d mc ms own y cc nL ret) {a N t : Nat} {f : Nat → Option Nat} {i : Int32} {v : Value} (hdg : decode cc pc = .ok (.aaload, 1)) (hh : h a = .inr (.inl (t, N, f))) (hin : vp_in i N) (hv : va_rf (f i.toNatClampNeg) = v) (kk : q_G Γ ad nL (pc + 1) la (v :: st) n h k1 k2) : q_G Γ ad nL pc la (.int i :: .ref a :: st) n h k1 k2 := by
  obtain ⟨p, l, e, R, s, m, args, below, meth, c, D, A, Q⟩ := Γ
  intro H locs ls hI hL
  obtain ⟨ws, tys, hK, hP, hD, hS, hSim⟩ := id hI
  obtain ⟨e0, h1, h2, h3⟩ := hSim.2.2 a (q_nd_r hh)
  rw [hh] at h2
  obtain ⟨cA, t0, rfl, ht⟩ := h2
  subst hv
  have kk := kk H locs ls hI hL
  rw [List.map_cons, q_cv_rf] at kk
  exact va_aldq (D := D) C.1 C.2.1 hK hP a t0 h1 ht hin hdg kk
theorem g_aast (C : q_C Γ ad d mc ms own y cc nL ret) {a b N t ci : Nat} {f : Nat → Option Nat} {fs : List Value} {i : Int32} (hdg : decode cc pc = .ok (.aastore, 1)) (hh : h a = .inr (.inl (t, N, f))) (hb : h b = .inr (.inr (ci, fs))) (hne : (ci, fs) ≠ (1000, [])) (hcl : (vwCl[ci]?).map (fun r => r.1) = some (q_cn t)) (hin : vp_in i N) (hbn : b < n) (kk : q_G Γ ad nL (pc + 1) la st n (q_up h a (.inr (.inl (t, N, va_up f i.toNatClampNeg (some b))))) k1 k2) : q_G Γ ad nL pc la (.ref b :: .int i :: .ref a :: st) n h k1 k2 := by
  obtain ⟨p, l, e, R, s, m, args, below, meth, c, D, A, Q⟩ := Γ
  intro H locs ls hI hL
  obtain ⟨ws, tys, hK, hP, hD, hS, hSim⟩ := id hI
  obtain ⟨e0, h1, h2, h3⟩ := hSim.2.2 a (q_nd_r hh)
  rw [hh] at h2 h3
  obtain ⟨cA, t0, rfl, ht⟩ := h2
  obtain ⟨e1, g1, g2, g3⟩ := hSim.2.2 b (q_nd_o hb hne)
  rw [hb] at g2
  have g2 : e1 = .inr (ci, fs.map (q_cv ad)) := g2
  subst g2
  cases hr : vwCl[ci]? with
  | none => rw [hr] at hcl; cases hcl
  | some r =>
    rw [hr] at hcl
    have hr1 : r.1 = q_cn t := Option.some.inj hcl
    refine va_astq (D := D) (r := r) C.1 C.2.1 hK hP hD hS a t0 b ci h1 (by rw [hr1]; exact ht) g1 hr hin hdg (fun H1 locs1 hP1 hD1 hS1 => kk H1 locs1 ls ⟨_, tys, hK, hP1, hD1, hS1, hSim.set (D := D) (A := A) h1 ⟨cA, t0, ?_, ht⟩ ?_⟩ hL)
    · show _ = _
      congr 7
      funext j
      unfold va_up
      by_cases hj : j = i.toNatClampNeg
      · simp [hj]
      · simp [hj]
    · intro j b' hj
      have hj : va_up f i.toNatClampNeg (some b) j = some b' := hj
      unfold va_up at hj
      by_cases hji : j = i.toNatClampNeg
      · rw [if_pos hji] at hj; cases hj; exact hbn
      · rw [if_neg hji] at hj; exact h3 j b' hj
end QH
