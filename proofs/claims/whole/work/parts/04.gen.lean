/-! A LAYER OF MY OWN over the kit's worlds: an abstract heap (cells by their number), frames of abstract values, one row an instruction. -/
abbrev q_E : Type := (Nat × Nat × (Nat → Int32)) ⊕ ((Nat × Nat × (Nat → Option Nat)) ⊕ (Nat × List Value))
abbrev q_H : Type := Nat → q_E
def q_dead : q_E := .inr (.inr (1000, []))
def q_ty (k : Nat) : FieldType := match k with
  | 0 => .int
  | _ => .boolean
def q_cn (k : Nat) : String := match k with
  | 0 => RX3
  | _ => RX4
def q_cv (ad : Nat → Nat) (v : Value) : Value := match v with
  | .ref k => .ref (ad k)
  | v => v
def q_ok (n : Nat) (v : Value) : Bool := match v with
  | .ref k => decide (k < n) || decide (200 ≤ k)
  | _ => true
def q_up (h : q_H) (a : Nat) (e : q_E) : q_H := fun k => if k = a then e else h k
def q_CR (ad : Nat → Nat) (tys : List (ClassId × FieldType)) (c : q_E) (e : va_E) : Prop := match c with
  | .inl x => ∃ (cA : ClassId) (t0 : Nat) (f' : Nat → Int32), e = .inl (cA, x.2.1, .inl f') ∧ tys[t0]? = some (cA, q_ty x.1) ∧ ∀ j : Nat, j < x.2.1 → f' j = x.2.2 j
  | .inr (.inl x) => ∃ (cA : ClassId) (t0 : Nat), e = .inl (cA, x.2.1, .inr (.inr (.inr (.inr (fun j => (x.2.2 j).map ad))))) ∧ tys[t0]? = some (cA, .object (q_cn x.1))
  | .inr (.inr x) => e = .inr (x.1, x.2.map (q_cv ad))
def q_okE (n : Nat) (c : q_E) : Prop := match c with
  | .inl _ => True
  | .inr (.inl x) => ∀ (j b : Nat), x.2.2 j = some b → b < n
  | .inr (.inr x) => ∀ v ∈ x.2, q_ok n v = true
def q_Sim (ad : Nat → Nat) (n : Nat) (h : q_H) (tys : List (ClassId × FieldType)) (ws : va_W) : Prop :=
  (ws.length = n ∧ n < 200) ∧ (∀ (k : Nat) (q : Nat × va_E), ws[k]? = some q → q.1 = ad k) ∧ ∀ k : Nat, h k ≠ q_dead → ∃ e : va_E, ws[k]? = some (ad k, e) ∧ q_CR ad tys (h k) e ∧ q_okE n (h k)
def q_A (ad : Nat → Nat) (n sz : Nat) : Nat → Prop := fun q => (∃ k : Nat, k < n ∧ q = ad k) ∨ sz ≤ q
def q_W (D : va_G) (ad : Nat → Nat) (n : Nat) (h : q_H) (A : Nat → Prop) (U : State) : Prop :=
  ∃ (ws : va_W) (tys : List (ClassId × FieldType)), va_P D vwCl ws U.heap ∧ va_K D vwCl tys U ∧ va_D A ws ∧ q_Sim ad n h tys ws
def q_len : List Nat := [5, 5, 4, 6, 4, 5, 4]
def q_byt : List (List Int32) := [[103, 117, 101, 115, 116], [101, 97, 116, 101, 114], [102, 97, 115, 116], [103, 114, 101, 101, 100, 121], [100, 101, 97, 102], [100, 114, 117, 110, 107], [100, 105, 115, 104]]
/-- the literals and the statics that the JDK's String reads -/
def q_SF (ad : Nat → Nat) (A : Nat → Prop) (U : State) (H : Heap) : Prop :=
  vk_S 7 q_len q_byt (fun i => ad (200 + i)) (fun i => ad (210 + i)) A U H ∧ va_Z "java/lang/String" "COMPACT_STRINGS" "Z" (.int 1) A U H ∧ (va_Z "jdk/internal/util/Preconditions" "SIOOBE_FORMATTER" "Ljava/util/function/BiFunction;" .null A U H ∨ va_Z "jdk/internal/util/Preconditions" "SIOOBE_FORMATTER" "Ljava/util/function/BiFunction;" (.ref (ad 220)) A U H) ∧
    vk_R RX5 38 "guest" (ad 200) U ∧ vk_R RX5 80 "eater" (ad 201) U ∧ vk_R RX5 82 "fast" (ad 202) U ∧ vk_R RX5 84 "greedy" (ad 203) U ∧ vk_R RX5 86 "deaf" (ad 204) U ∧ vk_R RX5 88 "drunk" (ad 205) U ∧ vk_R RX5 50 "dish" (ad 206) U
def q_nf : List (String × Nat × String × String × String × String) := [(RX7, 89, RX3, "lane", "I", RX7), (RX7, 97, RX3, "length", "I", RX7), (RX5, 58, RX4, "guests", "I", RX7), (RX2, 48, RX4, "guests", "I", RX7), (RX7, 141, RX4, "guests", "I", RX7), (RX7, 157, RX4, "turned", "I", RX7), (RX7, 148, RX4, "minute", "I", RX7), (RX7, 204, RX4, "on", "I", RX7), (RX2, 37, RX4, "pushed", "I", RX7), (RX2, 58, RX4, "dishEaten", "I", RX7), (RX2, 55, RX4, "bite", "I", RX7), (RX7, 107, RX6, "length", "I", RX7), (RX7, 103, RX5, "tape", "LTurningDishes$Tape;", RX7), (RX7, 131, RX5, "told", "LTurningDishes$Table;", RX7), (RX7, 128, RX5, "tokenStart", "I", RX7), (RX7, 121, RX5, "fault", "I", RX7), (RX7, 180, RX0, "kept", "I", RX7), (RX7, 193, RX2, "later", "LTurningDishes$Table;", RX7)]
def q_iy (C : String) : MethodName := ⟨C, "<init>", "()V"⟩
def q_nm : List (String × Nat × MethodName × String) := [(RX7, 15, q_iy RX3, RX7), (RX7, 22, q_iy RX4, RX7), (RX7, 25, q_iy RX5, RX7), (RX5, 11, q_iy RX6, RX7), (RX5, 20, q_iy RX4, RX7), (RX0, 17, q_iy RX4, RX7), (RX7, 43, q_iy RX2, RX7), (RX2, 11, q_iy RX4, RX7), (RX7, 50, q_iy RX1, RX7), (RX0, 30, yX7_leftOver, RX7), (RX4, 43, yX7_leftOver, RX7), (RX2, 99, yX7_within, RX7)]
/-- the words of nest mates, of arrays of ours -/
def q_NW (U : State) : Prop := (∀ q ∈ q_nf, va_Nw (.fieldLinkNest q.1 q.2.1 q.2.2.1 q.2.2.2.1 q.2.2.2.2.1 q.2.2.2.2.2) U) ∧ (∀ q ∈ q_nm, va_Nw (.methodLinkNest q.1 q.2.1 q.2.2.1 q.2.2.2) U) ∧ va_AO RX3 U ∧ va_AO RX4 U
theorem q_NW.warm {s U : State} (hW : s.WarmedH U.vm) (h : q_NW s) : q_NW U :=
  ⟨fun q hq => va_Nw.warmF hW (h.1 q hq), fun q hq => va_Nw.warmM hW (h.2.1 q hq), va_AO.moved hW.alike h.2.2.1, va_AO.moved hW.alike h.2.2.2⟩
theorem q_NW.call {U : State} {g : JFrame} {mk : MethodId} {a : Array Value} (h : q_NW U) : q_NW (U.calling g mk a) :=
  ⟨fun q hq => va_Nw.same rfl rfl (h.1 q hq), fun q hq => va_Nw.same rfl rfl (h.2.1 q hq), va_AO.moved (u := U) (U := U.calling g mk a) (Vm.Alike.refl U.vm) h.2.2.1, va_AO.moved (u := U) (U := U.calling g mk a) (Vm.Alike.refl U.vm) h.2.2.2⟩
theorem q_SF.warm {ad : Nat → Nat} {A B : Nat → Prop} {s U : State} {H : Heap} (hW : s.WarmedH U.vm) (hq : ∀ a : Nat, a < s.heap.size → ¬ A a → H[a]? = s.heap[a]?) (hAB : ∀ q, B q → A q) (h : q_SF ad A s s.heap) : q_SF ad B U H := by
  obtain ⟨h1, h2, h3, r0, r1, r2, r3, r4, r5, r6⟩ := h
  exact ⟨((h1.moved hW.alike).kept hq).narrow hAB, ((h2.moved hW.alike).kept hq).narrow hAB, h3.imp (fun h3 => ((h3.moved hW.alike).kept hq).narrow hAB) (fun h3 => ((h3.moved hW.alike).kept hq).narrow hAB), r0.warm hW, r1.warm hW, r2.warm hW, r3.warm hW, r4.warm hW, r5.warm hW, r6.warm hW⟩
theorem q_SF.call {ad : Nat → Nat} {A : Nat → Prop} {U : State} {H : Heap} {g : JFrame} {mk : MethodId} {a : Array Value} (h : q_SF ad A U H) : q_SF ad A (U.calling g mk a) H := by
  obtain ⟨h1, h2, h3, r0, r1, r2, r3, r4, r5, r6⟩ := h
  exact ⟨h1.moved (u := U) (U := U.calling g mk a) (Vm.Alike.refl U.vm), h2.moved (u := U) (U := U.calling g mk a) (Vm.Alike.refl U.vm), h3.imp (fun h3 => h3.moved (u := U) (U := U.calling g mk a) (Vm.Alike.refl U.vm)) (fun h3 => h3.moved (u := U) (U := U.calling g mk a) (Vm.Alike.refl U.vm)), r0.same rfl, r1.same rfl, r2.same rfl, r3.same rfl, r4.same rfl, r5.same rfl, r6.same rfl⟩
/-- the words of the tables that every method is given -/
def q_Z : List Cond := lw_tbl.filter goodWord
def q_ws (y : MethodName) (cc : ByteArray) (maxL : Nat) (ret : Option FieldType) : List Cond := .code y cc maxL ret :: q_Z
theorem q_good {y y2 : MethodName} {cc cc2 : ByteArray} {maxL maxL2 : Nat} {ret ret2 : Option FieldType} (h : Cond.code y2 cc2 maxL2 ret2 ∈ q_Z) : GoodIn (q_ws y cc maxL ret) (q_ws y2 cc2 maxL2 ret2) := by
  intro w hw
  have hz : w ∈ q_Z := by
    rcases List.mem_cons.mp hw with rfl | hw
    · exact h
    · exact hw
  exact ⟨List.mem_cons_of_mem _ hz, good_of_word (List.mem_filter.mp hz).2⟩
def q_rm (d mc ms : Nat) : Room := { frames := d, cells := mc, slots := ms, locals := 32 * d }
/-- behind a method: its answer, and the heap -/
def q_Q (D : va_G) (A : Nat → Prop) (ad : Nat → Nat) (n : Nat) (h : q_H) (r : Option Value) : Array Value → State → Outcome → State → Prop := fun _ st oc t => (oc = .returned (r.map (q_cv ad)) ∧ q_W D ad n h A t) ∧ va_F A st t
def q_B (D : va_G) (ad : Nat → Nat) (sz n : Nat) (h : q_H) : State → Prop := fun U => U.heap.size = sz ∧ q_W D ad n h (fun _ => True) U ∧ q_NW U ∧ q_SF ad (q_A ad n sz) U U.heap
/-- THE CONTRACT of a method that makes no cells: with as on n cells h it answers r and leaves h' -/
def SP (d : Nat) (y : MethodName) (cc : ByteArray) (maxL : Nat) (ret : Option FieldType) (as : List Value) (n : Nat) (h : q_H) (r : Option Value) (h' : q_H) : Prop :=
  ∀ (l : Launch) (D : va_G) (ad : Nat → Nat) (sz : Nat), Met l y (q_ws y cc maxL ret) (q_rm d 0 0) (va_Pc (as.map (q_cv ad)) (q_B D ad sz n h)) (q_Q D (q_A ad n sz) ad n h' r) 0 0 (q_A ad n sz)
theorem q_blind {D : va_G} {ad : Nat → Nat} {sz n : Nat} {h : q_H} {as : List Value} : FrameBlind (va_Pc as (q_B D ad sz n h)) := by
  intro a U g mk q
  obtain ⟨q0, q1, ⟨ws, tys, qP, qK, qD, qS⟩, q2, q3⟩ := q
  exact ⟨q0, q1, ⟨ws, tys, qP, va_K.moved (u := U) (U := U.calling g mk a) (Vm.Alike.refl U.vm) qK, qD, qS⟩, q2.call, q3.call⟩
abbrev q_X : Type := Program × Launch × Env × Room × State × MethodId × Array Value × List Frame × Method × Code × va_G × (Nat → Prop) × (State → Prop)
def q_I (D : va_G) (A : Nat → Prop) (s : State) (H : Heap) (locs : List Loc) (ad : Nat → Nat) (n : Nat) (h : q_H) : Prop :=
  ∃ (ws : va_W) (tys : List (ClassId × FieldType)), va_K D vwCl tys s ∧ va_P D vwCl ws H ∧ va_D A ws ∧ va_S A s.heap H locs ∧ q_Sim ad n h tys ws
def q_L (ad : Nat → Nat) (nL : Nat) (la : List (Option Value)) (ls : Array Slot) : Prop := ls.size = nL ∧ lv_wf ls ∧ la.length = nL ∧ ∀ (i : Nat) (v : Value), la[i]? = some (some v) → ls[i]? = some (.val (q_cv ad v))
def q_G (Γ : q_X) (ad : Nat → Nat) (nL : Nat) (pc : Nat) (la : List (Option Value)) (st : List Value) (n : Nat) (h : q_H) (k1 k2 : Nat) : Prop :=
  match Γ with
  | (p, l, e, R, s, m, args, below, meth, c, D, A, Q) => ∀ (H : Heap) (locs : List Loc) (ls : Array Slot), q_I D A s H locs ad n h → q_L ad nL la ls → W p l e R s m args below meth c H locs k1 k2 Q (F0 m pc ls (st.map (q_cv ad)))
def q_C (Γ : q_X) (ad : Nat → Nat) (d mc ms : Nat) (own : String) (y : MethodName) (cc : ByteArray) (maxL : Nat) (ret : Option FieldType) : Prop :=
  match Γ with
  | (p, _, _, R, s, m, args, _, meth, c, _, A, _) => p.tables.exec = Jvm.exec ∧ c.code = cc ∧ c.maxLocals = maxL ∧ meth.sig.returnType = ret ∧ s.vm.findClass own = some m.cls ∧ (∀ w ∈ q_ws y cc maxL ret, w.before args s = true) ∧ meth.locks = false ∧ q_NW s ∧ q_SF ad A s s.heap ∧ (∀ q, s.heap.size ≤ q → A q) ∧ meth.name = y.name ∧ R = q_rm d mc ms
/-- the end that is wanted -/
def q_N (Γ : q_X) (ad : Nat → Nat) (n : Nat) (r : Option Value) (h' : q_H) : Prop :=
  match Γ with
  | (_, _, _, _, s, _, args, below, _, _, D, A, Q) => Q = MQ below (q_Q D A ad n h' r) args s 0 0 A
def q_la (maxL : Nat) (as : List Value) : List (Option Value) :=
  (as.flatMap fun v => if v.category = 2 then [some v, none] else [some v]) ++ List.replicate (maxL - (as.flatMap fun v => if v.category = 2 then [some v, none] else [some v]).length) none
theorem q_cv_cat (ad : Nat → Nat) (v : Value) : (q_cv ad v).category = v.category := by cases v <;> rfl
theorem q_la_args (ad : Nat → Nat) : ∀ (as : List Value) (b i : Nat) (v : Value) (tl : List (Option Value)), (∀ x ∈ tl, x = none) → ((as.flatMap fun v => if v.category = 2 then [some v, none] else [some v]) ++ tl)[i]? = some (some v) → (b + i, q_cv ad v) ∈ lv_args b (as.map (q_cv ad))
  | [], b, i, v, tl, ht, h => by
    have := ht _ (List.mem_of_getElem? (by simpa using h))
    cases this
  | a :: as, b, i, v, tl, ht, h => by
    rw [List.map_cons, lv_args, q_cv_cat]
    by_cases hc : a.category = 2
    · rw [List.flatMap_cons, if_pos hc] at h
      rw [if_pos hc]
      match i, h with
      | 0, h =>
        simp at h
        subst h
        exact List.mem_cons_self
      | 1, h => simp at h
      | i + 2, h =>
        have h1 := q_la_args ad as (b + 2) i v tl ht (by simpa using h)
        rw [show b + (i + 2) = b + 2 + i by omega]
        exact List.mem_cons_of_mem _ h1
    · rw [List.flatMap_cons, if_neg hc] at h
      rw [if_neg hc]
      match i, h with
      | 0, h =>
        simp at h
        subst h
        exact List.mem_cons_self
      | i + 1, h =>
        have h1 := q_la_args ad as (b + 1) i v tl ht (by simpa using h)
        rw [show b + (i + 1) = b + 1 + i by omega]
        exact List.mem_cons_of_mem _ h1
theorem q_la_len (ad : Nat → Nat) : ∀ as : List Value, (lg_sl (as.map (q_cv ad))).length = (as.flatMap fun v => if v.category = 2 then [some v, none] else [some v]).length
  | [] => rfl
  | a :: as => by
    have h := q_la_len ad as
    unfold lg_sl at h ⊢
    rw [List.map_cons, List.flatMap_cons, List.flatMap_cons, List.length_append, List.length_append, h, q_cv_cat]
    by_cases hc : a.category = 2 <;> simp [hc]
set_option maxHeartbeats 1000000 in
theorem q_SPi {d maxL : Nat} {y : MethodName} {cc : ByteArray} {ret : Option FieldType} {as : List Value} {la : List (Option Value)} {n : Nat} {h h' : q_H} {r : Option Value} (own : String) (hown : y.cls = own) (hy : plainName y.cls = true) (hla : q_la maxL as = la) (hlen : la.length = maxL)
    (k : ∀ (Γ : q_X) (ad : Nat → Nat), q_C Γ ad d 0 0 own y cc maxL ret → q_N Γ ad n r h' → q_G Γ ad maxL 0 la [] n h 0 0) : SP d y cc maxL ret as n h r h' := by
  intro l D ad sz
  subst hla
  subst hown
  refine Met.ofW (cc := cc) (maxL := maxL) (ret := ret) hy rfl ?_
  intro p e s m args below meth c s₁ B hml hv
  obtain ⟨rfl, hsz, ⟨ws, tys, hP, hK, hD0, hSim⟩, hNW, hSF⟩ := hv
  subst hsz
  have hts := atoms_spec (ws := q_ws y cc maxL ret) B.pre
  have hown : s.vm.findClass y.cls = some m.cls := findClass_of_methodNamed B.named
  have hin : meth.name = y.name := (name_of_methodNamed B.named B.method).1
  have hll : (lg_sl (as.map (q_cv ad))).length ≤ maxL := by
    have := hlen
    unfold q_la at this
    rw [List.length_append] at this
    rw [q_la_len]
    omega
  have hl := lv_entry (as.map (q_cv ad)) (n := maxL) hll
  have hD : va_D (q_A ad n s.heap.size) ws := hD0.weaken (fun k q hq _ => Or.inl ⟨k, by
    have := (List.getElem?_eq_some_iff.mp hq).1
    rw [hSim.1.1] at this
    exact this, hSim.2.1 k q hq⟩)
  have G := k (p, l, e, q_rm d 0 0, s, m, (as.map (q_cv ad)).toArray, below, meth, c, D, q_A ad n s.heap.size, MQ below (q_Q D (q_A ad n s.heap.size) ad n h' r) (as.map (q_cv ad)).toArray s 0 0 (q_A ad n s.heap.size)) ad
    ⟨B.exec, B.bytes, hml, B.returns, hown, hts, B.notSynchronized, hNW, hSF, fun q hq => Or.inr hq, hin, rfl⟩ rfl
  rw [lg_entry_eq]
  refine G s.heap [] _ ⟨ws, tys, hK, hP, hD, va_S.rf, hSim⟩ ⟨hl.1, hl.2.1, hlen, fun i v hi => ?_⟩
  have h1 := q_la_args ad as 0 i v _ (fun x hx => List.eq_of_mem_replicate hx) hi
  rw [Nat.zero_add] at h1
  exact hl.2.2 _ h1
