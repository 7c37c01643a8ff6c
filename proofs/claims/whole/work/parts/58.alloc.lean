/-! CELLS THAT ARE MADE: contracts that leave more cells than they found -/
section QAL
variable {Γ : q_X} {ad : Nat → Nat} {d mc ms : Nat} {own : String} {y : MethodName} {cc : ByteArray} {nL : Nat} {ret : Option FieldType} {pc : Nat} {la : List (Option Value)} {st : List Value} {n : Nat} {h : q_H} {k1 k2 : Nat}
def q_ext (ad ad' : Nat → Nat) (n : Nat) : Prop := ∀ k : Nat, k < n ∨ 200 ≤ k → ad' k = ad k
theorem q_ext.rf {ad : Nat → Nat} {n : Nat} : q_ext ad ad n := fun _ _ => rfl
theorem q_ext.less {ad ad' : Nat → Nat} {n n1 : Nat} (hx : q_ext ad ad' n1) (hn : n ≤ n1) : q_ext ad ad' n := fun k hk => hx k (by omega)
theorem q_ext.trans {ad ad1 ad2 : Nat → Nat} {n : Nat} (h1 : q_ext ad ad1 n) (h2 : q_ext ad1 ad2 n) : q_ext ad ad2 n := fun k hk => (h2 k hk).trans (h1 k hk)
def q_vok (n : Nat) (v : Value) : Prop := ∀ k : Nat, v = .ref k → k < n ∨ 200 ≤ k
theorem q_vok_of {v : Value} (hv : q_ok n v = true) : q_vok n v := by
  intro k hk
  subst hk
  have hv : (decide (k < n) || decide (200 ≤ k)) = true := hv
  simpa using hv
theorem q_cvx {ad' : Nat → Nat} (hx : q_ext ad ad' n) {v : Value} (hv : q_vok n v) : q_cv ad' v = q_cv ad v := by
  cases v with
  | ref k => show Value.ref (ad' k) = Value.ref (ad k); rw [hx k (hv k rfl)]
  | _ => rfl
theorem q_cvsx {ad' : Nat → Nat} (hx : q_ext ad ad' n) {vs : List Value} (hv : ∀ v ∈ vs, q_vok n v) : vs.map (q_cv ad') = vs.map (q_cv ad) := List.map_congr_left (fun v hm => q_cvx hx (hv v hm))
theorem q_CR.ext {ad' : Nat → Nat} {tys tys' : List (ClassId × FieldType)} {c : q_E} {e : va_E} (hx : q_ext ad ad' n) (ht : ∀ (t : Nat) (q : ClassId × FieldType), tys[t]? = some q → tys'[t]? = some q) (ho : q_okE n c) (hc : q_CR ad tys c e) : q_CR ad' tys' c e := by
  match c, ho, hc with
  | .inl x, ho, hc =>
    obtain ⟨cA, t0, f', e1, e2, e3⟩ := hc
    exact ⟨cA, t0, f', e1, ht _ _ e2, e3⟩
  | .inr (.inl x), ho, hc =>
    obtain ⟨cA, t0, e1, e2⟩ := hc
    refine ⟨cA, t0, ?_, ht _ _ e2⟩
    rw [e1, show (fun j => (x.2.2 j).map ad) = fun j => (x.2.2 j).map ad' from funext fun j => by
      cases hj : x.2.2 j with
      | none => rfl
      | some b => show some (ad b) = some (ad' b); rw [hx b (Or.inl (ho j b hj))]]
  | .inr (.inr x), ho, hc =>
    have hc : e = .inr (x.1, x.2.map (q_cv ad)) := hc
    show e = .inr (x.1, x.2.map (q_cv ad'))
    rw [hc, q_cvsx hx (fun v hm => q_vok_of (ho v hm))]
theorem q_okE.more {c : q_E} (ho : q_okE n c) : q_okE (n + 1) c := by
  match c, ho with
  | .inl x, ho => exact trivial
  | .inr (.inl x), ho => exact fun j b hj => Nat.lt_succ_of_lt (ho j b hj)
  | .inr (.inr x), ho =>
    intro v hv
    have h1 := q_vok_of (ho v hv)
    cases v with
    | ref k =>
      have h2 := h1 k rfl
      show (decide (k < n + 1) || decide (200 ≤ k)) = true
      rcases h2 with h2 | h2
      · rw [decide_eq_true (show k < n + 1 from Nat.lt_succ_of_lt h2)]; rfl
      · rw [decide_eq_true (show 200 ≤ k from h2)]; exact Bool.or_true _
    | _ => rfl
/-- one cell more -/
theorem q_Sim.push {tys tys' : List (ClassId × FieldType)} {ws : va_W} {q : Nat} {c : q_E} {e : va_E} (hS : q_Sim ad n h tys ws) (hn : n < 199) (ht : ∀ (t : Nat) (q : ClassId × FieldType), tys[t]? = some q → tys'[t]? = some q) (hc : q_CR (fun k => if k = n then q else ad k) tys' c e) (ho : q_okE (n + 1) c) : q_Sim (fun k => if k = n then q else ad k) (n + 1) (q_up h n c) tys' (ws ++ [(q, e)]) := by
  obtain ⟨⟨s1, s2⟩, s3, s4⟩ := hS
  have hx : q_ext ad (fun k => if k = n then q else ad k) n := fun k hk => if_neg (by omega)
  refine ⟨⟨by rw [List.length_append, s1]; rfl, by omega⟩, fun k x hk => ?_, fun k hk => ?_⟩
  · by_cases hl : k < ws.length
    · rw [List.getElem?_append_left hl] at hk
      rw [s3 k x hk]
      have hk2 : k ≠ n := by omega
      exact (if_neg hk2).symm
    · rw [List.getElem?_append_right (by omega)] at hk
      have hz : k - ws.length < 1 := (List.getElem?_eq_some_iff.mp hk).1
      rw [show k - ws.length = 0 by omega] at hk
      cases hk
      have hk2 : k = n := by omega
      exact (if_pos hk2).symm
  · by_cases hkn : k = n
    · subst hkn
      rw [q_up_s]
      refine ⟨e, ?_, hc, ho⟩
      rw [List.getElem?_append_right (by omega), show k - ws.length = 0 by omega]
      show some (q, e) = some ((if k = k then q else ad k), e)
      rw [if_pos rfl]
    · rw [q_up_n _ _ hkn] at hk ⊢
      obtain ⟨e0, h1, h2, h3⟩ := s4 k hk
      have hl : k < ws.length := (List.getElem?_eq_some_iff.mp h1).1
      refine ⟨e0, ?_, q_CR.ext hx ht h3 h2, h3.more⟩
      rw [List.getElem?_append_left hl, h1]
      show some (ad k, e0) = some ((if k = n then q else ad k), e0)
      rw [if_neg hkn]
theorem q_SF.ext {ad' : Nat → Nat} {A : Nat → Prop} {U : State} {H : Heap} (hx : ∀ k : Nat, 200 ≤ k → ad' k = ad k) (hs : q_SF ad A U H) : q_SF ad' A U H := by
  have e1 : (fun i => ad' (200 + i)) = fun i => ad (200 + i) := funext fun i => hx _ (by omega)
  have e2 : (fun i => ad' (210 + i)) = fun i => ad (210 + i) := funext fun i => hx _ (by omega)
  unfold q_SF at hs ⊢
  rw [e1, e2, hx 220 (by omega), hx 200 (by omega), hx 201 (by omega), hx 202 (by omega), hx 203 (by omega), hx 204 (by omega), hx 205 (by omega), hx 206 (by omega)]
  exact hs
theorem q_C.ext {ad' : Nat → Nat} (hx : q_ext ad ad' n) (C : q_C Γ ad d mc ms own y cc nL ret) : q_C Γ ad' d mc ms own y cc nL ret := by
  obtain ⟨p, l, e, R, s, m, args, below, meth, c, D, A, Q⟩ := Γ
  obtain ⟨C1, C2, C3, C4, C5, C6, C7, C8, C9, C10, C11, C12⟩ := C
  exact ⟨C1, C2, C3, C4, C5, C6, C7, C8, C9.ext (fun k hk => hx k (Or.inr hk)), C10, C11, C12⟩
def q_okV (n : Nat) (la : List (Option Value)) : Prop := ∀ k : Nat, some (Value.ref k) ∈ la → k < n ∨ 200 ≤ k
def q_okS (n : Nat) (st : List Value) : Prop := ∀ k : Nat, Value.ref k ∈ st → k < n ∨ 200 ≤ k
theorem q_okS.v (hs : q_okS n st) : ∀ v ∈ st, q_vok n v := fun v hv k hk => hs k (hk ▸ hv)
theorem q_L.ext {ad' : Nat → Nat} {ls : Array Slot} (hx : q_ext ad ad' n) (ho : q_okV n la) (hL : q_L ad nL la ls) : q_L ad' nL la ls :=
  ⟨hL.1, hL.2.1, hL.2.2.1, fun i v hi => by rw [q_cvx hx (fun k hk => ho k (hk ▸ List.mem_of_getElem? hi))]; exact hL.2.2.2 i v hi⟩
/-- the class that is made, its fields at the start -/
def q_NC (own : String) (ix ci N : Nat) (fs : List Value) : Prop := ∃ (C : String) (T : u_T) (ty : Nat → FieldType), vwCl[ci]? = some (C, T, N) ∧ (∀ w ∈ u_ws C T N, w ∈ q_Z) ∧ (∀ k, k < N → parseFieldDescriptor (T k).2.2.1 = some (ty k)) ∧ Cond.classLink own ix C ∈ q_Z ∧ Cond.instantiable C N ∈ q_Z ∧ Cond.initialized C ∈ q_Z ∧ (∀ j, j < N → defaultValue (ty j) = vp_V fs j) ∧ (∀ v ∈ fs, ∀ k : Nat, v ≠ .ref k)
theorem q_noref {fs : List Value} (hf : ∀ v ∈ fs, ∀ k : Nat, v ≠ .ref k) : fs.map (q_cv ad) = fs := by
  refine (List.map_congr_left (g := id) fun v hv => ?_).trans (List.map_id fs)
  have := hf v hv
  cases v with
  | ref k => exact absurd rfl (this k)
  | _ => rfl
theorem q_noref_ok {fs : List Value} (hf : ∀ v ∈ fs, ∀ k : Nat, v ≠ .ref k) : ∀ v ∈ fs, q_ok n v = true := by
  intro v hv
  have := hf v hv
  cases v with
  | ref k => exact absurd rfl (this k)
  | _ => rfl
def q_PP (P : (Nat → Nat) → Prop) (n0 : Nat) : Prop := ∀ ad1 ad2 : Nat → Nat, q_ext ad1 ad2 n0 → P ad1 → P ad2
theorem g_new (C : q_C Γ ad d mc ms own y cc nL ret) {ix ci N n0 : Nat} {fs : List Value} {P : (Nat → Nat) → Prop} (F : P ad) (hF : q_PP P n0) (hl : q_NC own ix ci N fs) (hdg : decode cc pc = .ok (.new ix, 3)) (h0 : n0 ≤ n) (hn : n < 199) (hla : q_okV n la) (hst : q_okS n st) (hc : k1 + 1 ≤ mc) (hs : k2 + N ≤ ms)
    (kk : ∀ ad' : Nat → Nat, q_C Γ ad' d mc ms own y cc nL ret → P ad' → q_G Γ ad' nL (pc + 3) la (.ref n :: st) (n + 1) (q_up h n (.inr (.inr (ci, fs)))) (k1 + 1) (k2 + N)) : q_G Γ ad nL pc la st n h k1 k2 := by
  obtain ⟨p, l, e, R, s, m, args, below, meth, c, D, A, Q⟩ := Γ
  intro H locs ls hI hL
  have C0 := C
  obtain ⟨C1, C2, C3, C4, C5, C6, C7, C8, C9, C10, C11, rfl⟩ := C
  obtain ⟨ws, tys, hK, hP, hD, hS, hSim⟩ := id hI
  obtain ⟨CC, T, ty, f1, f2, f3, f4, f5, f6, f7, f8⟩ := hl
  refine va_new (D := D) (ci := ci) (fs := fs) (C := CC) (T := T) (N := N) C1 C2 C6 (fun w hw => List.mem_cons_of_mem _ (f2 w hw)) ty f3 C5 (C6 _ (List.mem_cons_of_mem _ f4)) (C6 _ (List.mem_cons_of_mem _ f5)) (C6 _ (List.mem_cons_of_mem _ f6)) hK hP hD hS C10 f1 f7 hc hs hdg (fun q H1 hP1 hD1 hS1 => ?_)
  have hx : q_ext ad (fun k => if k = n then q else ad k) n := fun k hk => if_neg (by omega)
  have G := kk _ (q_C.ext hx C0) (hF _ _ (hx.less h0) F) H1 locs ls ⟨_, tys, hK, hP1, hD1, hS1, hSim.push hn (fun _ _ z => z) (by show _ = _; rw [q_noref f8]) (q_noref_ok f8)⟩ (hL.ext hx hla)
  rw [List.map_cons, q_cvsx hx hst.v, show q_cv (fun k => if k = n then q else ad k) (Value.ref n) = .ref q by show Value.ref (if n = n then q else ad n) = _; rw [if_pos rfl]] at G
  exact G
theorem g_newi (C : q_C Γ ad d mc ms own y cc nL ret) {N n0 : Nat} {x : Int32} {P : (Nat → Nat) → Prop} (F : P ad) (hF : q_PP P n0) (hl : Cond.arrayClass .int ∈ q_Z) (hdg : decode cc pc = .ok (.newarray .int, 2)) (hx0 : ¬ x < 0) (hxN : x.toNatClampNeg = N) (hN : N ≤ 2000) (h0 : n0 ≤ n) (hn : n < 199) (hla : q_okV n la) (hst : q_okS n st) (hc : k1 + 1 ≤ mc) (hs : k2 + N ≤ ms)
    (kk : ∀ ad' : Nat → Nat, q_C Γ ad' d mc ms own y cc nL ret → P ad' → q_G Γ ad' nL (pc + 2) la (.ref n :: st) (n + 1) (q_up h n (.inl (0, N, fun _ => 0))) (k1 + 1) (k2 + N)) : q_G Γ ad nL pc la (.int x :: st) n h k1 k2 := by
  obtain ⟨p, l, e, R, s, m, args, below, meth, c, D, A, Q⟩ := Γ
  intro H locs ls hI hL
  have C0 := C
  obtain ⟨C1, C2, C3, C4, C5, C6, C7, C8, C9, C10, C11, rfl⟩ := C
  obtain ⟨ws, tys, hK, hP, hD, hS, hSim⟩ := id hI
  refine va_newa (D := D) (atype := .int) (a0 := (N, .inl (fun _ => 0))) C1 C2 (C6 _ (List.mem_cons_of_mem _ hl)) rfl hK hP hD hS C10 (fun cA => rfl) hx0 hxN (by show N * 4 ≤ _; omega) hc hs hdg (fun q cA H1 hK1 hP1 hD1 hS1 => ?_)
  have hx : q_ext ad (fun k => if k = n then q else ad k) n := fun k hk => if_neg (by omega)
  have G := kk _ (q_C.ext hx C0) (hF _ _ (hx.less h0) F) H1 locs ls ⟨_, _, hK1, hP1, hD1, hS1, hSim.push hn (fun t z hz => by rw [List.getElem?_append_left (List.getElem?_eq_some_iff.mp hz).1]; exact hz) ⟨cA, tys.length, _, rfl, by rw [List.getElem?_append_right (Nat.le_refl _), Nat.sub_self]; rfl, fun _ _ => rfl⟩ trivial⟩ (hL.ext hx hla)
  rw [List.map_cons, q_cvsx hx hst.v, show q_cv (fun k => if k = n then q else ad k) (Value.ref n) = .ref q by show Value.ref (if n = n then q else ad n) = _; rw [if_pos rfl]] at G
  exact G
theorem g_newz (C : q_C Γ ad d mc ms own y cc nL ret) {N n0 : Nat} {x : Int32} {P : (Nat → Nat) → Prop} (F : P ad) (hF : q_PP P n0) (hl : Cond.arrayClass .boolean ∈ q_Z) (hdg : decode cc pc = .ok (.newarray .boolean, 2)) (hx0 : ¬ x < 0) (hxN : x.toNatClampNeg = N) (hN : N ≤ 2000) (h0 : n0 ≤ n) (hn : n < 199) (hla : q_okV n la) (hst : q_okS n st) (hc : k1 + 1 ≤ mc) (hs : k2 + N ≤ ms)
    (kk : ∀ ad' : Nat → Nat, q_C Γ ad' d mc ms own y cc nL ret → P ad' → q_G Γ ad' nL (pc + 2) la (.ref n :: st) (n + 1) (q_up h n (.inl (1, N, fun _ => 0))) (k1 + 1) (k2 + N)) : q_G Γ ad nL pc la (.int x :: st) n h k1 k2 := by
  obtain ⟨p, l, e, R, s, m, args, below, meth, c, D, A, Q⟩ := Γ
  intro H locs ls hI hL
  have C0 := C
  obtain ⟨C1, C2, C3, C4, C5, C6, C7, C8, C9, C10, C11, rfl⟩ := C
  obtain ⟨ws, tys, hK, hP, hD, hS, hSim⟩ := id hI
  refine va_newa (D := D) (atype := .boolean) (a0 := (N, .inl (fun _ => 0))) C1 C2 (C6 _ (List.mem_cons_of_mem _ hl)) rfl hK hP hD hS C10 (fun cA => rfl) hx0 hxN (by show N * 1 ≤ _; omega) hc hs hdg (fun q cA H1 hK1 hP1 hD1 hS1 => ?_)
  have hx : q_ext ad (fun k => if k = n then q else ad k) n := fun k hk => if_neg (by omega)
  have G := kk _ (q_C.ext hx C0) (hF _ _ (hx.less h0) F) H1 locs ls ⟨_, _, hK1, hP1, hD1, hS1, hSim.push hn (fun t z hz => by rw [List.getElem?_append_left (List.getElem?_eq_some_iff.mp hz).1]; exact hz) ⟨cA, tys.length, _, rfl, by rw [List.getElem?_append_right (Nat.le_refl _), Nat.sub_self]; rfl, fun _ _ => rfl⟩ trivial⟩ (hL.ext hx hla)
  rw [List.map_cons, q_cvsx hx hst.v, show q_cv (fun k => if k = n then q else ad k) (Value.ref n) = .ref q by show Value.ref (if n = n then q else ad n) = _; rw [if_pos rfl]] at G
  exact G
theorem q_AO {U : State} (t : Nat) (hN : q_NW U) : va_AO (q_cn t) U := by
  match t with
  | 0 => exact hN.2.2.1
  | t + 1 => exact hN.2.2.2
theorem g_newq (C : q_C Γ ad d mc ms own y cc nL ret) {ix N n0 : Nat} (t : Nat) {x : Int32} {P : (Nat → Nat) → Prop} (F : P ad) (hF : q_PP P n0) (hl : Cond.classLink own ix (q_cn t) ∈ q_Z) (hdg : decode cc pc = .ok (.anewarray ix, 3)) (hx0 : ¬ x < 0) (hxN : x.toNatClampNeg = N) (hN : N ≤ 2000) (h0 : n0 ≤ n) (hn : n < 199) (hla : q_okV n la) (hst : q_okS n st) (hc : k1 + 1 ≤ mc) (hs : k2 + N ≤ ms)
    (kk : ∀ ad' : Nat → Nat, q_C Γ ad' d mc ms own y cc nL ret → P ad' → q_G Γ ad' nL (pc + 3) la (.ref n :: st) (n + 1) (q_up h n (.inr (.inl (t, N, fun _ => none)))) (k1 + 1) (k2 + N)) : q_G Γ ad nL pc la (.int x :: st) n h k1 k2 := by
  obtain ⟨p, l, e, R, s, m, args, below, meth, c, D, A, Q⟩ := Γ
  intro H locs ls hI hL
  have C0 := C
  obtain ⟨C1, C2, C3, C4, C5, C6, C7, C8, C9, C10, C11, rfl⟩ := C
  obtain ⟨ws, tys, hK, hP, hD, hS, hSim⟩ := id hI
  refine va_newq (D := D) (C := q_cn t) C1 C2 C5 (C6 _ (List.mem_cons_of_mem _ hl)) (q_AO t C8) hK hP hD hS C10 hx0 hxN (by omega) hc hs hdg (fun q cA H1 hK1 hP1 hD1 hS1 => ?_)
  have hx : q_ext ad (fun k => if k = n then q else ad k) n := fun k hk => if_neg (by omega)
  have G := kk _ (q_C.ext hx C0) (hF _ _ (hx.less h0) F) H1 locs ls ⟨_, _, hK1, hP1, hD1, hS1, hSim.push hn (fun t z hz => by rw [List.getElem?_append_left (List.getElem?_eq_some_iff.mp hz).1]; exact hz) ⟨cA, tys.length, rfl, by rw [List.getElem?_append_right (Nat.le_refl _), Nat.sub_self]; rfl⟩ (fun j b z => by cases z)⟩ (hL.ext hx hla)
  rw [List.map_cons, q_cvsx hx hst.v, show q_cv (fun k => if k = n then q else ad k) (Value.ref n) = .ref q by show Value.ref (if n = n then q else ad n) = _; rw [if_pos rfl]] at G
  exact G
/-- behind a method that makes cells -/
def q_QA (D : va_G) (A : Nat → Prop) (ad : Nat → Nat) (n0 n : Nat) (h : q_H) : Array Value → State → Outcome → State → Prop := fun _ st oc t => (∃ ad' : Nat → Nat, q_ext ad ad' n0 ∧ oc = .returned none ∧ q_W D ad' n h A t) ∧ va_F A st t
def SPA (mc ms d : Nat) (y : MethodName) (cc : ByteArray) (maxL : Nat) (as : List Value) (n : Nat) (h : q_H) (n' : Nat) (h' : q_H) : Prop :=
  ∀ (l : Launch) (D : va_G) (ad : Nat → Nat) (sz : Nat), Met l y (q_ws y cc maxL none) (q_rm d mc ms) (va_Pc (as.map (q_cv ad)) (q_B D ad sz n h)) (q_QA D (q_A ad n sz) ad n n' h') mc ms (q_A ad n sz)
def q_NA (Γ : q_X) (mc ms n0 n' : Nat) (h' : q_H) (ad : Nat → Nat) : Prop :=
  match Γ with
  | (_, _, _, _, s, _, args, below, _, _, D, A, Q) => ∃ ad0 : Nat → Nat, q_ext ad0 ad n0 ∧ Q = MQ below (q_QA D A ad0 n0 n' h') args s mc ms A
theorem q_NA.pp {n0 n' : Nat} {h' : q_H} : q_PP (q_NA Γ mc ms n0 n' h') n0 := by
  obtain ⟨p, l, e, R, s, m, args, below, meth, c, D, A, Q⟩ := Γ
  intro ad1 ad2 hx hP
  obtain ⟨ad0, h1, h2⟩ := hP
  exact ⟨ad0, h1.trans hx, h2⟩
theorem g_vretA (C : q_C Γ ad d mc ms own y cc nL ret) {n0 n' : Nat} {h' : q_H} (F : q_NA Γ mc ms n0 n' h' ad) (hdg : decode cc pc = .ok (.return_, 1)) (hr : ret = none) (e0 : n = n') (e1 : k1 = mc) (e2 : k2 = ms) (e3 : h = h') : q_G Γ ad nL pc la [] n h k1 k2 := by
  obtain ⟨p, l, e, R, s, m, args, below, meth, c, D, A, Q⟩ := Γ
  intro H locs ls hI hL
  subst e0; subst e1; subst e2; subst e3
  obtain ⟨ad0, hx, F⟩ := F
  have F : Q = _ := F
  subst F
  have hlk : meth.locks = false := C.2.2.2.2.2.2.1
  obtain ⟨ws, tys, hK, hP, hD, hS, hSim⟩ := id hI
  exact W.vret C.1 C.2.1 (C.2.2.2.1.trans hr) (fun t ht hW => ⟨⟨ad, hx, rfl, ws, tys, by rw [ht]; exact hP, va_K.moved hW.alike hK, hD, hSim⟩, hS.F ht⟩) hS.2.2 hdg hlk
set_option maxHeartbeats 1000000 in
theorem q_SPAi {mc ms d maxL : Nat} {y : MethodName} {cc : ByteArray} {as : List Value} {la : List (Option Value)} {n n' : Nat} {h h' : q_H} (own : String) (hown : y.cls = own) (hy : plainName y.cls = true) (hla : q_la maxL as = la) (hlen : la.length = maxL)
    (k : ∀ (Γ : q_X) (ad : Nat → Nat), q_C Γ ad d mc ms own y cc maxL none → q_NA Γ mc ms n n' h' ad → q_G Γ ad maxL 0 la [] n h 0 0) : SPA mc ms d y cc maxL as n h n' h' := by
  intro l D ad sz
  subst hla
  subst hown
  refine Met.ofW (cc := cc) (maxL := maxL) (ret := none) hy rfl ?_
  intro p e s m args below meth c s₁ B hml hv
  obtain ⟨rfl, hsz, ⟨ws, tys, hP, hK, hD0, hSim⟩, hNW, hSF⟩ := hv
  subst hsz
  have hts := atoms_spec (ws := q_ws y cc maxL none) B.pre
  have hown : s.vm.findClass y.cls = some m.cls := findClass_of_methodNamed B.named
  have hin : meth.name = y.name := (name_of_methodNamed B.named B.method).1
  have hll : (lg_sl (as.map (q_cv ad))).length ≤ maxL := by
    have := hlen
    unfold q_la at this
    rw [List.length_append] at this
    rw [q_la_len]
    omega
  have hl := lv_entry (as.map (q_cv ad)) (n := maxL) hll
  have hD : va_D (q_A ad n s.heap.size) ws := hD0.weaken (fun k q hq _ => Or.inl ⟨k, by
    have := (List.getElem?_eq_some_iff.mp hq).1
    rw [hSim.1.1] at this
    exact this, hSim.2.1 k q hq⟩)
  have G := k (p, l, e, q_rm d mc ms, s, m, (as.map (q_cv ad)).toArray, below, meth, c, D, q_A ad n s.heap.size, MQ below (q_QA D (q_A ad n s.heap.size) ad n n' h') (as.map (q_cv ad)).toArray s mc ms (q_A ad n s.heap.size)) ad
    ⟨B.exec, B.bytes, hml, B.returns, hown, hts, B.notSynchronized, hNW, hSF, fun q hq => Or.inr hq, hin, rfl⟩ ⟨ad, q_ext.rf, rfl⟩
  rw [lg_entry_eq]
  refine G s.heap [] _ ⟨ws, tys, hK, hP, hD, va_S.rf, hSim⟩ ⟨hl.1, hl.2.1, hlen, fun i v hi => ?_⟩
  have h1 := q_la_args ad as 0 i v _ (fun x hx => List.eq_of_mem_replicate hx) hi
  rw [Nat.zero_add] at h1
  exact hl.2.2 _ h1
/-- a link to a constructor -/
def q_LI (own : String) (ix : Nat) (y : MethodName) (cc : ByteArray) (maxL : Nat) : Prop :=
  ((Cond.methodLink own ix y ∈ q_Z ∨ ∃ host : String, (own, ix, y, host) ∈ q_nm) ∧ Cond.instanceMethod y ∈ q_Z ∧ Cond.initialized y.cls ∈ q_Z ∧ Cond.code y cc maxL none ∈ q_Z) ∧ (y.cls ≠ "java/lang/invoke/MethodHandle" ∧ y.cls ≠ "java/lang/invoke/VarHandle" ∧ (parseMethodDescriptor y.desc).map (fun d => d.parameters.length) = some 0) ∧ maxL ≤ 13 ∧ y.name = "<init>"
theorem q_backA {p : Program} {l : Launch} {e : Env} {R : Room} {s : State} {m : MethodId} {args : Array Value} {below : List Frame} {meth : Method} {c : Code} {D : va_G} {A : Nat → Prop} {Q : State → Prop} {H : Heap} {locs : List Loc} {ls : Array Slot} {st0 rest : List Value} {a : Array Value} {n2 mc2 ms2 : Nat} {h2 : q_H}
    (hr : va_Run p l e R s m args below meth c H locs k1 k2 mc2 ms2 (F0 m pc ls st0) rest (q_QA D (q_A ad n H.size) ad n n2 h2 a) (q_A ad n H.size)) (hA : ∀ q, s.heap.size ≤ q → A q) (hI : q_I D A s H locs ad n h)
    (kk : ∀ (ad' : Nat → Nat) (H1 : Heap) (locs1 : List Loc), q_ext ad ad' n → q_I D A s H1 locs1 ad' n2 h2 → W p l e R s m args below meth c H1 locs1 (k1 + mc2) (k2 + ms2) Q (F0 m (pc + 3) ls rest)) : W p l e R s m args below meth c H locs k1 k2 Q (F0 m pc ls st0) := by
  obtain ⟨ws, tys, hK, hP, hD, hS, hSim⟩ := hI
  have hAA : ∀ q, q_A ad n H.size q → A q := by
    intro q hq
    rcases hq with ⟨k, hk, rfl⟩ | hq
    · have hkl : k < ws.length := by rw [hSim.1.1]; exact hk
      have h1 := hD.2 k _ (List.getElem?_eq_getElem hkl)
      rwa [hSim.2.1 k _ (List.getElem?_eq_getElem hkl)] at h1
    · exact hA q (Nat.le_trans hS.1 hq)
  intro T hT X
  obtain ⟨v, st₀, t, T', L, h0, X', hL, e1, e2, ⟨⟨ad', hx, hv, ws1, tys1, hP1, hK1, hD1, hS1⟩, hz, hk⟩, st⟩ := hr T hT X
  cases hv
  rw [h0] at hz hk
  have hal : s.vm.Alike t.vm := by rw [← e2]; exact X'.warmed.alike
  obtain ⟨t2, a1, b1⟩ := kk ad' T'.heap (locs ++ L) hx ⟨ws1, tys1, va_K.moved hal.symm hK1, by rw [e1]; exact hP1, hD1.weaken (fun _ q _ h => hAA _ h), ⟨Nat.le_trans hS.1 (by rw [e1]; exact hz), fun q h1 h2 => by rw [e1, hk q (Nat.lt_of_lt_of_le h1 hS.1) (fun z => h2 (hAA q z))]; exact hS.2.1 q h1 h2, fun q hq => by
      rcases List.mem_append.mp hq with h | h
      · exact hS.2.2 q h
      · exact hAA _ (hL q h)⟩, hS1⟩ T' rfl X'
  exact ⟨t2, st t2 a1, b1⟩
theorem g_callI (C : q_C Γ ad d mc ms own y cc nL ret) {d2 mc2 ms2 ix n0 n2 a : Nat} {y2 : MethodName} {cc2 : ByteArray} {maxL2 : Nat} {h2 : q_H} {P : (Nat → Nat) → Prop} (F : P ad) (hF : q_PP P n0) (hl : q_LI own ix y2 cc2 maxL2) (hdg : decode cc pc = .ok (.invokespecial ix, 3)) (hs : SPA mc2 ms2 d2 y2 cc2 maxL2 [.ref a] n h n2 h2) (hd : d2 < d) (h0 : n0 ≤ n) (hst : (st.map fun v => v.category).sum ≤ 8) (hla : q_okV n la) (hso : q_okS n st) (hc : k1 + mc2 ≤ mc) (hms : k2 + ms2 ≤ ms)
    (kk : ∀ ad' : Nat → Nat, q_C Γ ad' d mc ms own y cc nL ret → P ad' → q_G Γ ad' nL (pc + 3) la st n2 h2 (k1 + mc2) (k2 + ms2)) : q_G Γ ad nL pc la (.ref a :: st) n h k1 k2 := by
  obtain ⟨p, l, e, R, s, m, args, below, meth, c, D, A, Q⟩ := Γ
  intro H locs ls hI hL
  have C0 := C
  obtain ⟨C1, C2, C3, C4, C5, C6, C7, C8, C9, C10, C11, rfl⟩ := C
  obtain ⟨⟨l1, l2, l4, l5⟩, l6, l8, l9⟩ := hl
  have hp := q_give (p := p) (as := [.ref a]) C8 C9 C10 hI
  have hrun : va_Run p l e (q_rm d mc ms) s m args below meth c H locs k1 k2 mc2 ms2 (F0 m pc ls ((.ref a :: st).map (q_cv ad))) (st.map (q_cv ad)) (q_QA D (q_A ad n H.size) ad n n2 h2 (([.ref a] : List Value).map (q_cv ad)).toArray) (q_A ad n H.size) := by
    rcases l1 with l1 | ⟨host, l1⟩
    · exact va_runI (As := []) (own := own) ⟨C1, C2, C3, C5, C6⟩ (hs l D ad H.size) ⟨callB_of 0 C6 (q_good l5) rfl rfl rfl (C6 _ (List.mem_cons_of_mem _ l4)) (C6 _ (List.mem_cons_of_mem _ l1)) l6 ⟨hd, by show 8 + (maxL2 + 11) + 32 * d2 ≤ 32 * d; omega⟩, l9, C6 _ (List.mem_cons_of_mem _ l2)⟩ hp rfl rfl hL.1 rfl (by rw [q_cats]; show 2 * 0 + _ ≤ 8; omega) hdg ⟨hc, hms⟩
    · exact va_runIN (As := []) (own := own) (host := host) ⟨C1, C2, C3, C5, C6⟩ (hs l D ad H.size) ⟨va_cnB 0 C6 (q_good l5) rfl rfl rfl (C8.2.1 _ l1) (C6 _ (List.mem_cons_of_mem _ l4)) l6 ⟨hd, by show 8 + (maxL2 + 11) + 32 * d2 ≤ 32 * d; omega⟩, l9, C6 _ (List.mem_cons_of_mem _ l2)⟩ hp rfl rfl hL.1 rfl (by rw [q_cats]; show 2 * 0 + _ ≤ 8; omega) hdg ⟨hc, hms⟩
  refine q_backA hrun C10 hI (fun ad' H1 locs1 hx hI1 => ?_)
  have G := kk ad' (q_C.ext hx C0) (hF _ _ (hx.less h0) F) H1 locs1 ls hI1 (hL.ext hx hla)
  rw [q_cvsx hx hso.v] at G
  exact G
end QAL
