theorem va_up_n2 {α : Type} {f : Nat → α} {a b : Nat} {x : α} (h : b ≠ a) : va_up f a x b = f b := if_neg h
theorem va_up_s2 {α : Type} {f : Nat → α} {a : Nat} {x : α} : va_up f a x a = x := if_pos rfl
def rIm (h : q_H) (gi : Nat → Nat) (xi : Nat → mX) : Prop := ∀ i, i < 2 → h (19 + 2 * i) = TX (20 + 2 * i) (gi i) (xi i) ∧ h (20 + 2 * i) = TA (xi i).1
def rRd (h : q_H) : Prop := (∃ (K : mK) (di fa : Nat), h 23 = XK 24 26 K di fa ∧ K.2.2.2 < 1000) ∧ ∃ (g2 tu2 mi2 o2 p2 e2 b2 : Nat) (T2 : Nat → Nat), h 26 = TO 27 g2 tu2 mi2 o2 p2 e2 b2 ∧ h 27 = TA T2
def rTp (h : q_H) (f : Nat → Nat) (len : Nat) : Prop := h 24 = PO 25 len ∧ h 25 = PA f
def rTb (h : q_H) (g : Nat) (x : mX) : Prop := h 28 = TX 29 g x ∧ h 29 = TA x.1
def rAc (h : q_H) (nx k : Nat) (G : aG) : Prop := h 30 = AO 31 nx k ∧ (∃ fa, h 31 = TLs 24 fa ∧ ∀ i, i < 24 → fa i = some (32 + 2 * i)) ∧ cG h G
def rFo (h : q_H) : Prop := h 80 = FO 81 83 84 ∧ (∃ (g2 : Nat) (x2 : mX), h 81 = TX 82 g2 x2 ∧ h 82 = TA x2.1) ∧ (∃ f0, h 83 = SA f0) ∧ ∃ b, h 84 = SA (mOf b)
def rAs (h : q_H) (left : Nat) (fk : Nat → Nat) : Prop := (∃ gu so wa ea, h 85 = KO 86 left gu so wa ea) ∧ h 86 = KA fk
/-- a row of the model -/
def rRow (L I : Nat → Int32) (Z : Nat → Nat) (i : Nat) (v : aR) : Prop := match v with
  | none => L i = -1 ∧ Z i ≤ 40
  | some (l, q, gf) => L i = nI l ∧ l < 3 ∧ Z i = q ∧ q ≤ 40 ∧ ∀ j, j < q → I (40 * i + j) = gf j
/-- the acts that can be undone -/
def rUn (W : Nat → Nat) (nx k : Nat) (G : aG) : Prop := ∀ j, j < k → wT W (117 + 39 * j) (G ((nx + 24 - k + j) % 24)).1 (G ((nx + 24 - k + j) % 24)).2 ∧ mW (G ((nx + 24 - k + j) % 24)).1 (G ((nx + 24 - k + j) % 24)).2 ∧ (G ((nx + 24 - k + j) % 24)).2.2.2.1 ≤ 999
def rKp (W Kp gi : Nat → Nat) (xi : Nat → mX) : Prop := ∀ i, i < 2 → (Kp i = 0 ∧ gi i = 0) ∨ (Kp i = 1 ∧ wT W (39 + 39 * i) (gi i) (xi i) ∧ mW (gi i) (xi i) ∧ (xi i).2.2.1 ≤ 999)
def rW (W : Nat → Nat) (g : Nat) (x : mX) (nx k : Nat) (G : aG) (gi : Nat → Nat) (xi : Nat → mX) (Kp : Nat → Nat) : Prop := wT W 0 g x ∧ rUn W nx k G ∧ rKp W Kp gi xi
def rMo (h : q_H) (lf ld : Nat) (R : Nat → aR) (f : Nat → Nat) (len g : Nat) (x : mX) (nx k : Nat) (G : aG) (gi : Nat → Nat) (xi : Nat → mX) (left : Nat) (fk : Nat → Nat) : Prop :=
  (∃ sa ne so di pu at_ er en pa, h 87 = MO k len lf ld sa ne so di pu at_ er en pa left) ∧ (∃ W Kp, h 88 = WA W ∧ h 94 = .inl (1, 2, qN Kp) ∧ rW W g x nx k G gi xi Kp) ∧ h 89 = PA f ∧ (∃ L Z I Tk, h 90 = .inl (0, 8, L) ∧ h 91 = .inl (0, 8, qN Z) ∧ h 92 = .inl (0, 320, I) ∧ h 93 = .inl (0, 40, Tk) ∧ ∀ i, i < 8 → rRow L I Z i (R i)) ∧ h 95 = KA fk
def rIv (f : Nat → Nat) (len g : Nat) (x : mX) (nx k left : Nat) : Prop := len ≤ 300 ∧ (∀ i, i < len → f i < 256) ∧ (g = 0 ∨ mW g x) ∧ x.2.2.1 ≤ 999 ∧ nx < 24 ∧ k ≤ 24 ∧ left ≤ 16
/-- BOTH SIDES tell the same -/
def rel (h : q_H) : Prop := ∃ (lf ld : Nat) (R : Nat → aR) (f : Nat → Nat) (len g : Nat) (x : mX) (nx k : Nat) (G : aG) (gi : Nat → Nat) (xi : Nat → mX) (left : Nat) (fk : Nat → Nat), cD h lf ld ∧ cRs h R ∧ rIm h gi xi ∧ rRd h ∧ rTp h f len ∧ rTb h g x ∧ rAc h nx k G ∧ rFo h ∧ rAs h left fk ∧ rMo h lf ld R f len g x nx k G gi xi left fk ∧ rIv f len g x nx k left
-- frames
theorem cD_f {h h' : q_H} {lf ld : Nat} (e : ∀ a, (a = 0 ∨ a = 1 ∨ a = 18) → h' a = h a) (q : cD h lf ld) : cD h' lf ld := cD_fr (e 0 (by decide)) (e 1 (by decide)) (e 18 (by decide)) q
theorem cD_s {h h' : q_H} {lf ld lf' ld' : Nat} (e0 : h' 0 = DO lf' ld') (e : ∀ a, (a = 1 ∨ a = 18) → h' a = h a) (q : cD h lf ld) : cD h' lf' ld' := cD_st e0 (e 1 (by decide)) (e 18 (by decide)) q
theorem rIm_f {h h' : q_H} {gi : Nat → Nat} {xi : Nat → mX} (e : ∀ a, 19 ≤ a → a ≤ 22 → h' a = h a) (q : rIm h gi xi) : rIm h' gi xi := fun i hi => by
  rw [e _ (by omega) (by omega), e _ (by omega) (by omega)]
  exact q i hi
theorem rRd_f {h h' : q_H} (e : ∀ a, (a = 23 ∨ a = 26 ∨ a = 27) → h' a = h a) (q : rRd h) : rRd h' := by
  unfold rRd
  rw [e 23 (by decide), e 26 (by decide), e 27 (by decide)]
  exact q
theorem rTp_f {h h' : q_H} {f : Nat → Nat} {len : Nat} (e : ∀ a, 24 ≤ a → a ≤ 25 → h' a = h a) (q : rTp h f len) : rTp h' f len := by
  unfold rTp
  rw [e 24 (by decide) (by decide), e 25 (by decide) (by decide)]
  exact q
theorem rTb_f {h h' : q_H} {g : Nat} {x : mX} (e : ∀ a, 28 ≤ a → a ≤ 29 → h' a = h a) (q : rTb h g x) : rTb h' g x := by
  unfold rTb
  rw [e 28 (by decide) (by decide), e 29 (by decide) (by decide)]
  exact q
theorem rAc_f {h h' : q_H} {nx k : Nat} {G : aG} (e : ∀ a, 30 ≤ a → a ≤ 79 → h' a = h a) (q : rAc h nx k G) : rAc h' nx k G := by
  refine ⟨(e 30 (by decide) (by decide)).trans q.1, ?_, fun i hi => ?_⟩
  · rw [e 31 (by decide) (by decide)]; exact q.2.1
  · rw [e _ (by omega) (by omega), e _ (by omega) (by omega)]; exact q.2.2 i hi
theorem rFo_f {h h' : q_H} (e : ∀ a, 80 ≤ a → a ≤ 84 → h' a = h a) (q : rFo h) : rFo h' := by
  unfold rFo
  rw [e 80 (by decide) (by decide), e 81 (by decide) (by decide), e 82 (by decide) (by decide), e 83 (by decide) (by decide), e 84 (by decide) (by decide)]
  exact q
theorem rAs_f {h h' : q_H} {left : Nat} {fk : Nat → Nat} (e : ∀ a, 85 ≤ a → a ≤ 86 → h' a = h a) (q : rAs h left fk) : rAs h' left fk := by
  unfold rAs
  rw [e 85 (by decide) (by decide), e 86 (by decide) (by decide)]
  exact q
theorem rMo_f {h h' : q_H} {lf ld : Nat} {R : Nat → aR} {f : Nat → Nat} {len g : Nat} {x : mX} {nx k : Nat} {G : aG} {gi : Nat → Nat} {xi : Nat → mX} {left : Nat} {fk : Nat → Nat} (e : ∀ a, 87 ≤ a → a ≤ 95 → h' a = h a) (q : rMo h lf ld R f len g x nx k G gi xi left fk) : rMo h' lf ld R f len g x nx k G gi xi left fk := by
  unfold rMo
  rw [e 87 (by decide) (by decide), e 88 (by decide) (by decide), e 89 (by decide) (by decide), e 90 (by decide) (by decide), e 91 (by decide) (by decide), e 92 (by decide) (by decide), e 93 (by decide) (by decide), e 94 (by decide) (by decide), e 95 (by decide) (by decide)]
  exact q
theorem rRow_m {L I : Nat → Int32} {Z : Nat → Nat} {i : Nat} {v : aR} (q : rRow L I Z i v) : (L i = -1 ∧ mThere v = 0) ∨ (∃ l, l < 3 ∧ L i = nI l ∧ mThere v = 1) := by
  cases v with
  | none => exact Or.inl ⟨q.1, rfl⟩
  | some p =>
    obtain ⟨l, k, gf⟩ := p
    exact Or.inr ⟨l, q.2.1, q.1, rfl⟩
/-- the row that is tried is nobody's -/
theorem rW_t {W : Nat → Nat} {g : Nat} {x : mX} {nx k : Nat} {G : aG} {gi : Nat → Nat} {xi : Nat → mX} {Kp : Nat → Nat} {g2 : Nat} {y : mX} (hk : k ≤ 24) (q : rW W g x nx k G gi xi Kp) : rW (wPut W 1053 g2 y) g x nx k G gi xi Kp :=
  ⟨wT_o (by decide) q.1, fun j hj => ⟨wT_o (by omega) (q.2.1 j hj).1, (q.2.1 j hj).2⟩, fun i hi => (q.2.2 i hi).imp id (fun z => ⟨z.1, wT_o (by omega) z.2.1, z.2.2⟩)⟩
theorem rW_out {W W' : Nat → Nat} {g : Nat} {x : mX} {nx k : Nat} {G : aG} {gi : Nat → Nat} {xi : Nat → mX} {Kp : Nat → Nat} (hk : k ≤ 24) (o : wOut W W') (q : rW W g x nx k G gi xi Kp) : rW W' g x nx k G gi xi Kp :=
  ⟨wOut_T o (by decide) q.1, fun j hj => ⟨wOut_T o (by omega) (q.2.1 j hj).1, (q.2.1 j hj).2⟩, fun i hi => (q.2.2 i hi).imp id (fun z => ⟨z.1, wOut_T o (by omega) z.2.1, z.2.2⟩)⟩
/-- another table stands, nothing can be undone -/
theorem rW_0 {W : Nat → Nat} {g g2 : Nat} {x y : mX} {nx k : Nat} {G : aG} {gi : Nat → Nat} {xi : Nat → mX} {Kp : Nat → Nat} (q : rW W g x nx k G gi xi Kp) : rW (wPut W 0 g2 y) g2 y nx 0 G gi xi Kp :=
  ⟨wT_put _ _ _ _, fun j hj => absurd hj (by omega), fun i hi => (q.2.2 i hi).imp id (fun z => ⟨z.1, wT_o (by omega) z.2.1, z.2.2⟩)⟩
/-- an act: the table as it stood is kept, another one stands -/
theorem rW_a {W : Nat → Nat} {g : Nat} {x y : mX} {nx k : Nat} {G : aG} {gi : Nat → Nat} {xi : Nat → mX} {Kp : Nat → Nat} {E : Nat × mX} (hE : E.1 = g ∧ wQ x E.2) (hn : nx < 24) (hk : k ≤ 24) (hv : mW g x) (hm : x.2.2.1 ≤ 999) (q : rW W g x nx k G gi xi Kp) : rW (wPut (wMi W k g x) 0 g y) g y ((nx + 1) % 24) (min (k + 1) 24) (va_up G nx E) gi xi Kp := by
  obtain ⟨e1, e2⟩ := hE
  refine ⟨wT_put _ _ _ _, fun j hj => ?_, fun i hi => ?_⟩
  · rcases Nat.lt_or_ge k 24 with hk2 | hk2
    · have hmin : min (k + 1) 24 = k + 1 := by omega
      rw [hmin] at hj ⊢
      rcases Nat.lt_or_ge j k with hjk | hjk
      · have hix : ((nx + 1) % 24 + 24 - (k + 1) + j) % 24 = (nx + 24 - k + j) % 24 := by omega
        have hne : (nx + 24 - k + j) % 24 ≠ nx := by omega
        rw [hix, va_up_n2 hne]
        refine ⟨wT_o (by omega) ?_, (q.2.1 j hjk).2⟩
        unfold wMi
        rw [if_pos hk2]
        exact wT_o (by omega) (q.2.1 j hjk).1
      · have hjk2 : j = k := by omega
        subst hjk2
        have hix : ((nx + 1) % 24 + 24 - (j + 1) + j) % 24 = nx := by omega
        rw [hix, va_up_s2, e1]
        refine ⟨wT_o (by omega) (wT_Q e2 ?_), mW_Q e2 hv, by rw [← e2.2.2]; exact hm⟩
        unfold wMi
        rw [if_pos hk2]
        exact wT_put _ _ _ _
    · have hk3 : k = 24 := by omega
      subst hk3
      have hmin : min (24 + 1) 24 = 24 := by omega
      rw [hmin] at hj ⊢
      rcases Nat.lt_or_ge j 23 with hjk | hjk
      · have hix : ((nx + 1) % 24 + 24 - 24 + j) % 24 = (nx + 24 - 24 + (j + 1)) % 24 := by omega
        have hne : (nx + 24 - 24 + (j + 1)) % 24 ≠ nx := by omega
        rw [hix, va_up_n2 hne]
        refine ⟨wT_o (by omega) ?_, (q.2.1 (j + 1) (by omega)).2⟩
        unfold wMi
        rw [if_neg (by omega)]
        refine wT_o (by omega) (wSh_U (by omega) ?_)
        have := (q.2.1 (j + 1) (by omega)).1
        rw [show 117 + 39 * (j + 1) = 117 + 39 * j + 39 by omega] at this
        exact this
      · have hjk2 : j = 23 := by omega
        subst hjk2
        have hix : ((nx + 1) % 24 + 24 - 24 + 23) % 24 = nx := by omega
        rw [hix, va_up_s2, e1]
        refine ⟨wT_o (by omega) (wT_Q e2 ?_), mW_Q e2 hv, by rw [← e2.2.2]; exact hm⟩
        unfold wMi
        rw [if_neg (by omega)]
        exact wT_put _ _ _ _
  · refine (q.2.2 i hi).imp id (fun z => ⟨z.1, wT_o (by omega) (wMi_o hk (by omega) z.2.1), z.2.2⟩)
/-- minutes, one behind the other: both sides -/
theorem rW_m {g : Nat} {gi : Nat → Nat} {xi : Nat → mX} {Kp : Nat → Nat} : ∀ (m : Nat) (W : Nat → Nat) (x y : mX) (nx k : Nat) (G : aG), wQ x y → nx < 24 → k ≤ 24 → mW g x → x.2.2.1 + m ≤ 999 → rW W g x nx k G gi xi Kp → rW (wMn g m (W, k, y)).1 g (mMin g m (x, nx, k, G)).1 (mMin g m (x, nx, k, G)).2.1 (mMin g m (x, nx, k, G)).2.2.1 (mMin g m (x, nx, k, G)).2.2.2 gi xi Kp ∧ (wMn g m (W, k, y)).2.1 = (mMin g m (x, nx, k, G)).2.2.1 ∧ wQ (mMin g m (x, nx, k, G)).1 (wMn g m (W, k, y)).2.2 ∧ mW g (mMin g m (x, nx, k, G)).1 ∧ (mMin g m (x, nx, k, G)).1.2.2.1 ≤ 999 ∧ (mMin g m (x, nx, k, G)).2.1 < 24 ∧ (mMin g m (x, nx, k, G)).2.2.1 ≤ 24
  | 0, W, x, y, nx, k, G, hq, hn, hk, hv, hm, hW => ⟨hW, rfl, hq, hv, by show x.2.2.1 ≤ 999; omega, hn, hk⟩
  | m + 1, W, x, y, nx, k, G, hq, hn, hk, hv, hm, hW => by
    have e : wMi W k g y = wMi W k g x := by
      unfold wMi
      rw [wPut_Q (wQ_s hq), wPut_Q (wQ_s hq)]
    have eN : mNext g y = mNext g x := mNext_Q (wQ_s hq)
    have h1 := rW_a (x := x) (E := (g, mCopy x (G nx).2)) (y := mNext g x) ⟨rfl, ⟨rfl, rfl, rfl⟩⟩ hn hk hv (by omega) hW
    have h2 := rW_m m (wPut (wMi W k g x) 0 g (mNext g x)) (mNext g x) (mNext g x) ((nx + 1) % 24) (min (k + 1) 24) (va_up G nx (g, mCopy x (G nx).2)) (wQ_r _) (Nat.mod_lt _ (by decide)) (Nat.min_le_right _ _) (mNext_V hv) (by show x.2.2.1 + 1 + m ≤ 999; omega) h1
    show rW (wMn g m (wPut (wMi W k g y) 0 g (mNext g y), min (k + 1) 24, mNext g y)).1 _ _ _ _ _ _ _ _ ∧ (wMn g m (wPut (wMi W k g y) 0 g (mNext g y), min (k + 1) 24, mNext g y)).2.1 = _ ∧ wQ _ (wMn g m (wPut (wMi W k g y) 0 g (mNext g y), min (k + 1) 24, mNext g y)).2.2 ∧ _
    rw [e, eN]
    exact h2
