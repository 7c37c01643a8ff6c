theorem q_lret {R : Room} {p : Program} {l : Launch} {e : Env} {s : State} {m : MethodId} {below : List Frame} {meth : Method} {c : Code} {b : Nat} (hx : p.tables.exec = Jvm.exec) (hb : c.code = code) (hr : meth.sig.returnType = ret) (hlocks : meth.locks = false) {pc : Nat} {H : Heap} {ls : Array Slot} (hdg : decode code pc = .ok (.ireturn, 1)) : W p l e R s m #[Value.ref b] below meth c H [] 600000 7302250 (lw_Z below #[Value.ref b] s) (F0 m pc ls [.int 1]) := by
  intro T hT X
  obtain ⟨fs, hret, hrun, hended, hW, hframe⟩ := X.leave (v := some (.int 1)) (hlocks := hlocks) (fun h => by rw [hr] at h; cases h)
  have hmeth' : T.vm.method? m = some meth := X.method'
  refine ⟨T.setFrames fs, ?_, .returned (some (.int 1)), hrun, hended, rfl, ⟨_, rfl⟩, hW, hframe⟩
  jvm_step X.here [X.here.top, hx, hb, hdg, hmeth', hr, ret, narrow_b1]
  (try refine ⟨rfl, ?_⟩); (try refine ⟨rfl, ?_⟩)
  first | (intro acts; rw [hret _ acts rfl rfl rfl]) | rw [hret _ _ rfl rfl rfl]
  exact Steps.refl _
theorem q_lt1 {w : Cond} (h : w ∈ tables_1_1) : w ∈ lw_tbl := List.mem_append_right _ (List.mem_append_left _ h)
theorem q_lt2 {w : Cond} (h : w ∈ tables_1_2) : w ∈ lw_tbl := List.mem_append_right _ (List.mem_append_right _ (List.mem_append_left _ h))
theorem q_lt3 {w : Cond} (h : w ∈ tables_1_3) : w ∈ lw_tbl := List.mem_append_right _ (List.mem_append_right _ (List.mem_append_right _ (List.mem_append_left _ h)))
theorem q_lt4 {w : Cond} (h : w ∈ tables_1_4) : w ∈ lw_tbl := List.mem_append_right _ (List.mem_append_right _ (List.mem_append_right _ (List.mem_append_right _ (List.mem_append_left _ h))))
theorem q_lt5 {w : Cond} (h : w ∈ tables_1_5) : w ∈ lw_tbl := List.mem_append_right _ (List.mem_append_right _ (List.mem_append_right _ (List.mem_append_right _ (List.mem_append_right _ h))))
theorem q_rmono {s : State} {pl : Platform} {r r' : Room} (hf : r.frames ≤ r'.frames) (hl : r.locals ≤ r'.locals) (hc : r.cells ≤ r'.cells) (hs : r.slots ≤ r'.slots) (h : s.hasRoom pl r' = true) : s.hasRoom pl r = true := by
  simp only [State.hasRoom, Bool.and_eq_true, decide_eq_true_eq] at h ⊢
  obtain ⟨⟨⟨⟨y, a, b, c, d, e⟩, f⟩, g⟩, i⟩ := h
  exact ⟨⟨⟨⟨by omega, by omega, by omega, by omega, by omega, e⟩, by omega⟩, by omega⟩, i⟩
/-- a method walked in less room -/
theorem q_roomW {p : Program} {l : Launch} {e : Env} {s : State} {m : MethodId} {args : Array Value} {below : List Frame} {meth : Method} {c : Code} {H : Heap} {locs : List Loc} {cells slots : Nat} {Q : State → Prop} {g : JFrame} (k : W p l e (q_rm 12 600000 7302250) s m args below meth c H locs cells slots Q g) : W p l e room_1 s m args below meth c H locs cells slots Q g := fun T hT X =>
  k T hT ⟨X.admits, X.cas, X.clock, X.frames, q_rmono (r' := room_1) (Nat.le_of_ble_eq_true rfl) (Nat.le_of_ble_eq_true rfl) (Nat.le_of_ble_eq_true rfl) (Nat.le_of_ble_eq_true rfl) X.room, X.hears, X.method, X.code, X.here, X.tail, X.warmed, X.limits, X.bytes, X.same⟩
theorem g_lend {Γ : q_X} {ad : Nat → Nat} {b n k1 k2 : Nat} {h : q_H} {la : List (Option Value)} (C : q_C Γ ad 12 600000 7302250 RL x cL_law 4 ret) (F : q_LZ Γ b) (hk : k1 ≤ 600000 ∧ k2 ≤ 7302250) : q_G Γ ad 4 1176 la [.int (nI 1)] n h k1 k2 := by
  obtain ⟨p, l, e, R, s, m, args, below, meth, c, D, A, Q⟩ := Γ
  intro H locs ls hI hL
  obtain ⟨F1, F2, hA⟩ := F
  have F1 : args = _ := F1
  have F2 : Q = _ := F2
  subst F1
  subst F2
  obtain ⟨ws, tys, hK, hP, hD, hS, hSim⟩ := hI
  refine va_forget (fun q hq => hA _ (hS.2.2 q hq)) ?_
  refine W.widen (k := 600000) (n := 7302250) hk.1 hk.2 ?_
  exact q_lret C.1 C.2.1 C.2.2.2.1 C.2.2.2.2.2.2.1 dL_law_1176
def q_ks : List Nat := [38, 80, 82, 84, 86, 88, 50]
def q_tm (i : Nat) : Term := .string "TurningDishes$TableReader" (q_ks.getD i 0)
abbrev q_gv : List Cond := flatC (Jvm.Cond.and given_1 narrow_1)
theorem st_ex : ∀ i, i < 7 → Cond.exactly (q_tm i) "java/lang/String" ∈ q_gv := by decide +kernel
theorem st_co : ∀ i, i < 7 → Cond.eq (.field (q_tm i) "java/lang/String" "coder" "B") (.int 0) ∈ q_gv := by decide +kernel
theorem st_ar : ∀ i, i < 7 → Cond.arrayOf (.field (q_tm i) "java/lang/String" "value" "[B") .byte ∈ q_gv := by decide +kernel
theorem st_le : ∀ i, i < 7 → Cond.eq (.length (.field (q_tm i) "java/lang/String" "value" "[B")) (.int (Int32.ofNat (q_len.getD i 0))) ∈ q_gv := by decide +kernel
theorem st_el : ∀ i, i < 7 → ∀ j, j < q_len.getD i 0 → Cond.eq (.elem (.field (q_tm i) "java/lang/String" "value" "[B") (.int (Int32.ofNat j))) (.int ((q_byt.getD i []).getD j 0)) ∈ q_gv := by decide +kernel
theorem st_ne : ∀ i, i < 7 → ∀ j, j < 7 → i ≠ j → (Cond.not (Cond.eq (q_tm i) (q_tm j)) ∈ q_gv ∨ Cond.not (Cond.eq (q_tm j) (q_tm i)) ∈ q_gv) := by decide +kernel
theorem st_si : Cond.isRef (.static "jdk/internal/util/Preconditions" "SIOOBE_FORMATTER" "Ljava/util/function/BiFunction;") ∈ q_gv := by decide +kernel
theorem st_cs : Cond.eq (.static "java/lang/String" "COMPACT_STRINGS" "Z") (.int 1) ∈ q_gv := by decide +kernel
theorem q_start {s : State} {b : Nat} (hts : ∀ w ∈ lw_tbl, w.before #[Value.ref b] s = true) (hgv : (Jvm.Cond.and given_1 narrow_1).before #[Value.ref b] s = true) : ∃ ad : Nat → Nat, ad 230 = b ∧ q_SF ad (fun q => s.heap.size ≤ q) s s.heap := by
  have hs := flat_of_before _ hgv
  have hA : ∀ a : Nat, a < s.heap.size → ¬ (fun q : Nat => s.heap.size ≤ q) a := fun a h1 h2 => absurd h1 (Nat.not_lt.mpr h2)
  obtain ⟨adK, adV, hS, hev⟩ := vk_Sof (N := 7) (tm := q_tm) (len := q_len) (byt := q_byt) (A := fun q => s.heap.size ≤ q) (by decide) (fun i hi => hs _ (st_ex i hi)) (fun i hi => hs _ (st_co i hi)) (fun i hi => hs _ (st_ar i hi)) (fun i hi => hs _ (st_le i hi)) (fun i hi j hj => hs _ (st_el i hi j hj)) (fun i j hi hj hij => (st_ne i hi j hj hij).imp (hs _) (hs _)) hA
  have hc := va_Zof (v := .int 1) (hts _ (q_lt2 (List.mem_of_getElem? (i := 129) rfl))) (hts _ (q_lt1 (List.mem_of_getElem? (i := 12) rfl))) (va_eqi (hs _ st_cs)) hA
  have hq := va_Zqof (hts _ (q_lt2 (List.mem_of_getElem? (i := 145) rfl))) (hts _ (q_lt1 (List.mem_of_getElem? (i := 14) rfl))) (hs _ st_si) hA
  have hq2 : ∃ t : Nat, va_Z "jdk/internal/util/Preconditions" "SIOOBE_FORMATTER" "Ljava/util/function/BiFunction;" .null (fun q => s.heap.size ≤ q) s s.heap ∨ va_Z "jdk/internal/util/Preconditions" "SIOOBE_FORMATTER" "Ljava/util/function/BiFunction;" (.ref t) (fun q => s.heap.size ≤ q) s s.heap := by
    rcases hq with hq | ⟨t, hq⟩
    · exact ⟨0, Or.inl hq⟩
    · exact ⟨t, Or.inr hq⟩
  obtain ⟨t, hq2⟩ := hq2
  obtain ⟨ad, had⟩ : ∃ ad : Nat → Nat, ad = fun k => if k < 210 then adK (k - 200) else if k < 220 then adV (k - 210) else if k = 220 then t else b := ⟨_, rfl⟩
  have e1 : ∀ i, i < 7 → ad (200 + i) = adK i := fun i hi => by
    rw [had]
    show (if 200 + i < 210 then adK (200 + i - 200) else _) = _
    rw [if_pos (by omega), Nat.add_sub_cancel_left]
  have e2 : ∀ i, i < 7 → ad (210 + i) = adV i := fun i hi => by
    rw [had]
    show (if 210 + i < 210 then _ else if 210 + i < 220 then adV (210 + i - 210) else _) = _
    rw [if_neg (by omega), if_pos (by omega), Nat.add_sub_cancel_left]
  have e3 : ad 220 = t := by rw [had]; rfl
  refine ⟨ad, by rw [had]; rfl, ⟨fun i hi => ?_, fun i j hi hj e => ?_⟩, hc, ?_, ?_, ?_, ?_, ?_, ?_, ?_, ?_⟩
  · show va_O _ (ad (200 + i)) _ _ _ ∧ va_OF _ _ _ _ (ad (200 + i)) _ _ _ ∧ va_OF _ _ _ (.ref (ad (210 + i))) (ad (200 + i)) _ _ _ ∧ va_T .byte (ad (210 + i)) _ _ _ _ _
    rw [e1 i hi, e2 i hi]
    exact hS.1 i hi
  · have e : ad (200 + i) = ad (200 + j) := e
    rw [e1 i hi, e1 j hj] at e
    exact hS.2 i j hi hj e
  · rw [e3]; exact hq2
  · rw [show ad 200 = adK 0 from e1 0 (by decide)]; exact vk_R.of (hts _ (q_lt2 (List.mem_of_getElem? (i := 115) rfl))) (hev 0 (by decide))
  · rw [show ad 201 = adK 1 from e1 1 (by decide)]; exact vk_R.of (hts _ (q_lt2 (List.mem_of_getElem? (i := 176) rfl))) (hev 1 (by decide))
  · rw [show ad 202 = adK 2 from e1 2 (by decide)]; exact vk_R.of (hts _ (q_lt2 (List.mem_of_getElem? (i := 177) rfl))) (hev 2 (by decide))
  · rw [show ad 203 = adK 3 from e1 3 (by decide)]; exact vk_R.of (hts _ (q_lt2 (List.mem_of_getElem? (i := 178) rfl))) (hev 3 (by decide))
  · rw [show ad 204 = adK 4 from e1 4 (by decide)]; exact vk_R.of (hts _ (q_lt2 (List.mem_of_getElem? (i := 179) rfl))) (hev 4 (by decide))
  · rw [show ad 205 = adK 5 from e1 5 (by decide)]; exact vk_R.of (hts _ (q_lt2 (List.mem_of_getElem? (i := 180) rfl))) (hev 5 (by decide))
  · rw [show ad 206 = adK 6 from e1 6 (by decide)]; exact vk_R.of (hts _ (q_lt2 (List.mem_of_getElem? (i := 197) rfl))) (hev 6 (by decide))
theorem q_nw {s : State} {b : Nat} (hts : ∀ w ∈ lw_tbl, w.before #[Value.ref b] s = true) : q_NW s :=
  ⟨(List.forall_mem_cons.mpr ⟨va_Nw.of rfl (hts _ (q_lt1 (List.mem_of_getElem? (i := 33) rfl))), (List.forall_mem_cons.mpr ⟨va_Nw.of rfl (hts _ (q_lt1 (List.mem_of_getElem? (i := 35) rfl))), (List.forall_mem_cons.mpr ⟨va_Nw.of rfl (hts _ (q_lt1 (List.mem_of_getElem? (i := 52) rfl))), (List.forall_mem_cons.mpr ⟨va_Nw.of rfl (hts _ (q_lt1 (List.mem_of_getElem? (i := 54) rfl))), (List.forall_mem_cons.mpr ⟨va_Nw.of rfl (hts _ (q_lt1 (List.mem_of_getElem? (i := 55) rfl))), (List.forall_mem_cons.mpr ⟨va_Nw.of rfl (hts _ (q_lt1 (List.mem_of_getElem? (i := 57) rfl))), (List.forall_mem_cons.mpr ⟨va_Nw.of rfl (hts _ (q_lt1 (List.mem_of_getElem? (i := 59) rfl))), (List.forall_mem_cons.mpr ⟨va_Nw.of rfl (hts _ (q_lt1 (List.mem_of_getElem? (i := 61) rfl))), (List.forall_mem_cons.mpr ⟨va_Nw.of rfl (hts _ (q_lt1 (List.mem_of_getElem? (i := 62) rfl))), (List.forall_mem_cons.mpr ⟨va_Nw.of rfl (hts _ (q_lt1 (List.mem_of_getElem? (i := 64) rfl))), (List.forall_mem_cons.mpr ⟨va_Nw.of rfl (hts _ (q_lt1 (List.mem_of_getElem? (i := 66) rfl))), (List.forall_mem_cons.mpr ⟨va_Nw.of rfl (hts _ (q_lt1 (List.mem_of_getElem? (i := 99) rfl))), (List.forall_mem_cons.mpr ⟨va_Nw.of rfl (hts _ (q_lt1 (List.mem_of_getElem? (i := 108) rfl))), (List.forall_mem_cons.mpr ⟨va_Nw.of rfl (hts _ (q_lt1 (List.mem_of_getElem? (i := 110) rfl))), (List.forall_mem_cons.mpr ⟨va_Nw.of rfl (hts _ (q_lt1 (List.mem_of_getElem? (i := 113) rfl))), (List.forall_mem_cons.mpr ⟨va_Nw.of rfl (hts _ (q_lt1 (List.mem_of_getElem? (i := 118) rfl))), (List.forall_mem_cons.mpr ⟨va_Nw.of rfl (hts _ (q_lt1 (List.mem_of_getElem? (i := 147) rfl))), (List.forall_mem_cons.mpr ⟨va_Nw.of rfl (hts _ (q_lt1 (List.mem_of_getElem? (i := 164) rfl))), (fun _ h => absurd h List.not_mem_nil)⟩)⟩)⟩)⟩)⟩)⟩)⟩)⟩)⟩)⟩)⟩)⟩)⟩)⟩)⟩)⟩)⟩)⟩), (List.forall_mem_cons.mpr ⟨va_Nw.of rfl (hts _ (q_lt1 (List.mem_of_getElem? (i := 27) rfl))), (List.forall_mem_cons.mpr ⟨va_Nw.of rfl (hts _ (q_lt1 (List.mem_of_getElem? (i := 47) rfl))), (List.forall_mem_cons.mpr ⟨va_Nw.of rfl (hts _ (q_lt1 (List.mem_of_getElem? (i := 87) rfl))), (List.forall_mem_cons.mpr ⟨va_Nw.of rfl (hts _ (q_lt1 (List.mem_of_getElem? (i := 93) rfl))), (List.forall_mem_cons.mpr ⟨va_Nw.of rfl (hts _ (q_lt1 (List.mem_of_getElem? (i := 106) rfl))), (List.forall_mem_cons.mpr ⟨va_Nw.of rfl (hts _ (q_lt1 (List.mem_of_getElem? (i := 143) rfl))), (List.forall_mem_cons.mpr ⟨va_Nw.of rfl (hts _ (q_lt1 (List.mem_of_getElem? (i := 157) rfl))), (List.forall_mem_cons.mpr ⟨va_Nw.of rfl (hts _ (q_lt1 (List.mem_of_getElem? (i := 162) rfl))), (List.forall_mem_cons.mpr ⟨va_Nw.of rfl (hts _ (q_lt1 (List.mem_of_getElem? (i := 176) rfl))), (List.forall_mem_cons.mpr ⟨va_Nw.of rfl (hts _ (q_lt3 (List.mem_of_getElem? (i := 0) rfl))), (List.forall_mem_cons.mpr ⟨va_Nw.of rfl (hts _ (q_lt3 (List.mem_of_getElem? (i := 8) rfl))), (List.forall_mem_cons.mpr ⟨va_Nw.of rfl (hts _ (q_lt3 (List.mem_of_getElem? (i := 183) rfl))), (fun _ h => absurd h List.not_mem_nil)⟩)⟩)⟩)⟩)⟩)⟩)⟩)⟩)⟩)⟩)⟩)⟩), va_AO.of (hts _ (q_lt1 (List.mem_of_getElem? (i := 25) rfl))), va_AO.of (hts _ (q_lt1 (List.mem_of_getElem? (i := 45) rfl)))⟩
theorem q_kn {s : State} {b : Nat} (hts : ∀ w ∈ lw_tbl, w.before #[Value.ref b] s = true) : ∃ D : va_G, va_K D vwCl [] s := by
  have hz : ∀ w ∈ q_Z, w.before #[Value.ref b] s = true := fun w hw => hts w (List.mem_filter.mp hw).1
  obtain ⟨c0, i0, h0⟩ := u_known (C := RX0) (T := TX0) (N := 3) (n := 3) hz us0 (hts _ (q_lt1 (List.mem_of_getElem? (i := 137) rfl)))
  obtain ⟨c1, i1, h1⟩ := u_known (C := RX1) (T := TX1) (N := 6) (n := 6) hz us1 (hts _ (q_lt1 (List.mem_of_getElem? (i := 175) rfl)))
  obtain ⟨c2, i2, h2⟩ := u_known (C := RX2) (T := TX2) (N := 3) (n := 3) hz us2 (hts _ (q_lt1 (List.mem_of_getElem? (i := 156) rfl)))
  obtain ⟨c3, i3, h3⟩ := u_known (C := RX3) (T := TX3) (N := 3) (n := 3) hz us3 (hts _ (q_lt1 (List.mem_of_getElem? (i := 26) rfl)))
  obtain ⟨c4, i4, h4⟩ := u_known (C := RX4) (T := TX4) (N := 8) (n := 8) hz us4 (hts _ (q_lt1 (List.mem_of_getElem? (i := 46) rfl)))
  obtain ⟨c5, i5, h5⟩ := u_known (C := RX5) (T := TX5) (N := 8) (n := 8) hz us5 (hts _ (q_lt1 (List.mem_of_getElem? (i := 86) rfl)))
  obtain ⟨c6, i6, h6⟩ := u_known (C := RX6) (T := TX6) (N := 2) (n := 2) hz us6 (hts _ (q_lt1 (List.mem_of_getElem? (i := 92) rfl)))
  obtain ⟨c7, i7, h7⟩ := u_known (C := RX7) (T := TX7) (N := 9) (n := 9) hz us7 (hts _ (q_lt1 (List.mem_of_getElem? (i := 17) rfl)))
  obtain ⟨c8, i8, h8⟩ := u_known (C := RX8) (T := TX8) (N := 22) (n := 22) hz us8 (hts _ (q_lt4 (List.mem_of_getElem? (i := 81) rfl)))
  refine ⟨(fun k => match k with | 0 => c0 | 1 => c1 | 2 => c2 | 3 => c3 | 4 => c4 | 5 => c5 | 6 => c6 | 7 => c7 | _ => c8, fun k => match k with | 0 => i0 | 1 => i1 | 2 => i2 | 3 => i3 | 4 => i4 | 5 => i5 | 6 => i6 | 7 => i7 | _ => i8), fun c q hq => ?_, fun k q hq => by simp at hq⟩
  match c, hq with
  | 0, hq => cases hq; exact h0
  | 1, hq => cases hq; exact h1
  | 2, hq => cases hq; exact h2
  | 3, hq => cases hq; exact h3
  | 4, hq => cases hq; exact h4
  | 5, hq => cases hq; exact h5
  | 6, hq => cases hq; exact h6
  | 7, hq => cases hq; exact h7
  | 8, hq => cases hq; exact h8
  | k + 9, hq => simp [vwCl] at hq
set_option maxRecDepth 20000 in
theorem q_law {Γ : q_X} {ad : Nat → Nat} {b L : Nat} {xs : Nat → Int32} (C : q_C Γ ad 12 600000 7302250 RL x cL_law 4 ret) (hX : q_XL Γ b L xs) (hb : ad 230 = b) (hL : L ≤ 384) (F : q_LZ Γ b) : q_G Γ ad 4 0 [some (.ref 230), none, none, none] [] 0 (fun _ => q_dead) 0 0 := by
  have hPP : q_PP (fun ad : Nat → Nat => ad 230 = b) 0 := fun ad1 ad2 hx h => (hx 230 (Or.inr (by decide))).trans h
  refine g_new (pc := 0) C (P := fun ad : Nat → Nat => ad 230 = b) hb hPP nc9_7 dL_law_0 (Nat.le_of_ble_eq_true rfl) (Nat.le_of_ble_eq_true rfl) (q_okV_r (by omega) (q_okV_n (q_okV_n (q_okV_n q_okV_0)))) q_okS_0 (Nat.le_of_ble_eq_true rfl) (Nat.le_of_ble_eq_true rfl) (fun ad C hb => ?_)
  refine g_dup (pc := 3) C rfl dL_law_3 ?_
  refine g_callI (pc := 4) C (P := fun ad : Nat → Nat => ad 230 = b) hb hPP li9_9 dL_law_4 (s7_init (q_up_s _ _ _)) (by decide) (Nat.le_of_ble_eq_true rfl) (Nat.le_of_ble_eq_true rfl) (q_okV_r (by omega) (q_okV_n (q_okV_n (q_okV_n q_okV_0)))) (q_okS_r (by omega) q_okS_0) (Nat.le_of_ble_eq_true rfl) (Nat.le_of_ble_eq_true rfl) (fun ad C hb => ?_)
  refine g_astore_n (pc := 7) C rfl dL_law_7 ?_
  refine g_new (pc := 8) C (P := fun ad : Nat → Nat => ad 230 = b) hb hPP nc9_10 dL_law_8 (Nat.le_of_ble_eq_true rfl) (Nat.le_of_ble_eq_true rfl) (q_okV_r (by omega) (q_okV_r (by omega) (q_okV_n (q_okV_n q_okV_0)))) q_okS_0 (Nat.le_of_ble_eq_true rfl) (Nat.le_of_ble_eq_true rfl) (fun ad C hb => ?_)
  refine g_dup (pc := 11) C rfl dL_law_11 ?_
  refine g_callI (pc := 12) C (P := fun ad : Nat → Nat => ad 230 = b) hb hPP li9_12 dL_law_12 (s8_init (q_up_s _ _ _)) (by decide) (Nat.le_of_ble_eq_true rfl) (Nat.le_of_ble_eq_true rfl) (q_okV_r (by omega) (q_okV_r (by omega) (q_okV_n (q_okV_n q_okV_0)))) (q_okS_r (by omega) q_okS_0) (Nat.le_of_ble_eq_true rfl) (Nat.le_of_ble_eq_true rfl) (fun ad C hb => ?_)
  refine g_astore_n (pc := 15) C rfl dL_law_15 ?_
  refine g_iconst (pc := 16) C qk_iconst_0 dL_law_16 ?_
  refine g_istore_n (pc := 17) C rfl dL_law_17 ?_
  exact l9_law C hX hb hL ⟨(Nat.le_of_ble_eq_true rfl), (Nat.le_of_ble_eq_true rfl)⟩ (fun la h' => g_lend C F ⟨(Nat.le_of_ble_eq_true rfl), (Nat.le_of_ble_eq_true rfl)⟩) 385 0 hZ (by omega) (Nat.zero_le _) z_rel
theorem whole_start {p : Program} {e : Env} {s : State} {m : MethodId} {below : List Frame} {meth : Method} {c : Code} (l : Launch) (hflags : l.flags = flags0) {b L : Nat} {xs : Nat → Int32} (hL : L ≤ 384) (C0 : lw_At p s m meth c b L xs) : W p l e room_1 s m #[Value.ref b] below meth c s.heap [] 0 0 (lw_Z below #[Value.ref b] s) (entryFrame m ([Value.ref b] : List Value).toArray 4) := by
  obtain ⟨hx, hbc, hr, hml, hown, hts, hX, hbl, hlocks, hgv, hcw, hnm⟩ := C0
  obtain ⟨ad, had, hSF⟩ := q_start hts hgv
  obtain ⟨D, hK⟩ := q_kn hts
  have hNW := q_nw hts
  refine q_roomW ?_
  have hl := lv_entry ([.ref b]) (n := 4) (Nat.le_of_ble_eq_true rfl)
  have C : q_C (p, l, e, q_rm 12 600000 7302250, s, m, #[Value.ref b], below, meth, c, D, (fun q => s.heap.size ≤ q), lw_Z below #[Value.ref b] s) ad 12 600000 7302250 RL x cL_law 4 ret := ⟨hx, hbc, hml, hr, hown, fun w hw => by
    rcases List.mem_cons.mp hw with rfl | hw
    · exact hcw
    · exact hts w (List.mem_filter.mp hw).1, hlocks, hNW, hSF, fun q h => h, hnm, rfl⟩
  have G := q_law (b := b) (L := L) (xs := xs) C ⟨hX, hbl, Nat.not_le.mpr hbl⟩ had hL ⟨rfl, rfl, fun q h => h⟩
  rw [lg_entry_eq]
  refine G s.heap [] _ ⟨[], [], hK, fun k q h => by simp at h, ⟨fun i j p q h => by simp at h, fun k q h => by simp at h⟩, va_S.rf, ⟨⟨rfl, by decide⟩, fun k q h => by simp at h, fun k h => absurd rfl h⟩⟩ ⟨hl.1, hl.2.1, rfl, fun i v hi => ?_⟩
  match i, hi with
  | 0, hi =>
    cases hi
    show _ = some (Slot.val (.ref (ad 230)))
    rw [had]
    exact hl.2.2 (0, .ref b) List.mem_cons_self
  | 1, hi => cases hi
  | 2, hi => cases hi
  | 3, hi => cases hi
  | k + 4, hi => cases hi
