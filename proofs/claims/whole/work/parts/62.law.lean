section QLW
variable {Γ : q_X} {ad : Nat → Nat} {d mc ms : Nat} {own : String} {y : MethodName} {cc : ByteArray} {nL : Nat} {ret : Option FieldType} {pc : Nat} {la : List (Option Value)} {st : List Value} {n : Nat} {h : q_H} {k1 k2 : Nat}
/-- the law's script -/
def q_XL (Γ : q_X) (b L : Nat) (xs : Nat → Int32) : Prop := match Γ with
  | (_, _, _, _, s, _, _, _, _, _, _, A, _) => va_X b L xs s s.heap ∧ b < s.heap.size ∧ ¬ A b
theorem g_sld (C : q_C Γ ad d mc ms own y cc nL ret) {b L j : Nat} {xs : Nat → Int32} (hX : q_XL Γ b L xs) (hb : ad 230 = b) (hdg : decode cc pc = .ok (.iaload, 1)) (hj : j < L ∧ L < 2 ^ 31) (kk : q_G Γ ad nL (pc + 1) la (.int (xs j) :: st) n h k1 k2) : q_G Γ ad nL pc la (.int (nI j) :: .ref 230 :: st) n h k1 k2 := by
  obtain ⟨p, l, e, R, s, m, args, below, meth, c, D, A, Q⟩ := Γ
  intro H locs ls hI hL
  obtain ⟨ws, tys, hK, hP, hD, hS, hSim⟩ := id hI
  obtain ⟨X1, X2, X3⟩ := hX
  show W p l e R s m args below meth c H locs k1 k2 Q (F0 m pc ls (.int (nI j) :: .ref (ad 230) :: st.map (q_cv ad)))
  rw [hb]
  refine va_sld C.1 C.2.1 X1 X2 X3 hS (vp_in_nI hj.1 hj.2) hdg ?_
  rw [nI_clamp (Nat.lt_trans hj.1 hj.2)]
  exact kk H locs ls hI hL
theorem g_slen (C : q_C Γ ad d mc ms own y cc nL ret) {b L : Nat} {xs : Nat → Int32} (hX : q_XL Γ b L xs) (hb : ad 230 = b) (hdg : decode cc pc = .ok (.arraylength, 1)) (kk : q_G Γ ad nL (pc + 1) la (.int (nI L) :: st) n h k1 k2) : q_G Γ ad nL pc la (.ref 230 :: st) n h k1 k2 := by
  obtain ⟨p, l, e, R, s, m, args, below, meth, c, D, A, Q⟩ := Γ
  intro H locs ls hI hL
  obtain ⟨ws, tys, hK, hP, hD, hS, hSim⟩ := id hI
  obtain ⟨X1, X2, X3⟩ := hX
  show W p l e R s m args below meth c H locs k1 k2 Q (F0 m pc ls (.ref (ad 230) :: st.map (q_cv ad)))
  rw [hb]
  exact va_slen C.1 C.2.1 X1 X2 X3 hS hdg (kk H locs ls hI hL)
theorem g_tswI (C : q_C Γ ad d mc ms own y cc nL ret) {dflt lo hi : Int} {offs : Array Int} {len : Nat} {x : Int32} {off : Int} (tgt : Nat) (hdg : decode cc pc = .ok (.tableswitch dflt lo hi offs, len)) (h1 : ¬ x.toInt < lo) (h2 : ¬ hi < x.toInt) (ho : offs[(x.toInt - lo).toNat]? = some off) (ht : (pc : Int) + off = (tgt : Int)) (kk : q_G Γ ad nL tgt la st n h k1 k2) : q_G Γ ad nL pc la (.int x :: st) n h k1 k2 := by
  obtain ⟨p, l, e, R, s, m, args, below, meth, c, D, A, Q⟩ := Γ
  intro H locs ls hI hL
  exact lv_tableIn C.1 C.2.1 hdg h1 h2 ho ht (kk H locs ls hI hL)
theorem g_tswO (C : q_C Γ ad d mc ms own y cc nL ret) {dflt lo hi : Int} {offs : Array Int} {len : Nat} {x : Int32} (tgt : Nat) (hdg : decode cc pc = .ok (.tableswitch dflt lo hi offs, len)) (h1 : x.toInt < lo ∨ hi < x.toInt) (ht : (pc : Int) + dflt = (tgt : Int)) (kk : q_G Γ ad nL tgt la st n h k1 k2) : q_G Γ ad nL pc la (.int x :: st) n h k1 k2 := by
  obtain ⟨p, l, e, R, s, m, args, below, meth, c, D, A, Q⟩ := Γ
  intro H locs ls hI hL
  exact lv_tableOut C.1 C.2.1 hdg h1 ht (kk H locs ls hI hL)
theorem q_backG {p : Program} {l : Launch} {e : Env} {R : Room} {s : State} {m : MethodId} {args : Array Value} {below : List Frame} {meth : Method} {c : Code} {D : va_G} {A : Nat → Prop} {Q : State → Prop} {H : Heap} {locs : List Loc} {ls : Array Slot} {st0 rest : List Value} {a : Array Value} {r2 : Option Value} {h2 : q_H}
    (hr : va_Run p l e R s m args below meth c H locs k1 k2 0 0 (F0 m pc ls st0) rest (q_Q D (q_A ad n H.size) ad n h2 r2 a) (q_A ad n H.size)) (hA : ∀ q, s.heap.size ≤ q → A q) (hI : q_I D A s H locs ad n h)
    (kk : ∀ (H1 : Heap) (locs1 : List Loc), q_I D A s H1 locs1 ad n h2 → W p l e R s m args below meth c H1 locs1 k1 k2 Q (F0 m (pc + 3) ls ((r2.map (q_cv ad)).toList ++ rest))) : W p l e R s m args below meth c H locs k1 k2 Q (F0 m pc ls st0) := by
  obtain ⟨ws, tys, hK, hP, hD, hS, hSim⟩ := hI
  have hAA : ∀ q, q_A ad n H.size q → A q := by
    intro q hq
    rcases hq with ⟨k, hk, rfl⟩ | hq
    · have hkl : k < ws.length := by rw [hSim.1.1]; exact hk
      have h1 := hD.2 k _ (List.getElem?_eq_getElem hkl)
      rwa [hSim.2.1 k _ (List.getElem?_eq_getElem hkl)] at h1
    · exact hA q (Nat.le_trans hS.1 hq)
  intro T hT X
  obtain ⟨v, st₀, t, T', L, h0, X', hL, e1, e2, ⟨⟨hv, ws1, tys1, hP1, hK1, hD1, hS1⟩, hz, hk⟩, st⟩ := hr T hT X
  cases hv
  rw [h0] at hz hk
  have hal : s.vm.Alike t.vm := by rw [← e2]; exact X'.warmed.alike
  obtain ⟨t2, a1, b1⟩ := kk T'.heap (locs ++ L) ⟨ws1, tys1, va_K.moved hal.symm hK1, by rw [e1]; exact hP1, hD1.weaken (fun _ q _ h => hAA _ h), ⟨Nat.le_trans hS.1 (by rw [e1]; exact hz), fun q h1 h2 => by rw [e1, hk q (Nat.lt_of_lt_of_le h1 hS.1) (fun z => h2 (hAA q z))]; exact hS.2.1 q h1 h2, fun q hq => by
      rcases List.mem_append.mp hq with h | h
      · exact hS.2.2 q h
      · exact hAA _ (hL q h)⟩, hS1⟩ T' rfl X'
  exact ⟨t2, st t2 a1, b1⟩
/-- a call out of a method that has made cells -/
theorem g_cVG (C : q_C Γ ad d mc ms own y cc nL ret) {d2 ix ci np a : Nat} {y2 : MethodName} {cc2 : ByteArray} {maxL2 : Nat} {ret2 : Option FieldType} (as : List Value) {S fs : List Value} {v : Value} {h2 : q_H} (hl : q_LV own ix ci y2 cc2 maxL2 ret2 np) (hdg : decode cc pc = .ok (.invokevirtual ix, 3)) (hs : SP d2 y2 cc2 maxL2 ret2 (.ref a :: as) n h (some v) h2) (hh : h a = .inr (.inr (ci, fs))) (hd : d2 < d) (hk : k1 ≤ mc ∧ k2 ≤ ms) (hst : (st.map fun v => v.category).sum ≤ 8) (hnp : as.length = np) (hS : S = as.reverse ++ .ref a :: st) (kk : q_G Γ ad nL (pc + 3) la (v :: st) n h2 k1 k2) : q_G Γ ad nL pc la S n h k1 k2 := by
  subst hS
  obtain ⟨p, l, e, R, s, m, args, below, meth, c, D, A, Q⟩ := Γ
  intro H locs ls hI hL
  obtain ⟨C1, C2, C3, C4, C5, C6, C7, C8, C9, C10, C11, rfl⟩ := C
  obtain ⟨⟨l1, l2, l3, l4, l5⟩, l6, l7, l8, l9⟩ := hl
  have hp := q_give (p := p) (as := .ref a :: as) C8 C9 C10 hI
  obtain ⟨ws, tys, hK, hP, hD, hS, hSim⟩ := id hI
  obtain ⟨e0, i1, i2, i3⟩ := hSim.2.2 a (q_nd_o hh (fun z => by injection z with z1 z2; omega))
  rw [hh] at i2
  have i2 : e0 = .inr (ci, fs.map (q_cv ad)) := i2
  subst i2
  cases hr : vwCl[ci]? with
  | none => rw [hr] at l7; cases l7
  | some r =>
    rw [hr] at l7
    have hr1 : r.1 = y2.cls := Option.some.inj l7
    have hrecv := va_recv hK hP hr i1
    rw [hr1] at hrecv
    have hrun := va_runV (As := as.map (q_cv ad)) (rest := st.map (q_cv ad)) (b := ad a) (H := H) (g := F0 m pc ls ((as.reverse ++ .ref a :: st).map (q_cv ad))) (cells := k1) (slots := k2) (locs := locs) (below := below) (meth := meth) (e := e) (R := q_rm d mc ms) (C := y2.cls) (own := own) ⟨C1, C2, C3, C5, C6⟩ (hs l D ad H.size) (cwV np C6 (q_goodA (fun w hw => by
        unfold wsV at hw
        rcases List.mem_append.mp hw with hw | hw
        · simp only [List.mem_cons, List.not_mem_nil, or_false] at hw
          rcases hw with rfl | rfl | rfl | rfl
          · exact l1
          · exact l2
          · exact l3
          · exact l4
        · exact q_wsZ l5 w hw)) rfl rfl rfl ⟨rfl, l6⟩ ⟨hd, by show 8 + (maxL2 + 11) + 32 * d2 ≤ 32 * d; omega⟩) ⟨hp.1, hrecv, hp.2⟩ rfl (by rw [List.length_map]; exact hnp) hL.1 (by show List.map _ _ = _; rw [List.map_append, List.map_reverse]; rfl) (by rw [q_cats]; show 2 * 0 + _ ≤ 8; omega) hdg ⟨hk.1, hk.2⟩
    exact q_backG hrun C10 hI (fun H1 locs1 hI1 => kk H1 locs1 ls hI1 hL)
/-- the law's own end -/
def q_LZ (Γ : q_X) (b : Nat) : Prop := match Γ with
  | (_, _, _, _, s, _, args, below, _, _, _, A, Q) => args = #[Value.ref b] ∧ Q = lw_Z below args s ∧ ∀ q, A q → s.heap.size ≤ q
end QLW
theorem q_a63 (x : Int32) : ∃ k : Nat, k < 64 ∧ x &&& nI 63 = nI k := by
  refine ⟨(x.toBitVec &&& 63#32).toNat, ?_, ?_⟩
  · rw [BitVec.toNat_and]
    exact Nat.lt_of_le_of_lt Nat.and_le_right (by decide)
  · apply Int32.toBitVec_inj.mp
    rw [Int32.toBitVec_and]
    show x.toBitVec &&& 63#32 = BitVec.ofNat 32 (x.toBitVec &&& 63#32).toNat
    simp
theorem q_l6 {i L : Nat} (hi : i < 2 ^ 30) (hL : L < 2 ^ 30) (h : ¬ (nI L - nI 6 < nI i)) : i + 6 ≤ L := by
  rw [Int32.lt_iff_toInt_lt, pk_sub_toInt hL (by decide), nI_toInt (by omega)] at h
  omega
theorem rel_0 {h : q_H} (hr : rel h) : ∃ fs : List Value, h 0 = .inr (.inr (7, fs)) := by
  obtain ⟨lf, ld, R, f, len, g, x, nx, k, G, gi, xi, left, fk, hD, -⟩ := hr
  exact ⟨_, hD.1⟩
theorem zw1_227 : Cond.methodLink RL 13 yX7_row ∈ q_Z := q_zt1 (List.mem_of_getElem? (i := 227) rfl) rfl
theorem zw1_228 : Cond.instanceMethod yX7_row ∈ q_Z := q_zt1 (List.mem_of_getElem? (i := 228) rfl) rfl
theorem zw1_229 : Cond.selects RX7 yX7_row yX7_row ∈ q_Z := q_zt1 (List.mem_of_getElem? (i := 229) rfl) rfl
theorem zw1_230 : Cond.code yX7_row cX7_row 5 (some .int) ∈ q_Z := q_zt1 (List.mem_of_getElem? (i := 230) rfl) rfl
theorem zw4_154 : Cond.methodLink RL 17 yX8_row ∈ q_Z := q_zt4 (List.mem_of_getElem? (i := 154) rfl) rfl
theorem zw4_155 : Cond.instanceMethod yX8_row ∈ q_Z := q_zt4 (List.mem_of_getElem? (i := 155) rfl) rfl
theorem zw4_156 : Cond.selects RX8 yX8_row yX8_row ∈ q_Z := q_zt4 (List.mem_of_getElem? (i := 156) rfl) rfl
theorem zw4_157 : Cond.code yX8_row cX8_row 5 (some .int) ∈ q_Z := q_zt4 (List.mem_of_getElem? (i := 157) rfl) rfl
theorem zw2_18 : Cond.methodLink RL 18 yX7_set ∈ q_Z := q_zt2 (List.mem_of_getElem? (i := 18) rfl) rfl
theorem zw2_19 : Cond.instanceMethod yX7_set ∈ q_Z := q_zt2 (List.mem_of_getElem? (i := 19) rfl) rfl
theorem zw2_20 : Cond.selects RX7 yX7_set yX7_set ∈ q_Z := q_zt2 (List.mem_of_getElem? (i := 20) rfl) rfl
theorem zw2_21 : Cond.code yX7_set cX7_set 5 (some .int) ∈ q_Z := q_zt2 (List.mem_of_getElem? (i := 21) rfl) rfl
theorem zw4_176 : Cond.methodLink RL 21 yX8_set ∈ q_Z := q_zt4 (List.mem_of_getElem? (i := 176) rfl) rfl
theorem zw4_177 : Cond.instanceMethod yX8_set ∈ q_Z := q_zt4 (List.mem_of_getElem? (i := 177) rfl) rfl
theorem zw4_178 : Cond.selects RX8 yX8_set yX8_set ∈ q_Z := q_zt4 (List.mem_of_getElem? (i := 178) rfl) rfl
theorem zw4_179 : Cond.code yX8_set cX8_set 4 (some .int) ∈ q_Z := q_zt4 (List.mem_of_getElem? (i := 179) rfl) rfl
theorem zw2_38 : Cond.methodLink RL 22 yX7_copy ∈ q_Z := q_zt2 (List.mem_of_getElem? (i := 38) rfl) rfl
theorem zw2_39 : Cond.instanceMethod yX7_copy ∈ q_Z := q_zt2 (List.mem_of_getElem? (i := 39) rfl) rfl
theorem zw2_40 : Cond.selects RX7 yX7_copy yX7_copy ∈ q_Z := q_zt2 (List.mem_of_getElem? (i := 40) rfl) rfl
theorem zw2_41 : Cond.code yX7_copy cX7_copy 8 (some .int) ∈ q_Z := q_zt2 (List.mem_of_getElem? (i := 41) rfl) rfl
theorem zw4_180 : Cond.methodLink RL 26 yX8_copy ∈ q_Z := q_zt4 (List.mem_of_getElem? (i := 180) rfl) rfl
theorem zw4_181 : Cond.instanceMethod yX8_copy ∈ q_Z := q_zt4 (List.mem_of_getElem? (i := 181) rfl) rfl
theorem zw4_182 : Cond.selects RX8 yX8_copy yX8_copy ∈ q_Z := q_zt4 (List.mem_of_getElem? (i := 182) rfl) rfl
theorem zw4_183 : Cond.code yX8_copy cX8_copy 7 (some .int) ∈ q_Z := q_zt4 (List.mem_of_getElem? (i := 183) rfl) rfl
theorem zw2_50 : Cond.methodLink RL 27 yX7_drop ∈ q_Z := q_zt2 (List.mem_of_getElem? (i := 50) rfl) rfl
theorem zw2_51 : Cond.instanceMethod yX7_drop ∈ q_Z := q_zt2 (List.mem_of_getElem? (i := 51) rfl) rfl
theorem zw2_52 : Cond.selects RX7 yX7_drop yX7_drop ∈ q_Z := q_zt2 (List.mem_of_getElem? (i := 52) rfl) rfl
theorem zw2_53 : Cond.code yX7_drop cX7_drop 4 (some .int) ∈ q_Z := q_zt2 (List.mem_of_getElem? (i := 53) rfl) rfl
theorem zw4_187 : Cond.methodLink RL 31 yX8_drop ∈ q_Z := q_zt4 (List.mem_of_getElem? (i := 187) rfl) rfl
theorem zw4_188 : Cond.instanceMethod yX8_drop ∈ q_Z := q_zt4 (List.mem_of_getElem? (i := 188) rfl) rfl
theorem zw4_189 : Cond.selects RX8 yX8_drop yX8_drop ∈ q_Z := q_zt4 (List.mem_of_getElem? (i := 189) rfl) rfl
theorem zw4_190 : Cond.code yX8_drop cX8_drop 2 (some .int) ∈ q_Z := q_zt4 (List.mem_of_getElem? (i := 190) rfl) rfl
theorem zw2_58 : Cond.methodLink RL 34 yX7_feed ∈ q_Z := q_zt2 (List.mem_of_getElem? (i := 58) rfl) rfl
theorem zw2_59 : Cond.instanceMethod yX7_feed ∈ q_Z := q_zt2 (List.mem_of_getElem? (i := 59) rfl) rfl
theorem zw2_60 : Cond.selects RX7 yX7_feed yX7_feed ∈ q_Z := q_zt2 (List.mem_of_getElem? (i := 60) rfl) rfl
theorem zw2_61 : Cond.code yX7_feed cX7_feed 5 (some .int) ∈ q_Z := q_zt2 (List.mem_of_getElem? (i := 61) rfl) rfl
theorem zw4_191 : Cond.methodLink RL 38 yX8_feed ∈ q_Z := q_zt4 (List.mem_of_getElem? (i := 191) rfl) rfl
theorem zw4_192 : Cond.instanceMethod yX8_feed ∈ q_Z := q_zt4 (List.mem_of_getElem? (i := 192) rfl) rfl
theorem zw4_193 : Cond.selects RX8 yX8_feed yX8_feed ∈ q_Z := q_zt4 (List.mem_of_getElem? (i := 193) rfl) rfl
theorem zw4_194 : Cond.code yX8_feed cX8_feed 5 (some .int) ∈ q_Z := q_zt4 (List.mem_of_getElem? (i := 194) rfl) rfl
theorem zw2_67 : Cond.methodLink RL 39 yX7_table ∈ q_Z := q_zt2 (List.mem_of_getElem? (i := 67) rfl) rfl
theorem zw2_68 : Cond.instanceMethod yX7_table ∈ q_Z := q_zt2 (List.mem_of_getElem? (i := 68) rfl) rfl
theorem zw2_69 : Cond.selects RX7 yX7_table yX7_table ∈ q_Z := q_zt2 (List.mem_of_getElem? (i := 69) rfl) rfl
theorem zw2_70 : Cond.code yX7_table cX7_table 1 (some .int) ∈ q_Z := q_zt2 (List.mem_of_getElem? (i := 70) rfl) rfl
theorem zw4_198 : Cond.methodLink RL 43 yX8_table ∈ q_Z := q_zt4 (List.mem_of_getElem? (i := 198) rfl) rfl
theorem zw4_199 : Cond.instanceMethod yX8_table ∈ q_Z := q_zt4 (List.mem_of_getElem? (i := 199) rfl) rfl
theorem zw4_200 : Cond.selects RX8 yX8_table yX8_table ∈ q_Z := q_zt4 (List.mem_of_getElem? (i := 200) rfl) rfl
theorem zw4_201 : Cond.code yX8_table cX8_table 2 (some .int) ∈ q_Z := q_zt4 (List.mem_of_getElem? (i := 201) rfl) rfl
theorem zw2_218 : Cond.methodLink RL 44 yX7_fault ∈ q_Z := q_zt2 (List.mem_of_getElem? (i := 218) rfl) rfl
theorem zw2_219 : Cond.instanceMethod yX7_fault ∈ q_Z := q_zt2 (List.mem_of_getElem? (i := 219) rfl) rfl
theorem zw2_220 : Cond.selects RX7 yX7_fault yX7_fault ∈ q_Z := q_zt2 (List.mem_of_getElem? (i := 220) rfl) rfl
theorem zw2_221 : Cond.code yX7_fault cX7_fault 1 (some .int) ∈ q_Z := q_zt2 (List.mem_of_getElem? (i := 221) rfl) rfl
theorem zw5_26 : Cond.methodLink RL 47 yX8_fault ∈ q_Z := q_zt5 (List.mem_of_getElem? (i := 26) rfl) rfl
theorem zw5_27 : Cond.instanceMethod yX8_fault ∈ q_Z := q_zt5 (List.mem_of_getElem? (i := 27) rfl) rfl
theorem zw5_28 : Cond.selects RX8 yX8_fault yX8_fault ∈ q_Z := q_zt5 (List.mem_of_getElem? (i := 28) rfl) rfl
theorem zw5_29 : Cond.code yX8_fault cX8_fault 1 (some .int) ∈ q_Z := q_zt5 (List.mem_of_getElem? (i := 29) rfl) rfl
theorem zw2_222 : Cond.methodLink RL 48 yX7_minutes ∈ q_Z := q_zt2 (List.mem_of_getElem? (i := 222) rfl) rfl
theorem zw2_223 : Cond.instanceMethod yX7_minutes ∈ q_Z := q_zt2 (List.mem_of_getElem? (i := 223) rfl) rfl
theorem zw2_224 : Cond.selects RX7 yX7_minutes yX7_minutes ∈ q_Z := q_zt2 (List.mem_of_getElem? (i := 224) rfl) rfl
theorem zw2_225 : Cond.code yX7_minutes cX7_minutes 3 (some .int) ∈ q_Z := q_zt2 (List.mem_of_getElem? (i := 225) rfl) rfl
theorem zw5_30 : Cond.methodLink RL 51 yX8_minutes ∈ q_Z := q_zt5 (List.mem_of_getElem? (i := 30) rfl) rfl
theorem zw5_31 : Cond.instanceMethod yX8_minutes ∈ q_Z := q_zt5 (List.mem_of_getElem? (i := 31) rfl) rfl
theorem zw5_32 : Cond.selects RX8 yX8_minutes yX8_minutes ∈ q_Z := q_zt5 (List.mem_of_getElem? (i := 32) rfl) rfl
theorem zw5_33 : Cond.code yX8_minutes cX8_minutes 3 (some .int) ∈ q_Z := q_zt5 (List.mem_of_getElem? (i := 33) rfl) rfl
theorem zw3_46 : Cond.methodLink RL 52 yX7_turn ∈ q_Z := q_zt3 (List.mem_of_getElem? (i := 46) rfl) rfl
theorem zw3_47 : Cond.instanceMethod yX7_turn ∈ q_Z := q_zt3 (List.mem_of_getElem? (i := 47) rfl) rfl
theorem zw3_48 : Cond.selects RX7 yX7_turn yX7_turn ∈ q_Z := q_zt3 (List.mem_of_getElem? (i := 48) rfl) rfl
theorem zw3_49 : Cond.code yX7_turn cX7_turn 2 (some .int) ∈ q_Z := q_zt3 (List.mem_of_getElem? (i := 49) rfl) rfl
theorem zw5_68 : Cond.methodLink RL 55 yX8_turn ∈ q_Z := q_zt5 (List.mem_of_getElem? (i := 68) rfl) rfl
theorem zw5_69 : Cond.instanceMethod yX8_turn ∈ q_Z := q_zt5 (List.mem_of_getElem? (i := 69) rfl) rfl
theorem zw5_70 : Cond.selects RX8 yX8_turn yX8_turn ∈ q_Z := q_zt5 (List.mem_of_getElem? (i := 70) rfl) rfl
theorem zw5_71 : Cond.code yX8_turn cX8_turn 2 (some .int) ∈ q_Z := q_zt5 (List.mem_of_getElem? (i := 71) rfl) rfl
theorem zw3_51 : Cond.methodLink RL 56 yX7_fill ∈ q_Z := q_zt3 (List.mem_of_getElem? (i := 51) rfl) rfl
theorem zw3_52 : Cond.instanceMethod yX7_fill ∈ q_Z := q_zt3 (List.mem_of_getElem? (i := 52) rfl) rfl
theorem zw3_53 : Cond.selects RX7 yX7_fill yX7_fill ∈ q_Z := q_zt3 (List.mem_of_getElem? (i := 53) rfl) rfl
theorem zw3_54 : Cond.code yX7_fill cX7_fill 3 (some .int) ∈ q_Z := q_zt3 (List.mem_of_getElem? (i := 54) rfl) rfl
theorem zw5_74 : Cond.methodLink RL 60 yX8_fill ∈ q_Z := q_zt5 (List.mem_of_getElem? (i := 74) rfl) rfl
theorem zw5_75 : Cond.instanceMethod yX8_fill ∈ q_Z := q_zt5 (List.mem_of_getElem? (i := 75) rfl) rfl
theorem zw5_76 : Cond.selects RX8 yX8_fill yX8_fill ∈ q_Z := q_zt5 (List.mem_of_getElem? (i := 76) rfl) rfl
theorem zw5_77 : Cond.code yX8_fill cX8_fill 3 (some .int) ∈ q_Z := q_zt5 (List.mem_of_getElem? (i := 77) rfl) rfl
theorem zw3_58 : Cond.methodLink RL 61 yX7_change ∈ q_Z := q_zt3 (List.mem_of_getElem? (i := 58) rfl) rfl
theorem zw3_59 : Cond.instanceMethod yX7_change ∈ q_Z := q_zt3 (List.mem_of_getElem? (i := 59) rfl) rfl
theorem zw3_60 : Cond.selects RX7 yX7_change yX7_change ∈ q_Z := q_zt3 (List.mem_of_getElem? (i := 60) rfl) rfl
theorem zw3_61 : Cond.code yX7_change cX7_change 3 (some .int) ∈ q_Z := q_zt3 (List.mem_of_getElem? (i := 61) rfl) rfl
theorem zw5_83 : Cond.methodLink RL 64 yX8_change ∈ q_Z := q_zt5 (List.mem_of_getElem? (i := 83) rfl) rfl
theorem zw5_84 : Cond.instanceMethod yX8_change ∈ q_Z := q_zt5 (List.mem_of_getElem? (i := 84) rfl) rfl
theorem zw5_85 : Cond.selects RX8 yX8_change yX8_change ∈ q_Z := q_zt5 (List.mem_of_getElem? (i := 85) rfl) rfl
theorem zw5_86 : Cond.code yX8_change cX8_change 3 (some .int) ∈ q_Z := q_zt5 (List.mem_of_getElem? (i := 86) rfl) rfl
theorem zw3_66 : Cond.methodLink RL 65 yX7_lay ∈ q_Z := q_zt3 (List.mem_of_getElem? (i := 66) rfl) rfl
theorem zw3_67 : Cond.instanceMethod yX7_lay ∈ q_Z := q_zt3 (List.mem_of_getElem? (i := 67) rfl) rfl
theorem zw3_68 : Cond.selects RX7 yX7_lay yX7_lay ∈ q_Z := q_zt3 (List.mem_of_getElem? (i := 68) rfl) rfl
theorem zw3_69 : Cond.code yX7_lay cX7_lay 3 (some .int) ∈ q_Z := q_zt3 (List.mem_of_getElem? (i := 69) rfl) rfl
theorem zw5_91 : Cond.methodLink RL 68 yX8_lay ∈ q_Z := q_zt5 (List.mem_of_getElem? (i := 91) rfl) rfl
theorem zw5_92 : Cond.instanceMethod yX8_lay ∈ q_Z := q_zt5 (List.mem_of_getElem? (i := 92) rfl) rfl
theorem zw5_93 : Cond.selects RX8 yX8_lay yX8_lay ∈ q_Z := q_zt5 (List.mem_of_getElem? (i := 93) rfl) rfl
theorem zw5_94 : Cond.code yX8_lay cX8_lay 3 (some .int) ∈ q_Z := q_zt5 (List.mem_of_getElem? (i := 94) rfl) rfl
theorem zw3_74 : Cond.methodLink RL 69 yX7_undo ∈ q_Z := q_zt3 (List.mem_of_getElem? (i := 74) rfl) rfl
theorem zw3_75 : Cond.instanceMethod yX7_undo ∈ q_Z := q_zt3 (List.mem_of_getElem? (i := 75) rfl) rfl
theorem zw3_76 : Cond.selects RX7 yX7_undo yX7_undo ∈ q_Z := q_zt3 (List.mem_of_getElem? (i := 76) rfl) rfl
theorem zw3_77 : Cond.code yX7_undo cX7_undo 1 (some .int) ∈ q_Z := q_zt3 (List.mem_of_getElem? (i := 77) rfl) rfl
theorem zw5_95 : Cond.methodLink RL 72 yX8_undo ∈ q_Z := q_zt5 (List.mem_of_getElem? (i := 95) rfl) rfl
theorem zw5_96 : Cond.instanceMethod yX8_undo ∈ q_Z := q_zt5 (List.mem_of_getElem? (i := 96) rfl) rfl
theorem zw5_97 : Cond.selects RX8 yX8_undo yX8_undo ∈ q_Z := q_zt5 (List.mem_of_getElem? (i := 97) rfl) rfl
theorem zw5_98 : Cond.code yX8_undo cX8_undo 1 (some .int) ∈ q_Z := q_zt5 (List.mem_of_getElem? (i := 98) rfl) rfl
theorem zw3_82 : Cond.methodLink RL 73 yX7_guest ∈ q_Z := q_zt3 (List.mem_of_getElem? (i := 82) rfl) rfl
theorem zw3_83 : Cond.instanceMethod yX7_guest ∈ q_Z := q_zt3 (List.mem_of_getElem? (i := 83) rfl) rfl
theorem zw3_84 : Cond.selects RX7 yX7_guest yX7_guest ∈ q_Z := q_zt3 (List.mem_of_getElem? (i := 84) rfl) rfl
theorem zw3_85 : Cond.code yX7_guest cX7_guest 3 (some .int) ∈ q_Z := q_zt3 (List.mem_of_getElem? (i := 85) rfl) rfl
theorem zw5_99 : Cond.methodLink RL 76 yX8_guest ∈ q_Z := q_zt5 (List.mem_of_getElem? (i := 99) rfl) rfl
theorem zw5_100 : Cond.instanceMethod yX8_guest ∈ q_Z := q_zt5 (List.mem_of_getElem? (i := 100) rfl) rfl
theorem zw5_101 : Cond.selects RX8 yX8_guest yX8_guest ∈ q_Z := q_zt5 (List.mem_of_getElem? (i := 101) rfl) rfl
theorem zw5_102 : Cond.code yX8_guest cX8_guest 3 (some .int) ∈ q_Z := q_zt5 (List.mem_of_getElem? (i := 102) rfl) rfl
theorem zw3_87 : Cond.methodLink RL 77 yX7_dish ∈ q_Z := q_zt3 (List.mem_of_getElem? (i := 87) rfl) rfl
theorem zw3_88 : Cond.instanceMethod yX7_dish ∈ q_Z := q_zt3 (List.mem_of_getElem? (i := 88) rfl) rfl
theorem zw3_89 : Cond.selects RX7 yX7_dish yX7_dish ∈ q_Z := q_zt3 (List.mem_of_getElem? (i := 89) rfl) rfl
theorem zw3_90 : Cond.code yX7_dish cX7_dish 3 (some .int) ∈ q_Z := q_zt3 (List.mem_of_getElem? (i := 90) rfl) rfl
theorem zw5_104 : Cond.methodLink RL 80 yX8_dish ∈ q_Z := q_zt5 (List.mem_of_getElem? (i := 104) rfl) rfl
theorem zw5_105 : Cond.instanceMethod yX8_dish ∈ q_Z := q_zt5 (List.mem_of_getElem? (i := 105) rfl) rfl
theorem zw5_106 : Cond.selects RX8 yX8_dish yX8_dish ∈ q_Z := q_zt5 (List.mem_of_getElem? (i := 106) rfl) rfl
theorem zw5_107 : Cond.code yX8_dish cX8_dish 3 (some .int) ∈ q_Z := q_zt5 (List.mem_of_getElem? (i := 107) rfl) rfl
theorem zw3_91 : Cond.methodLink RL 81 yX7_ahead ∈ q_Z := q_zt3 (List.mem_of_getElem? (i := 91) rfl) rfl
theorem zw3_92 : Cond.instanceMethod yX7_ahead ∈ q_Z := q_zt3 (List.mem_of_getElem? (i := 92) rfl) rfl
theorem zw3_93 : Cond.selects RX7 yX7_ahead yX7_ahead ∈ q_Z := q_zt3 (List.mem_of_getElem? (i := 93) rfl) rfl
theorem zw3_94 : Cond.code yX7_ahead cX7_ahead 4 (some .int) ∈ q_Z := q_zt3 (List.mem_of_getElem? (i := 94) rfl) rfl
theorem zw5_108 : Cond.methodLink RL 84 yX8_ahead ∈ q_Z := q_zt5 (List.mem_of_getElem? (i := 108) rfl) rfl
theorem zw5_109 : Cond.instanceMethod yX8_ahead ∈ q_Z := q_zt5 (List.mem_of_getElem? (i := 109) rfl) rfl
theorem zw5_110 : Cond.selects RX8 yX8_ahead yX8_ahead ∈ q_Z := q_zt5 (List.mem_of_getElem? (i := 110) rfl) rfl
theorem zw5_111 : Cond.code yX8_ahead cX8_ahead 3 (some .int) ∈ q_Z := q_zt5 (List.mem_of_getElem? (i := 111) rfl) rfl
theorem zw3_106 : Cond.methodLink RL 85 yX7_dishAhead ∈ q_Z := q_zt3 (List.mem_of_getElem? (i := 106) rfl) rfl
theorem zw3_107 : Cond.instanceMethod yX7_dishAhead ∈ q_Z := q_zt3 (List.mem_of_getElem? (i := 107) rfl) rfl
theorem zw3_108 : Cond.selects RX7 yX7_dishAhead yX7_dishAhead ∈ q_Z := q_zt3 (List.mem_of_getElem? (i := 108) rfl) rfl
theorem zw3_109 : Cond.code yX7_dishAhead cX7_dishAhead 3 (some .int) ∈ q_Z := q_zt3 (List.mem_of_getElem? (i := 109) rfl) rfl
theorem zw5_120 : Cond.methodLink RL 88 yX8_dishAhead ∈ q_Z := q_zt5 (List.mem_of_getElem? (i := 120) rfl) rfl
theorem zw5_121 : Cond.instanceMethod yX8_dishAhead ∈ q_Z := q_zt5 (List.mem_of_getElem? (i := 121) rfl) rfl
theorem zw5_122 : Cond.selects RX8 yX8_dishAhead yX8_dishAhead ∈ q_Z := q_zt5 (List.mem_of_getElem? (i := 122) rfl) rfl
theorem zw5_123 : Cond.code yX8_dishAhead cX8_dishAhead 3 (some .int) ∈ q_Z := q_zt5 (List.mem_of_getElem? (i := 123) rfl) rfl
theorem zw3_110 : Cond.methodLink RL 89 yX7_guestAhead ∈ q_Z := q_zt3 (List.mem_of_getElem? (i := 110) rfl) rfl
theorem zw3_111 : Cond.instanceMethod yX7_guestAhead ∈ q_Z := q_zt3 (List.mem_of_getElem? (i := 111) rfl) rfl
theorem zw3_112 : Cond.selects RX7 yX7_guestAhead yX7_guestAhead ∈ q_Z := q_zt3 (List.mem_of_getElem? (i := 112) rfl) rfl
theorem zw3_113 : Cond.code yX7_guestAhead cX7_guestAhead 3 (some .int) ∈ q_Z := q_zt3 (List.mem_of_getElem? (i := 113) rfl) rfl
theorem zw5_124 : Cond.methodLink RL 92 yX8_guestAhead ∈ q_Z := q_zt5 (List.mem_of_getElem? (i := 124) rfl) rfl
theorem zw5_125 : Cond.instanceMethod yX8_guestAhead ∈ q_Z := q_zt5 (List.mem_of_getElem? (i := 125) rfl) rfl
theorem zw5_126 : Cond.selects RX8 yX8_guestAhead yX8_guestAhead ∈ q_Z := q_zt5 (List.mem_of_getElem? (i := 126) rfl) rfl
theorem zw5_127 : Cond.code yX8_guestAhead cX8_guestAhead 3 (some .int) ∈ q_Z := q_zt5 (List.mem_of_getElem? (i := 127) rfl) rfl
theorem zw3_120 : Cond.methodLink RL 93 yX7_last ∈ q_Z := q_zt3 (List.mem_of_getElem? (i := 120) rfl) rfl
theorem zw3_121 : Cond.instanceMethod yX7_last ∈ q_Z := q_zt3 (List.mem_of_getElem? (i := 121) rfl) rfl
theorem zw3_122 : Cond.selects RX7 yX7_last yX7_last ∈ q_Z := q_zt3 (List.mem_of_getElem? (i := 122) rfl) rfl
theorem zw3_123 : Cond.code yX7_last cX7_last 4 (some .int) ∈ q_Z := q_zt3 (List.mem_of_getElem? (i := 123) rfl) rfl
theorem zw5_128 : Cond.methodLink RL 96 yX8_last ∈ q_Z := q_zt5 (List.mem_of_getElem? (i := 128) rfl) rfl
theorem zw5_129 : Cond.instanceMethod yX8_last ∈ q_Z := q_zt5 (List.mem_of_getElem? (i := 129) rfl) rfl
theorem zw5_130 : Cond.selects RX8 yX8_last yX8_last ∈ q_Z := q_zt5 (List.mem_of_getElem? (i := 130) rfl) rfl
theorem zw5_131 : Cond.code yX8_last cX8_last 4 (some .int) ∈ q_Z := q_zt5 (List.mem_of_getElem? (i := 131) rfl) rfl
theorem zw3_130 : Cond.methodLink RL 97 yX7_hungry ∈ q_Z := q_zt3 (List.mem_of_getElem? (i := 130) rfl) rfl
theorem zw3_131 : Cond.instanceMethod yX7_hungry ∈ q_Z := q_zt3 (List.mem_of_getElem? (i := 131) rfl) rfl
theorem zw3_132 : Cond.selects RX7 yX7_hungry yX7_hungry ∈ q_Z := q_zt3 (List.mem_of_getElem? (i := 132) rfl) rfl
theorem zw3_133 : Cond.code yX7_hungry cX7_hungry 2 (some .int) ∈ q_Z := q_zt3 (List.mem_of_getElem? (i := 133) rfl) rfl
theorem zw5_133 : Cond.methodLink RL 100 yX8_hungry ∈ q_Z := q_zt5 (List.mem_of_getElem? (i := 133) rfl) rfl
theorem zw5_134 : Cond.instanceMethod yX8_hungry ∈ q_Z := q_zt5 (List.mem_of_getElem? (i := 134) rfl) rfl
theorem zw5_135 : Cond.selects RX8 yX8_hungry yX8_hungry ∈ q_Z := q_zt5 (List.mem_of_getElem? (i := 135) rfl) rfl
theorem zw5_136 : Cond.code yX8_hungry cX8_hungry 4 (some .int) ∈ q_Z := q_zt5 (List.mem_of_getElem? (i := 136) rfl) rfl
theorem zw3_138 : Cond.methodLink RL 101 yX7_rest ∈ q_Z := q_zt3 (List.mem_of_getElem? (i := 138) rfl) rfl
theorem zw3_139 : Cond.instanceMethod yX7_rest ∈ q_Z := q_zt3 (List.mem_of_getElem? (i := 139) rfl) rfl
theorem zw3_140 : Cond.selects RX7 yX7_rest yX7_rest ∈ q_Z := q_zt3 (List.mem_of_getElem? (i := 140) rfl) rfl
theorem zw3_141 : Cond.code yX7_rest cX7_rest 1 (some .int) ∈ q_Z := q_zt3 (List.mem_of_getElem? (i := 141) rfl) rfl
theorem zw5_137 : Cond.methodLink RL 104 yX8_rest ∈ q_Z := q_zt5 (List.mem_of_getElem? (i := 137) rfl) rfl
theorem zw5_138 : Cond.instanceMethod yX8_rest ∈ q_Z := q_zt5 (List.mem_of_getElem? (i := 138) rfl) rfl
theorem zw5_139 : Cond.selects RX8 yX8_rest yX8_rest ∈ q_Z := q_zt5 (List.mem_of_getElem? (i := 139) rfl) rfl
theorem zw5_140 : Cond.code yX8_rest cX8_rest 3 (some .int) ∈ q_Z := q_zt5 (List.mem_of_getElem? (i := 140) rfl) rfl
theorem zw3_146 : Cond.methodLink RL 105 yX7_served ∈ q_Z := q_zt3 (List.mem_of_getElem? (i := 146) rfl) rfl
theorem zw3_147 : Cond.instanceMethod yX7_served ∈ q_Z := q_zt3 (List.mem_of_getElem? (i := 147) rfl) rfl
theorem zw3_148 : Cond.selects RX7 yX7_served yX7_served ∈ q_Z := q_zt3 (List.mem_of_getElem? (i := 148) rfl) rfl
theorem zw3_149 : Cond.code yX7_served cX7_served 1 (some .int) ∈ q_Z := q_zt3 (List.mem_of_getElem? (i := 149) rfl) rfl
theorem zw5_141 : Cond.methodLink RL 108 yX8_served ∈ q_Z := q_zt5 (List.mem_of_getElem? (i := 141) rfl) rfl
theorem zw5_142 : Cond.instanceMethod yX8_served ∈ q_Z := q_zt5 (List.mem_of_getElem? (i := 142) rfl) rfl
theorem zw5_143 : Cond.selects RX8 yX8_served yX8_served ∈ q_Z := q_zt5 (List.mem_of_getElem? (i := 143) rfl) rfl
theorem zw5_144 : Cond.code yX8_served cX8_served 8 (some .int) ∈ q_Z := q_zt5 (List.mem_of_getElem? (i := 144) rfl) rfl
theorem zw3_161 : Cond.methodLink RL 109 yX7_laid ∈ q_Z := q_zt3 (List.mem_of_getElem? (i := 161) rfl) rfl
theorem zw3_162 : Cond.instanceMethod yX7_laid ∈ q_Z := q_zt3 (List.mem_of_getElem? (i := 162) rfl) rfl
theorem zw3_163 : Cond.selects RX7 yX7_laid yX7_laid ∈ q_Z := q_zt3 (List.mem_of_getElem? (i := 163) rfl) rfl
theorem zw3_164 : Cond.code yX7_laid cX7_laid 4 (some .int) ∈ q_Z := q_zt3 (List.mem_of_getElem? (i := 164) rfl) rfl
theorem zw5_146 : Cond.methodLink RL 112 yX8_laid ∈ q_Z := q_zt5 (List.mem_of_getElem? (i := 146) rfl) rfl
theorem zw5_147 : Cond.instanceMethod yX8_laid ∈ q_Z := q_zt5 (List.mem_of_getElem? (i := 147) rfl) rfl
theorem zw5_148 : Cond.selects RX8 yX8_laid yX8_laid ∈ q_Z := q_zt5 (List.mem_of_getElem? (i := 148) rfl) rfl
theorem zw5_149 : Cond.code yX8_laid cX8_laid 7 (some .int) ∈ q_Z := q_zt5 (List.mem_of_getElem? (i := 149) rfl) rfl
theorem zw3_188 : Cond.methodLink RL 113 yX7_wanted ∈ q_Z := q_zt3 (List.mem_of_getElem? (i := 188) rfl) rfl
theorem zw3_189 : Cond.instanceMethod yX7_wanted ∈ q_Z := q_zt3 (List.mem_of_getElem? (i := 189) rfl) rfl
theorem zw3_190 : Cond.selects RX7 yX7_wanted yX7_wanted ∈ q_Z := q_zt3 (List.mem_of_getElem? (i := 190) rfl) rfl
theorem zw3_191 : Cond.code yX7_wanted cX7_wanted 6 (some .int) ∈ q_Z := q_zt3 (List.mem_of_getElem? (i := 191) rfl) rfl
theorem zw5_156 : Cond.methodLink RL 117 yX8_wanted ∈ q_Z := q_zt5 (List.mem_of_getElem? (i := 156) rfl) rfl
theorem zw5_157 : Cond.instanceMethod yX8_wanted ∈ q_Z := q_zt5 (List.mem_of_getElem? (i := 157) rfl) rfl
theorem zw5_158 : Cond.selects RX8 yX8_wanted yX8_wanted ∈ q_Z := q_zt5 (List.mem_of_getElem? (i := 158) rfl) rfl
theorem zw5_159 : Cond.code yX8_wanted cX8_wanted 9 (some .int) ∈ q_Z := q_zt5 (List.mem_of_getElem? (i := 159) rfl) rfl
theorem zw3_202 : Cond.methodLink RL 118 yX7_seated ∈ q_Z := q_zt3 (List.mem_of_getElem? (i := 202) rfl) rfl
theorem zw3_203 : Cond.instanceMethod yX7_seated ∈ q_Z := q_zt3 (List.mem_of_getElem? (i := 203) rfl) rfl
theorem zw3_204 : Cond.selects RX7 yX7_seated yX7_seated ∈ q_Z := q_zt3 (List.mem_of_getElem? (i := 204) rfl) rfl
theorem zw3_205 : Cond.code yX7_seated cX7_seated 5 (some .int) ∈ q_Z := q_zt3 (List.mem_of_getElem? (i := 205) rfl) rfl
theorem zw5_160 : Cond.methodLink RL 121 yX8_seated ∈ q_Z := q_zt5 (List.mem_of_getElem? (i := 160) rfl) rfl
theorem zw5_161 : Cond.instanceMethod yX8_seated ∈ q_Z := q_zt5 (List.mem_of_getElem? (i := 161) rfl) rfl
theorem zw5_162 : Cond.selects RX8 yX8_seated yX8_seated ∈ q_Z := q_zt5 (List.mem_of_getElem? (i := 162) rfl) rfl
theorem zw5_163 : Cond.code yX8_seated cX8_seated 8 (some .int) ∈ q_Z := q_zt5 (List.mem_of_getElem? (i := 163) rfl) rfl
theorem zw3_211 : Cond.methodLink RL 122 yX7_image ∈ q_Z := q_zt3 (List.mem_of_getElem? (i := 211) rfl) rfl
theorem zw3_212 : Cond.instanceMethod yX7_image ∈ q_Z := q_zt3 (List.mem_of_getElem? (i := 212) rfl) rfl
theorem zw3_213 : Cond.selects RX7 yX7_image yX7_image ∈ q_Z := q_zt3 (List.mem_of_getElem? (i := 213) rfl) rfl
theorem zw3_214 : Cond.code yX7_image cX7_image 3 (some .int) ∈ q_Z := q_zt3 (List.mem_of_getElem? (i := 214) rfl) rfl
theorem zw5_164 : Cond.methodLink RL 125 yX8_image ∈ q_Z := q_zt5 (List.mem_of_getElem? (i := 164) rfl) rfl
theorem zw5_165 : Cond.instanceMethod yX8_image ∈ q_Z := q_zt5 (List.mem_of_getElem? (i := 165) rfl) rfl
theorem zw5_166 : Cond.selects RX8 yX8_image yX8_image ∈ q_Z := q_zt5 (List.mem_of_getElem? (i := 166) rfl) rfl
theorem zw5_167 : Cond.code yX8_image cX8_image 2 (some .int) ∈ q_Z := q_zt5 (List.mem_of_getElem? (i := 167) rfl) rfl
theorem zw3_219 : Cond.methodLink RL 126 yX7_restore ∈ q_Z := q_zt3 (List.mem_of_getElem? (i := 219) rfl) rfl
theorem zw3_220 : Cond.instanceMethod yX7_restore ∈ q_Z := q_zt3 (List.mem_of_getElem? (i := 220) rfl) rfl
theorem zw3_221 : Cond.selects RX7 yX7_restore yX7_restore ∈ q_Z := q_zt3 (List.mem_of_getElem? (i := 221) rfl) rfl
theorem zw3_222 : Cond.code yX7_restore cX7_restore 3 (some .int) ∈ q_Z := q_zt3 (List.mem_of_getElem? (i := 222) rfl) rfl
theorem zw5_168 : Cond.methodLink RL 129 yX8_restore ∈ q_Z := q_zt5 (List.mem_of_getElem? (i := 168) rfl) rfl
theorem zw5_169 : Cond.instanceMethod yX8_restore ∈ q_Z := q_zt5 (List.mem_of_getElem? (i := 169) rfl) rfl
theorem zw5_170 : Cond.selects RX8 yX8_restore yX8_restore ∈ q_Z := q_zt5 (List.mem_of_getElem? (i := 170) rfl) rfl
theorem zw5_171 : Cond.code yX8_restore cX8_restore 2 (some .int) ∈ q_Z := q_zt5 (List.mem_of_getElem? (i := 171) rfl) rfl
theorem zw3_223 : Cond.methodLink RL 130 yX7_kind ∈ q_Z := q_zt3 (List.mem_of_getElem? (i := 223) rfl) rfl
theorem zw3_224 : Cond.instanceMethod yX7_kind ∈ q_Z := q_zt3 (List.mem_of_getElem? (i := 224) rfl) rfl
theorem zw3_225 : Cond.selects RX7 yX7_kind yX7_kind ∈ q_Z := q_zt3 (List.mem_of_getElem? (i := 225) rfl) rfl
theorem zw3_226 : Cond.code yX7_kind cX7_kind 2 (some .int) ∈ q_Z := q_zt3 (List.mem_of_getElem? (i := 226) rfl) rfl
theorem zw5_172 : Cond.methodLink RL 133 yX8_kind ∈ q_Z := q_zt5 (List.mem_of_getElem? (i := 172) rfl) rfl
theorem zw5_173 : Cond.instanceMethod yX8_kind ∈ q_Z := q_zt5 (List.mem_of_getElem? (i := 173) rfl) rfl
theorem zw5_174 : Cond.selects RX8 yX8_kind yX8_kind ∈ q_Z := q_zt5 (List.mem_of_getElem? (i := 174) rfl) rfl
theorem zw5_175 : Cond.code yX8_kind cX8_kind 2 (some .int) ∈ q_Z := q_zt5 (List.mem_of_getElem? (i := 175) rfl) rfl
theorem zw3_227 : Cond.methodLink RL 134 yX7_as ∈ q_Z := q_zt3 (List.mem_of_getElem? (i := 227) rfl) rfl
theorem zw3_228 : Cond.instanceMethod yX7_as ∈ q_Z := q_zt3 (List.mem_of_getElem? (i := 228) rfl) rfl
theorem zw3_229 : Cond.selects RX7 yX7_as yX7_as ∈ q_Z := q_zt3 (List.mem_of_getElem? (i := 229) rfl) rfl
theorem zw3_230 : Cond.code yX7_as cX7_as 3 (some .int) ∈ q_Z := q_zt3 (List.mem_of_getElem? (i := 230) rfl) rfl
theorem zw5_176 : Cond.methodLink RL 137 yX8_as ∈ q_Z := q_zt5 (List.mem_of_getElem? (i := 176) rfl) rfl
theorem zw5_177 : Cond.instanceMethod yX8_as ∈ q_Z := q_zt5 (List.mem_of_getElem? (i := 177) rfl) rfl
theorem zw5_178 : Cond.selects RX8 yX8_as yX8_as ∈ q_Z := q_zt5 (List.mem_of_getElem? (i := 178) rfl) rfl
theorem zw5_179 : Cond.code yX8_as cX8_as 3 (some .int) ∈ q_Z := q_zt5 (List.mem_of_getElem? (i := 179) rfl) rfl
theorem zw3_234 : Cond.methodLink RL 138 yX7_ask ∈ q_Z := q_zt3 (List.mem_of_getElem? (i := 234) rfl) rfl
theorem zw3_235 : Cond.instanceMethod yX7_ask ∈ q_Z := q_zt3 (List.mem_of_getElem? (i := 235) rfl) rfl
theorem zw3_236 : Cond.selects RX7 yX7_ask yX7_ask ∈ q_Z := q_zt3 (List.mem_of_getElem? (i := 236) rfl) rfl
theorem zw3_237 : Cond.code yX7_ask cX7_ask 3 (some .int) ∈ q_Z := q_zt3 (List.mem_of_getElem? (i := 237) rfl) rfl
theorem zw5_184 : Cond.methodLink RL 141 yX8_ask ∈ q_Z := q_zt5 (List.mem_of_getElem? (i := 184) rfl) rfl
theorem zw5_185 : Cond.instanceMethod yX8_ask ∈ q_Z := q_zt5 (List.mem_of_getElem? (i := 185) rfl) rfl
theorem zw5_186 : Cond.selects RX8 yX8_ask yX8_ask ∈ q_Z := q_zt5 (List.mem_of_getElem? (i := 186) rfl) rfl
theorem zw5_187 : Cond.code yX8_ask cX8_ask 3 (some .int) ∈ q_Z := q_zt5 (List.mem_of_getElem? (i := 187) rfl) rfl
theorem zw4_55 : Cond.methodLink RL 142 yX7_trace ∈ q_Z := q_zt4 (List.mem_of_getElem? (i := 55) rfl) rfl
theorem zw4_56 : Cond.instanceMethod yX7_trace ∈ q_Z := q_zt4 (List.mem_of_getElem? (i := 56) rfl) rfl
theorem zw4_57 : Cond.selects RX7 yX7_trace yX7_trace ∈ q_Z := q_zt4 (List.mem_of_getElem? (i := 57) rfl) rfl
theorem zw4_58 : Cond.code yX7_trace cX7_trace 2 (some .int) ∈ q_Z := q_zt4 (List.mem_of_getElem? (i := 58) rfl) rfl
theorem zw5_204 : Cond.methodLink RL 145 yX8_trace ∈ q_Z := q_zt5 (List.mem_of_getElem? (i := 204) rfl) rfl
theorem zw5_205 : Cond.instanceMethod yX8_trace ∈ q_Z := q_zt5 (List.mem_of_getElem? (i := 205) rfl) rfl
theorem zw5_206 : Cond.selects RX8 yX8_trace yX8_trace ∈ q_Z := q_zt5 (List.mem_of_getElem? (i := 206) rfl) rfl
theorem zw5_207 : Cond.code yX8_trace cX8_trace 2 (some .int) ∈ q_Z := q_zt5 (List.mem_of_getElem? (i := 207) rfl) rfl
theorem zw4_64 : Cond.methodLink RL 146 yX7_count ∈ q_Z := q_zt4 (List.mem_of_getElem? (i := 64) rfl) rfl
theorem zw4_65 : Cond.instanceMethod yX7_count ∈ q_Z := q_zt4 (List.mem_of_getElem? (i := 65) rfl) rfl
theorem zw4_66 : Cond.selects RX7 yX7_count yX7_count ∈ q_Z := q_zt4 (List.mem_of_getElem? (i := 66) rfl) rfl
theorem zw4_67 : Cond.code yX7_count cX7_count 2 (some .int) ∈ q_Z := q_zt4 (List.mem_of_getElem? (i := 67) rfl) rfl
theorem zw5_208 : Cond.methodLink RL 149 yX8_count ∈ q_Z := q_zt5 (List.mem_of_getElem? (i := 208) rfl) rfl
theorem zw5_209 : Cond.instanceMethod yX8_count ∈ q_Z := q_zt5 (List.mem_of_getElem? (i := 209) rfl) rfl
theorem zw5_210 : Cond.selects RX8 yX8_count yX8_count ∈ q_Z := q_zt5 (List.mem_of_getElem? (i := 210) rfl) rfl
theorem zw5_211 : Cond.code yX8_count cX8_count 5 (some .int) ∈ q_Z := q_zt5 (List.mem_of_getElem? (i := 211) rfl) rfl
theorem zw4_76 : Cond.methodLink RL 150 yX7_status ∈ q_Z := q_zt4 (List.mem_of_getElem? (i := 76) rfl) rfl
theorem zw4_77 : Cond.instanceMethod yX7_status ∈ q_Z := q_zt4 (List.mem_of_getElem? (i := 77) rfl) rfl
theorem zw4_78 : Cond.selects RX7 yX7_status yX7_status ∈ q_Z := q_zt4 (List.mem_of_getElem? (i := 78) rfl) rfl
theorem zw4_79 : Cond.code yX7_status cX7_status 1 (some .int) ∈ q_Z := q_zt4 (List.mem_of_getElem? (i := 79) rfl) rfl
theorem zw5_212 : Cond.methodLink RL 153 yX8_status ∈ q_Z := q_zt5 (List.mem_of_getElem? (i := 212) rfl) rfl
theorem zw5_213 : Cond.instanceMethod yX8_status ∈ q_Z := q_zt5 (List.mem_of_getElem? (i := 213) rfl) rfl
theorem zw5_214 : Cond.selects RX8 yX8_status yX8_status ∈ q_Z := q_zt5 (List.mem_of_getElem? (i := 214) rfl) rfl
theorem zw5_215 : Cond.code yX8_status cX8_status 1 (some .int) ∈ q_Z := q_zt5 (List.mem_of_getElem? (i := 215) rfl) rfl
theorem zw5_216 : Cond.constantLong RL 32 (4294967295) ∈ q_Z := q_zt5 (List.mem_of_getElem? (i := 216) rfl) rfl
theorem lv9_13 : q_LV RL 13 7 yX7_row cX7_row 5 (some .int) 3 := ⟨⟨zw1_227, zw1_228, zw1_229, zw1_1, zw1_230⟩, ⟨by decide, by decide, by decide +kernel⟩, rfl, by decide, by decide⟩
theorem lv9_17 : q_LV RL 17 8 yX8_row cX8_row 5 (some .int) 3 := ⟨⟨zw4_154, zw4_155, zw4_156, zw1_9, zw4_157⟩, ⟨by decide, by decide, by decide +kernel⟩, rfl, by decide, by decide⟩
theorem lv9_18 : q_LV RL 18 7 yX7_set cX7_set 5 (some .int) 3 := ⟨⟨zw2_18, zw2_19, zw2_20, zw1_1, zw2_21⟩, ⟨by decide, by decide, by decide +kernel⟩, rfl, by decide, by decide⟩
theorem lv9_21 : q_LV RL 21 8 yX8_set cX8_set 4 (some .int) 3 := ⟨⟨zw4_176, zw4_177, zw4_178, zw1_9, zw4_179⟩, ⟨by decide, by decide, by decide +kernel⟩, rfl, by decide, by decide⟩
theorem lv9_22 : q_LV RL 22 7 yX7_copy cX7_copy 8 (some .int) 5 := ⟨⟨zw2_38, zw2_39, zw2_40, zw1_1, zw2_41⟩, ⟨by decide, by decide, by decide +kernel⟩, rfl, by decide, by decide⟩
theorem lv9_26 : q_LV RL 26 8 yX8_copy cX8_copy 7 (some .int) 5 := ⟨⟨zw4_180, zw4_181, zw4_182, zw1_9, zw4_183⟩, ⟨by decide, by decide, by decide +kernel⟩, rfl, by decide, by decide⟩
theorem lv9_27 : q_LV RL 27 7 yX7_drop cX7_drop 4 (some .int) 1 := ⟨⟨zw2_50, zw2_51, zw2_52, zw1_1, zw2_53⟩, ⟨by decide, by decide, by decide +kernel⟩, rfl, by decide, by decide⟩
theorem lv9_31 : q_LV RL 31 8 yX8_drop cX8_drop 2 (some .int) 1 := ⟨⟨zw4_187, zw4_188, zw4_189, zw1_9, zw4_190⟩, ⟨by decide, by decide, by decide +kernel⟩, rfl, by decide, by decide⟩
theorem lv9_34 : q_LV RL 34 7 yX7_feed cX7_feed 5 (some .int) 2 := ⟨⟨zw2_58, zw2_59, zw2_60, zw1_1, zw2_61⟩, ⟨by decide, by decide, by decide +kernel⟩, rfl, by decide, by decide⟩
theorem lv9_38 : q_LV RL 38 8 yX8_feed cX8_feed 5 (some .int) 2 := ⟨⟨zw4_191, zw4_192, zw4_193, zw1_9, zw4_194⟩, ⟨by decide, by decide, by decide +kernel⟩, rfl, by decide, by decide⟩
theorem lv9_39 : q_LV RL 39 7 yX7_table cX7_table 1 (some .int) 0 := ⟨⟨zw2_67, zw2_68, zw2_69, zw1_1, zw2_70⟩, ⟨by decide, by decide, by decide +kernel⟩, rfl, by decide, by decide⟩
theorem lv9_43 : q_LV RL 43 8 yX8_table cX8_table 2 (some .int) 0 := ⟨⟨zw4_198, zw4_199, zw4_200, zw1_9, zw4_201⟩, ⟨by decide, by decide, by decide +kernel⟩, rfl, by decide, by decide⟩
theorem lv9_44 : q_LV RL 44 7 yX7_fault cX7_fault 1 (some .int) 0 := ⟨⟨zw2_218, zw2_219, zw2_220, zw1_1, zw2_221⟩, ⟨by decide, by decide, by decide +kernel⟩, rfl, by decide, by decide⟩
theorem lv9_47 : q_LV RL 47 8 yX8_fault cX8_fault 1 (some .int) 0 := ⟨⟨zw5_26, zw5_27, zw5_28, zw1_9, zw5_29⟩, ⟨by decide, by decide, by decide +kernel⟩, rfl, by decide, by decide⟩
theorem lv9_48 : q_LV RL 48 7 yX7_minutes cX7_minutes 3 (some .int) 1 := ⟨⟨zw2_222, zw2_223, zw2_224, zw1_1, zw2_225⟩, ⟨by decide, by decide, by decide +kernel⟩, rfl, by decide, by decide⟩
theorem lv9_51 : q_LV RL 51 8 yX8_minutes cX8_minutes 3 (some .int) 1 := ⟨⟨zw5_30, zw5_31, zw5_32, zw1_9, zw5_33⟩, ⟨by decide, by decide, by decide +kernel⟩, rfl, by decide, by decide⟩
theorem lv9_52 : q_LV RL 52 7 yX7_turn cX7_turn 2 (some .int) 1 := ⟨⟨zw3_46, zw3_47, zw3_48, zw1_1, zw3_49⟩, ⟨by decide, by decide, by decide +kernel⟩, rfl, by decide, by decide⟩
theorem lv9_55 : q_LV RL 55 8 yX8_turn cX8_turn 2 (some .int) 1 := ⟨⟨zw5_68, zw5_69, zw5_70, zw1_9, zw5_71⟩, ⟨by decide, by decide, by decide +kernel⟩, rfl, by decide, by decide⟩
theorem lv9_56 : q_LV RL 56 7 yX7_fill cX7_fill 3 (some .int) 2 := ⟨⟨zw3_51, zw3_52, zw3_53, zw1_1, zw3_54⟩, ⟨by decide, by decide, by decide +kernel⟩, rfl, by decide, by decide⟩
theorem lv9_60 : q_LV RL 60 8 yX8_fill cX8_fill 3 (some .int) 2 := ⟨⟨zw5_74, zw5_75, zw5_76, zw1_9, zw5_77⟩, ⟨by decide, by decide, by decide +kernel⟩, rfl, by decide, by decide⟩
theorem lv9_61 : q_LV RL 61 7 yX7_change cX7_change 3 (some .int) 2 := ⟨⟨zw3_58, zw3_59, zw3_60, zw1_1, zw3_61⟩, ⟨by decide, by decide, by decide +kernel⟩, rfl, by decide, by decide⟩
theorem lv9_64 : q_LV RL 64 8 yX8_change cX8_change 3 (some .int) 2 := ⟨⟨zw5_83, zw5_84, zw5_85, zw1_9, zw5_86⟩, ⟨by decide, by decide, by decide +kernel⟩, rfl, by decide, by decide⟩
theorem lv9_65 : q_LV RL 65 7 yX7_lay cX7_lay 3 (some .int) 2 := ⟨⟨zw3_66, zw3_67, zw3_68, zw1_1, zw3_69⟩, ⟨by decide, by decide, by decide +kernel⟩, rfl, by decide, by decide⟩
theorem lv9_68 : q_LV RL 68 8 yX8_lay cX8_lay 3 (some .int) 2 := ⟨⟨zw5_91, zw5_92, zw5_93, zw1_9, zw5_94⟩, ⟨by decide, by decide, by decide +kernel⟩, rfl, by decide, by decide⟩
theorem lv9_69 : q_LV RL 69 7 yX7_undo cX7_undo 1 (some .int) 0 := ⟨⟨zw3_74, zw3_75, zw3_76, zw1_1, zw3_77⟩, ⟨by decide, by decide, by decide +kernel⟩, rfl, by decide, by decide⟩
theorem lv9_72 : q_LV RL 72 8 yX8_undo cX8_undo 1 (some .int) 0 := ⟨⟨zw5_95, zw5_96, zw5_97, zw1_9, zw5_98⟩, ⟨by decide, by decide, by decide +kernel⟩, rfl, by decide, by decide⟩
theorem lv9_73 : q_LV RL 73 7 yX7_guest cX7_guest 3 (some .int) 2 := ⟨⟨zw3_82, zw3_83, zw3_84, zw1_1, zw3_85⟩, ⟨by decide, by decide, by decide +kernel⟩, rfl, by decide, by decide⟩
theorem lv9_76 : q_LV RL 76 8 yX8_guest cX8_guest 3 (some .int) 2 := ⟨⟨zw5_99, zw5_100, zw5_101, zw1_9, zw5_102⟩, ⟨by decide, by decide, by decide +kernel⟩, rfl, by decide, by decide⟩
theorem lv9_77 : q_LV RL 77 7 yX7_dish cX7_dish 3 (some .int) 2 := ⟨⟨zw3_87, zw3_88, zw3_89, zw1_1, zw3_90⟩, ⟨by decide, by decide, by decide +kernel⟩, rfl, by decide, by decide⟩
theorem lv9_80 : q_LV RL 80 8 yX8_dish cX8_dish 3 (some .int) 2 := ⟨⟨zw5_104, zw5_105, zw5_106, zw1_9, zw5_107⟩, ⟨by decide, by decide, by decide +kernel⟩, rfl, by decide, by decide⟩
theorem lv9_81 : q_LV RL 81 7 yX7_ahead cX7_ahead 4 (some .int) 2 := ⟨⟨zw3_91, zw3_92, zw3_93, zw1_1, zw3_94⟩, ⟨by decide, by decide, by decide +kernel⟩, rfl, by decide, by decide⟩
theorem lv9_84 : q_LV RL 84 8 yX8_ahead cX8_ahead 3 (some .int) 2 := ⟨⟨zw5_108, zw5_109, zw5_110, zw1_9, zw5_111⟩, ⟨by decide, by decide, by decide +kernel⟩, rfl, by decide, by decide⟩
theorem lv9_85 : q_LV RL 85 7 yX7_dishAhead cX7_dishAhead 3 (some .int) 2 := ⟨⟨zw3_106, zw3_107, zw3_108, zw1_1, zw3_109⟩, ⟨by decide, by decide, by decide +kernel⟩, rfl, by decide, by decide⟩
theorem lv9_88 : q_LV RL 88 8 yX8_dishAhead cX8_dishAhead 3 (some .int) 2 := ⟨⟨zw5_120, zw5_121, zw5_122, zw1_9, zw5_123⟩, ⟨by decide, by decide, by decide +kernel⟩, rfl, by decide, by decide⟩
theorem lv9_89 : q_LV RL 89 7 yX7_guestAhead cX7_guestAhead 3 (some .int) 2 := ⟨⟨zw3_110, zw3_111, zw3_112, zw1_1, zw3_113⟩, ⟨by decide, by decide, by decide +kernel⟩, rfl, by decide, by decide⟩
theorem lv9_92 : q_LV RL 92 8 yX8_guestAhead cX8_guestAhead 3 (some .int) 2 := ⟨⟨zw5_124, zw5_125, zw5_126, zw1_9, zw5_127⟩, ⟨by decide, by decide, by decide +kernel⟩, rfl, by decide, by decide⟩
theorem lv9_93 : q_LV RL 93 7 yX7_last cX7_last 4 (some .int) 2 := ⟨⟨zw3_120, zw3_121, zw3_122, zw1_1, zw3_123⟩, ⟨by decide, by decide, by decide +kernel⟩, rfl, by decide, by decide⟩
theorem lv9_96 : q_LV RL 96 8 yX8_last cX8_last 4 (some .int) 2 := ⟨⟨zw5_128, zw5_129, zw5_130, zw1_9, zw5_131⟩, ⟨by decide, by decide, by decide +kernel⟩, rfl, by decide, by decide⟩
theorem lv9_97 : q_LV RL 97 7 yX7_hungry cX7_hungry 2 (some .int) 1 := ⟨⟨zw3_130, zw3_131, zw3_132, zw1_1, zw3_133⟩, ⟨by decide, by decide, by decide +kernel⟩, rfl, by decide, by decide⟩
theorem lv9_100 : q_LV RL 100 8 yX8_hungry cX8_hungry 4 (some .int) 1 := ⟨⟨zw5_133, zw5_134, zw5_135, zw1_9, zw5_136⟩, ⟨by decide, by decide, by decide +kernel⟩, rfl, by decide, by decide⟩
theorem lv9_101 : q_LV RL 101 7 yX7_rest cX7_rest 1 (some .int) 0 := ⟨⟨zw3_138, zw3_139, zw3_140, zw1_1, zw3_141⟩, ⟨by decide, by decide, by decide +kernel⟩, rfl, by decide, by decide⟩
theorem lv9_104 : q_LV RL 104 8 yX8_rest cX8_rest 3 (some .int) 0 := ⟨⟨zw5_137, zw5_138, zw5_139, zw1_9, zw5_140⟩, ⟨by decide, by decide, by decide +kernel⟩, rfl, by decide, by decide⟩
theorem lv9_105 : q_LV RL 105 7 yX7_served cX7_served 1 (some .int) 0 := ⟨⟨zw3_146, zw3_147, zw3_148, zw1_1, zw3_149⟩, ⟨by decide, by decide, by decide +kernel⟩, rfl, by decide, by decide⟩
theorem lv9_108 : q_LV RL 108 8 yX8_served cX8_served 8 (some .int) 0 := ⟨⟨zw5_141, zw5_142, zw5_143, zw1_9, zw5_144⟩, ⟨by decide, by decide, by decide +kernel⟩, rfl, by decide, by decide⟩
theorem lv9_109 : q_LV RL 109 7 yX7_laid cX7_laid 4 (some .int) 2 := ⟨⟨zw3_161, zw3_162, zw3_163, zw1_1, zw3_164⟩, ⟨by decide, by decide, by decide +kernel⟩, rfl, by decide, by decide⟩
theorem lv9_112 : q_LV RL 112 8 yX8_laid cX8_laid 7 (some .int) 2 := ⟨⟨zw5_146, zw5_147, zw5_148, zw1_9, zw5_149⟩, ⟨by decide, by decide, by decide +kernel⟩, rfl, by decide, by decide⟩
theorem lv9_113 : q_LV RL 113 7 yX7_wanted cX7_wanted 6 (some .int) 4 := ⟨⟨zw3_188, zw3_189, zw3_190, zw1_1, zw3_191⟩, ⟨by decide, by decide, by decide +kernel⟩, rfl, by decide, by decide⟩
theorem lv9_117 : q_LV RL 117 8 yX8_wanted cX8_wanted 9 (some .int) 4 := ⟨⟨zw5_156, zw5_157, zw5_158, zw1_9, zw5_159⟩, ⟨by decide, by decide, by decide +kernel⟩, rfl, by decide, by decide⟩
theorem lv9_118 : q_LV RL 118 7 yX7_seated cX7_seated 5 (some .int) 3 := ⟨⟨zw3_202, zw3_203, zw3_204, zw1_1, zw3_205⟩, ⟨by decide, by decide, by decide +kernel⟩, rfl, by decide, by decide⟩
theorem lv9_121 : q_LV RL 121 8 yX8_seated cX8_seated 8 (some .int) 3 := ⟨⟨zw5_160, zw5_161, zw5_162, zw1_9, zw5_163⟩, ⟨by decide, by decide, by decide +kernel⟩, rfl, by decide, by decide⟩
theorem lv9_122 : q_LV RL 122 7 yX7_image cX7_image 3 (some .int) 1 := ⟨⟨zw3_211, zw3_212, zw3_213, zw1_1, zw3_214⟩, ⟨by decide, by decide, by decide +kernel⟩, rfl, by decide, by decide⟩
theorem lv9_125 : q_LV RL 125 8 yX8_image cX8_image 2 (some .int) 1 := ⟨⟨zw5_164, zw5_165, zw5_166, zw1_9, zw5_167⟩, ⟨by decide, by decide, by decide +kernel⟩, rfl, by decide, by decide⟩
theorem lv9_126 : q_LV RL 126 7 yX7_restore cX7_restore 3 (some .int) 1 := ⟨⟨zw3_219, zw3_220, zw3_221, zw1_1, zw3_222⟩, ⟨by decide, by decide, by decide +kernel⟩, rfl, by decide, by decide⟩
theorem lv9_129 : q_LV RL 129 8 yX8_restore cX8_restore 2 (some .int) 1 := ⟨⟨zw5_168, zw5_169, zw5_170, zw1_9, zw5_171⟩, ⟨by decide, by decide, by decide +kernel⟩, rfl, by decide, by decide⟩
theorem lv9_130 : q_LV RL 130 7 yX7_kind cX7_kind 2 (some .int) 1 := ⟨⟨zw3_223, zw3_224, zw3_225, zw1_1, zw3_226⟩, ⟨by decide, by decide, by decide +kernel⟩, rfl, by decide, by decide⟩
theorem lv9_133 : q_LV RL 133 8 yX8_kind cX8_kind 2 (some .int) 1 := ⟨⟨zw5_172, zw5_173, zw5_174, zw1_9, zw5_175⟩, ⟨by decide, by decide, by decide +kernel⟩, rfl, by decide, by decide⟩
theorem lv9_134 : q_LV RL 134 7 yX7_as cX7_as 3 (some .int) 2 := ⟨⟨zw3_227, zw3_228, zw3_229, zw1_1, zw3_230⟩, ⟨by decide, by decide, by decide +kernel⟩, rfl, by decide, by decide⟩
theorem lv9_137 : q_LV RL 137 8 yX8_as cX8_as 3 (some .int) 2 := ⟨⟨zw5_176, zw5_177, zw5_178, zw1_9, zw5_179⟩, ⟨by decide, by decide, by decide +kernel⟩, rfl, by decide, by decide⟩
theorem lv9_138 : q_LV RL 138 7 yX7_ask cX7_ask 3 (some .int) 2 := ⟨⟨zw3_234, zw3_235, zw3_236, zw1_1, zw3_237⟩, ⟨by decide, by decide, by decide +kernel⟩, rfl, by decide, by decide⟩
theorem lv9_141 : q_LV RL 141 8 yX8_ask cX8_ask 3 (some .int) 2 := ⟨⟨zw5_184, zw5_185, zw5_186, zw1_9, zw5_187⟩, ⟨by decide, by decide, by decide +kernel⟩, rfl, by decide, by decide⟩
theorem lv9_142 : q_LV RL 142 7 yX7_trace cX7_trace 2 (some .int) 1 := ⟨⟨zw4_55, zw4_56, zw4_57, zw1_1, zw4_58⟩, ⟨by decide, by decide, by decide +kernel⟩, rfl, by decide, by decide⟩
theorem lv9_145 : q_LV RL 145 8 yX8_trace cX8_trace 2 (some .int) 1 := ⟨⟨zw5_204, zw5_205, zw5_206, zw1_9, zw5_207⟩, ⟨by decide, by decide, by decide +kernel⟩, rfl, by decide, by decide⟩
theorem lv9_146 : q_LV RL 146 7 yX7_count cX7_count 2 (some .int) 1 := ⟨⟨zw4_64, zw4_65, zw4_66, zw1_1, zw4_67⟩, ⟨by decide, by decide, by decide +kernel⟩, rfl, by decide, by decide⟩
theorem lv9_149 : q_LV RL 149 8 yX8_count cX8_count 5 (some .int) 1 := ⟨⟨zw5_208, zw5_209, zw5_210, zw1_9, zw5_211⟩, ⟨by decide, by decide, by decide +kernel⟩, rfl, by decide, by decide⟩
theorem lv9_150 : q_LV RL 150 7 yX7_status cX7_status 1 (some .int) 0 := ⟨⟨zw4_76, zw4_77, zw4_78, zw1_1, zw4_79⟩, ⟨by decide, by decide, by decide +kernel⟩, rfl, by decide, by decide⟩
theorem lv9_153 : q_LV RL 153 8 yX8_status cX8_status 1 (some .int) 0 := ⟨⟨zw5_212, zw5_213, zw5_214, zw1_9, zw5_215⟩, ⟨by decide, by decide, by decide +kernel⟩, rfl, by decide, by decide⟩
theorem zk9_32 : Cond.constantLong RL 32 (4294967295) ∈ q_Z := zw5_216
set_option maxRecDepth 20000 in
theorem ac_row {Γ : q_X} {ad : Nat → Nat} {h : q_H} {b L i k1 k2 : Nat} {xs : Nat → Int32} (C : q_C Γ ad 12 600000 7302250 RL x cL_law 4 ret) (hX : q_XL Γ b L xs) (hb : ad 230 = b) (hL : L < 2 ^ 31) (hk : k1 ≤ 600000 ∧ k2 ≤ 7302250) (hi : i + 6 ≤ L) (hr : rel h) (K : ∀ h' : q_H, rel h' → q_G Γ ad 4 1169 [some (.ref 230), some (.ref 0), some (.ref 87), some (.int (nI i))] [] 96 h' k1 k2) : q_G Γ ad 4 180 [some (.ref 230), some (.ref 0), some (.ref 87), some (.int (nI i))] [] 96 h k1 k2 := by
  obtain ⟨d7, d8, r, h1, h2, ⟨⟨hd7, hd8⟩, fs, hM⟩, s7, s8, hr2⟩ := e_row (n := 96) hr ((xs (i + 1))) ((xs (i + 2))) ((xs (i + 3)))
  obtain ⟨fs0, h0⟩ := rel_0 hr
  refine g_aload_n (pc := 180) C (hl := rfl) dL_law_180 ?_
  refine g_aload_n (pc := 181) C (hl := rfl) dL_law_181 ?_
  refine g_iload_n (pc := 182) C (hl := rfl) dL_law_182 ?_
  refine g_iconst (pc := 183) C qk_iconst_1 dL_law_183 ?_
  refine g_iaddN (pc := 184) C dL_law_184 ?_
  refine g_sld (pc := 185) C hX hb dL_law_185 ⟨by omega, hL⟩ ?_
  refine g_aload_n (pc := 186) C (hl := rfl) dL_law_186 ?_
  refine g_iload_n (pc := 187) C (hl := rfl) dL_law_187 ?_
  refine g_iconst (pc := 188) C qk_iconst_2 dL_law_188 ?_
  refine g_iaddN (pc := 189) C dL_law_189 ?_
  refine g_sld (pc := 190) C hX hb dL_law_190 ⟨by omega, hL⟩ ?_
  refine g_aload_n (pc := 191) C (hl := rfl) dL_law_191 ?_
  refine g_iload_n (pc := 192) C (hl := rfl) dL_law_192 ?_
  refine g_iconst (pc := 193) C qk_iconst_3 dL_law_193 ?_
  refine g_iaddN (pc := 194) C dL_law_194 ?_
  refine g_sld (pc := 195) C hX hb dL_law_195 ⟨by omega, hL⟩ ?_
  refine g_cVG (pc := 196) C (st := []) [.int (xs (i + 1)), .int (xs (i + 2)), .int (xs (i + 3))] lv9_13 dL_law_196 s7 h0 (by omega) hk (by decide) rfl rfl ?_
  refine g_aload_n (pc := 199) C (hl := rfl) dL_law_199 ?_
  refine g_aload_n (pc := 200) C (hl := rfl) dL_law_200 ?_
  refine g_iload_n (pc := 201) C (hl := rfl) dL_law_201 ?_
  refine g_iconst (pc := 202) C qk_iconst_1 dL_law_202 ?_
  refine g_iaddN (pc := 203) C dL_law_203 ?_
  refine g_sld (pc := 204) C hX hb dL_law_204 ⟨by omega, hL⟩ ?_
  refine g_aload_n (pc := 205) C (hl := rfl) dL_law_205 ?_
  refine g_iload_n (pc := 206) C (hl := rfl) dL_law_206 ?_
  refine g_iconst (pc := 207) C qk_iconst_2 dL_law_207 ?_
  refine g_iaddN (pc := 208) C dL_law_208 ?_
  refine g_sld (pc := 209) C hX hb dL_law_209 ⟨by omega, hL⟩ ?_
  refine g_aload_n (pc := 210) C (hl := rfl) dL_law_210 ?_
  refine g_iload_n (pc := 211) C (hl := rfl) dL_law_211 ?_
  refine g_iconst (pc := 212) C qk_iconst_3 dL_law_212 ?_
  refine g_iaddN (pc := 213) C dL_law_213 ?_
  refine g_sld (pc := 214) C hX hb dL_law_214 ⟨by omega, hL⟩ ?_
  refine g_cVG (pc := 215) C (st := [.int r]) [.int (xs (i + 1)), .int (xs (i + 2)), .int (xs (i + 3))] lv9_17 dL_law_215 s8 hM (by omega) hk (Nat.le_of_ble_eq_true rfl) rfl rfl ?_
  exact g_ic_eq (pc := 218) C 1169 dL_law_218 (by decide) (fun _ => K h2 hr2) (fun q => absurd rfl q)
set_option maxRecDepth 20000 in
theorem ac_set {Γ : q_X} {ad : Nat → Nat} {h : q_H} {b L i k1 k2 : Nat} {xs : Nat → Int32} (C : q_C Γ ad 12 600000 7302250 RL x cL_law 4 ret) (hX : q_XL Γ b L xs) (hb : ad 230 = b) (hL : L < 2 ^ 31) (hk : k1 ≤ 600000 ∧ k2 ≤ 7302250) (hi : i + 6 ≤ L) (hr : rel h) (K : ∀ h' : q_H, rel h' → q_G Γ ad 4 1169 [some (.ref 230), some (.ref 0), some (.ref 87), some (.int (nI i))] [] 96 h' k1 k2) : q_G Γ ad 4 223 [some (.ref 230), some (.ref 0), some (.ref 87), some (.int (nI i))] [] 96 h k1 k2 := by
  obtain ⟨d7, d8, r, h1, h2, ⟨⟨hd7, hd8⟩, fs, hM⟩, s7, s8, hr2⟩ := e_set (n := 96) hr ((xs (i + 1))) ((xs (i + 2))) ((xs (i + 3)))
  obtain ⟨fs0, h0⟩ := rel_0 hr
  refine g_aload_n (pc := 223) C (hl := rfl) dL_law_223 ?_
  refine g_aload_n (pc := 224) C (hl := rfl) dL_law_224 ?_
  refine g_iload_n (pc := 225) C (hl := rfl) dL_law_225 ?_
  refine g_iconst (pc := 226) C qk_iconst_1 dL_law_226 ?_
  refine g_iaddN (pc := 227) C dL_law_227 ?_
  refine g_sld (pc := 228) C hX hb dL_law_228 ⟨by omega, hL⟩ ?_
  refine g_aload_n (pc := 229) C (hl := rfl) dL_law_229 ?_
  refine g_iload_n (pc := 230) C (hl := rfl) dL_law_230 ?_
  refine g_iconst (pc := 231) C qk_iconst_2 dL_law_231 ?_
  refine g_iaddN (pc := 232) C dL_law_232 ?_
  refine g_sld (pc := 233) C hX hb dL_law_233 ⟨by omega, hL⟩ ?_
  refine g_aload_n (pc := 234) C (hl := rfl) dL_law_234 ?_
  refine g_iload_n (pc := 235) C (hl := rfl) dL_law_235 ?_
  refine g_iconst (pc := 236) C qk_iconst_3 dL_law_236 ?_
  refine g_iaddN (pc := 237) C dL_law_237 ?_
  refine g_sld (pc := 238) C hX hb dL_law_238 ⟨by omega, hL⟩ ?_
  refine g_cVG (pc := 239) C (st := []) [.int (xs (i + 1)), .int (xs (i + 2)), .int (xs (i + 3))] lv9_18 dL_law_239 s7 h0 (by omega) hk (by decide) rfl rfl ?_
  refine g_aload_n (pc := 242) C (hl := rfl) dL_law_242 ?_
  refine g_aload_n (pc := 243) C (hl := rfl) dL_law_243 ?_
  refine g_iload_n (pc := 244) C (hl := rfl) dL_law_244 ?_
  refine g_iconst (pc := 245) C qk_iconst_1 dL_law_245 ?_
  refine g_iaddN (pc := 246) C dL_law_246 ?_
  refine g_sld (pc := 247) C hX hb dL_law_247 ⟨by omega, hL⟩ ?_
  refine g_aload_n (pc := 248) C (hl := rfl) dL_law_248 ?_
  refine g_iload_n (pc := 249) C (hl := rfl) dL_law_249 ?_
  refine g_iconst (pc := 250) C qk_iconst_2 dL_law_250 ?_
  refine g_iaddN (pc := 251) C dL_law_251 ?_
  refine g_sld (pc := 252) C hX hb dL_law_252 ⟨by omega, hL⟩ ?_
  refine g_aload_n (pc := 253) C (hl := rfl) dL_law_253 ?_
  refine g_iload_n (pc := 254) C (hl := rfl) dL_law_254 ?_
  refine g_iconst (pc := 255) C qk_iconst_3 dL_law_255 ?_
  refine g_iaddN (pc := 256) C dL_law_256 ?_
  refine g_sld (pc := 257) C hX hb dL_law_257 ⟨by omega, hL⟩ ?_
  refine g_cVG (pc := 258) C (st := [.int r]) [.int (xs (i + 1)), .int (xs (i + 2)), .int (xs (i + 3))] lv9_21 dL_law_258 s8 hM (by omega) hk (Nat.le_of_ble_eq_true rfl) rfl rfl ?_
  exact g_ic_eq (pc := 261) C 1169 dL_law_261 (by decide) (fun _ => K h2 hr2) (fun q => absurd rfl q)
set_option maxRecDepth 20000 in
theorem ac_copy {Γ : q_X} {ad : Nat → Nat} {h : q_H} {b L i k1 k2 : Nat} {xs : Nat → Int32} (C : q_C Γ ad 12 600000 7302250 RL x cL_law 4 ret) (hX : q_XL Γ b L xs) (hb : ad 230 = b) (hL : L < 2 ^ 31) (hk : k1 ≤ 600000 ∧ k2 ≤ 7302250) (hi : i + 6 ≤ L) (hr : rel h) (K : ∀ h' : q_H, rel h' → q_G Γ ad 4 1169 [some (.ref 230), some (.ref 0), some (.ref 87), some (.int (nI i))] [] 96 h' k1 k2) : q_G Γ ad 4 266 [some (.ref 230), some (.ref 0), some (.ref 87), some (.int (nI i))] [] 96 h k1 k2 := by
  obtain ⟨d7, d8, r, h1, h2, ⟨⟨hd7, hd8⟩, fs, hM⟩, s7, s8, hr2⟩ := e_copy (n := 96) hr ((xs (i + 1))) ((xs (i + 2))) ((xs (i + 3))) ((xs (i + 4))) ((xs (i + 5)))
  obtain ⟨fs0, h0⟩ := rel_0 hr
  refine g_aload_n (pc := 266) C (hl := rfl) dL_law_266 ?_
  refine g_aload_n (pc := 267) C (hl := rfl) dL_law_267 ?_
  refine g_iload_n (pc := 268) C (hl := rfl) dL_law_268 ?_
  refine g_iconst (pc := 269) C qk_iconst_1 dL_law_269 ?_
  refine g_iaddN (pc := 270) C dL_law_270 ?_
  refine g_sld (pc := 271) C hX hb dL_law_271 ⟨by omega, hL⟩ ?_
  refine g_aload_n (pc := 272) C (hl := rfl) dL_law_272 ?_
  refine g_iload_n (pc := 273) C (hl := rfl) dL_law_273 ?_
  refine g_iconst (pc := 274) C qk_iconst_2 dL_law_274 ?_
  refine g_iaddN (pc := 275) C dL_law_275 ?_
  refine g_sld (pc := 276) C hX hb dL_law_276 ⟨by omega, hL⟩ ?_
  refine g_aload_n (pc := 277) C (hl := rfl) dL_law_277 ?_
  refine g_iload_n (pc := 278) C (hl := rfl) dL_law_278 ?_
  refine g_iconst (pc := 279) C qk_iconst_3 dL_law_279 ?_
  refine g_iaddN (pc := 280) C dL_law_280 ?_
  refine g_sld (pc := 281) C hX hb dL_law_281 ⟨by omega, hL⟩ ?_
  refine g_aload_n (pc := 282) C (hl := rfl) dL_law_282 ?_
  refine g_iload_n (pc := 283) C (hl := rfl) dL_law_283 ?_
  refine g_iconst (pc := 284) C qk_iconst_4 dL_law_284 ?_
  refine g_iaddN (pc := 285) C dL_law_285 ?_
  refine g_sld (pc := 286) C hX hb dL_law_286 ⟨by omega, hL⟩ ?_
  refine g_aload_n (pc := 287) C (hl := rfl) dL_law_287 ?_
  refine g_iload_n (pc := 288) C (hl := rfl) dL_law_288 ?_
  refine g_iconst (pc := 289) C qk_iconst_5 dL_law_289 ?_
  refine g_iaddN (pc := 290) C dL_law_290 ?_
  refine g_sld (pc := 291) C hX hb dL_law_291 ⟨by omega, hL⟩ ?_
  refine g_cVG (pc := 292) C (st := []) [.int (xs (i + 1)), .int (xs (i + 2)), .int (xs (i + 3)), .int (xs (i + 4)), .int (xs (i + 5))] lv9_22 dL_law_292 s7 h0 (by omega) hk (by decide) rfl rfl ?_
  refine g_aload_n (pc := 295) C (hl := rfl) dL_law_295 ?_
  refine g_aload_n (pc := 296) C (hl := rfl) dL_law_296 ?_
  refine g_iload_n (pc := 297) C (hl := rfl) dL_law_297 ?_
  refine g_iconst (pc := 298) C qk_iconst_1 dL_law_298 ?_
  refine g_iaddN (pc := 299) C dL_law_299 ?_
  refine g_sld (pc := 300) C hX hb dL_law_300 ⟨by omega, hL⟩ ?_
  refine g_aload_n (pc := 301) C (hl := rfl) dL_law_301 ?_
  refine g_iload_n (pc := 302) C (hl := rfl) dL_law_302 ?_
  refine g_iconst (pc := 303) C qk_iconst_2 dL_law_303 ?_
  refine g_iaddN (pc := 304) C dL_law_304 ?_
  refine g_sld (pc := 305) C hX hb dL_law_305 ⟨by omega, hL⟩ ?_
  refine g_aload_n (pc := 306) C (hl := rfl) dL_law_306 ?_
  refine g_iload_n (pc := 307) C (hl := rfl) dL_law_307 ?_
  refine g_iconst (pc := 308) C qk_iconst_3 dL_law_308 ?_
  refine g_iaddN (pc := 309) C dL_law_309 ?_
  refine g_sld (pc := 310) C hX hb dL_law_310 ⟨by omega, hL⟩ ?_
  refine g_aload_n (pc := 311) C (hl := rfl) dL_law_311 ?_
  refine g_iload_n (pc := 312) C (hl := rfl) dL_law_312 ?_
  refine g_iconst (pc := 313) C qk_iconst_4 dL_law_313 ?_
  refine g_iaddN (pc := 314) C dL_law_314 ?_
  refine g_sld (pc := 315) C hX hb dL_law_315 ⟨by omega, hL⟩ ?_
  refine g_aload_n (pc := 316) C (hl := rfl) dL_law_316 ?_
  refine g_iload_n (pc := 317) C (hl := rfl) dL_law_317 ?_
  refine g_iconst (pc := 318) C qk_iconst_5 dL_law_318 ?_
  refine g_iaddN (pc := 319) C dL_law_319 ?_
  refine g_sld (pc := 320) C hX hb dL_law_320 ⟨by omega, hL⟩ ?_
  refine g_cVG (pc := 321) C (st := [.int r]) [.int (xs (i + 1)), .int (xs (i + 2)), .int (xs (i + 3)), .int (xs (i + 4)), .int (xs (i + 5))] lv9_26 dL_law_321 s8 hM (by omega) hk (Nat.le_of_ble_eq_true rfl) rfl rfl ?_
  exact g_ic_eq (pc := 324) C 1169 dL_law_324 (by decide) (fun _ => K h2 hr2) (fun q => absurd rfl q)
set_option maxRecDepth 20000 in
theorem ac_drop {Γ : q_X} {ad : Nat → Nat} {h : q_H} {b L i k1 k2 : Nat} {xs : Nat → Int32} (C : q_C Γ ad 12 600000 7302250 RL x cL_law 4 ret) (hX : q_XL Γ b L xs) (hb : ad 230 = b) (hL : L < 2 ^ 31) (hk : k1 ≤ 600000 ∧ k2 ≤ 7302250) (hi : i + 6 ≤ L) (hr : rel h) (K : ∀ h' : q_H, rel h' → q_G Γ ad 4 1169 [some (.ref 230), some (.ref 0), some (.ref 87), some (.int (nI i))] [] 96 h' k1 k2) : q_G Γ ad 4 329 [some (.ref 230), some (.ref 0), some (.ref 87), some (.int (nI i))] [] 96 h k1 k2 := by
  obtain ⟨d7, d8, r, h1, h2, ⟨⟨hd7, hd8⟩, fs, hM⟩, s7, s8, hr2⟩ := e_drop (n := 96) hr ((xs (i + 1)))
  obtain ⟨fs0, h0⟩ := rel_0 hr
  refine g_aload_n (pc := 329) C (hl := rfl) dL_law_329 ?_
  refine g_aload_n (pc := 330) C (hl := rfl) dL_law_330 ?_
  refine g_iload_n (pc := 331) C (hl := rfl) dL_law_331 ?_
  refine g_iconst (pc := 332) C qk_iconst_1 dL_law_332 ?_
  refine g_iaddN (pc := 333) C dL_law_333 ?_
  refine g_sld (pc := 334) C hX hb dL_law_334 ⟨by omega, hL⟩ ?_
  refine g_cVG (pc := 335) C (st := []) [.int (xs (i + 1))] lv9_27 dL_law_335 s7 h0 (by omega) hk (by decide) rfl rfl ?_
  refine g_aload_n (pc := 338) C (hl := rfl) dL_law_338 ?_
  refine g_aload_n (pc := 339) C (hl := rfl) dL_law_339 ?_
  refine g_iload_n (pc := 340) C (hl := rfl) dL_law_340 ?_
  refine g_iconst (pc := 341) C qk_iconst_1 dL_law_341 ?_
  refine g_iaddN (pc := 342) C dL_law_342 ?_
  refine g_sld (pc := 343) C hX hb dL_law_343 ⟨by omega, hL⟩ ?_
  refine g_cVG (pc := 344) C (st := [.int r]) [.int (xs (i + 1))] lv9_31 dL_law_344 s8 hM (by omega) hk (Nat.le_of_ble_eq_true rfl) rfl rfl ?_
  exact g_ic_eq (pc := 347) C 1169 dL_law_347 (by decide) (fun _ => K h2 hr2) (fun q => absurd rfl q)
set_option maxRecDepth 20000 in
theorem ac_feed {Γ : q_X} {ad : Nat → Nat} {h : q_H} {b L i k1 k2 : Nat} {xs : Nat → Int32} (C : q_C Γ ad 12 600000 7302250 RL x cL_law 4 ret) (hX : q_XL Γ b L xs) (hb : ad 230 = b) (hL : L < 2 ^ 31) (hk : k1 ≤ 600000 ∧ k2 ≤ 7302250) (hi : i + 6 ≤ L) (hr : rel h) (K : ∀ h' : q_H, rel h' → q_G Γ ad 4 1169 [some (.ref 230), some (.ref 0), some (.ref 87), some (.int (nI i))] [] 96 h' k1 k2) : q_G Γ ad 4 352 [some (.ref 230), some (.ref 0), some (.ref 87), some (.int (nI i))] [] 96 h k1 k2 := by
  obtain ⟨d7, d8, r, h1, h2, ⟨⟨hd7, hd8⟩, fs, hM⟩, s7, s8, hr2⟩ := e_feed (n := 96) hr (((((xs (i + 1))).toInt64 <<< ((nI 32).toInt64 &&& 63)) ||| (((xs (i + 2))).toInt64 &&& 4294967295))) ((xs (i + 3)))
  obtain ⟨fs0, h0⟩ := rel_0 hr
  refine g_aload_n (pc := 352) C (hl := rfl) dL_law_352 ?_
  refine g_aload_n (pc := 353) C (hl := rfl) dL_law_353 ?_
  refine g_iload_n (pc := 354) C (hl := rfl) dL_law_354 ?_
  refine g_iconst (pc := 355) C qk_iconst_1 dL_law_355 ?_
  refine g_iaddN (pc := 356) C dL_law_356 ?_
  refine g_sld (pc := 357) C hX hb dL_law_357 ⟨by omega, hL⟩ ?_
  refine g_i2l (pc := 358) C rfl dL_law_358 ?_
  refine g_bipush (pc := 359) C qk_bipush_32 dL_law_359 ?_
  refine g_lshl (pc := 361) C rfl dL_law_361 ?_
  refine g_aload_n (pc := 362) C (hl := rfl) dL_law_362 ?_
  refine g_iload_n (pc := 363) C (hl := rfl) dL_law_363 ?_
  refine g_iconst (pc := 364) C qk_iconst_2 dL_law_364 ?_
  refine g_iaddN (pc := 365) C dL_law_365 ?_
  refine g_sld (pc := 366) C hX hb dL_law_366 ⟨by omega, hL⟩ ?_
  refine g_i2l (pc := 367) C rfl dL_law_367 ?_
  refine g_ldc2 (pc := 368) C zk9_32 dL_law_368 ?_
  refine g_land (pc := 371) C dL_law_371 ?_
  refine g_lor (pc := 372) C dL_law_372 ?_
  refine g_aload_n (pc := 373) C (hl := rfl) dL_law_373 ?_
  refine g_iload_n (pc := 374) C (hl := rfl) dL_law_374 ?_
  refine g_iconst (pc := 375) C qk_iconst_3 dL_law_375 ?_
  refine g_iaddN (pc := 376) C dL_law_376 ?_
  refine g_sld (pc := 377) C hX hb dL_law_377 ⟨by omega, hL⟩ ?_
  refine g_cVG (pc := 378) C (st := []) [.long ((((xs (i + 1))).toInt64 <<< ((nI 32).toInt64 &&& 63)) ||| (((xs (i + 2))).toInt64 &&& 4294967295)), .int (xs (i + 3))] lv9_34 dL_law_378 s7 h0 (by omega) hk (by decide) rfl rfl ?_
  refine g_aload_n (pc := 381) C (hl := rfl) dL_law_381 ?_
  refine g_aload_n (pc := 382) C (hl := rfl) dL_law_382 ?_
  refine g_iload_n (pc := 383) C (hl := rfl) dL_law_383 ?_
  refine g_iconst (pc := 384) C qk_iconst_1 dL_law_384 ?_
  refine g_iaddN (pc := 385) C dL_law_385 ?_
  refine g_sld (pc := 386) C hX hb dL_law_386 ⟨by omega, hL⟩ ?_
  refine g_i2l (pc := 387) C rfl dL_law_387 ?_
  refine g_bipush (pc := 388) C qk_bipush_32 dL_law_388 ?_
  refine g_lshl (pc := 390) C rfl dL_law_390 ?_
  refine g_aload_n (pc := 391) C (hl := rfl) dL_law_391 ?_
  refine g_iload_n (pc := 392) C (hl := rfl) dL_law_392 ?_
  refine g_iconst (pc := 393) C qk_iconst_2 dL_law_393 ?_
  refine g_iaddN (pc := 394) C dL_law_394 ?_
  refine g_sld (pc := 395) C hX hb dL_law_395 ⟨by omega, hL⟩ ?_
  refine g_i2l (pc := 396) C rfl dL_law_396 ?_
  refine g_ldc2 (pc := 397) C zk9_32 dL_law_397 ?_
  refine g_land (pc := 400) C dL_law_400 ?_
  refine g_lor (pc := 401) C dL_law_401 ?_
  refine g_aload_n (pc := 402) C (hl := rfl) dL_law_402 ?_
  refine g_iload_n (pc := 403) C (hl := rfl) dL_law_403 ?_
  refine g_iconst (pc := 404) C qk_iconst_3 dL_law_404 ?_
  refine g_iaddN (pc := 405) C dL_law_405 ?_
  refine g_sld (pc := 406) C hX hb dL_law_406 ⟨by omega, hL⟩ ?_
  refine g_cVG (pc := 407) C (st := [.int r]) [.long ((((xs (i + 1))).toInt64 <<< ((nI 32).toInt64 &&& 63)) ||| (((xs (i + 2))).toInt64 &&& 4294967295)), .int (xs (i + 3))] lv9_38 dL_law_407 s8 hM (by omega) hk (Nat.le_of_ble_eq_true rfl) rfl rfl ?_
  exact g_ic_eq (pc := 410) C 1169 dL_law_410 (by decide) (fun _ => K h2 hr2) (fun q => absurd rfl q)
set_option maxRecDepth 20000 in
theorem ac_table {Γ : q_X} {ad : Nat → Nat} {h : q_H} {b L i k1 k2 : Nat} {xs : Nat → Int32} (C : q_C Γ ad 12 600000 7302250 RL x cL_law 4 ret) (hX : q_XL Γ b L xs) (hb : ad 230 = b) (hL : L < 2 ^ 31) (hk : k1 ≤ 600000 ∧ k2 ≤ 7302250) (hi : i + 6 ≤ L) (hr : rel h) (K : ∀ h' : q_H, rel h' → q_G Γ ad 4 1169 [some (.ref 230), some (.ref 0), some (.ref 87), some (.int (nI i))] [] 96 h' k1 k2) : q_G Γ ad 4 415 [some (.ref 230), some (.ref 0), some (.ref 87), some (.int (nI i))] [] 96 h k1 k2 := by
  obtain ⟨d7, d8, r, h1, h2, ⟨⟨hd7, hd8⟩, fs, hM⟩, s7, s8, hr2⟩ := e_table (n := 96) hr 
  obtain ⟨fs0, h0⟩ := rel_0 hr
  refine g_aload_n (pc := 415) C (hl := rfl) dL_law_415 ?_
  refine g_cVG (pc := 416) C (st := []) [] lv9_39 dL_law_416 s7 h0 (by omega) hk (by decide) rfl rfl ?_
  refine g_aload_n (pc := 419) C (hl := rfl) dL_law_419 ?_
  refine g_cVG (pc := 420) C (st := [.int r]) [] lv9_43 dL_law_420 s8 hM (by omega) hk (Nat.le_of_ble_eq_true rfl) rfl rfl ?_
  exact g_ic_eq (pc := 423) C 1169 dL_law_423 (by decide) (fun _ => K h2 hr2) (fun q => absurd rfl q)
set_option maxRecDepth 20000 in
theorem ac_fault {Γ : q_X} {ad : Nat → Nat} {h : q_H} {b L i k1 k2 : Nat} {xs : Nat → Int32} (C : q_C Γ ad 12 600000 7302250 RL x cL_law 4 ret) (hX : q_XL Γ b L xs) (hb : ad 230 = b) (hL : L < 2 ^ 31) (hk : k1 ≤ 600000 ∧ k2 ≤ 7302250) (hi : i + 6 ≤ L) (hr : rel h) (K : ∀ h' : q_H, rel h' → q_G Γ ad 4 1169 [some (.ref 230), some (.ref 0), some (.ref 87), some (.int (nI i))] [] 96 h' k1 k2) : q_G Γ ad 4 428 [some (.ref 230), some (.ref 0), some (.ref 87), some (.int (nI i))] [] 96 h k1 k2 := by
  obtain ⟨d7, d8, r, h1, h2, ⟨⟨hd7, hd8⟩, fs, hM⟩, s7, s8, hr2⟩ := e_fault (n := 96) hr 
  obtain ⟨fs0, h0⟩ := rel_0 hr
  refine g_aload_n (pc := 428) C (hl := rfl) dL_law_428 ?_
  refine g_cVG (pc := 429) C (st := []) [] lv9_44 dL_law_429 s7 h0 (by omega) hk (by decide) rfl rfl ?_
  refine g_aload_n (pc := 432) C (hl := rfl) dL_law_432 ?_
  refine g_cVG (pc := 433) C (st := [.int r]) [] lv9_47 dL_law_433 s8 hM (by omega) hk (Nat.le_of_ble_eq_true rfl) rfl rfl ?_
  exact g_ic_eq (pc := 436) C 1169 dL_law_436 (by decide) (fun _ => K h2 hr2) (fun q => absurd rfl q)
set_option maxRecDepth 20000 in
theorem ac_minutes {Γ : q_X} {ad : Nat → Nat} {h : q_H} {b L i k1 k2 : Nat} {xs : Nat → Int32} (C : q_C Γ ad 12 600000 7302250 RL x cL_law 4 ret) (hX : q_XL Γ b L xs) (hb : ad 230 = b) (hL : L < 2 ^ 31) (hk : k1 ≤ 600000 ∧ k2 ≤ 7302250) (hi : i + 6 ≤ L) (hr : rel h) (K : ∀ h' : q_H, rel h' → q_G Γ ad 4 1169 [some (.ref 230), some (.ref 0), some (.ref 87), some (.int (nI i))] [] 96 h' k1 k2) : q_G Γ ad 4 441 [some (.ref 230), some (.ref 0), some (.ref 87), some (.int (nI i))] [] 96 h k1 k2 := by
  obtain ⟨d7, d8, r, h1, h2, ⟨⟨hd7, hd8⟩, fs, hM⟩, s7, s8, hr2⟩ := e_minutes (n := 96) hr ((xs (i + 1)))
  obtain ⟨fs0, h0⟩ := rel_0 hr
  refine g_aload_n (pc := 441) C (hl := rfl) dL_law_441 ?_
  refine g_aload_n (pc := 442) C (hl := rfl) dL_law_442 ?_
  refine g_iload_n (pc := 443) C (hl := rfl) dL_law_443 ?_
  refine g_iconst (pc := 444) C qk_iconst_1 dL_law_444 ?_
  refine g_iaddN (pc := 445) C dL_law_445 ?_
  refine g_sld (pc := 446) C hX hb dL_law_446 ⟨by omega, hL⟩ ?_
  refine g_cVG (pc := 447) C (st := []) [.int (xs (i + 1))] lv9_48 dL_law_447 s7 h0 (by omega) hk (by decide) rfl rfl ?_
  refine g_aload_n (pc := 450) C (hl := rfl) dL_law_450 ?_
  refine g_aload_n (pc := 451) C (hl := rfl) dL_law_451 ?_
  refine g_iload_n (pc := 452) C (hl := rfl) dL_law_452 ?_
  refine g_iconst (pc := 453) C qk_iconst_1 dL_law_453 ?_
  refine g_iaddN (pc := 454) C dL_law_454 ?_
  refine g_sld (pc := 455) C hX hb dL_law_455 ⟨by omega, hL⟩ ?_
  refine g_cVG (pc := 456) C (st := [.int r]) [.int (xs (i + 1))] lv9_51 dL_law_456 s8 hM (by omega) hk (Nat.le_of_ble_eq_true rfl) rfl rfl ?_
  exact g_ic_eq (pc := 459) C 1169 dL_law_459 (by decide) (fun _ => K h2 hr2) (fun q => absurd rfl q)
set_option maxRecDepth 20000 in
theorem ac_turn {Γ : q_X} {ad : Nat → Nat} {h : q_H} {b L i k1 k2 : Nat} {xs : Nat → Int32} (C : q_C Γ ad 12 600000 7302250 RL x cL_law 4 ret) (hX : q_XL Γ b L xs) (hb : ad 230 = b) (hL : L < 2 ^ 31) (hk : k1 ≤ 600000 ∧ k2 ≤ 7302250) (hi : i + 6 ≤ L) (hr : rel h) (K : ∀ h' : q_H, rel h' → q_G Γ ad 4 1169 [some (.ref 230), some (.ref 0), some (.ref 87), some (.int (nI i))] [] 96 h' k1 k2) : q_G Γ ad 4 464 [some (.ref 230), some (.ref 0), some (.ref 87), some (.int (nI i))] [] 96 h k1 k2 := by
  obtain ⟨d7, d8, r, h1, h2, ⟨⟨hd7, hd8⟩, fs, hM⟩, s7, s8, hr2⟩ := e_turn (n := 96) hr ((xs (i + 1)))
  obtain ⟨fs0, h0⟩ := rel_0 hr
  refine g_aload_n (pc := 464) C (hl := rfl) dL_law_464 ?_
  refine g_aload_n (pc := 465) C (hl := rfl) dL_law_465 ?_
  refine g_iload_n (pc := 466) C (hl := rfl) dL_law_466 ?_
  refine g_iconst (pc := 467) C qk_iconst_1 dL_law_467 ?_
  refine g_iaddN (pc := 468) C dL_law_468 ?_
  refine g_sld (pc := 469) C hX hb dL_law_469 ⟨by omega, hL⟩ ?_
  refine g_cVG (pc := 470) C (st := []) [.int (xs (i + 1))] lv9_52 dL_law_470 s7 h0 (by omega) hk (by decide) rfl rfl ?_
  refine g_aload_n (pc := 473) C (hl := rfl) dL_law_473 ?_
  refine g_aload_n (pc := 474) C (hl := rfl) dL_law_474 ?_
  refine g_iload_n (pc := 475) C (hl := rfl) dL_law_475 ?_
  refine g_iconst (pc := 476) C qk_iconst_1 dL_law_476 ?_
  refine g_iaddN (pc := 477) C dL_law_477 ?_
  refine g_sld (pc := 478) C hX hb dL_law_478 ⟨by omega, hL⟩ ?_
  refine g_cVG (pc := 479) C (st := [.int r]) [.int (xs (i + 1))] lv9_55 dL_law_479 s8 hM (by omega) hk (Nat.le_of_ble_eq_true rfl) rfl rfl ?_
  exact g_ic_eq (pc := 482) C 1169 dL_law_482 (by decide) (fun _ => K h2 hr2) (fun q => absurd rfl q)
set_option maxRecDepth 20000 in
theorem ac_fill {Γ : q_X} {ad : Nat → Nat} {h : q_H} {b L i k1 k2 : Nat} {xs : Nat → Int32} (C : q_C Γ ad 12 600000 7302250 RL x cL_law 4 ret) (hX : q_XL Γ b L xs) (hb : ad 230 = b) (hL : L < 2 ^ 31) (hk : k1 ≤ 600000 ∧ k2 ≤ 7302250) (hi : i + 6 ≤ L) (hr : rel h) (K : ∀ h' : q_H, rel h' → q_G Γ ad 4 1169 [some (.ref 230), some (.ref 0), some (.ref 87), some (.int (nI i))] [] 96 h' k1 k2) : q_G Γ ad 4 487 [some (.ref 230), some (.ref 0), some (.ref 87), some (.int (nI i))] [] 96 h k1 k2 := by
  obtain ⟨d7, d8, r, h1, h2, ⟨⟨hd7, hd8⟩, fs, hM⟩, s7, s8, hr2⟩ := e_fill (n := 96) hr ((xs (i + 1))) ((xs (i + 2)))
  obtain ⟨fs0, h0⟩ := rel_0 hr
  refine g_aload_n (pc := 487) C (hl := rfl) dL_law_487 ?_
  refine g_aload_n (pc := 488) C (hl := rfl) dL_law_488 ?_
  refine g_iload_n (pc := 489) C (hl := rfl) dL_law_489 ?_
  refine g_iconst (pc := 490) C qk_iconst_1 dL_law_490 ?_
  refine g_iaddN (pc := 491) C dL_law_491 ?_
  refine g_sld (pc := 492) C hX hb dL_law_492 ⟨by omega, hL⟩ ?_
  refine g_aload_n (pc := 493) C (hl := rfl) dL_law_493 ?_
  refine g_iload_n (pc := 494) C (hl := rfl) dL_law_494 ?_
  refine g_iconst (pc := 495) C qk_iconst_2 dL_law_495 ?_
  refine g_iaddN (pc := 496) C dL_law_496 ?_
  refine g_sld (pc := 497) C hX hb dL_law_497 ⟨by omega, hL⟩ ?_
  refine g_cVG (pc := 498) C (st := []) [.int (xs (i + 1)), .int (xs (i + 2))] lv9_56 dL_law_498 s7 h0 (by omega) hk (by decide) rfl rfl ?_
  refine g_aload_n (pc := 501) C (hl := rfl) dL_law_501 ?_
  refine g_aload_n (pc := 502) C (hl := rfl) dL_law_502 ?_
  refine g_iload_n (pc := 503) C (hl := rfl) dL_law_503 ?_
  refine g_iconst (pc := 504) C qk_iconst_1 dL_law_504 ?_
  refine g_iaddN (pc := 505) C dL_law_505 ?_
  refine g_sld (pc := 506) C hX hb dL_law_506 ⟨by omega, hL⟩ ?_
  refine g_aload_n (pc := 507) C (hl := rfl) dL_law_507 ?_
  refine g_iload_n (pc := 508) C (hl := rfl) dL_law_508 ?_
  refine g_iconst (pc := 509) C qk_iconst_2 dL_law_509 ?_
  refine g_iaddN (pc := 510) C dL_law_510 ?_
  refine g_sld (pc := 511) C hX hb dL_law_511 ⟨by omega, hL⟩ ?_
  refine g_cVG (pc := 512) C (st := [.int r]) [.int (xs (i + 1)), .int (xs (i + 2))] lv9_60 dL_law_512 s8 hM (by omega) hk (Nat.le_of_ble_eq_true rfl) rfl rfl ?_
  exact g_ic_eq (pc := 515) C 1169 dL_law_515 (by decide) (fun _ => K h2 hr2) (fun q => absurd rfl q)
set_option maxRecDepth 20000 in
theorem ac_change {Γ : q_X} {ad : Nat → Nat} {h : q_H} {b L i k1 k2 : Nat} {xs : Nat → Int32} (C : q_C Γ ad 12 600000 7302250 RL x cL_law 4 ret) (hX : q_XL Γ b L xs) (hb : ad 230 = b) (hL : L < 2 ^ 31) (hk : k1 ≤ 600000 ∧ k2 ≤ 7302250) (hi : i + 6 ≤ L) (hr : rel h) (K : ∀ h' : q_H, rel h' → q_G Γ ad 4 1169 [some (.ref 230), some (.ref 0), some (.ref 87), some (.int (nI i))] [] 96 h' k1 k2) : q_G Γ ad 4 520 [some (.ref 230), some (.ref 0), some (.ref 87), some (.int (nI i))] [] 96 h k1 k2 := by
  obtain ⟨d7, d8, r, h1, h2, ⟨⟨hd7, hd8⟩, fs, hM⟩, s7, s8, hr2⟩ := e_change (n := 96) hr ((xs (i + 1))) ((xs (i + 2)))
  obtain ⟨fs0, h0⟩ := rel_0 hr
  refine g_aload_n (pc := 520) C (hl := rfl) dL_law_520 ?_
  refine g_aload_n (pc := 521) C (hl := rfl) dL_law_521 ?_
  refine g_iload_n (pc := 522) C (hl := rfl) dL_law_522 ?_
  refine g_iconst (pc := 523) C qk_iconst_1 dL_law_523 ?_
  refine g_iaddN (pc := 524) C dL_law_524 ?_
  refine g_sld (pc := 525) C hX hb dL_law_525 ⟨by omega, hL⟩ ?_
  refine g_aload_n (pc := 526) C (hl := rfl) dL_law_526 ?_
  refine g_iload_n (pc := 527) C (hl := rfl) dL_law_527 ?_
  refine g_iconst (pc := 528) C qk_iconst_2 dL_law_528 ?_
  refine g_iaddN (pc := 529) C dL_law_529 ?_
  refine g_sld (pc := 530) C hX hb dL_law_530 ⟨by omega, hL⟩ ?_
  refine g_cVG (pc := 531) C (st := []) [.int (xs (i + 1)), .int (xs (i + 2))] lv9_61 dL_law_531 s7 h0 (by omega) hk (by decide) rfl rfl ?_
  refine g_aload_n (pc := 534) C (hl := rfl) dL_law_534 ?_
  refine g_aload_n (pc := 535) C (hl := rfl) dL_law_535 ?_
  refine g_iload_n (pc := 536) C (hl := rfl) dL_law_536 ?_
  refine g_iconst (pc := 537) C qk_iconst_1 dL_law_537 ?_
  refine g_iaddN (pc := 538) C dL_law_538 ?_
  refine g_sld (pc := 539) C hX hb dL_law_539 ⟨by omega, hL⟩ ?_
  refine g_aload_n (pc := 540) C (hl := rfl) dL_law_540 ?_
  refine g_iload_n (pc := 541) C (hl := rfl) dL_law_541 ?_
  refine g_iconst (pc := 542) C qk_iconst_2 dL_law_542 ?_
  refine g_iaddN (pc := 543) C dL_law_543 ?_
  refine g_sld (pc := 544) C hX hb dL_law_544 ⟨by omega, hL⟩ ?_
  refine g_cVG (pc := 545) C (st := [.int r]) [.int (xs (i + 1)), .int (xs (i + 2))] lv9_64 dL_law_545 s8 hM (by omega) hk (Nat.le_of_ble_eq_true rfl) rfl rfl ?_
  exact g_ic_eq (pc := 548) C 1169 dL_law_548 (by decide) (fun _ => K h2 hr2) (fun q => absurd rfl q)
set_option maxRecDepth 20000 in
theorem ac_lay {Γ : q_X} {ad : Nat → Nat} {h : q_H} {b L i k1 k2 : Nat} {xs : Nat → Int32} (C : q_C Γ ad 12 600000 7302250 RL x cL_law 4 ret) (hX : q_XL Γ b L xs) (hb : ad 230 = b) (hL : L < 2 ^ 31) (hk : k1 ≤ 600000 ∧ k2 ≤ 7302250) (hi : i + 6 ≤ L) (hr : rel h) (K : ∀ h' : q_H, rel h' → q_G Γ ad 4 1169 [some (.ref 230), some (.ref 0), some (.ref 87), some (.int (nI i))] [] 96 h' k1 k2) : q_G Γ ad 4 553 [some (.ref 230), some (.ref 0), some (.ref 87), some (.int (nI i))] [] 96 h k1 k2 := by
  obtain ⟨d7, d8, r, h1, h2, ⟨⟨hd7, hd8⟩, fs, hM⟩, s7, s8, hr2⟩ := e_lay (n := 96) hr ((xs (i + 1))) ((xs (i + 2)))
  obtain ⟨fs0, h0⟩ := rel_0 hr
  refine g_aload_n (pc := 553) C (hl := rfl) dL_law_553 ?_
  refine g_aload_n (pc := 554) C (hl := rfl) dL_law_554 ?_
  refine g_iload_n (pc := 555) C (hl := rfl) dL_law_555 ?_
  refine g_iconst (pc := 556) C qk_iconst_1 dL_law_556 ?_
  refine g_iaddN (pc := 557) C dL_law_557 ?_
  refine g_sld (pc := 558) C hX hb dL_law_558 ⟨by omega, hL⟩ ?_
  refine g_aload_n (pc := 559) C (hl := rfl) dL_law_559 ?_
  refine g_iload_n (pc := 560) C (hl := rfl) dL_law_560 ?_
  refine g_iconst (pc := 561) C qk_iconst_2 dL_law_561 ?_
  refine g_iaddN (pc := 562) C dL_law_562 ?_
  refine g_sld (pc := 563) C hX hb dL_law_563 ⟨by omega, hL⟩ ?_
  refine g_cVG (pc := 564) C (st := []) [.int (xs (i + 1)), .int (xs (i + 2))] lv9_65 dL_law_564 s7 h0 (by omega) hk (by decide) rfl rfl ?_
  refine g_aload_n (pc := 567) C (hl := rfl) dL_law_567 ?_
  refine g_aload_n (pc := 568) C (hl := rfl) dL_law_568 ?_
  refine g_iload_n (pc := 569) C (hl := rfl) dL_law_569 ?_
  refine g_iconst (pc := 570) C qk_iconst_1 dL_law_570 ?_
  refine g_iaddN (pc := 571) C dL_law_571 ?_
  refine g_sld (pc := 572) C hX hb dL_law_572 ⟨by omega, hL⟩ ?_
  refine g_aload_n (pc := 573) C (hl := rfl) dL_law_573 ?_
  refine g_iload_n (pc := 574) C (hl := rfl) dL_law_574 ?_
  refine g_iconst (pc := 575) C qk_iconst_2 dL_law_575 ?_
  refine g_iaddN (pc := 576) C dL_law_576 ?_
  refine g_sld (pc := 577) C hX hb dL_law_577 ⟨by omega, hL⟩ ?_
  refine g_cVG (pc := 578) C (st := [.int r]) [.int (xs (i + 1)), .int (xs (i + 2))] lv9_68 dL_law_578 s8 hM (by omega) hk (Nat.le_of_ble_eq_true rfl) rfl rfl ?_
  exact g_ic_eq (pc := 581) C 1169 dL_law_581 (by decide) (fun _ => K h2 hr2) (fun q => absurd rfl q)
set_option maxRecDepth 20000 in
theorem ac_undo {Γ : q_X} {ad : Nat → Nat} {h : q_H} {b L i k1 k2 : Nat} {xs : Nat → Int32} (C : q_C Γ ad 12 600000 7302250 RL x cL_law 4 ret) (hX : q_XL Γ b L xs) (hb : ad 230 = b) (hL : L < 2 ^ 31) (hk : k1 ≤ 600000 ∧ k2 ≤ 7302250) (hi : i + 6 ≤ L) (hr : rel h) (K : ∀ h' : q_H, rel h' → q_G Γ ad 4 1169 [some (.ref 230), some (.ref 0), some (.ref 87), some (.int (nI i))] [] 96 h' k1 k2) : q_G Γ ad 4 586 [some (.ref 230), some (.ref 0), some (.ref 87), some (.int (nI i))] [] 96 h k1 k2 := by
  obtain ⟨d7, d8, r, h1, h2, ⟨⟨hd7, hd8⟩, fs, hM⟩, s7, s8, hr2⟩ := e_undo (n := 96) hr 
  obtain ⟨fs0, h0⟩ := rel_0 hr
  refine g_aload_n (pc := 586) C (hl := rfl) dL_law_586 ?_
  refine g_cVG (pc := 587) C (st := []) [] lv9_69 dL_law_587 s7 h0 (by omega) hk (by decide) rfl rfl ?_
  refine g_aload_n (pc := 590) C (hl := rfl) dL_law_590 ?_
  refine g_cVG (pc := 591) C (st := [.int r]) [] lv9_72 dL_law_591 s8 hM (by omega) hk (Nat.le_of_ble_eq_true rfl) rfl rfl ?_
  exact g_ic_eq (pc := 594) C 1169 dL_law_594 (by decide) (fun _ => K h2 hr2) (fun q => absurd rfl q)
set_option maxRecDepth 20000 in
theorem ac_guest {Γ : q_X} {ad : Nat → Nat} {h : q_H} {b L i k1 k2 : Nat} {xs : Nat → Int32} (C : q_C Γ ad 12 600000 7302250 RL x cL_law 4 ret) (hX : q_XL Γ b L xs) (hb : ad 230 = b) (hL : L < 2 ^ 31) (hk : k1 ≤ 600000 ∧ k2 ≤ 7302250) (hi : i + 6 ≤ L) (hr : rel h) (K : ∀ h' : q_H, rel h' → q_G Γ ad 4 1169 [some (.ref 230), some (.ref 0), some (.ref 87), some (.int (nI i))] [] 96 h' k1 k2) : q_G Γ ad 4 599 [some (.ref 230), some (.ref 0), some (.ref 87), some (.int (nI i))] [] 96 h k1 k2 := by
  obtain ⟨d7, d8, r, h1, h2, ⟨⟨hd7, hd8⟩, fs, hM⟩, s7, s8, hr2⟩ := e_guest (n := 96) hr ((xs (i + 1))) ((xs (i + 2)))
  obtain ⟨fs0, h0⟩ := rel_0 hr
  refine g_aload_n (pc := 599) C (hl := rfl) dL_law_599 ?_
  refine g_aload_n (pc := 600) C (hl := rfl) dL_law_600 ?_
  refine g_iload_n (pc := 601) C (hl := rfl) dL_law_601 ?_
  refine g_iconst (pc := 602) C qk_iconst_1 dL_law_602 ?_
  refine g_iaddN (pc := 603) C dL_law_603 ?_
  refine g_sld (pc := 604) C hX hb dL_law_604 ⟨by omega, hL⟩ ?_
  refine g_aload_n (pc := 605) C (hl := rfl) dL_law_605 ?_
  refine g_iload_n (pc := 606) C (hl := rfl) dL_law_606 ?_
  refine g_iconst (pc := 607) C qk_iconst_2 dL_law_607 ?_
  refine g_iaddN (pc := 608) C dL_law_608 ?_
  refine g_sld (pc := 609) C hX hb dL_law_609 ⟨by omega, hL⟩ ?_
  refine g_cVG (pc := 610) C (st := []) [.int (xs (i + 1)), .int (xs (i + 2))] lv9_73 dL_law_610 s7 h0 (by omega) hk (by decide) rfl rfl ?_
  refine g_aload_n (pc := 613) C (hl := rfl) dL_law_613 ?_
  refine g_aload_n (pc := 614) C (hl := rfl) dL_law_614 ?_
  refine g_iload_n (pc := 615) C (hl := rfl) dL_law_615 ?_
  refine g_iconst (pc := 616) C qk_iconst_1 dL_law_616 ?_
  refine g_iaddN (pc := 617) C dL_law_617 ?_
  refine g_sld (pc := 618) C hX hb dL_law_618 ⟨by omega, hL⟩ ?_
  refine g_aload_n (pc := 619) C (hl := rfl) dL_law_619 ?_
  refine g_iload_n (pc := 620) C (hl := rfl) dL_law_620 ?_
  refine g_iconst (pc := 621) C qk_iconst_2 dL_law_621 ?_
  refine g_iaddN (pc := 622) C dL_law_622 ?_
  refine g_sld (pc := 623) C hX hb dL_law_623 ⟨by omega, hL⟩ ?_
  refine g_cVG (pc := 624) C (st := [.int r]) [.int (xs (i + 1)), .int (xs (i + 2))] lv9_76 dL_law_624 s8 hM (by omega) hk (Nat.le_of_ble_eq_true rfl) rfl rfl ?_
  exact g_ic_eq (pc := 627) C 1169 dL_law_627 (by decide) (fun _ => K h2 hr2) (fun q => absurd rfl q)
set_option maxRecDepth 20000 in
theorem ac_dish {Γ : q_X} {ad : Nat → Nat} {h : q_H} {b L i k1 k2 : Nat} {xs : Nat → Int32} (C : q_C Γ ad 12 600000 7302250 RL x cL_law 4 ret) (hX : q_XL Γ b L xs) (hb : ad 230 = b) (hL : L < 2 ^ 31) (hk : k1 ≤ 600000 ∧ k2 ≤ 7302250) (hi : i + 6 ≤ L) (hr : rel h) (K : ∀ h' : q_H, rel h' → q_G Γ ad 4 1169 [some (.ref 230), some (.ref 0), some (.ref 87), some (.int (nI i))] [] 96 h' k1 k2) : q_G Γ ad 4 632 [some (.ref 230), some (.ref 0), some (.ref 87), some (.int (nI i))] [] 96 h k1 k2 := by
  obtain ⟨d7, d8, r, h1, h2, ⟨⟨hd7, hd8⟩, fs, hM⟩, s7, s8, hr2⟩ := e_dish (n := 96) hr ((xs (i + 1))) ((xs (i + 2)))
  obtain ⟨fs0, h0⟩ := rel_0 hr
  refine g_aload_n (pc := 632) C (hl := rfl) dL_law_632 ?_
  refine g_aload_n (pc := 633) C (hl := rfl) dL_law_633 ?_
  refine g_iload_n (pc := 634) C (hl := rfl) dL_law_634 ?_
  refine g_iconst (pc := 635) C qk_iconst_1 dL_law_635 ?_
  refine g_iaddN (pc := 636) C dL_law_636 ?_
  refine g_sld (pc := 637) C hX hb dL_law_637 ⟨by omega, hL⟩ ?_
  refine g_aload_n (pc := 638) C (hl := rfl) dL_law_638 ?_
  refine g_iload_n (pc := 639) C (hl := rfl) dL_law_639 ?_
  refine g_iconst (pc := 640) C qk_iconst_2 dL_law_640 ?_
  refine g_iaddN (pc := 641) C dL_law_641 ?_
  refine g_sld (pc := 642) C hX hb dL_law_642 ⟨by omega, hL⟩ ?_
  refine g_cVG (pc := 643) C (st := []) [.int (xs (i + 1)), .int (xs (i + 2))] lv9_77 dL_law_643 s7 h0 (by omega) hk (by decide) rfl rfl ?_
  refine g_aload_n (pc := 646) C (hl := rfl) dL_law_646 ?_
  refine g_aload_n (pc := 647) C (hl := rfl) dL_law_647 ?_
  refine g_iload_n (pc := 648) C (hl := rfl) dL_law_648 ?_
  refine g_iconst (pc := 649) C qk_iconst_1 dL_law_649 ?_
  refine g_iaddN (pc := 650) C dL_law_650 ?_
  refine g_sld (pc := 651) C hX hb dL_law_651 ⟨by omega, hL⟩ ?_
  refine g_aload_n (pc := 652) C (hl := rfl) dL_law_652 ?_
  refine g_iload_n (pc := 653) C (hl := rfl) dL_law_653 ?_
  refine g_iconst (pc := 654) C qk_iconst_2 dL_law_654 ?_
  refine g_iaddN (pc := 655) C dL_law_655 ?_
  refine g_sld (pc := 656) C hX hb dL_law_656 ⟨by omega, hL⟩ ?_
  refine g_cVG (pc := 657) C (st := [.int r]) [.int (xs (i + 1)), .int (xs (i + 2))] lv9_80 dL_law_657 s8 hM (by omega) hk (Nat.le_of_ble_eq_true rfl) rfl rfl ?_
  exact g_ic_eq (pc := 660) C 1169 dL_law_660 (by decide) (fun _ => K h2 hr2) (fun q => absurd rfl q)
set_option maxRecDepth 20000 in
theorem ac_ahead {Γ : q_X} {ad : Nat → Nat} {h : q_H} {b L i k1 k2 : Nat} {xs : Nat → Int32} (C : q_C Γ ad 12 600000 7302250 RL x cL_law 4 ret) (hX : q_XL Γ b L xs) (hb : ad 230 = b) (hL : L < 2 ^ 31) (hk : k1 ≤ 600000 ∧ k2 ≤ 7302250) (hi : i + 6 ≤ L) (hr : rel h) (K : ∀ h' : q_H, rel h' → q_G Γ ad 4 1169 [some (.ref 230), some (.ref 0), some (.ref 87), some (.int (nI i))] [] 96 h' k1 k2) : q_G Γ ad 4 665 [some (.ref 230), some (.ref 0), some (.ref 87), some (.int (nI i))] [] 96 h k1 k2 := by
  obtain ⟨d7, d8, r, h1, h2, ⟨⟨hd7, hd8⟩, fs, hM⟩, s7, s8, hr2⟩ := e_ahead (n := 96) hr ((xs (i + 1))) ((xs (i + 2)))
  obtain ⟨fs0, h0⟩ := rel_0 hr
  refine g_aload_n (pc := 665) C (hl := rfl) dL_law_665 ?_
  refine g_aload_n (pc := 666) C (hl := rfl) dL_law_666 ?_
  refine g_iload_n (pc := 667) C (hl := rfl) dL_law_667 ?_
  refine g_iconst (pc := 668) C qk_iconst_1 dL_law_668 ?_
  refine g_iaddN (pc := 669) C dL_law_669 ?_
  refine g_sld (pc := 670) C hX hb dL_law_670 ⟨by omega, hL⟩ ?_
  refine g_aload_n (pc := 671) C (hl := rfl) dL_law_671 ?_
  refine g_iload_n (pc := 672) C (hl := rfl) dL_law_672 ?_
  refine g_iconst (pc := 673) C qk_iconst_2 dL_law_673 ?_
  refine g_iaddN (pc := 674) C dL_law_674 ?_
  refine g_sld (pc := 675) C hX hb dL_law_675 ⟨by omega, hL⟩ ?_
  refine g_cVG (pc := 676) C (st := []) [.int (xs (i + 1)), .int (xs (i + 2))] lv9_81 dL_law_676 s7 h0 (by omega) hk (by decide) rfl rfl ?_
  refine g_aload_n (pc := 679) C (hl := rfl) dL_law_679 ?_
  refine g_aload_n (pc := 680) C (hl := rfl) dL_law_680 ?_
  refine g_iload_n (pc := 681) C (hl := rfl) dL_law_681 ?_
  refine g_iconst (pc := 682) C qk_iconst_1 dL_law_682 ?_
  refine g_iaddN (pc := 683) C dL_law_683 ?_
  refine g_sld (pc := 684) C hX hb dL_law_684 ⟨by omega, hL⟩ ?_
  refine g_aload_n (pc := 685) C (hl := rfl) dL_law_685 ?_
  refine g_iload_n (pc := 686) C (hl := rfl) dL_law_686 ?_
  refine g_iconst (pc := 687) C qk_iconst_2 dL_law_687 ?_
  refine g_iaddN (pc := 688) C dL_law_688 ?_
  refine g_sld (pc := 689) C hX hb dL_law_689 ⟨by omega, hL⟩ ?_
  refine g_cVG (pc := 690) C (st := [.int r]) [.int (xs (i + 1)), .int (xs (i + 2))] lv9_84 dL_law_690 s8 hM (by omega) hk (Nat.le_of_ble_eq_true rfl) rfl rfl ?_
  exact g_ic_eq (pc := 693) C 1169 dL_law_693 (by decide) (fun _ => K h2 hr2) (fun q => absurd rfl q)
set_option maxRecDepth 20000 in
theorem ac_dishAhead {Γ : q_X} {ad : Nat → Nat} {h : q_H} {b L i k1 k2 : Nat} {xs : Nat → Int32} (C : q_C Γ ad 12 600000 7302250 RL x cL_law 4 ret) (hX : q_XL Γ b L xs) (hb : ad 230 = b) (hL : L < 2 ^ 31) (hk : k1 ≤ 600000 ∧ k2 ≤ 7302250) (hi : i + 6 ≤ L) (hr : rel h) (K : ∀ h' : q_H, rel h' → q_G Γ ad 4 1169 [some (.ref 230), some (.ref 0), some (.ref 87), some (.int (nI i))] [] 96 h' k1 k2) : q_G Γ ad 4 698 [some (.ref 230), some (.ref 0), some (.ref 87), some (.int (nI i))] [] 96 h k1 k2 := by
  obtain ⟨d7, d8, r, h1, h2, ⟨⟨hd7, hd8⟩, fs, hM⟩, s7, s8, hr2⟩ := e_dishAhead (n := 96) hr ((xs (i + 1))) ((xs (i + 2)))
  obtain ⟨fs0, h0⟩ := rel_0 hr
  refine g_aload_n (pc := 698) C (hl := rfl) dL_law_698 ?_
  refine g_aload_n (pc := 699) C (hl := rfl) dL_law_699 ?_
  refine g_iload_n (pc := 700) C (hl := rfl) dL_law_700 ?_
  refine g_iconst (pc := 701) C qk_iconst_1 dL_law_701 ?_
  refine g_iaddN (pc := 702) C dL_law_702 ?_
  refine g_sld (pc := 703) C hX hb dL_law_703 ⟨by omega, hL⟩ ?_
  refine g_aload_n (pc := 704) C (hl := rfl) dL_law_704 ?_
  refine g_iload_n (pc := 705) C (hl := rfl) dL_law_705 ?_
  refine g_iconst (pc := 706) C qk_iconst_2 dL_law_706 ?_
  refine g_iaddN (pc := 707) C dL_law_707 ?_
  refine g_sld (pc := 708) C hX hb dL_law_708 ⟨by omega, hL⟩ ?_
  refine g_cVG (pc := 709) C (st := []) [.int (xs (i + 1)), .int (xs (i + 2))] lv9_85 dL_law_709 s7 h0 (by omega) hk (by decide) rfl rfl ?_
  refine g_aload_n (pc := 712) C (hl := rfl) dL_law_712 ?_
  refine g_aload_n (pc := 713) C (hl := rfl) dL_law_713 ?_
  refine g_iload_n (pc := 714) C (hl := rfl) dL_law_714 ?_
  refine g_iconst (pc := 715) C qk_iconst_1 dL_law_715 ?_
  refine g_iaddN (pc := 716) C dL_law_716 ?_
  refine g_sld (pc := 717) C hX hb dL_law_717 ⟨by omega, hL⟩ ?_
  refine g_aload_n (pc := 718) C (hl := rfl) dL_law_718 ?_
  refine g_iload_n (pc := 719) C (hl := rfl) dL_law_719 ?_
  refine g_iconst (pc := 720) C qk_iconst_2 dL_law_720 ?_
  refine g_iaddN (pc := 721) C dL_law_721 ?_
  refine g_sld (pc := 722) C hX hb dL_law_722 ⟨by omega, hL⟩ ?_
  refine g_cVG (pc := 723) C (st := [.int r]) [.int (xs (i + 1)), .int (xs (i + 2))] lv9_88 dL_law_723 s8 hM (by omega) hk (Nat.le_of_ble_eq_true rfl) rfl rfl ?_
  exact g_ic_eq (pc := 726) C 1169 dL_law_726 (by decide) (fun _ => K h2 hr2) (fun q => absurd rfl q)
set_option maxRecDepth 20000 in
theorem ac_guestAhead {Γ : q_X} {ad : Nat → Nat} {h : q_H} {b L i k1 k2 : Nat} {xs : Nat → Int32} (C : q_C Γ ad 12 600000 7302250 RL x cL_law 4 ret) (hX : q_XL Γ b L xs) (hb : ad 230 = b) (hL : L < 2 ^ 31) (hk : k1 ≤ 600000 ∧ k2 ≤ 7302250) (hi : i + 6 ≤ L) (hr : rel h) (K : ∀ h' : q_H, rel h' → q_G Γ ad 4 1169 [some (.ref 230), some (.ref 0), some (.ref 87), some (.int (nI i))] [] 96 h' k1 k2) : q_G Γ ad 4 731 [some (.ref 230), some (.ref 0), some (.ref 87), some (.int (nI i))] [] 96 h k1 k2 := by
  obtain ⟨d7, d8, r, h1, h2, ⟨⟨hd7, hd8⟩, fs, hM⟩, s7, s8, hr2⟩ := e_guestAhead (n := 96) hr ((xs (i + 1))) ((xs (i + 2)))
  obtain ⟨fs0, h0⟩ := rel_0 hr
  refine g_aload_n (pc := 731) C (hl := rfl) dL_law_731 ?_
  refine g_aload_n (pc := 732) C (hl := rfl) dL_law_732 ?_
  refine g_iload_n (pc := 733) C (hl := rfl) dL_law_733 ?_
  refine g_iconst (pc := 734) C qk_iconst_1 dL_law_734 ?_
  refine g_iaddN (pc := 735) C dL_law_735 ?_
  refine g_sld (pc := 736) C hX hb dL_law_736 ⟨by omega, hL⟩ ?_
  refine g_aload_n (pc := 737) C (hl := rfl) dL_law_737 ?_
  refine g_iload_n (pc := 738) C (hl := rfl) dL_law_738 ?_
  refine g_iconst (pc := 739) C qk_iconst_2 dL_law_739 ?_
  refine g_iaddN (pc := 740) C dL_law_740 ?_
  refine g_sld (pc := 741) C hX hb dL_law_741 ⟨by omega, hL⟩ ?_
  refine g_cVG (pc := 742) C (st := []) [.int (xs (i + 1)), .int (xs (i + 2))] lv9_89 dL_law_742 s7 h0 (by omega) hk (by decide) rfl rfl ?_
  refine g_aload_n (pc := 745) C (hl := rfl) dL_law_745 ?_
  refine g_aload_n (pc := 746) C (hl := rfl) dL_law_746 ?_
  refine g_iload_n (pc := 747) C (hl := rfl) dL_law_747 ?_
  refine g_iconst (pc := 748) C qk_iconst_1 dL_law_748 ?_
  refine g_iaddN (pc := 749) C dL_law_749 ?_
  refine g_sld (pc := 750) C hX hb dL_law_750 ⟨by omega, hL⟩ ?_
  refine g_aload_n (pc := 751) C (hl := rfl) dL_law_751 ?_
  refine g_iload_n (pc := 752) C (hl := rfl) dL_law_752 ?_
  refine g_iconst (pc := 753) C qk_iconst_2 dL_law_753 ?_
  refine g_iaddN (pc := 754) C dL_law_754 ?_
  refine g_sld (pc := 755) C hX hb dL_law_755 ⟨by omega, hL⟩ ?_
  refine g_cVG (pc := 756) C (st := [.int r]) [.int (xs (i + 1)), .int (xs (i + 2))] lv9_92 dL_law_756 s8 hM (by omega) hk (Nat.le_of_ble_eq_true rfl) rfl rfl ?_
  exact g_ic_eq (pc := 759) C 1169 dL_law_759 (by decide) (fun _ => K h2 hr2) (fun q => absurd rfl q)
set_option maxRecDepth 20000 in
theorem ac_last {Γ : q_X} {ad : Nat → Nat} {h : q_H} {b L i k1 k2 : Nat} {xs : Nat → Int32} (C : q_C Γ ad 12 600000 7302250 RL x cL_law 4 ret) (hX : q_XL Γ b L xs) (hb : ad 230 = b) (hL : L < 2 ^ 31) (hk : k1 ≤ 600000 ∧ k2 ≤ 7302250) (hi : i + 6 ≤ L) (hr : rel h) (K : ∀ h' : q_H, rel h' → q_G Γ ad 4 1169 [some (.ref 230), some (.ref 0), some (.ref 87), some (.int (nI i))] [] 96 h' k1 k2) : q_G Γ ad 4 764 [some (.ref 230), some (.ref 0), some (.ref 87), some (.int (nI i))] [] 96 h k1 k2 := by
  obtain ⟨d7, d8, r, h1, h2, ⟨⟨hd7, hd8⟩, fs, hM⟩, s7, s8, hr2⟩ := e_last (n := 96) hr ((xs (i + 1))) ((xs (i + 2)))
  obtain ⟨fs0, h0⟩ := rel_0 hr
  refine g_aload_n (pc := 764) C (hl := rfl) dL_law_764 ?_
  refine g_aload_n (pc := 765) C (hl := rfl) dL_law_765 ?_
  refine g_iload_n (pc := 766) C (hl := rfl) dL_law_766 ?_
  refine g_iconst (pc := 767) C qk_iconst_1 dL_law_767 ?_
  refine g_iaddN (pc := 768) C dL_law_768 ?_
  refine g_sld (pc := 769) C hX hb dL_law_769 ⟨by omega, hL⟩ ?_
  refine g_aload_n (pc := 770) C (hl := rfl) dL_law_770 ?_
  refine g_iload_n (pc := 771) C (hl := rfl) dL_law_771 ?_
  refine g_iconst (pc := 772) C qk_iconst_2 dL_law_772 ?_
  refine g_iaddN (pc := 773) C dL_law_773 ?_
  refine g_sld (pc := 774) C hX hb dL_law_774 ⟨by omega, hL⟩ ?_
  refine g_cVG (pc := 775) C (st := []) [.int (xs (i + 1)), .int (xs (i + 2))] lv9_93 dL_law_775 s7 h0 (by omega) hk (by decide) rfl rfl ?_
  refine g_aload_n (pc := 778) C (hl := rfl) dL_law_778 ?_
  refine g_aload_n (pc := 779) C (hl := rfl) dL_law_779 ?_
  refine g_iload_n (pc := 780) C (hl := rfl) dL_law_780 ?_
  refine g_iconst (pc := 781) C qk_iconst_1 dL_law_781 ?_
  refine g_iaddN (pc := 782) C dL_law_782 ?_
  refine g_sld (pc := 783) C hX hb dL_law_783 ⟨by omega, hL⟩ ?_
  refine g_aload_n (pc := 784) C (hl := rfl) dL_law_784 ?_
  refine g_iload_n (pc := 785) C (hl := rfl) dL_law_785 ?_
  refine g_iconst (pc := 786) C qk_iconst_2 dL_law_786 ?_
  refine g_iaddN (pc := 787) C dL_law_787 ?_
  refine g_sld (pc := 788) C hX hb dL_law_788 ⟨by omega, hL⟩ ?_
  refine g_cVG (pc := 789) C (st := [.int r]) [.int (xs (i + 1)), .int (xs (i + 2))] lv9_96 dL_law_789 s8 hM (by omega) hk (Nat.le_of_ble_eq_true rfl) rfl rfl ?_
  exact g_ic_eq (pc := 792) C 1169 dL_law_792 (by decide) (fun _ => K h2 hr2) (fun q => absurd rfl q)
set_option maxRecDepth 20000 in
theorem ac_hungry {Γ : q_X} {ad : Nat → Nat} {h : q_H} {b L i k1 k2 : Nat} {xs : Nat → Int32} (C : q_C Γ ad 12 600000 7302250 RL x cL_law 4 ret) (hX : q_XL Γ b L xs) (hb : ad 230 = b) (hL : L < 2 ^ 31) (hk : k1 ≤ 600000 ∧ k2 ≤ 7302250) (hi : i + 6 ≤ L) (hr : rel h) (K : ∀ h' : q_H, rel h' → q_G Γ ad 4 1169 [some (.ref 230), some (.ref 0), some (.ref 87), some (.int (nI i))] [] 96 h' k1 k2) : q_G Γ ad 4 797 [some (.ref 230), some (.ref 0), some (.ref 87), some (.int (nI i))] [] 96 h k1 k2 := by
  obtain ⟨d7, d8, r, h1, h2, ⟨⟨hd7, hd8⟩, fs, hM⟩, s7, s8, hr2⟩ := e_hungry (n := 96) hr ((xs (i + 1)))
  obtain ⟨fs0, h0⟩ := rel_0 hr
  refine g_aload_n (pc := 797) C (hl := rfl) dL_law_797 ?_
  refine g_aload_n (pc := 798) C (hl := rfl) dL_law_798 ?_
  refine g_iload_n (pc := 799) C (hl := rfl) dL_law_799 ?_
  refine g_iconst (pc := 800) C qk_iconst_1 dL_law_800 ?_
  refine g_iaddN (pc := 801) C dL_law_801 ?_
  refine g_sld (pc := 802) C hX hb dL_law_802 ⟨by omega, hL⟩ ?_
  refine g_cVG (pc := 803) C (st := []) [.int (xs (i + 1))] lv9_97 dL_law_803 s7 h0 (by omega) hk (by decide) rfl rfl ?_
  refine g_aload_n (pc := 806) C (hl := rfl) dL_law_806 ?_
  refine g_aload_n (pc := 807) C (hl := rfl) dL_law_807 ?_
  refine g_iload_n (pc := 808) C (hl := rfl) dL_law_808 ?_
  refine g_iconst (pc := 809) C qk_iconst_1 dL_law_809 ?_
  refine g_iaddN (pc := 810) C dL_law_810 ?_
  refine g_sld (pc := 811) C hX hb dL_law_811 ⟨by omega, hL⟩ ?_
  refine g_cVG (pc := 812) C (st := [.int r]) [.int (xs (i + 1))] lv9_100 dL_law_812 s8 hM (by omega) hk (Nat.le_of_ble_eq_true rfl) rfl rfl ?_
  exact g_ic_eq (pc := 815) C 1169 dL_law_815 (by decide) (fun _ => K h2 hr2) (fun q => absurd rfl q)
set_option maxRecDepth 20000 in
theorem ac_rest {Γ : q_X} {ad : Nat → Nat} {h : q_H} {b L i k1 k2 : Nat} {xs : Nat → Int32} (C : q_C Γ ad 12 600000 7302250 RL x cL_law 4 ret) (hX : q_XL Γ b L xs) (hb : ad 230 = b) (hL : L < 2 ^ 31) (hk : k1 ≤ 600000 ∧ k2 ≤ 7302250) (hi : i + 6 ≤ L) (hr : rel h) (K : ∀ h' : q_H, rel h' → q_G Γ ad 4 1169 [some (.ref 230), some (.ref 0), some (.ref 87), some (.int (nI i))] [] 96 h' k1 k2) : q_G Γ ad 4 820 [some (.ref 230), some (.ref 0), some (.ref 87), some (.int (nI i))] [] 96 h k1 k2 := by
  obtain ⟨d7, d8, r, h1, h2, ⟨⟨hd7, hd8⟩, fs, hM⟩, s7, s8, hr2⟩ := e_rest (n := 96) hr 
  obtain ⟨fs0, h0⟩ := rel_0 hr
  refine g_aload_n (pc := 820) C (hl := rfl) dL_law_820 ?_
  refine g_cVG (pc := 821) C (st := []) [] lv9_101 dL_law_821 s7 h0 (by omega) hk (by decide) rfl rfl ?_
  refine g_aload_n (pc := 824) C (hl := rfl) dL_law_824 ?_
  refine g_cVG (pc := 825) C (st := [.int r]) [] lv9_104 dL_law_825 s8 hM (by omega) hk (Nat.le_of_ble_eq_true rfl) rfl rfl ?_
  exact g_ic_eq (pc := 828) C 1169 dL_law_828 (by decide) (fun _ => K h2 hr2) (fun q => absurd rfl q)
set_option maxRecDepth 20000 in
theorem ac_served {Γ : q_X} {ad : Nat → Nat} {h : q_H} {b L i k1 k2 : Nat} {xs : Nat → Int32} (C : q_C Γ ad 12 600000 7302250 RL x cL_law 4 ret) (hX : q_XL Γ b L xs) (hb : ad 230 = b) (hL : L < 2 ^ 31) (hk : k1 ≤ 600000 ∧ k2 ≤ 7302250) (hi : i + 6 ≤ L) (hr : rel h) (K : ∀ h' : q_H, rel h' → q_G Γ ad 4 1169 [some (.ref 230), some (.ref 0), some (.ref 87), some (.int (nI i))] [] 96 h' k1 k2) : q_G Γ ad 4 833 [some (.ref 230), some (.ref 0), some (.ref 87), some (.int (nI i))] [] 96 h k1 k2 := by
  obtain ⟨d7, d8, r, h1, h2, ⟨⟨hd7, hd8⟩, fs, hM⟩, s7, s8, hr2⟩ := e_served (n := 96) hr 
  obtain ⟨fs0, h0⟩ := rel_0 hr
  refine g_aload_n (pc := 833) C (hl := rfl) dL_law_833 ?_
  refine g_cVG (pc := 834) C (st := []) [] lv9_105 dL_law_834 s7 h0 (by omega) hk (by decide) rfl rfl ?_
  refine g_aload_n (pc := 837) C (hl := rfl) dL_law_837 ?_
  refine g_cVG (pc := 838) C (st := [.int r]) [] lv9_108 dL_law_838 s8 hM (by omega) hk (Nat.le_of_ble_eq_true rfl) rfl rfl ?_
  exact g_ic_eq (pc := 841) C 1169 dL_law_841 (by decide) (fun _ => K h2 hr2) (fun q => absurd rfl q)
set_option maxRecDepth 20000 in
theorem ac_laid {Γ : q_X} {ad : Nat → Nat} {h : q_H} {b L i k1 k2 : Nat} {xs : Nat → Int32} (C : q_C Γ ad 12 600000 7302250 RL x cL_law 4 ret) (hX : q_XL Γ b L xs) (hb : ad 230 = b) (hL : L < 2 ^ 31) (hk : k1 ≤ 600000 ∧ k2 ≤ 7302250) (hi : i + 6 ≤ L) (hr : rel h) (K : ∀ h' : q_H, rel h' → q_G Γ ad 4 1169 [some (.ref 230), some (.ref 0), some (.ref 87), some (.int (nI i))] [] 96 h' k1 k2) : q_G Γ ad 4 846 [some (.ref 230), some (.ref 0), some (.ref 87), some (.int (nI i))] [] 96 h k1 k2 := by
  obtain ⟨d7, d8, r, h1, h2, ⟨⟨hd7, hd8⟩, fs, hM⟩, s7, s8, hr2⟩ := e_laid (n := 96) hr ((xs (i + 1))) ((xs (i + 2)))
  obtain ⟨fs0, h0⟩ := rel_0 hr
  refine g_aload_n (pc := 846) C (hl := rfl) dL_law_846 ?_
  refine g_aload_n (pc := 847) C (hl := rfl) dL_law_847 ?_
  refine g_iload_n (pc := 848) C (hl := rfl) dL_law_848 ?_
  refine g_iconst (pc := 849) C qk_iconst_1 dL_law_849 ?_
  refine g_iaddN (pc := 850) C dL_law_850 ?_
  refine g_sld (pc := 851) C hX hb dL_law_851 ⟨by omega, hL⟩ ?_
  refine g_aload_n (pc := 852) C (hl := rfl) dL_law_852 ?_
  refine g_iload_n (pc := 853) C (hl := rfl) dL_law_853 ?_
  refine g_iconst (pc := 854) C qk_iconst_2 dL_law_854 ?_
  refine g_iaddN (pc := 855) C dL_law_855 ?_
  refine g_sld (pc := 856) C hX hb dL_law_856 ⟨by omega, hL⟩ ?_
  refine g_cVG (pc := 857) C (st := []) [.int (xs (i + 1)), .int (xs (i + 2))] lv9_109 dL_law_857 s7 h0 (by omega) hk (by decide) rfl rfl ?_
  refine g_aload_n (pc := 860) C (hl := rfl) dL_law_860 ?_
  refine g_aload_n (pc := 861) C (hl := rfl) dL_law_861 ?_
  refine g_iload_n (pc := 862) C (hl := rfl) dL_law_862 ?_
  refine g_iconst (pc := 863) C qk_iconst_1 dL_law_863 ?_
  refine g_iaddN (pc := 864) C dL_law_864 ?_
  refine g_sld (pc := 865) C hX hb dL_law_865 ⟨by omega, hL⟩ ?_
  refine g_aload_n (pc := 866) C (hl := rfl) dL_law_866 ?_
  refine g_iload_n (pc := 867) C (hl := rfl) dL_law_867 ?_
  refine g_iconst (pc := 868) C qk_iconst_2 dL_law_868 ?_
  refine g_iaddN (pc := 869) C dL_law_869 ?_
  refine g_sld (pc := 870) C hX hb dL_law_870 ⟨by omega, hL⟩ ?_
  refine g_cVG (pc := 871) C (st := [.int r]) [.int (xs (i + 1)), .int (xs (i + 2))] lv9_112 dL_law_871 s8 hM (by omega) hk (Nat.le_of_ble_eq_true rfl) rfl rfl ?_
  exact g_ic_eq (pc := 874) C 1169 dL_law_874 (by decide) (fun _ => K h2 hr2) (fun q => absurd rfl q)
set_option maxRecDepth 20000 in
theorem ac_wanted {Γ : q_X} {ad : Nat → Nat} {h : q_H} {b L i k1 k2 : Nat} {xs : Nat → Int32} (C : q_C Γ ad 12 600000 7302250 RL x cL_law 4 ret) (hX : q_XL Γ b L xs) (hb : ad 230 = b) (hL : L < 2 ^ 31) (hk : k1 ≤ 600000 ∧ k2 ≤ 7302250) (hi : i + 6 ≤ L) (hr : rel h) (K : ∀ h' : q_H, rel h' → q_G Γ ad 4 1169 [some (.ref 230), some (.ref 0), some (.ref 87), some (.int (nI i))] [] 96 h' k1 k2) : q_G Γ ad 4 879 [some (.ref 230), some (.ref 0), some (.ref 87), some (.int (nI i))] [] 96 h k1 k2 := by
  obtain ⟨d7, d8, r, h1, h2, ⟨⟨hd7, hd8⟩, fs, hM⟩, s7, s8, hr2⟩ := e_wanted (n := 96) hr ((xs (i + 1))) ((xs (i + 2))) ((xs (i + 3))) ((xs (i + 4)))
  obtain ⟨fs0, h0⟩ := rel_0 hr
  refine g_aload_n (pc := 879) C (hl := rfl) dL_law_879 ?_
  refine g_aload_n (pc := 880) C (hl := rfl) dL_law_880 ?_
  refine g_iload_n (pc := 881) C (hl := rfl) dL_law_881 ?_
  refine g_iconst (pc := 882) C qk_iconst_1 dL_law_882 ?_
  refine g_iaddN (pc := 883) C dL_law_883 ?_
  refine g_sld (pc := 884) C hX hb dL_law_884 ⟨by omega, hL⟩ ?_
  refine g_aload_n (pc := 885) C (hl := rfl) dL_law_885 ?_
  refine g_iload_n (pc := 886) C (hl := rfl) dL_law_886 ?_
  refine g_iconst (pc := 887) C qk_iconst_2 dL_law_887 ?_
  refine g_iaddN (pc := 888) C dL_law_888 ?_
  refine g_sld (pc := 889) C hX hb dL_law_889 ⟨by omega, hL⟩ ?_
  refine g_aload_n (pc := 890) C (hl := rfl) dL_law_890 ?_
  refine g_iload_n (pc := 891) C (hl := rfl) dL_law_891 ?_
  refine g_iconst (pc := 892) C qk_iconst_3 dL_law_892 ?_
  refine g_iaddN (pc := 893) C dL_law_893 ?_
  refine g_sld (pc := 894) C hX hb dL_law_894 ⟨by omega, hL⟩ ?_
  refine g_aload_n (pc := 895) C (hl := rfl) dL_law_895 ?_
  refine g_iload_n (pc := 896) C (hl := rfl) dL_law_896 ?_
  refine g_iconst (pc := 897) C qk_iconst_4 dL_law_897 ?_
  refine g_iaddN (pc := 898) C dL_law_898 ?_
  refine g_sld (pc := 899) C hX hb dL_law_899 ⟨by omega, hL⟩ ?_
  refine g_cVG (pc := 900) C (st := []) [.int (xs (i + 1)), .int (xs (i + 2)), .int (xs (i + 3)), .int (xs (i + 4))] lv9_113 dL_law_900 s7 h0 (by omega) hk (by decide) rfl rfl ?_
  refine g_aload_n (pc := 903) C (hl := rfl) dL_law_903 ?_
  refine g_aload_n (pc := 904) C (hl := rfl) dL_law_904 ?_
  refine g_iload_n (pc := 905) C (hl := rfl) dL_law_905 ?_
  refine g_iconst (pc := 906) C qk_iconst_1 dL_law_906 ?_
  refine g_iaddN (pc := 907) C dL_law_907 ?_
  refine g_sld (pc := 908) C hX hb dL_law_908 ⟨by omega, hL⟩ ?_
  refine g_aload_n (pc := 909) C (hl := rfl) dL_law_909 ?_
  refine g_iload_n (pc := 910) C (hl := rfl) dL_law_910 ?_
  refine g_iconst (pc := 911) C qk_iconst_2 dL_law_911 ?_
  refine g_iaddN (pc := 912) C dL_law_912 ?_
  refine g_sld (pc := 913) C hX hb dL_law_913 ⟨by omega, hL⟩ ?_
  refine g_aload_n (pc := 914) C (hl := rfl) dL_law_914 ?_
  refine g_iload_n (pc := 915) C (hl := rfl) dL_law_915 ?_
  refine g_iconst (pc := 916) C qk_iconst_3 dL_law_916 ?_
  refine g_iaddN (pc := 917) C dL_law_917 ?_
  refine g_sld (pc := 918) C hX hb dL_law_918 ⟨by omega, hL⟩ ?_
  refine g_aload_n (pc := 919) C (hl := rfl) dL_law_919 ?_
  refine g_iload_n (pc := 920) C (hl := rfl) dL_law_920 ?_
  refine g_iconst (pc := 921) C qk_iconst_4 dL_law_921 ?_
  refine g_iaddN (pc := 922) C dL_law_922 ?_
  refine g_sld (pc := 923) C hX hb dL_law_923 ⟨by omega, hL⟩ ?_
  refine g_cVG (pc := 924) C (st := [.int r]) [.int (xs (i + 1)), .int (xs (i + 2)), .int (xs (i + 3)), .int (xs (i + 4))] lv9_117 dL_law_924 s8 hM (by omega) hk (Nat.le_of_ble_eq_true rfl) rfl rfl ?_
  exact g_ic_eq (pc := 927) C 1169 dL_law_927 (by decide) (fun _ => K h2 hr2) (fun q => absurd rfl q)
set_option maxRecDepth 20000 in
theorem ac_seated {Γ : q_X} {ad : Nat → Nat} {h : q_H} {b L i k1 k2 : Nat} {xs : Nat → Int32} (C : q_C Γ ad 12 600000 7302250 RL x cL_law 4 ret) (hX : q_XL Γ b L xs) (hb : ad 230 = b) (hL : L < 2 ^ 31) (hk : k1 ≤ 600000 ∧ k2 ≤ 7302250) (hi : i + 6 ≤ L) (hr : rel h) (K : ∀ h' : q_H, rel h' → q_G Γ ad 4 1169 [some (.ref 230), some (.ref 0), some (.ref 87), some (.int (nI i))] [] 96 h' k1 k2) : q_G Γ ad 4 932 [some (.ref 230), some (.ref 0), some (.ref 87), some (.int (nI i))] [] 96 h k1 k2 := by
  obtain ⟨d7, d8, r, h1, h2, ⟨⟨hd7, hd8⟩, fs, hM⟩, s7, s8, hr2⟩ := e_seated (n := 96) hr ((xs (i + 1))) ((xs (i + 2))) ((xs (i + 3)))
  obtain ⟨fs0, h0⟩ := rel_0 hr
  refine g_aload_n (pc := 932) C (hl := rfl) dL_law_932 ?_
  refine g_aload_n (pc := 933) C (hl := rfl) dL_law_933 ?_
  refine g_iload_n (pc := 934) C (hl := rfl) dL_law_934 ?_
  refine g_iconst (pc := 935) C qk_iconst_1 dL_law_935 ?_
  refine g_iaddN (pc := 936) C dL_law_936 ?_
  refine g_sld (pc := 937) C hX hb dL_law_937 ⟨by omega, hL⟩ ?_
  refine g_aload_n (pc := 938) C (hl := rfl) dL_law_938 ?_
  refine g_iload_n (pc := 939) C (hl := rfl) dL_law_939 ?_
  refine g_iconst (pc := 940) C qk_iconst_2 dL_law_940 ?_
  refine g_iaddN (pc := 941) C dL_law_941 ?_
  refine g_sld (pc := 942) C hX hb dL_law_942 ⟨by omega, hL⟩ ?_
  refine g_aload_n (pc := 943) C (hl := rfl) dL_law_943 ?_
  refine g_iload_n (pc := 944) C (hl := rfl) dL_law_944 ?_
  refine g_iconst (pc := 945) C qk_iconst_3 dL_law_945 ?_
  refine g_iaddN (pc := 946) C dL_law_946 ?_
  refine g_sld (pc := 947) C hX hb dL_law_947 ⟨by omega, hL⟩ ?_
  refine g_cVG (pc := 948) C (st := []) [.int (xs (i + 1)), .int (xs (i + 2)), .int (xs (i + 3))] lv9_118 dL_law_948 s7 h0 (by omega) hk (by decide) rfl rfl ?_
  refine g_aload_n (pc := 951) C (hl := rfl) dL_law_951 ?_
  refine g_aload_n (pc := 952) C (hl := rfl) dL_law_952 ?_
  refine g_iload_n (pc := 953) C (hl := rfl) dL_law_953 ?_
  refine g_iconst (pc := 954) C qk_iconst_1 dL_law_954 ?_
  refine g_iaddN (pc := 955) C dL_law_955 ?_
  refine g_sld (pc := 956) C hX hb dL_law_956 ⟨by omega, hL⟩ ?_
  refine g_aload_n (pc := 957) C (hl := rfl) dL_law_957 ?_
  refine g_iload_n (pc := 958) C (hl := rfl) dL_law_958 ?_
  refine g_iconst (pc := 959) C qk_iconst_2 dL_law_959 ?_
  refine g_iaddN (pc := 960) C dL_law_960 ?_
  refine g_sld (pc := 961) C hX hb dL_law_961 ⟨by omega, hL⟩ ?_
  refine g_aload_n (pc := 962) C (hl := rfl) dL_law_962 ?_
  refine g_iload_n (pc := 963) C (hl := rfl) dL_law_963 ?_
  refine g_iconst (pc := 964) C qk_iconst_3 dL_law_964 ?_
  refine g_iaddN (pc := 965) C dL_law_965 ?_
  refine g_sld (pc := 966) C hX hb dL_law_966 ⟨by omega, hL⟩ ?_
  refine g_cVG (pc := 967) C (st := [.int r]) [.int (xs (i + 1)), .int (xs (i + 2)), .int (xs (i + 3))] lv9_121 dL_law_967 s8 hM (by omega) hk (Nat.le_of_ble_eq_true rfl) rfl rfl ?_
  exact g_ic_eq (pc := 970) C 1169 dL_law_970 (by decide) (fun _ => K h2 hr2) (fun q => absurd rfl q)
set_option maxRecDepth 20000 in
theorem ac_image {Γ : q_X} {ad : Nat → Nat} {h : q_H} {b L i k1 k2 : Nat} {xs : Nat → Int32} (C : q_C Γ ad 12 600000 7302250 RL x cL_law 4 ret) (hX : q_XL Γ b L xs) (hb : ad 230 = b) (hL : L < 2 ^ 31) (hk : k1 ≤ 600000 ∧ k2 ≤ 7302250) (hi : i + 6 ≤ L) (hr : rel h) (K : ∀ h' : q_H, rel h' → q_G Γ ad 4 1169 [some (.ref 230), some (.ref 0), some (.ref 87), some (.int (nI i))] [] 96 h' k1 k2) : q_G Γ ad 4 975 [some (.ref 230), some (.ref 0), some (.ref 87), some (.int (nI i))] [] 96 h k1 k2 := by
  obtain ⟨d7, d8, r, h1, h2, ⟨⟨hd7, hd8⟩, fs, hM⟩, s7, s8, hr2⟩ := e_image (n := 96) hr ((xs (i + 1)))
  obtain ⟨fs0, h0⟩ := rel_0 hr
  refine g_aload_n (pc := 975) C (hl := rfl) dL_law_975 ?_
  refine g_aload_n (pc := 976) C (hl := rfl) dL_law_976 ?_
  refine g_iload_n (pc := 977) C (hl := rfl) dL_law_977 ?_
  refine g_iconst (pc := 978) C qk_iconst_1 dL_law_978 ?_
  refine g_iaddN (pc := 979) C dL_law_979 ?_
  refine g_sld (pc := 980) C hX hb dL_law_980 ⟨by omega, hL⟩ ?_
  refine g_cVG (pc := 981) C (st := []) [.int (xs (i + 1))] lv9_122 dL_law_981 s7 h0 (by omega) hk (by decide) rfl rfl ?_
  refine g_aload_n (pc := 984) C (hl := rfl) dL_law_984 ?_
  refine g_aload_n (pc := 985) C (hl := rfl) dL_law_985 ?_
  refine g_iload_n (pc := 986) C (hl := rfl) dL_law_986 ?_
  refine g_iconst (pc := 987) C qk_iconst_1 dL_law_987 ?_
  refine g_iaddN (pc := 988) C dL_law_988 ?_
  refine g_sld (pc := 989) C hX hb dL_law_989 ⟨by omega, hL⟩ ?_
  refine g_cVG (pc := 990) C (st := [.int r]) [.int (xs (i + 1))] lv9_125 dL_law_990 s8 hM (by omega) hk (Nat.le_of_ble_eq_true rfl) rfl rfl ?_
  exact g_ic_eq (pc := 993) C 1169 dL_law_993 (by decide) (fun _ => K h2 hr2) (fun q => absurd rfl q)
set_option maxRecDepth 20000 in
theorem ac_restore {Γ : q_X} {ad : Nat → Nat} {h : q_H} {b L i k1 k2 : Nat} {xs : Nat → Int32} (C : q_C Γ ad 12 600000 7302250 RL x cL_law 4 ret) (hX : q_XL Γ b L xs) (hb : ad 230 = b) (hL : L < 2 ^ 31) (hk : k1 ≤ 600000 ∧ k2 ≤ 7302250) (hi : i + 6 ≤ L) (hr : rel h) (K : ∀ h' : q_H, rel h' → q_G Γ ad 4 1169 [some (.ref 230), some (.ref 0), some (.ref 87), some (.int (nI i))] [] 96 h' k1 k2) : q_G Γ ad 4 998 [some (.ref 230), some (.ref 0), some (.ref 87), some (.int (nI i))] [] 96 h k1 k2 := by
  obtain ⟨d7, d8, r, h1, h2, ⟨⟨hd7, hd8⟩, fs, hM⟩, s7, s8, hr2⟩ := e_restore (n := 96) hr ((xs (i + 1)))
  obtain ⟨fs0, h0⟩ := rel_0 hr
  refine g_aload_n (pc := 998) C (hl := rfl) dL_law_998 ?_
  refine g_aload_n (pc := 999) C (hl := rfl) dL_law_999 ?_
  refine g_iload_n (pc := 1000) C (hl := rfl) dL_law_1000 ?_
  refine g_iconst (pc := 1001) C qk_iconst_1 dL_law_1001 ?_
  refine g_iaddN (pc := 1002) C dL_law_1002 ?_
  refine g_sld (pc := 1003) C hX hb dL_law_1003 ⟨by omega, hL⟩ ?_
  refine g_cVG (pc := 1004) C (st := []) [.int (xs (i + 1))] lv9_126 dL_law_1004 s7 h0 (by omega) hk (by decide) rfl rfl ?_
  refine g_aload_n (pc := 1007) C (hl := rfl) dL_law_1007 ?_
  refine g_aload_n (pc := 1008) C (hl := rfl) dL_law_1008 ?_
  refine g_iload_n (pc := 1009) C (hl := rfl) dL_law_1009 ?_
  refine g_iconst (pc := 1010) C qk_iconst_1 dL_law_1010 ?_
  refine g_iaddN (pc := 1011) C dL_law_1011 ?_
  refine g_sld (pc := 1012) C hX hb dL_law_1012 ⟨by omega, hL⟩ ?_
  refine g_cVG (pc := 1013) C (st := [.int r]) [.int (xs (i + 1))] lv9_129 dL_law_1013 s8 hM (by omega) hk (Nat.le_of_ble_eq_true rfl) rfl rfl ?_
  exact g_ic_eq (pc := 1016) C 1169 dL_law_1016 (by decide) (fun _ => K h2 hr2) (fun q => absurd rfl q)
set_option maxRecDepth 20000 in
theorem ac_kind {Γ : q_X} {ad : Nat → Nat} {h : q_H} {b L i k1 k2 : Nat} {xs : Nat → Int32} (C : q_C Γ ad 12 600000 7302250 RL x cL_law 4 ret) (hX : q_XL Γ b L xs) (hb : ad 230 = b) (hL : L < 2 ^ 31) (hk : k1 ≤ 600000 ∧ k2 ≤ 7302250) (hi : i + 6 ≤ L) (hr : rel h) (K : ∀ h' : q_H, rel h' → q_G Γ ad 4 1169 [some (.ref 230), some (.ref 0), some (.ref 87), some (.int (nI i))] [] 96 h' k1 k2) : q_G Γ ad 4 1021 [some (.ref 230), some (.ref 0), some (.ref 87), some (.int (nI i))] [] 96 h k1 k2 := by
  obtain ⟨d7, d8, r, h1, h2, ⟨⟨hd7, hd8⟩, fs, hM⟩, s7, s8, hr2⟩ := e_kind (n := 96) hr ((xs (i + 1)))
  obtain ⟨fs0, h0⟩ := rel_0 hr
  refine g_aload_n (pc := 1021) C (hl := rfl) dL_law_1021 ?_
  refine g_aload_n (pc := 1022) C (hl := rfl) dL_law_1022 ?_
  refine g_iload_n (pc := 1023) C (hl := rfl) dL_law_1023 ?_
  refine g_iconst (pc := 1024) C qk_iconst_1 dL_law_1024 ?_
  refine g_iaddN (pc := 1025) C dL_law_1025 ?_
  refine g_sld (pc := 1026) C hX hb dL_law_1026 ⟨by omega, hL⟩ ?_
  refine g_cVG (pc := 1027) C (st := []) [.int (xs (i + 1))] lv9_130 dL_law_1027 s7 h0 (by omega) hk (by decide) rfl rfl ?_
  refine g_aload_n (pc := 1030) C (hl := rfl) dL_law_1030 ?_
  refine g_aload_n (pc := 1031) C (hl := rfl) dL_law_1031 ?_
  refine g_iload_n (pc := 1032) C (hl := rfl) dL_law_1032 ?_
  refine g_iconst (pc := 1033) C qk_iconst_1 dL_law_1033 ?_
  refine g_iaddN (pc := 1034) C dL_law_1034 ?_
  refine g_sld (pc := 1035) C hX hb dL_law_1035 ⟨by omega, hL⟩ ?_
  refine g_cVG (pc := 1036) C (st := [.int r]) [.int (xs (i + 1))] lv9_133 dL_law_1036 s8 hM (by omega) hk (Nat.le_of_ble_eq_true rfl) rfl rfl ?_
  exact g_ic_eq (pc := 1039) C 1169 dL_law_1039 (by decide) (fun _ => K h2 hr2) (fun q => absurd rfl q)
set_option maxRecDepth 20000 in
theorem ac_as {Γ : q_X} {ad : Nat → Nat} {h : q_H} {b L i k1 k2 : Nat} {xs : Nat → Int32} (C : q_C Γ ad 12 600000 7302250 RL x cL_law 4 ret) (hX : q_XL Γ b L xs) (hb : ad 230 = b) (hL : L < 2 ^ 31) (hk : k1 ≤ 600000 ∧ k2 ≤ 7302250) (hi : i + 6 ≤ L) (hr : rel h) (K : ∀ h' : q_H, rel h' → q_G Γ ad 4 1169 [some (.ref 230), some (.ref 0), some (.ref 87), some (.int (nI i))] [] 96 h' k1 k2) : q_G Γ ad 4 1044 [some (.ref 230), some (.ref 0), some (.ref 87), some (.int (nI i))] [] 96 h k1 k2 := by
  obtain ⟨d7, d8, r, h1, h2, ⟨⟨hd7, hd8⟩, fs, hM⟩, s7, s8, hr2⟩ := e_as (n := 96) hr ((xs (i + 1))) ((xs (i + 2)))
  obtain ⟨fs0, h0⟩ := rel_0 hr
  refine g_aload_n (pc := 1044) C (hl := rfl) dL_law_1044 ?_
  refine g_aload_n (pc := 1045) C (hl := rfl) dL_law_1045 ?_
  refine g_iload_n (pc := 1046) C (hl := rfl) dL_law_1046 ?_
  refine g_iconst (pc := 1047) C qk_iconst_1 dL_law_1047 ?_
  refine g_iaddN (pc := 1048) C dL_law_1048 ?_
  refine g_sld (pc := 1049) C hX hb dL_law_1049 ⟨by omega, hL⟩ ?_
  refine g_aload_n (pc := 1050) C (hl := rfl) dL_law_1050 ?_
  refine g_iload_n (pc := 1051) C (hl := rfl) dL_law_1051 ?_
  refine g_iconst (pc := 1052) C qk_iconst_2 dL_law_1052 ?_
  refine g_iaddN (pc := 1053) C dL_law_1053 ?_
  refine g_sld (pc := 1054) C hX hb dL_law_1054 ⟨by omega, hL⟩ ?_
  refine g_cVG (pc := 1055) C (st := []) [.int (xs (i + 1)), .int (xs (i + 2))] lv9_134 dL_law_1055 s7 h0 (by omega) hk (by decide) rfl rfl ?_
  refine g_aload_n (pc := 1058) C (hl := rfl) dL_law_1058 ?_
  refine g_aload_n (pc := 1059) C (hl := rfl) dL_law_1059 ?_
  refine g_iload_n (pc := 1060) C (hl := rfl) dL_law_1060 ?_
  refine g_iconst (pc := 1061) C qk_iconst_1 dL_law_1061 ?_
  refine g_iaddN (pc := 1062) C dL_law_1062 ?_
  refine g_sld (pc := 1063) C hX hb dL_law_1063 ⟨by omega, hL⟩ ?_
  refine g_aload_n (pc := 1064) C (hl := rfl) dL_law_1064 ?_
  refine g_iload_n (pc := 1065) C (hl := rfl) dL_law_1065 ?_
  refine g_iconst (pc := 1066) C qk_iconst_2 dL_law_1066 ?_
  refine g_iaddN (pc := 1067) C dL_law_1067 ?_
  refine g_sld (pc := 1068) C hX hb dL_law_1068 ⟨by omega, hL⟩ ?_
  refine g_cVG (pc := 1069) C (st := [.int r]) [.int (xs (i + 1)), .int (xs (i + 2))] lv9_137 dL_law_1069 s8 hM (by omega) hk (Nat.le_of_ble_eq_true rfl) rfl rfl ?_
  exact g_ic_eq (pc := 1072) C 1169 dL_law_1072 (by decide) (fun _ => K h2 hr2) (fun q => absurd rfl q)
set_option maxRecDepth 20000 in
theorem ac_ask {Γ : q_X} {ad : Nat → Nat} {h : q_H} {b L i k1 k2 : Nat} {xs : Nat → Int32} (C : q_C Γ ad 12 600000 7302250 RL x cL_law 4 ret) (hX : q_XL Γ b L xs) (hb : ad 230 = b) (hL : L < 2 ^ 31) (hk : k1 ≤ 600000 ∧ k2 ≤ 7302250) (hi : i + 6 ≤ L) (hr : rel h) (K : ∀ h' : q_H, rel h' → q_G Γ ad 4 1169 [some (.ref 230), some (.ref 0), some (.ref 87), some (.int (nI i))] [] 96 h' k1 k2) : q_G Γ ad 4 1077 [some (.ref 230), some (.ref 0), some (.ref 87), some (.int (nI i))] [] 96 h k1 k2 := by
  obtain ⟨d7, d8, r, h1, h2, ⟨⟨hd7, hd8⟩, fs, hM⟩, s7, s8, hr2⟩ := e_ask (n := 96) hr ((xs (i + 1))) ((xs (i + 2)))
  obtain ⟨fs0, h0⟩ := rel_0 hr
  refine g_aload_n (pc := 1077) C (hl := rfl) dL_law_1077 ?_
  refine g_aload_n (pc := 1078) C (hl := rfl) dL_law_1078 ?_
  refine g_iload_n (pc := 1079) C (hl := rfl) dL_law_1079 ?_
  refine g_iconst (pc := 1080) C qk_iconst_1 dL_law_1080 ?_
  refine g_iaddN (pc := 1081) C dL_law_1081 ?_
  refine g_sld (pc := 1082) C hX hb dL_law_1082 ⟨by omega, hL⟩ ?_
  refine g_aload_n (pc := 1083) C (hl := rfl) dL_law_1083 ?_
  refine g_iload_n (pc := 1084) C (hl := rfl) dL_law_1084 ?_
  refine g_iconst (pc := 1085) C qk_iconst_2 dL_law_1085 ?_
  refine g_iaddN (pc := 1086) C dL_law_1086 ?_
  refine g_sld (pc := 1087) C hX hb dL_law_1087 ⟨by omega, hL⟩ ?_
  refine g_cVG (pc := 1088) C (st := []) [.int (xs (i + 1)), .int (xs (i + 2))] lv9_138 dL_law_1088 s7 h0 (by omega) hk (by decide) rfl rfl ?_
  refine g_aload_n (pc := 1091) C (hl := rfl) dL_law_1091 ?_
  refine g_aload_n (pc := 1092) C (hl := rfl) dL_law_1092 ?_
  refine g_iload_n (pc := 1093) C (hl := rfl) dL_law_1093 ?_
  refine g_iconst (pc := 1094) C qk_iconst_1 dL_law_1094 ?_
  refine g_iaddN (pc := 1095) C dL_law_1095 ?_
  refine g_sld (pc := 1096) C hX hb dL_law_1096 ⟨by omega, hL⟩ ?_
  refine g_aload_n (pc := 1097) C (hl := rfl) dL_law_1097 ?_
  refine g_iload_n (pc := 1098) C (hl := rfl) dL_law_1098 ?_
  refine g_iconst (pc := 1099) C qk_iconst_2 dL_law_1099 ?_
  refine g_iaddN (pc := 1100) C dL_law_1100 ?_
  refine g_sld (pc := 1101) C hX hb dL_law_1101 ⟨by omega, hL⟩ ?_
  refine g_cVG (pc := 1102) C (st := [.int r]) [.int (xs (i + 1)), .int (xs (i + 2))] lv9_141 dL_law_1102 s8 hM (by omega) hk (Nat.le_of_ble_eq_true rfl) rfl rfl ?_
  exact g_ic_eq (pc := 1105) C 1169 dL_law_1105 (by decide) (fun _ => K h2 hr2) (fun q => absurd rfl q)
set_option maxRecDepth 20000 in
theorem ac_trace {Γ : q_X} {ad : Nat → Nat} {h : q_H} {b L i k1 k2 : Nat} {xs : Nat → Int32} (C : q_C Γ ad 12 600000 7302250 RL x cL_law 4 ret) (hX : q_XL Γ b L xs) (hb : ad 230 = b) (hL : L < 2 ^ 31) (hk : k1 ≤ 600000 ∧ k2 ≤ 7302250) (hi : i + 6 ≤ L) (hr : rel h) (K : ∀ h' : q_H, rel h' → q_G Γ ad 4 1169 [some (.ref 230), some (.ref 0), some (.ref 87), some (.int (nI i))] [] 96 h' k1 k2) : q_G Γ ad 4 1110 [some (.ref 230), some (.ref 0), some (.ref 87), some (.int (nI i))] [] 96 h k1 k2 := by
  obtain ⟨d7, d8, r, h1, h2, ⟨⟨hd7, hd8⟩, fs, hM⟩, s7, s8, hr2⟩ := e_trace (n := 96) hr ((xs (i + 1)))
  obtain ⟨fs0, h0⟩ := rel_0 hr
  refine g_aload_n (pc := 1110) C (hl := rfl) dL_law_1110 ?_
  refine g_aload_n (pc := 1111) C (hl := rfl) dL_law_1111 ?_
  refine g_iload_n (pc := 1112) C (hl := rfl) dL_law_1112 ?_
  refine g_iconst (pc := 1113) C qk_iconst_1 dL_law_1113 ?_
  refine g_iaddN (pc := 1114) C dL_law_1114 ?_
  refine g_sld (pc := 1115) C hX hb dL_law_1115 ⟨by omega, hL⟩ ?_
  refine g_cVG (pc := 1116) C (st := []) [.int (xs (i + 1))] lv9_142 dL_law_1116 s7 h0 (by omega) hk (by decide) rfl rfl ?_
  refine g_aload_n (pc := 1119) C (hl := rfl) dL_law_1119 ?_
  refine g_aload_n (pc := 1120) C (hl := rfl) dL_law_1120 ?_
  refine g_iload_n (pc := 1121) C (hl := rfl) dL_law_1121 ?_
  refine g_iconst (pc := 1122) C qk_iconst_1 dL_law_1122 ?_
  refine g_iaddN (pc := 1123) C dL_law_1123 ?_
  refine g_sld (pc := 1124) C hX hb dL_law_1124 ⟨by omega, hL⟩ ?_
  refine g_cVG (pc := 1125) C (st := [.int r]) [.int (xs (i + 1))] lv9_145 dL_law_1125 s8 hM (by omega) hk (Nat.le_of_ble_eq_true rfl) rfl rfl ?_
  exact g_ic_eq (pc := 1128) C 1169 dL_law_1128 (by decide) (fun _ => K h2 hr2) (fun q => absurd rfl q)
set_option maxRecDepth 20000 in
theorem ac_count {Γ : q_X} {ad : Nat → Nat} {h : q_H} {b L i k1 k2 : Nat} {xs : Nat → Int32} (C : q_C Γ ad 12 600000 7302250 RL x cL_law 4 ret) (hX : q_XL Γ b L xs) (hb : ad 230 = b) (hL : L < 2 ^ 31) (hk : k1 ≤ 600000 ∧ k2 ≤ 7302250) (hi : i + 6 ≤ L) (hr : rel h) (K : ∀ h' : q_H, rel h' → q_G Γ ad 4 1169 [some (.ref 230), some (.ref 0), some (.ref 87), some (.int (nI i))] [] 96 h' k1 k2) : q_G Γ ad 4 1133 [some (.ref 230), some (.ref 0), some (.ref 87), some (.int (nI i))] [] 96 h k1 k2 := by
  obtain ⟨d7, d8, r, h1, h2, ⟨⟨hd7, hd8⟩, fs, hM⟩, s7, s8, hr2⟩ := e_count (n := 96) hr ((xs (i + 1)))
  obtain ⟨fs0, h0⟩ := rel_0 hr
  refine g_aload_n (pc := 1133) C (hl := rfl) dL_law_1133 ?_
  refine g_aload_n (pc := 1134) C (hl := rfl) dL_law_1134 ?_
  refine g_iload_n (pc := 1135) C (hl := rfl) dL_law_1135 ?_
  refine g_iconst (pc := 1136) C qk_iconst_1 dL_law_1136 ?_
  refine g_iaddN (pc := 1137) C dL_law_1137 ?_
  refine g_sld (pc := 1138) C hX hb dL_law_1138 ⟨by omega, hL⟩ ?_
  refine g_cVG (pc := 1139) C (st := []) [.int (xs (i + 1))] lv9_146 dL_law_1139 s7 h0 (by omega) hk (by decide) rfl rfl ?_
  refine g_aload_n (pc := 1142) C (hl := rfl) dL_law_1142 ?_
  refine g_aload_n (pc := 1143) C (hl := rfl) dL_law_1143 ?_
  refine g_iload_n (pc := 1144) C (hl := rfl) dL_law_1144 ?_
  refine g_iconst (pc := 1145) C qk_iconst_1 dL_law_1145 ?_
  refine g_iaddN (pc := 1146) C dL_law_1146 ?_
  refine g_sld (pc := 1147) C hX hb dL_law_1147 ⟨by omega, hL⟩ ?_
  refine g_cVG (pc := 1148) C (st := [.int r]) [.int (xs (i + 1))] lv9_149 dL_law_1148 s8 hM (by omega) hk (Nat.le_of_ble_eq_true rfl) rfl rfl ?_
  exact g_ic_eq (pc := 1151) C 1169 dL_law_1151 (by decide) (fun _ => K h2 hr2) (fun q => absurd rfl q)
set_option maxRecDepth 20000 in
theorem ac_status {Γ : q_X} {ad : Nat → Nat} {h : q_H} {b L i k1 k2 : Nat} {xs : Nat → Int32} (C : q_C Γ ad 12 600000 7302250 RL x cL_law 4 ret) (hX : q_XL Γ b L xs) (hb : ad 230 = b) (hL : L < 2 ^ 31) (hk : k1 ≤ 600000 ∧ k2 ≤ 7302250) (hi : i + 6 ≤ L) (hr : rel h) (K : ∀ h' : q_H, rel h' → q_G Γ ad 4 1169 [some (.ref 230), some (.ref 0), some (.ref 87), some (.int (nI i))] [] 96 h' k1 k2) : q_G Γ ad 4 1156 [some (.ref 230), some (.ref 0), some (.ref 87), some (.int (nI i))] [] 96 h k1 k2 := by
  obtain ⟨d7, d8, r, h1, h2, ⟨⟨hd7, hd8⟩, fs, hM⟩, s7, s8, hr2⟩ := e_status (n := 96) hr 
  obtain ⟨fs0, h0⟩ := rel_0 hr
  refine g_aload_n (pc := 1156) C (hl := rfl) dL_law_1156 ?_
  refine g_cVG (pc := 1157) C (st := []) [] lv9_150 dL_law_1157 s7 h0 (by omega) hk (by decide) rfl rfl ?_
  refine g_aload_n (pc := 1160) C (hl := rfl) dL_law_1160 ?_
  refine g_cVG (pc := 1161) C (st := [.int r]) [] lv9_153 dL_law_1161 s8 hM (by omega) hk (Nat.le_of_ble_eq_true rfl) rfl rfl ?_
  exact g_ic_eq (pc := 1164) C 1169 dL_law_1164 (by decide) (fun _ => K h2 hr2) (fun q => absurd rfl q)
set_option maxRecDepth 20000 in
set_option maxHeartbeats 4000000 in
theorem l9_law {Γ : q_X} {ad : Nat → Nat} {b L k1 k2 : Nat} {xs : Nat → Int32} (C : q_C Γ ad 12 600000 7302250 RL x cL_law 4 ret) (hX : q_XL Γ b L xs) (hb : ad 230 = b) (hL : L ≤ 384) (hk : k1 ≤ 600000 ∧ k2 ≤ 7302250) (Z : ∀ (la : List (Option Value)) (h' : q_H), q_G Γ ad 4 1176 la [.int (nI 1)] 96 h' k1 k2) : ∀ (m i : Nat) (h : q_H), L < i + m → i ≤ L → rel h → q_G Γ ad 4 18 [some (.ref 230), some (.ref 0), some (.ref 87), some (.int (nI i))] [] 96 h k1 k2 := by
  intro m
  induction m with
  | zero => intros; omega
  | succ m ih =>
    intro i h hm hi hr
    refine g_iload_n (pc := 18) C (hl := rfl) dL_law_18 ?_
    refine g_aload_n (pc := 19) C (hl := rfl) dL_law_19 ?_
    refine g_slen (pc := 20) C hX hb dL_law_20 ?_
    refine g_bipush (pc := 21) C qk_bipush_6 dL_law_21 ?_
    refine g_isub (pc := 23) C dL_law_23 ?_
    refine g_ic_gt (pc := 24) C 1175 dL_law_24 (by decide) (fun _ => ?_) (fun c1 => ?_)
    · refine g_iconst (pc := 1175) C qk_iconst_1 dL_law_1175 ?_
      exact Z _ _
    have hi6 : i + 6 ≤ L := q_l6 (by omega) (by omega) c1
    refine g_aload_n (pc := 27) C (hl := rfl) dL_law_27 ?_
    refine g_iload_n (pc := 28) C (hl := rfl) dL_law_28 ?_
    refine g_sld (pc := 29) C hX hb dL_law_29 ⟨by omega, by omega⟩ ?_
    refine g_bipush (pc := 30) C qk_bipush_63 dL_law_30 ?_
    obtain ⟨k, hk64, ek⟩ := q_a63 (xs i)
    refine g_iandE (pc := 32) C ek dL_law_32 ?_
    have K : ∀ h' : q_H, rel h' → q_G Γ ad 4 1169 [some (.ref 230), some (.ref 0), some (.ref 87), some (.int (nI i))] [] 96 h' k1 k2 := fun h' hr' => by
      refine g_iinc (pc := 1169) C (v := nI (i + 6)) (hl := rfl) (nI_add i 6) rfl dL_law_1169 ?_
      refine g_goto (pc := 1172) C 18 dL_law_1172 (by decide) ?_
      exact ih (i + 6) h' (by omega) (by omega) hr'
    rcases (by omega : k = 0 ∨ k = 1 ∨ k = 2 ∨ k = 3 ∨ k = 4 ∨ k = 5 ∨ k = 6 ∨ k = 7 ∨ k = 8 ∨ k = 9 ∨ k = 10 ∨ k = 11 ∨ k = 12 ∨ k = 13 ∨ k = 14 ∨ k = 15 ∨ k = 16 ∨ k = 17 ∨ k = 18 ∨ k = 19 ∨ k = 20 ∨ k = 21 ∨ k = 22 ∨ k = 23 ∨ k = 24 ∨ k = 25 ∨ k = 26 ∨ k = 27 ∨ k = 28 ∨ k = 29 ∨ k = 30 ∨ k = 31 ∨ k = 32 ∨ 33 ≤ k) with rfl | rfl | rfl | rfl | rfl | rfl | rfl | rfl | rfl | rfl | rfl | rfl | rfl | rfl | rfl | rfl | rfl | rfl | rfl | rfl | rfl | rfl | rfl | rfl | rfl | rfl | rfl | rfl | rfl | rfl | rfl | rfl | rfl | hk33
    · exact g_tswI (pc := 33) C 180 dL_law_33 (by decide) (by decide) rfl (by decide) (ac_row C hX hb (by omega) hk hi6 hr K)
    · exact g_tswI (pc := 33) C 223 dL_law_33 (by decide) (by decide) rfl (by decide) (ac_set C hX hb (by omega) hk hi6 hr K)
    · exact g_tswI (pc := 33) C 266 dL_law_33 (by decide) (by decide) rfl (by decide) (ac_copy C hX hb (by omega) hk hi6 hr K)
    · exact g_tswI (pc := 33) C 329 dL_law_33 (by decide) (by decide) rfl (by decide) (ac_drop C hX hb (by omega) hk hi6 hr K)
    · exact g_tswI (pc := 33) C 352 dL_law_33 (by decide) (by decide) rfl (by decide) (ac_feed C hX hb (by omega) hk hi6 hr K)
    · exact g_tswI (pc := 33) C 415 dL_law_33 (by decide) (by decide) rfl (by decide) (ac_table C hX hb (by omega) hk hi6 hr K)
    · exact g_tswI (pc := 33) C 428 dL_law_33 (by decide) (by decide) rfl (by decide) (ac_fault C hX hb (by omega) hk hi6 hr K)
    · exact g_tswI (pc := 33) C 441 dL_law_33 (by decide) (by decide) rfl (by decide) (ac_minutes C hX hb (by omega) hk hi6 hr K)
    · exact g_tswI (pc := 33) C 464 dL_law_33 (by decide) (by decide) rfl (by decide) (ac_turn C hX hb (by omega) hk hi6 hr K)
    · exact g_tswI (pc := 33) C 487 dL_law_33 (by decide) (by decide) rfl (by decide) (ac_fill C hX hb (by omega) hk hi6 hr K)
    · exact g_tswI (pc := 33) C 520 dL_law_33 (by decide) (by decide) rfl (by decide) (ac_change C hX hb (by omega) hk hi6 hr K)
    · exact g_tswI (pc := 33) C 553 dL_law_33 (by decide) (by decide) rfl (by decide) (ac_lay C hX hb (by omega) hk hi6 hr K)
    · exact g_tswI (pc := 33) C 586 dL_law_33 (by decide) (by decide) rfl (by decide) (ac_undo C hX hb (by omega) hk hi6 hr K)
    · exact g_tswI (pc := 33) C 599 dL_law_33 (by decide) (by decide) rfl (by decide) (ac_guest C hX hb (by omega) hk hi6 hr K)
    · exact g_tswI (pc := 33) C 632 dL_law_33 (by decide) (by decide) rfl (by decide) (ac_dish C hX hb (by omega) hk hi6 hr K)
    · exact g_tswI (pc := 33) C 665 dL_law_33 (by decide) (by decide) rfl (by decide) (ac_ahead C hX hb (by omega) hk hi6 hr K)
    · exact g_tswI (pc := 33) C 698 dL_law_33 (by decide) (by decide) rfl (by decide) (ac_dishAhead C hX hb (by omega) hk hi6 hr K)
    · exact g_tswI (pc := 33) C 731 dL_law_33 (by decide) (by decide) rfl (by decide) (ac_guestAhead C hX hb (by omega) hk hi6 hr K)
    · exact g_tswI (pc := 33) C 764 dL_law_33 (by decide) (by decide) rfl (by decide) (ac_last C hX hb (by omega) hk hi6 hr K)
    · exact g_tswI (pc := 33) C 797 dL_law_33 (by decide) (by decide) rfl (by decide) (ac_hungry C hX hb (by omega) hk hi6 hr K)
    · exact g_tswI (pc := 33) C 820 dL_law_33 (by decide) (by decide) rfl (by decide) (ac_rest C hX hb (by omega) hk hi6 hr K)
    · exact g_tswI (pc := 33) C 833 dL_law_33 (by decide) (by decide) rfl (by decide) (ac_served C hX hb (by omega) hk hi6 hr K)
    · exact g_tswI (pc := 33) C 846 dL_law_33 (by decide) (by decide) rfl (by decide) (ac_laid C hX hb (by omega) hk hi6 hr K)
    · exact g_tswI (pc := 33) C 879 dL_law_33 (by decide) (by decide) rfl (by decide) (ac_wanted C hX hb (by omega) hk hi6 hr K)
    · exact g_tswI (pc := 33) C 932 dL_law_33 (by decide) (by decide) rfl (by decide) (ac_seated C hX hb (by omega) hk hi6 hr K)
    · exact g_tswI (pc := 33) C 975 dL_law_33 (by decide) (by decide) rfl (by decide) (ac_image C hX hb (by omega) hk hi6 hr K)
    · exact g_tswI (pc := 33) C 998 dL_law_33 (by decide) (by decide) rfl (by decide) (ac_restore C hX hb (by omega) hk hi6 hr K)
    · exact g_tswI (pc := 33) C 1021 dL_law_33 (by decide) (by decide) rfl (by decide) (ac_kind C hX hb (by omega) hk hi6 hr K)
    · exact g_tswI (pc := 33) C 1044 dL_law_33 (by decide) (by decide) rfl (by decide) (ac_as C hX hb (by omega) hk hi6 hr K)
    · exact g_tswI (pc := 33) C 1077 dL_law_33 (by decide) (by decide) rfl (by decide) (ac_ask C hX hb (by omega) hk hi6 hr K)
    · exact g_tswI (pc := 33) C 1110 dL_law_33 (by decide) (by decide) rfl (by decide) (ac_trace C hX hb (by omega) hk hi6 hr K)
    · exact g_tswI (pc := 33) C 1133 dL_law_33 (by decide) (by decide) rfl (by decide) (ac_count C hX hb (by omega) hk hi6 hr K)
    · exact g_tswI (pc := 33) C 1156 dL_law_33 (by decide) (by decide) rfl (by decide) (ac_status C hX hb (by omega) hk hi6 hr K)
    · exact g_tswO (pc := 33) C 1169 dL_law_33 (Or.inr (by rw [nI_toInt (by omega)]; omega)) (by decide) (K h hr)
