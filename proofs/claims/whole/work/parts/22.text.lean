section QJ
variable {Γ : q_X} {ad : Nat → Nat} {d mc ms : Nat} {own : String} {y : MethodName} {cc : ByteArray} {nL : Nat} {ret : Option FieldType} {pc : Nat} {la : List (Option Value)} {st : List Value} {n : Nat} {h : q_H} {k1 k2 : Nat}
theorem g_i2c (C : q_C Γ ad d mc ms own y cc nL ret) {x v : Int32} (hv : (x.toUInt32 % 65536).toInt32 = v) (hdg : decode cc pc = .ok (.i2c, 1)) (kk : q_G Γ ad nL (pc + 1) la (.int v :: st) n h k1 k2) : q_G Γ ad nL pc la (.int x :: st) n h k1 k2 := by
  obtain ⟨p, l, e, R, s, m, args, below, meth, c, D, A, Q⟩ := Γ
  intro H locs ls hI hL
  exact lv_i2c C.1 C.2.1 hdg hv (kk H locs ls hI hL)
theorem g_sval (C : q_C Γ ad d mc ms own y cc nL ret) {ix i : Nat} (hi : i < 7) (hw : Cond.fieldLink own ix "java/lang/String" "value" "[B" ∈ q_Z) (hdg : decode cc pc = .ok (.getfield ix, 3)) (kk : q_G Γ ad nL (pc + 3) la (.ref (210 + i) :: st) n h k1 k2) : q_G Γ ad nL pc la (.ref (200 + i) :: st) n h k1 k2 := by
  obtain ⟨p, l, e, R, s, m, args, below, meth, c, D, A, Q⟩ := Γ
  intro H locs ls hI hL
  obtain ⟨C1, C2, C3, C4, C5, C6, C7, C8, C9, C10, C11, C12⟩ := C
  obtain ⟨_, _, _, _, _, hS, _⟩ := id hI
  exact vk_getf C1 C2 (C9.1.1 i hi).2.2.1 hS C5 (C6 _ (List.mem_cons_of_mem _ hw)) (fun _ q => q) hdg (kk H locs ls hI hL)
theorem g_scod (C : q_C Γ ad d mc ms own y cc nL ret) {ix i : Nat} (hi : i < 7) (hw : Cond.fieldLink own ix "java/lang/String" "coder" "B" ∈ q_Z) (hdg : decode cc pc = .ok (.getfield ix, 3)) (kk : q_G Γ ad nL (pc + 3) la (.int (nI 0) :: st) n h k1 k2) : q_G Γ ad nL pc la (.ref (200 + i) :: st) n h k1 k2 := by
  obtain ⟨p, l, e, R, s, m, args, below, meth, c, D, A, Q⟩ := Γ
  intro H locs ls hI hL
  obtain ⟨C1, C2, C3, C4, C5, C6, C7, C8, C9, C10, C11, C12⟩ := C
  obtain ⟨_, _, _, _, _, hS, _⟩ := id hI
  exact vk_getf C1 C2 (C9.1.1 i hi).2.1 hS C5 (C6 _ (List.mem_cons_of_mem _ hw)) (fun _ q => q) hdg (kk H locs ls hI hL)
theorem g_sbl (C : q_C Γ ad d mc ms own y cc nL ret) {i j : Nat} (hi : i < 7) (hj : j < q_len.getD i 0 ∧ q_len.getD i 0 < 2147483648) (hdg : decode cc pc = .ok (.baload, 1)) (kk : q_G Γ ad nL (pc + 1) la (.int ((q_byt.getD i []).getD j 0) :: st) n h k1 k2) : q_G Γ ad nL pc la (.int (nI j) :: .ref (210 + i) :: st) n h k1 k2 := by
  obtain ⟨p, l, e, R, s, m, args, below, meth, c, D, A, Q⟩ := Γ
  intro H locs ls hI hL
  obtain ⟨C1, C2, C3, C4, C5, C6, C7, C8, C9, C10, C11, C12⟩ := C
  obtain ⟨_, _, _, _, _, hS, _⟩ := id hI
  exact va_tb C1 C2 (C9.1.1 i hi).2.2.2 hS (vp_in_nI hj.1 hj.2) (v := .int ((q_byt.getD i []).getD j 0)) (by rw [nI_clamp (Nat.lt_trans hj.1 hj.2)]) hdg (kk H locs ls hI hL)
theorem g_sbn (C : q_C Γ ad d mc ms own y cc nL ret) {i : Nat} (hi : i < 7) (hdg : decode cc pc = .ok (.arraylength, 1)) (kk : q_G Γ ad nL (pc + 1) la (.int (nI (q_len.getD i 0)) :: st) n h k1 k2) : q_G Γ ad nL pc la (.ref (210 + i) :: st) n h k1 k2 := by
  obtain ⟨p, l, e, R, s, m, args, below, meth, c, D, A, Q⟩ := Γ
  intro H locs ls hI hL
  obtain ⟨C1, C2, C3, C4, C5, C6, C7, C8, C9, C10, C11, C12⟩ := C
  obtain ⟨_, _, _, _, _, hS, _⟩ := id hI
  exact va_tlen C1 C2 (C9.1.1 i hi).2.2.2 hS rfl hdg (kk H locs ls hI hL)
theorem g_scs (C : q_C Γ ad d mc ms own y cc nL ret) {ix : Nat} (hw : Cond.fieldLink own ix "java/lang/String" "COMPACT_STRINGS" "Z" ∈ q_Z) (hdg : decode cc pc = .ok (.getstatic ix, 3)) (kk : q_G Γ ad nL (pc + 3) la (.int (nI 1) :: st) n h k1 k2) : q_G Γ ad nL pc la st n h k1 k2 := by
  obtain ⟨p, l, e, R, s, m, args, below, meth, c, D, A, Q⟩ := Γ
  intro H locs ls hI hL
  obtain ⟨C1, C2, C3, C4, C5, C6, C7, C8, C9, C10, C11, C12⟩ := C
  obtain ⟨_, _, _, _, _, hS, _⟩ := id hI
  exact va_gets C1 C2 C9.2.1 hS C5 (C6 _ (List.mem_cons_of_mem _ hw)) (fun _ q => q) hdg (kk H locs ls hI hL)
theorem g_sfm (C : q_C Γ ad d mc ms own y cc nL ret) {ix : Nat} (hw : Cond.fieldLink own ix "jdk/internal/util/Preconditions" "SIOOBE_FORMATTER" "Ljava/util/function/BiFunction;" ∈ q_Z) (hdg : decode cc pc = .ok (.getstatic ix, 3)) (k1' : q_G Γ ad nL (pc + 3) la (.null :: st) n h k1 k2) (k2' : q_G Γ ad nL (pc + 3) la (.ref 220 :: st) n h k1 k2) : q_G Γ ad nL pc la st n h k1 k2 := by
  obtain ⟨p, l, e, R, s, m, args, below, meth, c, D, A, Q⟩ := Γ
  intro H locs ls hI hL
  obtain ⟨C1, C2, C3, C4, C5, C6, C7, C8, C9, C10, C11, C12⟩ := C
  obtain ⟨_, _, _, _, _, hS, _⟩ := id hI
  rcases C9.2.2.1 with hz | hz
  · exact va_gets C1 C2 hz hS C5 (C6 _ (List.mem_cons_of_mem _ hw)) (fun _ q => q) hdg (k1' H locs ls hI hL)
  · exact va_gets C1 C2 hz hS C5 (C6 _ (List.mem_cons_of_mem _ hw)) (fun _ q => q) hdg (k2' H locs ls hI hL)
theorem g_ldcS (C : q_C Γ ad d mc ms own y cc nL ret) {ix i : Nat} {tx : String} (hz : ∀ (ad : Nat → Nat) (A : Nat → Prop) (U : State) (H : Heap), q_SF ad A U H → vk_R own ix tx (ad (200 + i)) U) (hdg : decode cc pc = .ok (.ldc ix, 2)) (kk : q_G Γ ad nL (pc + 2) la (.ref (200 + i) :: st) n h k1 k2) : q_G Γ ad nL pc la st n h k1 k2 := by
  obtain ⟨p, l, e, R, s, m, args, below, meth, c, D, A, Q⟩ := Γ
  intro H locs ls hI hL
  obtain ⟨C1, C2, C3, C4, C5, C6, C7, C8, C9, C10, C11, C12⟩ := C
  exact va_ldcS C1 C2 C5 (hz ad A s s.heap C9) hdg (kk H locs ls hI hL)
def q_LVs (own : String) (ix : Nat) (y : MethodName) (cc : ByteArray) (maxL : Nat) (ret : Option FieldType) (np : Nat) : Prop :=
  (Cond.methodLink own ix y ∈ q_Z ∧ Cond.instanceMethod y ∈ q_Z ∧ Cond.selects y.cls y y ∈ q_Z ∧ Cond.initialized y.cls ∈ q_Z ∧ Cond.code y cc maxL ret ∈ q_Z) ∧ (y.cls ≠ "java/lang/invoke/MethodHandle" ∧ y.cls ≠ "java/lang/invoke/VarHandle" ∧ (parseMethodDescriptor y.desc).map (fun d => d.parameters.length) = some np) ∧ y.cls = "java/lang/String" ∧ maxL ≤ 13
theorem g_callVs (C : q_C Γ ad d 0 0 own y cc nL ret) {d2 ix np i : Nat} {y2 : MethodName} {cc2 : ByteArray} {maxL2 : Nat} {ret2 : Option FieldType} {as : List Value} {r2 : Option Value} {h2 : q_H} (hi : i < 7) (hl : q_LVs own ix y2 cc2 maxL2 ret2 np) (hdg : decode cc pc = .ok (.invokevirtual ix, 3)) (hs : SP d2 y2 cc2 maxL2 ret2 (.ref (200 + i) :: as) n h r2 h2) (hd : d2 < d) (hst : (st.map fun v => v.category).sum ≤ 8) (hnp : as.length = np) (kk : q_G Γ ad nL (pc + 3) la (r2.toList ++ st) n h2 0 0) : q_G Γ ad nL pc la (as.reverse ++ .ref (200 + i) :: st) n h 0 0 := by
  obtain ⟨p, l, e, R, s, m, args, below, meth, c, D, A, Q⟩ := Γ
  intro H locs ls hI hL
  obtain ⟨C1, C2, C3, C4, C5, C6, C7, C8, C9, C10, C11, rfl⟩ := C
  obtain ⟨⟨l1, l2, l3, l4, l5⟩, l6, l7, l8⟩ := hl
  have hp := q_give (p := p) (as := .ref (200 + i) :: as) C8 C9 C10 hI
  obtain ⟨ws, tys, hK, hP, hD, hS, hSim⟩ := id hI
  have hrecv := vk_recv C9.1 hi hS
  rw [← l7] at hrecv
  have hrun := va_runV (As := as.map (q_cv ad)) (rest := st.map (q_cv ad)) (b := ad (200 + i)) (H := H) (g := F0 m pc ls ((as.reverse ++ .ref (200 + i) :: st).map (q_cv ad))) (cells := 0) (slots := 0) (locs := locs) (below := below) (meth := meth) (e := e) (R := q_rm d 0 0) (C := y2.cls) (own := own) ⟨C1, C2, C3, C5, C6⟩ (hs l D ad H.size) (cwV np C6 (q_goodA (fun w hw => by
        unfold wsV at hw
        rcases List.mem_append.mp hw with hw | hw
        · simp only [List.mem_cons, List.not_mem_nil, or_false] at hw
          rcases hw with rfl | rfl | rfl | rfl
          · exact l1
          · exact l2
          · exact l3
          · exact l4
        · exact q_wsZ l5 w hw)) rfl rfl rfl ⟨rfl, l6⟩ ⟨hd, by show 8 + (maxL2 + 11) + 32 * d2 ≤ 32 * d; omega⟩) ⟨hp.1, hrecv, hp.2⟩ rfl (by rw [List.length_map]; exact hnp) hL.1 (by show List.map _ _ = _; rw [List.map_append, List.map_reverse]; rfl) (by rw [q_cats]; show 2 * 0 + _ ≤ 8; omega) hdg ⟨Nat.zero_le _, Nat.zero_le _⟩
  refine q_back hrun C10 hI (fun H1 locs1 hI1 => ?_)
  have := kk H1 locs1 ls hI1 hL
  rw [List.map_append] at this
  cases r2 <;> exact this
theorem g_Vs0 (C : q_C Γ ad d 0 0 own y cc nL ret) {d2 ix i : Nat} {y2 : MethodName} {cc2 : ByteArray} {maxL2 : Nat} {ret2 : Option FieldType} {v : Value} (hi : i < 7) (hl : q_LVs own ix y2 cc2 maxL2 ret2 0) (hdg : decode cc pc = .ok (.invokevirtual ix, 3)) (hs : SP d2 y2 cc2 maxL2 ret2 [.ref (200 + i)] n h (some v) h) (hd : d2 < d) (hst : (st.map fun v => v.category).sum ≤ 8) (kk : q_G Γ ad nL (pc + 3) la (v :: st) n h 0 0) : q_G Γ ad nL pc la (.ref (200 + i) :: st) n h 0 0 := g_callVs (as := []) C hi hl hdg hs hd hst rfl kk
theorem g_Vs1 (C : q_C Γ ad d 0 0 own y cc nL ret) {d2 ix i : Nat} {y2 : MethodName} {cc2 : ByteArray} {maxL2 : Nat} {ret2 : Option FieldType} {v x1 : Value} (hi : i < 7) (hl : q_LVs own ix y2 cc2 maxL2 ret2 1) (hdg : decode cc pc = .ok (.invokevirtual ix, 3)) (hs : SP d2 y2 cc2 maxL2 ret2 [.ref (200 + i), x1] n h (some v) h) (hd : d2 < d) (hst : (st.map fun v => v.category).sum ≤ 8) (kk : q_G Γ ad nL (pc + 3) la (v :: st) n h 0 0) : q_G Γ ad nL pc la (x1 :: .ref (200 + i) :: st) n h 0 0 := g_callVs (as := [x1]) C hi hl hdg hs hd hst rfl kk
end QJ
theorem zw2_124 : Cond.methodLink RJ0 335 yJ0_coder_7d493 ∈ q_Z := q_zt2 (List.mem_of_getElem? (i := 124) rfl) rfl
theorem zw2_125 : Cond.instanceMethod yJ0_coder_7d493 ∈ q_Z := q_zt2 (List.mem_of_getElem? (i := 125) rfl) rfl
theorem zw2_126 : Cond.selects RJ0 yJ0_coder_7d493 yJ0_coder_7d493 ∈ q_Z := q_zt2 (List.mem_of_getElem? (i := 126) rfl) rfl
theorem zw1_12 : Cond.initialized RJ0 ∈ q_Z := q_zt1 (List.mem_of_getElem? (i := 12) rfl) rfl
theorem zw2_127 : Cond.code yJ0_coder_7d493 cJ0_coder_7d493 1 (some .byte) ∈ q_Z := q_zt2 (List.mem_of_getElem? (i := 127) rfl) rfl
theorem zw2_134 : Cond.methodLink RJ0 492 yJ0_isLatin1_aae02 ∈ q_Z := q_zt2 (List.mem_of_getElem? (i := 134) rfl) rfl
theorem zw2_135 : Cond.instanceMethod yJ0_isLatin1_aae02 ∈ q_Z := q_zt2 (List.mem_of_getElem? (i := 135) rfl) rfl
theorem zw2_136 : Cond.selects RJ0 yJ0_isLatin1_aae02 yJ0_isLatin1_aae02 ∈ q_Z := q_zt2 (List.mem_of_getElem? (i := 136) rfl) rfl
theorem zw2_137 : Cond.code yJ0_isLatin1_aae02 cJ0_isLatin1_aae02 1 (some .boolean) ∈ q_Z := q_zt2 (List.mem_of_getElem? (i := 137) rfl) rfl
theorem zw2_138 : Cond.methodLink RJ0 495 yJ1_charAt_3b067 ∈ q_Z := q_zt2 (List.mem_of_getElem? (i := 138) rfl) rfl
theorem zw2_139 : Cond.static yJ1_charAt_3b067 ∈ q_Z := q_zt2 (List.mem_of_getElem? (i := 139) rfl) rfl
theorem zw1_13 : Cond.initialized RJ1 ∈ q_Z := q_zt1 (List.mem_of_getElem? (i := 13) rfl) rfl
theorem zw2_140 : Cond.code yJ1_charAt_3b067 cJ1_charAt_3b067 2 (some .char) ∈ q_Z := q_zt2 (List.mem_of_getElem? (i := 140) rfl) rfl
theorem zw2_141 : Cond.methodLink RJ1 9 yJ0_checkIndex_df160 ∈ q_Z := q_zt2 (List.mem_of_getElem? (i := 141) rfl) rfl
theorem zw2_142 : Cond.static yJ0_checkIndex_df160 ∈ q_Z := q_zt2 (List.mem_of_getElem? (i := 142) rfl) rfl
theorem zw2_143 : Cond.code yJ0_checkIndex_df160 cJ0_checkIndex_df160 2 none ∈ q_Z := q_zt2 (List.mem_of_getElem? (i := 143) rfl) rfl
theorem zw2_146 : Cond.methodLink RJ0 1059 yJ3_checkIndex_8e157 ∈ q_Z := q_zt2 (List.mem_of_getElem? (i := 146) rfl) rfl
theorem zw2_147 : Cond.static yJ3_checkIndex_8e157 ∈ q_Z := q_zt2 (List.mem_of_getElem? (i := 147) rfl) rfl
theorem zw1_14 : Cond.initialized RJ3 ∈ q_Z := q_zt1 (List.mem_of_getElem? (i := 14) rfl) rfl
theorem zw2_148 : Cond.code yJ3_checkIndex_8e157 cJ3_checkIndex_8e157 3 (some .int) ∈ q_Z := q_zt2 (List.mem_of_getElem? (i := 148) rfl) rfl
theorem zw2_120 : Cond.methodLink RX5 93 yJ0_length_8abf5 ∈ q_Z := q_zt2 (List.mem_of_getElem? (i := 120) rfl) rfl
theorem zw2_121 : Cond.instanceMethod yJ0_length_8abf5 ∈ q_Z := q_zt2 (List.mem_of_getElem? (i := 121) rfl) rfl
theorem zw2_122 : Cond.selects RJ0 yJ0_length_8abf5 yJ0_length_8abf5 ∈ q_Z := q_zt2 (List.mem_of_getElem? (i := 122) rfl) rfl
theorem zw2_123 : Cond.code yJ0_length_8abf5 cJ0_length_8abf5 1 (some .int) ∈ q_Z := q_zt2 (List.mem_of_getElem? (i := 123) rfl) rfl
theorem zw2_130 : Cond.methodLink RX5 101 yJ0_charAt_5068e ∈ q_Z := q_zt2 (List.mem_of_getElem? (i := 130) rfl) rfl
theorem zw2_131 : Cond.instanceMethod yJ0_charAt_5068e ∈ q_Z := q_zt2 (List.mem_of_getElem? (i := 131) rfl) rfl
theorem zw2_132 : Cond.selects RJ0 yJ0_charAt_5068e yJ0_charAt_5068e ∈ q_Z := q_zt2 (List.mem_of_getElem? (i := 132) rfl) rfl
theorem zw2_133 : Cond.code yJ0_charAt_5068e cJ0_charAt_5068e 2 (some .char) ∈ q_Z := q_zt2 (List.mem_of_getElem? (i := 133) rfl) rfl
theorem zw5_217 : Cond.fieldLink RJ0 9 "java/lang/String" "value" "[B" ∈ q_Z := q_zt5 (List.mem_of_getElem? (i := 217) rfl) rfl
theorem zw5_218 : Cond.fieldLink RJ0 15 "java/lang/String" "coder" "B" ∈ q_Z := q_zt5 (List.mem_of_getElem? (i := 218) rfl) rfl
theorem zw2_128 : Cond.fieldLink RJ0 38 "java/lang/String" "COMPACT_STRINGS" "Z" ∈ q_Z := q_zt2 (List.mem_of_getElem? (i := 128) rfl) rfl
theorem zw2_144 : Cond.fieldLink RJ0 1053 "jdk/internal/util/Preconditions" "SIOOBE_FORMATTER" "Ljava/util/function/BiFunction;" ∈ q_Z := q_zt2 (List.mem_of_getElem? (i := 144) rfl) rfl
theorem lj_coder : q_LVs RJ0 335 yJ0_coder_7d493 cJ0_coder_7d493 1 (some .byte) 0 := ⟨⟨zw2_124, zw2_125, zw2_126, zw1_12, zw2_127⟩, ⟨by decide, by decide, by decide +kernel⟩, rfl, by decide⟩
theorem lj_latin : q_LVs RJ0 492 yJ0_isLatin1_aae02 cJ0_isLatin1_aae02 1 (some .boolean) 0 := ⟨⟨zw2_134, zw2_135, zw2_136, zw1_12, zw2_137⟩, ⟨by decide, by decide, by decide +kernel⟩, rfl, by decide⟩
theorem lj_l1c : q_LS RJ0 495 yJ1_charAt_3b067 cJ1_charAt_3b067 2 (some .char) 2 := ⟨⟨Or.inl zw2_138, zw2_139, zw1_13, zw2_140⟩, ⟨by decide, by decide, by decide +kernel⟩, by decide⟩
theorem lj_chk : q_LS RJ1 9 yJ0_checkIndex_df160 cJ0_checkIndex_df160 2 none 2 := ⟨⟨Or.inl zw2_141, zw2_142, zw1_12, zw2_143⟩, ⟨by decide, by decide, by decide +kernel⟩, by decide⟩
theorem lj_pre : q_LS RJ0 1059 yJ3_checkIndex_8e157 cJ3_checkIndex_8e157 3 (some .int) 3 := ⟨⟨Or.inl zw2_146, zw2_147, zw1_14, zw2_148⟩, ⟨by decide, by decide, by decide +kernel⟩, by decide⟩
theorem lj_len5 : q_LVs RX5 93 yJ0_length_8abf5 cJ0_length_8abf5 1 (some .int) 0 := ⟨⟨zw2_120, zw2_121, zw2_122, zw1_12, zw2_123⟩, ⟨by decide, by decide, by decide +kernel⟩, rfl, by decide⟩
theorem lj_chr5 : q_LVs RX5 101 yJ0_charAt_5068e cJ0_charAt_5068e 2 (some .char) 1 := ⟨⟨zw2_130, zw2_131, zw2_132, zw1_12, zw2_133⟩, ⟨by decide, by decide, by decide +kernel⟩, rfl, by decide⟩
set_option maxHeartbeats 2000000 in
set_option maxRecDepth 20000 in
theorem sj_coder {n : Nat} {h : q_H} (i : Nat) (hi : i < 7) : SP 0 yJ0_coder_7d493 cJ0_coder_7d493 1 (some .byte) [.ref (200 + i)] n h (some (.int (nI 0))) h := by
  refine q_SPi RJ0 rfl (by decide +kernel) (la := _) rfl rfl (fun Γ ad C F => ?_)
  refine g_scs (pc := 0) C zw2_128 dJ0_coder_7d493_0 ?_
  refine g_if_eqN (pc := 3) C 13 dJ0_coder_7d493_3 (by decide) (by decide) (fun q => absurd q (by decide)) (fun _ => ?_)
  refine g_aload_n (pc := 6) C (hl := rfl) dJ0_coder_7d493_6 ?_
  refine g_scod (pc := 7) C hi zw5_218 dJ0_coder_7d493_7 ?_
  refine g_goto (pc := 10) C 14 dJ0_coder_7d493_10 (by decide) ?_
  exact g_iret (pc := 14) C F dJ0_coder_7d493_14 rfl (by decide +kernel) rfl rfl
set_option maxHeartbeats 2000000 in
set_option maxRecDepth 20000 in
theorem sj_latin {n : Nat} {h : q_H} (i : Nat) (hi : i < 7) : SP 0 yJ0_isLatin1_aae02 cJ0_isLatin1_aae02 1 (some .boolean) [.ref (200 + i)] n h (some (.int (nI 1))) h := by
  refine q_SPi RJ0 rfl (by decide +kernel) (la := _) rfl rfl (fun Γ ad C F => ?_)
  refine g_scs (pc := 0) C zw2_128 dJ0_isLatin1_aae02_0 ?_
  refine g_if_eqN (pc := 3) C 17 dJ0_isLatin1_aae02_3 (by decide) (by decide) (fun q => absurd q (by decide)) (fun _ => ?_)
  refine g_aload_n (pc := 6) C (hl := rfl) dJ0_isLatin1_aae02_6 ?_
  refine g_scod (pc := 7) C hi zw5_218 dJ0_isLatin1_aae02_7 ?_
  refine g_if_neN (pc := 10) C 17 dJ0_isLatin1_aae02_10 (by decide) (by decide) (fun q => absurd rfl q) (fun _ => ?_)
  refine g_iconst (pc := 13) C qk_iconst_1 dJ0_isLatin1_aae02_13 ?_
  refine g_goto (pc := 14) C 18 dJ0_isLatin1_aae02_14 (by decide) ?_
  exact g_iret (pc := 18) C F dJ0_isLatin1_aae02_18 rfl (by decide +kernel) rfl rfl
theorem q_lenS : ∀ i, i < 7 → q_len.getD i 0 < 10 ∧ nI (q_len.getD i 0) >>> (nI 0 &&& 31) = nI (q_len.getD i 0) := by decide +kernel
set_option maxHeartbeats 2000000 in
set_option maxRecDepth 20000 in
theorem sj_len {n : Nat} {h : q_H} (i : Nat) (hi : i < 7) : SP 1 yJ0_length_8abf5 cJ0_length_8abf5 1 (some .int) [.ref (200 + i)] n h (some (.int (nI (q_len.getD i 0)))) h := by
  refine q_SPi RJ0 rfl (by decide +kernel) (la := _) rfl rfl (fun Γ ad C F => ?_)
  refine g_aload_n (pc := 0) C (hl := rfl) dJ0_length_8abf5_0 ?_
  refine g_sval (pc := 1) C hi zw5_217 dJ0_length_8abf5_1 ?_
  refine g_sbn (pc := 4) C hi dJ0_length_8abf5_4 ?_
  refine g_aload_n (pc := 5) C (hl := rfl) dJ0_length_8abf5_5 ?_
  refine g_Vs0 (pc := 6) C hi lj_coder dJ0_length_8abf5_6 (sj_coder i hi) (by decide) (Nat.le_of_ble_eq_true rfl) ?_
  refine g_ishr (pc := 9) C dJ0_length_8abf5_9 ?_
  exact g_iret (pc := 10) C F dJ0_length_8abf5_10 rfl rfl (by rw [(q_lenS i hi).2]) rfl
set_option maxHeartbeats 2000000 in
set_option maxRecDepth 20000 in
theorem sj_pre {n : Nat} {h : q_H} (k N : Nat) (v : Value) (hv : v = .null ∨ v = .ref 220) (hk : k < N ∧ N < 2147483648) : SP 0 yJ3_checkIndex_8e157 cJ3_checkIndex_8e157 3 (some .int) [.int (nI k), .int (nI N), v] n h (some (.int (nI k))) h := by
  have hv2 : v.category = 1 := by rcases hv with rfl | rfl <;> rfl
  have e : q_la 3 [.int (nI k), .int (nI N), v] = [some (.int (nI k)), some (.int (nI N)), some v] := by
    rcases hv with rfl | rfl <;> rfl
  refine q_SPi RJ3 rfl (by decide +kernel) (la := _) e rfl (fun Γ ad C F => ?_)
  refine g_iload_n (pc := 0) C (hl := rfl) dJ3_checkIndex_8e157_0 ?_
  refine g_if_ltN (pc := 1) C 9 dJ3_checkIndex_8e157_1 (by decide) (by omega) ?_
  refine g_iload_n (pc := 4) C (hl := rfl) dJ3_checkIndex_8e157_4 ?_
  refine g_iload_n (pc := 5) C (hl := rfl) dJ3_checkIndex_8e157_5 ?_
  refine g_ic_ltN (pc := 6) C 16 dJ3_checkIndex_8e157_6 (by decide) (by omega) (fun _ => ?_) (fun q => absurd hk.1 q)
  refine g_iload_n (pc := 16) C (hl := rfl) dJ3_checkIndex_8e157_16 ?_
  exact g_iret (pc := 17) C F dJ3_checkIndex_8e157_17 rfl rfl rfl rfl
set_option maxHeartbeats 2000000 in
set_option maxRecDepth 20000 in
theorem sj_chk {n : Nat} {h : q_H} (k N : Nat) (hk : k < N ∧ N < 2147483648) : SP 1 yJ0_checkIndex_df160 cJ0_checkIndex_df160 2 none [.int (nI k), .int (nI N)] n h none h := by
  refine q_SPi RJ0 rfl (by decide +kernel) (la := _) rfl rfl (fun Γ ad C F => ?_)
  refine g_iload_n (pc := 0) C (hl := rfl) dJ0_checkIndex_df160_0 ?_
  refine g_iload_n (pc := 1) C (hl := rfl) dJ0_checkIndex_df160_1 ?_
  refine g_sfm (pc := 2) C zw2_144 dJ0_checkIndex_df160_2 ?_ ?_
  · refine g_S3v (pc := 5) C lj_pre dJ0_checkIndex_df160_5 (sj_pre k N _ (Or.inl rfl) hk) (by decide) (Nat.le_of_ble_eq_true rfl) ?_
    refine g_pop (pc := 8) C rfl dJ0_checkIndex_df160_8 ?_
    exact g_vret (pc := 9) C F dJ0_checkIndex_df160_9 rfl rfl rfl
  · refine g_S3v (pc := 5) C lj_pre dJ0_checkIndex_df160_5 (sj_pre k N _ (Or.inr rfl) hk) (by decide) (Nat.le_of_ble_eq_true rfl) ?_
    refine g_pop (pc := 8) C rfl dJ0_checkIndex_df160_8 ?_
    exact g_vret (pc := 9) C F dJ0_checkIndex_df160_9 rfl rfl rfl
def q_chr (i j : Nat) : Int32 := (q_byt.getD i []).getD j 0
theorem q_chrS : ∀ i, i < 7 → ∀ j, j < q_len.getD i 0 → ((q_chr i j &&& nI 255).toUInt32 % 65536).toInt32 = q_chr i j ∧ narrow .char (.int (q_chr i j)) = .int (q_chr i j) := by decide +kernel
set_option maxHeartbeats 2000000 in
set_option maxRecDepth 20000 in
theorem sj_l1c {n : Nat} {h : q_H} (i j : Nat) (hi : i < 7) (hj : j < q_len.getD i 0) : SP 2 yJ1_charAt_3b067 cJ1_charAt_3b067 2 (some .char) [.ref (210 + i), .int (nI j)] n h (some (.int (q_chr i j))) h := by
  refine q_SPi RJ1 rfl (by decide +kernel) (la := _) rfl rfl (fun Γ ad C F => ?_)
  have hl := (q_lenS i hi).1
  refine g_iload_n (pc := 0) C (hl := rfl) dJ1_charAt_3b067_0 ?_
  refine g_aload_n (pc := 1) C (hl := rfl) dJ1_charAt_3b067_1 ?_
  refine g_sbn (pc := 2) C hi dJ1_charAt_3b067_2 ?_
  refine g_S2u (pc := 3) C lj_chk dJ1_charAt_3b067_3 (sj_chk j _ ⟨hj, by omega⟩) (by decide) (Nat.le_of_ble_eq_true rfl) ?_
  refine g_aload_n (pc := 6) C (hl := rfl) dJ1_charAt_3b067_6 ?_
  refine g_iload_n (pc := 7) C (hl := rfl) dJ1_charAt_3b067_7 ?_
  refine g_sbl (pc := 8) C hi ⟨hj, by omega⟩ dJ1_charAt_3b067_8 ?_
  refine g_sipush (pc := 9) C qk_sipush_255 dJ1_charAt_3b067_9 ?_
  refine g_iand (pc := 12) C dJ1_charAt_3b067_12 ?_
  refine g_i2c (pc := 13) C (q_chrS i hi j hj).1 dJ1_charAt_3b067_13 ?_
  exact g_iret (pc := 14) C F dJ1_charAt_3b067_14 rfl (q_chrS i hi j hj).2 rfl rfl
set_option maxHeartbeats 2000000 in
set_option maxRecDepth 20000 in
theorem sj_chr {n : Nat} {h : q_H} (i j : Nat) (hi : i < 7) (hj : j < q_len.getD i 0) : SP 3 yJ0_charAt_5068e cJ0_charAt_5068e 2 (some .char) [.ref (200 + i), .int (nI j)] n h (some (.int (q_chr i j))) h := by
  refine q_SPi RJ0 rfl (by decide +kernel) (la := _) rfl rfl (fun Γ ad C F => ?_)
  refine g_aload_n (pc := 0) C (hl := rfl) dJ0_charAt_5068e_0 ?_
  refine g_Vs0 (pc := 1) C hi lj_latin dJ0_charAt_5068e_1 (sj_latin i hi) (by decide) (Nat.le_of_ble_eq_true rfl) ?_
  refine g_if_eqN (pc := 4) C 16 dJ0_charAt_5068e_4 (by decide) (by decide) (fun q => absurd q (by decide)) (fun _ => ?_)
  refine g_aload_n (pc := 7) C (hl := rfl) dJ0_charAt_5068e_7 ?_
  refine g_sval (pc := 8) C hi zw5_217 dJ0_charAt_5068e_8 ?_
  refine g_iload_n (pc := 11) C (hl := rfl) dJ0_charAt_5068e_11 ?_
  refine g_S2v (pc := 12) C lj_l1c dJ0_charAt_5068e_12 (sj_l1c i j hi hj) (by decide) (Nat.le_of_ble_eq_true rfl) ?_
  exact g_iret (pc := 15) C F dJ0_charAt_5068e_15 rfl (q_chrS i hi j hj).2 rfl rfl
theorem zstr_38 (ad : Nat → Nat) (A : Nat → Prop) (U : State) (H : Heap) (h : q_SF ad A U H) : vk_R RX5 38 "guest" (ad (200 + 0)) U := h.2.2.2.1
theorem zstr_80 (ad : Nat → Nat) (A : Nat → Prop) (U : State) (H : Heap) (h : q_SF ad A U H) : vk_R RX5 80 "eater" (ad (200 + 1)) U := h.2.2.2.2.1
theorem zstr_82 (ad : Nat → Nat) (A : Nat → Prop) (U : State) (H : Heap) (h : q_SF ad A U H) : vk_R RX5 82 "fast" (ad (200 + 2)) U := h.2.2.2.2.2.1
theorem zstr_84 (ad : Nat → Nat) (A : Nat → Prop) (U : State) (H : Heap) (h : q_SF ad A U H) : vk_R RX5 84 "greedy" (ad (200 + 3)) U := h.2.2.2.2.2.2.1
theorem zstr_86 (ad : Nat → Nat) (A : Nat → Prop) (U : State) (H : Heap) (h : q_SF ad A U H) : vk_R RX5 86 "deaf" (ad (200 + 4)) U := h.2.2.2.2.2.2.2.1
theorem zstr_88 (ad : Nat → Nat) (A : Nat → Prop) (U : State) (H : Heap) (h : q_SF ad A U H) : vk_R RX5 88 "drunk" (ad (200 + 5)) U := h.2.2.2.2.2.2.2.2.1
theorem zstr_50 (ad : Nat → Nat) (A : Nat → Prop) (U : State) (H : Heap) (h : q_SF ad A U H) : vk_R RX5 50 "dish" (ad (200 + 6)) U := h.2.2.2.2.2.2.2.2.2
