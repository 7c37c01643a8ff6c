section
-- ===== PART A: goes FIRST, ahead of the names: the tables' words, and 'selects' of the private methods out of them =====
/-- a private method of a class that the tables say can be made, by its rows of tables_1 -/
def lw_okq (q : MethodName × Nat) : Prop := (q.1.cls ≠ "java/lang/invoke/MethodHandle" ∧ q.1.cls ≠ "java/lang/invoke/VarHandle") ∧ Cond.instantiable q.1.cls q.2 ∈ tables_1 ∧ Cond.privateMethod q.1 ∈ tables_1 ∧ Cond.instanceMethod q.1 ∈ tables_1
theorem lw_p0 : lw_okq (⟨"TurningDishes", "rowAt", "(I)LTurningDishes$Row;"⟩, 9) := ⟨⟨by decide +kernel, by decide +kernel⟩, List.mem_of_getElem? (i := 17) (by decide +kernel), List.mem_of_getElem? (i := 232) (by decide +kernel), List.mem_of_getElem? (i := 233) (by decide +kernel)⟩
theorem lw_p1 : lw_okq (⟨"TurningDishes", "found", "(I)I"⟩, 9) := ⟨⟨by decide +kernel, by decide +kernel⟩, List.mem_of_getElem? (i := 17) (by decide +kernel), List.mem_of_getElem? (i := 240) (by decide +kernel), List.mem_of_getElem? (i := 241) (by decide +kernel)⟩
theorem lw_p2 : lw_okq (⟨"TurningDishes", "fine", "(I)I"⟩, 9) := ⟨⟨by decide +kernel, by decide +kernel⟩, List.mem_of_getElem? (i := 17) (by decide +kernel), List.mem_of_getElem? (i := 255) (by decide +kernel), List.mem_of_getElem? (i := 256) (by decide +kernel)⟩
theorem lw_p3 : lw_okq (⟨"TurningDishes$TableReader", "next", "()V"⟩, 8) := ⟨⟨by decide +kernel, by decide +kernel⟩, List.mem_of_getElem? (i := 86) (by decide +kernel), List.mem_of_getElem? (i := 320) (by decide +kernel), List.mem_of_getElem? (i := 321) (by decide +kernel)⟩
theorem lw_p4 : lw_okq (⟨"TurningDishes$TableReader", "valueOfFigures", "()I"⟩, 8) := ⟨⟨by decide +kernel, by decide +kernel⟩, List.mem_of_getElem? (i := 86) (by decide +kernel), List.mem_of_getElem? (i := 352) (by decide +kernel), List.mem_of_getElem? (i := 353) (by decide +kernel)⟩
theorem lw_p5 : lw_okq (⟨"TurningDishes$TableReader", "isWord", "(Ljava/lang/String;)Z"⟩, 8) := ⟨⟨by decide +kernel, by decide +kernel⟩, List.mem_of_getElem? (i := 86) (by decide +kernel), List.mem_of_getElem? (i := 357) (by decide +kernel), List.mem_of_getElem? (i := 358) (by decide +kernel)⟩
theorem lw_p6 : lw_okq (⟨"TurningDishes$TableReader", "readGuest", "()V"⟩, 8) := ⟨⟨by decide +kernel, by decide +kernel⟩, List.mem_of_getElem? (i := 86) (by decide +kernel), List.mem_of_getElem? (i := 409) (by decide +kernel), List.mem_of_getElem? (i := 410) (by decide +kernel)⟩
theorem lw_p7 : lw_okq (⟨"TurningDishes$TableReader", "sortNamed", "()I"⟩, 8) := ⟨⟨by decide +kernel, by decide +kernel⟩, List.mem_of_getElem? (i := 86) (by decide +kernel), List.mem_of_getElem? (i := 413) (by decide +kernel), List.mem_of_getElem? (i := 414) (by decide +kernel)⟩
theorem lw_p8 : lw_okq (⟨"TurningDishes$TableReader", "readNumberAndEnd", "(I)I"⟩, 8) := ⟨⟨by decide +kernel, by decide +kernel⟩, List.mem_of_getElem? (i := 86) (by decide +kernel), List.mem_of_getElem? (i := 422) (by decide +kernel), List.mem_of_getElem? (i := 423) (by decide +kernel)⟩
theorem lw_p9 : lw_okq (⟨"TurningDishes$TableReader", "readDish", "()V"⟩, 8) := ⟨⟨by decide +kernel, by decide +kernel⟩, List.mem_of_getElem? (i := 86) (by decide +kernel), List.mem_of_getElem? (i := 439) (by decide +kernel), List.mem_of_getElem? (i := 440) (by decide +kernel)⟩
theorem lw_p10 : lw_okq (⟨"TurningDishes$Acts", "at", "(I)LTurningDishes$Table;"⟩, 3) := ⟨⟨by decide +kernel, by decide +kernel⟩, List.mem_of_getElem? (i := 137) (by decide +kernel), List.mem_of_getElem? (i := 476) (by decide +kernel), List.mem_of_getElem? (i := 477) (by decide +kernel)⟩
theorem lw_p11 : lw_okq (⟨"TurningDishes$Table", "pushBy", "(I)I"⟩, 8) := ⟨⟨by decide +kernel, by decide +kernel⟩, List.mem_of_getElem? (i := 46) (by decide +kernel), List.mem_of_getElem? (i := 494) (by decide +kernel), List.mem_of_getElem? (i := 495) (by decide +kernel)⟩
theorem lw_p12 : lw_okq (⟨"TurningDishes$Table", "biteOf", "(II)I"⟩, 8) := ⟨⟨by decide +kernel, by decide +kernel⟩, List.mem_of_getElem? (i := 46) (by decide +kernel), List.mem_of_getElem? (i := 519) (by decide +kernel), List.mem_of_getElem? (i := 520) (by decide +kernel)⟩
theorem lw_p13 : lw_okq (⟨"TurningDishes$Foresight", "passMinutes", "(II)I"⟩, 3) := ⟨⟨by decide +kernel, by decide +kernel⟩, List.mem_of_getElem? (i := 156) (by decide +kernel), List.mem_of_getElem? (i := 582) (by decide +kernel), List.mem_of_getElem? (i := 583) (by decide +kernel)⟩
theorem lw_p14 : lw_okq (⟨"TurningDishes$Foresight", "layAsTried", "()V"⟩, 3) := ⟨⟨by decide +kernel, by decide +kernel⟩, List.mem_of_getElem? (i := 156) (by decide +kernel), List.mem_of_getElem? (i := 650) (by decide +kernel), List.mem_of_getElem? (i := 651) (by decide +kernel)⟩
theorem lw_p15 : lw_okq (⟨"TurningDishes$Foresight", "toNextOrder", "(I)Z"⟩, 3) := ⟨⟨by decide +kernel, by decide +kernel⟩, List.mem_of_getElem? (i := 156) (by decide +kernel), List.mem_of_getElem? (i := 656) (by decide +kernel), List.mem_of_getElem? (i := 657) (by decide +kernel)⟩
def lw_privs_1 : List (MethodName × Nat) := [(⟨"TurningDishes", "rowAt", "(I)LTurningDishes$Row;"⟩, 9), (⟨"TurningDishes", "found", "(I)I"⟩, 9), (⟨"TurningDishes", "fine", "(I)I"⟩, 9), (⟨"TurningDishes$TableReader", "next", "()V"⟩, 8), (⟨"TurningDishes$TableReader", "valueOfFigures", "()I"⟩, 8), (⟨"TurningDishes$TableReader", "isWord", "(Ljava/lang/String;)Z"⟩, 8), (⟨"TurningDishes$TableReader", "readGuest", "()V"⟩, 8), (⟨"TurningDishes$TableReader", "sortNamed", "()I"⟩, 8), (⟨"TurningDishes$TableReader", "readNumberAndEnd", "(I)I"⟩, 8), (⟨"TurningDishes$TableReader", "readDish", "()V"⟩, 8), (⟨"TurningDishes$Acts", "at", "(I)LTurningDishes$Table;"⟩, 3), (⟨"TurningDishes$Table", "pushBy", "(I)I"⟩, 8), (⟨"TurningDishes$Table", "biteOf", "(II)I"⟩, 8), (⟨"TurningDishes$Foresight", "passMinutes", "(II)I"⟩, 3), (⟨"TurningDishes$Foresight", "layAsTried", "()V"⟩, 3), (⟨"TurningDishes$Foresight", "toNextOrder", "(I)Z"⟩, 3)]
theorem lw_r1 : ∀ q ∈ lw_privs_1, lw_okq q := List.forall_mem_cons.mpr ⟨lw_p0, List.forall_mem_cons.mpr ⟨lw_p1, List.forall_mem_cons.mpr ⟨lw_p2, List.forall_mem_cons.mpr ⟨lw_p3, List.forall_mem_cons.mpr ⟨lw_p4, List.forall_mem_cons.mpr ⟨lw_p5, List.forall_mem_cons.mpr ⟨lw_p6, List.forall_mem_cons.mpr ⟨lw_p7, List.forall_mem_cons.mpr ⟨lw_p8, List.forall_mem_cons.mpr ⟨lw_p9, List.forall_mem_cons.mpr ⟨lw_p10, List.forall_mem_cons.mpr ⟨lw_p11, List.forall_mem_cons.mpr ⟨lw_p12, List.forall_mem_cons.mpr ⟨lw_p13, List.forall_mem_cons.mpr ⟨lw_p14, List.forall_mem_cons.mpr ⟨lw_p15, fun _ h => absurd h List.not_mem_nil⟩⟩⟩⟩⟩⟩⟩⟩⟩⟩⟩⟩⟩⟩⟩⟩
theorem lw_p16 : lw_okq (⟨"TurningDishes$Foresight", "swapTried", "(II)V"⟩, 3) := ⟨⟨by decide +kernel, by decide +kernel⟩, List.mem_of_getElem? (i := 156) (by decide +kernel), List.mem_of_getElem? (i := 660) (by decide +kernel), List.mem_of_getElem? (i := 661) (by decide +kernel)⟩
theorem lw_p17 : lw_okq (⟨"TurningDishes$Foresight", "isLeft", "(LTurningDishes$Row;I)Z"⟩, 3) := ⟨⟨by decide +kernel, by decide +kernel⟩, List.mem_of_getElem? (i := 156) (by decide +kernel), List.mem_of_getElem? (i := 678) (by decide +kernel), List.mem_of_getElem? (i := 679) (by decide +kernel)⟩
theorem lw_p18 : lw_okq (⟨"TurningDishes", "imageAt", "(I)LTurningDishes$Table;"⟩, 9) := ⟨⟨by decide +kernel, by decide +kernel⟩, List.mem_of_getElem? (i := 17) (by decide +kernel), List.mem_of_getElem? (i := 696) (by decide +kernel), List.mem_of_getElem? (i := 697) (by decide +kernel)⟩
theorem lw_p19 : lw_okq (⟨"TurningDishes$Asks", "size12", "()I"⟩, 6) := ⟨⟨by decide +kernel, by decide +kernel⟩, List.mem_of_getElem? (i := 175) (by decide +kernel), List.mem_of_getElem? (i := 728) (by decide +kernel), List.mem_of_getElem? (i := 729) (by decide +kernel)⟩
theorem lw_p20 : lw_okq (⟨"TurningDishes$Asks", "leave", "(I)V"⟩, 6) := ⟨⟨by decide +kernel, by decide +kernel⟩, List.mem_of_getElem? (i := 175) (by decide +kernel), List.mem_of_getElem? (i := 732) (by decide +kernel), List.mem_of_getElem? (i := 733) (by decide +kernel)⟩
theorem lw_p21 : lw_okq (⟨"TurningDishes$Asks", "size11", "()I"⟩, 6) := ⟨⟨by decide +kernel, by decide +kernel⟩, List.mem_of_getElem? (i := 175) (by decide +kernel), List.mem_of_getElem? (i := 736) (by decide +kernel), List.mem_of_getElem? (i := 737) (by decide +kernel)⟩
theorem lw_p22 : lw_okq (⟨"TurningDishes$Asks", "size10", "()I"⟩, 6) := ⟨⟨by decide +kernel, by decide +kernel⟩, List.mem_of_getElem? (i := 175) (by decide +kernel), List.mem_of_getElem? (i := 740) (by decide +kernel), List.mem_of_getElem? (i := 741) (by decide +kernel)⟩
theorem lw_p23 : lw_okq (⟨"TurningDishes$Asks", "mark24", "()I"⟩, 6) := ⟨⟨by decide +kernel, by decide +kernel⟩, List.mem_of_getElem? (i := 175) (by decide +kernel), List.mem_of_getElem? (i := 744) (by decide +kernel), List.mem_of_getElem? (i := 745) (by decide +kernel)⟩
theorem lw_p24 : lw_okq (⟨"TurningDishes$Asks", "mark21", "()I"⟩, 6) := ⟨⟨by decide +kernel, by decide +kernel⟩, List.mem_of_getElem? (i := 175) (by decide +kernel), List.mem_of_getElem? (i := 748) (by decide +kernel), List.mem_of_getElem? (i := 749) (by decide +kernel)⟩
theorem lw_p25 : lw_okq (⟨"TurningDishes$Asks", "mark20", "()I"⟩, 6) := ⟨⟨by decide +kernel, by decide +kernel⟩, List.mem_of_getElem? (i := 175) (by decide +kernel), List.mem_of_getElem? (i := 752) (by decide +kernel), List.mem_of_getElem? (i := 753) (by decide +kernel)⟩
theorem lw_p26 : lw_okq (⟨"TurningDishes$Asks", "mark22", "()I"⟩, 6) := ⟨⟨by decide +kernel, by decide +kernel⟩, List.mem_of_getElem? (i := 175) (by decide +kernel), List.mem_of_getElem? (i := 756) (by decide +kernel), List.mem_of_getElem? (i := 757) (by decide +kernel)⟩
theorem lw_p27 : lw_okq (⟨"TurningDishes$Asks", "size13", "()I"⟩, 6) := ⟨⟨by decide +kernel, by decide +kernel⟩, List.mem_of_getElem? (i := 175) (by decide +kernel), List.mem_of_getElem? (i := 760) (by decide +kernel), List.mem_of_getElem? (i := 761) (by decide +kernel)⟩
theorem lw_p28 : lw_okq (⟨"TurningDishes$Asks", "size14", "()I"⟩, 6) := ⟨⟨by decide +kernel, by decide +kernel⟩, List.mem_of_getElem? (i := 175) (by decide +kernel), List.mem_of_getElem? (i := 764) (by decide +kernel), List.mem_of_getElem? (i := 765) (by decide +kernel)⟩
theorem lw_p29 : lw_okq (⟨"TurningDishes$Asks", "mark23", "()I"⟩, 6) := ⟨⟨by decide +kernel, by decide +kernel⟩, List.mem_of_getElem? (i := 175) (by decide +kernel), List.mem_of_getElem? (i := 772) (by decide +kernel), List.mem_of_getElem? (i := 773) (by decide +kernel)⟩
theorem lw_p30 : lw_okq (⟨"TurningDishes", "rowsThere", "()I"⟩, 9) := ⟨⟨by decide +kernel, by decide +kernel⟩, List.mem_of_getElem? (i := 17) (by decide +kernel), List.mem_of_getElem? (i := 789) (by decide +kernel), List.mem_of_getElem? (i := 790) (by decide +kernel)⟩
theorem lw_p31 : lw_okq (⟨"TurningDishesModel", "found", "(I)I"⟩, 22) := ⟨⟨by decide +kernel, by decide +kernel⟩, List.mem_of_getElem? (i := 801) (by decide +kernel), List.mem_of_getElem? (i := 888) (by decide +kernel), List.mem_of_getElem? (i := 889) (by decide +kernel)⟩
def lw_privs_2 : List (MethodName × Nat) := [(⟨"TurningDishes$Foresight", "swapTried", "(II)V"⟩, 3), (⟨"TurningDishes$Foresight", "isLeft", "(LTurningDishes$Row;I)Z"⟩, 3), (⟨"TurningDishes", "imageAt", "(I)LTurningDishes$Table;"⟩, 9), (⟨"TurningDishes$Asks", "size12", "()I"⟩, 6), (⟨"TurningDishes$Asks", "leave", "(I)V"⟩, 6), (⟨"TurningDishes$Asks", "size11", "()I"⟩, 6), (⟨"TurningDishes$Asks", "size10", "()I"⟩, 6), (⟨"TurningDishes$Asks", "mark24", "()I"⟩, 6), (⟨"TurningDishes$Asks", "mark21", "()I"⟩, 6), (⟨"TurningDishes$Asks", "mark20", "()I"⟩, 6), (⟨"TurningDishes$Asks", "mark22", "()I"⟩, 6), (⟨"TurningDishes$Asks", "size13", "()I"⟩, 6), (⟨"TurningDishes$Asks", "size14", "()I"⟩, 6), (⟨"TurningDishes$Asks", "mark23", "()I"⟩, 6), (⟨"TurningDishes", "rowsThere", "()I"⟩, 9), (⟨"TurningDishesModel", "found", "(I)I"⟩, 22)]
theorem lw_r2 : ∀ q ∈ lw_privs_2, lw_okq q := List.forall_mem_cons.mpr ⟨lw_p16, List.forall_mem_cons.mpr ⟨lw_p17, List.forall_mem_cons.mpr ⟨lw_p18, List.forall_mem_cons.mpr ⟨lw_p19, List.forall_mem_cons.mpr ⟨lw_p20, List.forall_mem_cons.mpr ⟨lw_p21, List.forall_mem_cons.mpr ⟨lw_p22, List.forall_mem_cons.mpr ⟨lw_p23, List.forall_mem_cons.mpr ⟨lw_p24, List.forall_mem_cons.mpr ⟨lw_p25, List.forall_mem_cons.mpr ⟨lw_p26, List.forall_mem_cons.mpr ⟨lw_p27, List.forall_mem_cons.mpr ⟨lw_p28, List.forall_mem_cons.mpr ⟨lw_p29, List.forall_mem_cons.mpr ⟨lw_p30, List.forall_mem_cons.mpr ⟨lw_p31, fun _ h => absurd h List.not_mem_nil⟩⟩⟩⟩⟩⟩⟩⟩⟩⟩⟩⟩⟩⟩⟩⟩
theorem lw_p32 : lw_okq (⟨"TurningDishesModel", "well", "(I)I"⟩, 22) := ⟨⟨by decide +kernel, by decide +kernel⟩, List.mem_of_getElem? (i := 801) (by decide +kernel), List.mem_of_getElem? (i := 893) (by decide +kernel), List.mem_of_getElem? (i := 894) (by decide +kernel)⟩
theorem lw_p33 : lw_okq (⟨"TurningDishesModel", "reads", "()Z"⟩, 22) := ⟨⟨by decide +kernel, by decide +kernel⟩, List.mem_of_getElem? (i := 801) (by decide +kernel), List.mem_of_getElem? (i := 923) (by decide +kernel), List.mem_of_getElem? (i := 924) (by decide +kernel)⟩
theorem lw_p34 : lw_okq (⟨"TurningDishesModel", "token", "()V"⟩, 22) := ⟨⟨by decide +kernel, by decide +kernel⟩, List.mem_of_getElem? (i := 801) (by decide +kernel), List.mem_of_getElem? (i := 927) (by decide +kernel), List.mem_of_getElem? (i := 928) (by decide +kernel)⟩
theorem lw_p35 : lw_okq (⟨"TurningDishesModel", "byteAt", "(I)I"⟩, 22) := ⟨⟨by decide +kernel, by decide +kernel⟩, List.mem_of_getElem? (i := 801) (by decide +kernel), List.mem_of_getElem? (i := 931) (by decide +kernel), List.mem_of_getElem? (i := 932) (by decide +kernel)⟩
theorem lw_p36 : lw_okq (⟨"TurningDishesModel", "wrong", "(I)Z"⟩, 22) := ⟨⟨by decide +kernel, by decide +kernel⟩, List.mem_of_getElem? (i := 801) (by decide +kernel), List.mem_of_getElem? (i := 942) (by decide +kernel), List.mem_of_getElem? (i := 943) (by decide +kernel)⟩
theorem lw_p37 : lw_okq (⟨"TurningDishesModel", "isGuestWord", "()Z"⟩, 22) := ⟨⟨by decide +kernel, by decide +kernel⟩, List.mem_of_getElem? (i := 801) (by decide +kernel), List.mem_of_getElem? (i := 946) (by decide +kernel), List.mem_of_getElem? (i := 947) (by decide +kernel)⟩
theorem lw_p38 : lw_okq (⟨"TurningDishesModel", "isWord", "(IIIII)Z"⟩, 22) := ⟨⟨by decide +kernel, by decide +kernel⟩, List.mem_of_getElem? (i := 801) (by decide +kernel), List.mem_of_getElem? (i := 950) (by decide +kernel), List.mem_of_getElem? (i := 951) (by decide +kernel)⟩
theorem lw_p39 : lw_okq (⟨"TurningDishesModel", "isFourth", "(I)Z"⟩, 22) := ⟨⟨by decide +kernel, by decide +kernel⟩, List.mem_of_getElem? (i := 801) (by decide +kernel), List.mem_of_getElem? (i := 954) (by decide +kernel), List.mem_of_getElem? (i := 955) (by decide +kernel)⟩
theorem lw_p40 : lw_okq (⟨"TurningDishesModel", "isDishWord", "()Z"⟩, 22) := ⟨⟨by decide +kernel, by decide +kernel⟩, List.mem_of_getElem? (i := 801) (by decide +kernel), List.mem_of_getElem? (i := 958) (by decide +kernel), List.mem_of_getElem? (i := 959) (by decide +kernel)⟩
theorem lw_p41 : lw_okq (⟨"TurningDishesModel", "readsGuest", "()Z"⟩, 22) := ⟨⟨by decide +kernel, by decide +kernel⟩, List.mem_of_getElem? (i := 801) (by decide +kernel), List.mem_of_getElem? (i := 962) (by decide +kernel), List.mem_of_getElem? (i := 963) (by decide +kernel)⟩
theorem lw_p42 : lw_okq (⟨"TurningDishesModel", "sortNow", "()I"⟩, 22) := ⟨⟨by decide +kernel, by decide +kernel⟩, List.mem_of_getElem? (i := 801) (by decide +kernel), List.mem_of_getElem? (i := 966) (by decide +kernel), List.mem_of_getElem? (i := 967) (by decide +kernel)⟩
theorem lw_p43 : lw_okq (⟨"TurningDishesModel", "takesNumber", "(II)Z"⟩, 22) := ⟨⟨by decide +kernel, by decide +kernel⟩, List.mem_of_getElem? (i := 801) (by decide +kernel), List.mem_of_getElem? (i := 970) (by decide +kernel), List.mem_of_getElem? (i := 971) (by decide +kernel)⟩
theorem lw_p44 : lw_okq (⟨"TurningDishesModel", "stops", "()Z"⟩, 22) := ⟨⟨by decide +kernel, by decide +kernel⟩, List.mem_of_getElem? (i := 801) (by decide +kernel), List.mem_of_getElem? (i := 974) (by decide +kernel), List.mem_of_getElem? (i := 975) (by decide +kernel)⟩
theorem lw_p45 : lw_okq (⟨"TurningDishesModel", "readsDish", "()Z"⟩, 22) := ⟨⟨by decide +kernel, by decide +kernel⟩, List.mem_of_getElem? (i := 801) (by decide +kernel), List.mem_of_getElem? (i := 978) (by decide +kernel), List.mem_of_getElem? (i := 979) (by decide +kernel)⟩
theorem lw_p46 : lw_okq (⟨"TurningDishesModel", "copyRow", "(II)V"⟩, 22) := ⟨⟨by decide +kernel, by decide +kernel⟩, List.mem_of_getElem? (i := 801) (by decide +kernel), List.mem_of_getElem? (i := 983) (by decide +kernel), List.mem_of_getElem? (i := 984) (by decide +kernel)⟩
theorem lw_p47 : lw_okq (⟨"TurningDishesModel", "isNone", "()Z"⟩, 22) := ⟨⟨by decide +kernel, by decide +kernel⟩, List.mem_of_getElem? (i := 801) (by decide +kernel), List.mem_of_getElem? (i := 995) (by decide +kernel), List.mem_of_getElem? (i := 996) (by decide +kernel)⟩
def lw_privs_3 : List (MethodName × Nat) := [(⟨"TurningDishesModel", "well", "(I)I"⟩, 22), (⟨"TurningDishesModel", "reads", "()Z"⟩, 22), (⟨"TurningDishesModel", "token", "()V"⟩, 22), (⟨"TurningDishesModel", "byteAt", "(I)I"⟩, 22), (⟨"TurningDishesModel", "wrong", "(I)Z"⟩, 22), (⟨"TurningDishesModel", "isGuestWord", "()Z"⟩, 22), (⟨"TurningDishesModel", "isWord", "(IIIII)Z"⟩, 22), (⟨"TurningDishesModel", "isFourth", "(I)Z"⟩, 22), (⟨"TurningDishesModel", "isDishWord", "()Z"⟩, 22), (⟨"TurningDishesModel", "readsGuest", "()Z"⟩, 22), (⟨"TurningDishesModel", "sortNow", "()I"⟩, 22), (⟨"TurningDishesModel", "takesNumber", "(II)Z"⟩, 22), (⟨"TurningDishesModel", "stops", "()Z"⟩, 22), (⟨"TurningDishesModel", "readsDish", "()Z"⟩, 22), (⟨"TurningDishesModel", "copyRow", "(II)V"⟩, 22), (⟨"TurningDishesModel", "isNone", "()Z"⟩, 22)]
theorem lw_r3 : ∀ q ∈ lw_privs_3, lw_okq q := List.forall_mem_cons.mpr ⟨lw_p32, List.forall_mem_cons.mpr ⟨lw_p33, List.forall_mem_cons.mpr ⟨lw_p34, List.forall_mem_cons.mpr ⟨lw_p35, List.forall_mem_cons.mpr ⟨lw_p36, List.forall_mem_cons.mpr ⟨lw_p37, List.forall_mem_cons.mpr ⟨lw_p38, List.forall_mem_cons.mpr ⟨lw_p39, List.forall_mem_cons.mpr ⟨lw_p40, List.forall_mem_cons.mpr ⟨lw_p41, List.forall_mem_cons.mpr ⟨lw_p42, List.forall_mem_cons.mpr ⟨lw_p43, List.forall_mem_cons.mpr ⟨lw_p44, List.forall_mem_cons.mpr ⟨lw_p45, List.forall_mem_cons.mpr ⟨lw_p46, List.forall_mem_cons.mpr ⟨lw_p47, fun _ h => absurd h List.not_mem_nil⟩⟩⟩⟩⟩⟩⟩⟩⟩⟩⟩⟩⟩⟩⟩⟩
theorem lw_p48 : lw_okq (⟨"TurningDishesModel", "minds", "()V"⟩, 22) := ⟨⟨by decide +kernel, by decide +kernel⟩, List.mem_of_getElem? (i := 801) (by decide +kernel), List.mem_of_getElem? (i := 1001) (by decide +kernel), List.mem_of_getElem? (i := 1002) (by decide +kernel)⟩
theorem lw_p49 : lw_okq (⟨"TurningDishesModel", "goMinute", "(I)V"⟩, 22) := ⟨⟨by decide +kernel, by decide +kernel⟩, List.mem_of_getElem? (i := 801) (by decide +kernel), List.mem_of_getElem? (i := 1005) (by decide +kernel), List.mem_of_getElem? (i := 1006) (by decide +kernel)⟩
theorem lw_p50 : lw_okq (⟨"TurningDishesModel", "guestAt", "(II)I"⟩, 22) := ⟨⟨by decide +kernel, by decide +kernel⟩, List.mem_of_getElem? (i := 801) (by decide +kernel), List.mem_of_getElem? (i := 1009) (by decide +kernel), List.mem_of_getElem? (i := 1010) (by decide +kernel)⟩
theorem lw_p51 : lw_okq (⟨"TurningDishesModel", "pushes", "(II)V"⟩, 22) := ⟨⟨by decide +kernel, by decide +kernel⟩, List.mem_of_getElem? (i := 801) (by decide +kernel), List.mem_of_getElem? (i := 1013) (by decide +kernel), List.mem_of_getElem? (i := 1014) (by decide +kernel)⟩
theorem lw_p52 : lw_okq (⟨"TurningDishesModel", "turnBy", "(II)V"⟩, 22) := ⟨⟨by decide +kernel, by decide +kernel⟩, List.mem_of_getElem? (i := 801) (by decide +kernel), List.mem_of_getElem? (i := 1017) (by decide +kernel), List.mem_of_getElem? (i := 1018) (by decide +kernel)⟩
theorem lw_p53 : lw_okq (⟨"TurningDishesModel", "leftTo", "(II)I"⟩, 22) := ⟨⟨by decide +kernel, by decide +kernel⟩, List.mem_of_getElem? (i := 801) (by decide +kernel), List.mem_of_getElem? (i := 1021) (by decide +kernel), List.mem_of_getElem? (i := 1022) (by decide +kernel)⟩
theorem lw_p54 : lw_okq (⟨"TurningDishesModel", "dishBefore", "(II)I"⟩, 22) := ⟨⟨by decide +kernel, by decide +kernel⟩, List.mem_of_getElem? (i := 801) (by decide +kernel), List.mem_of_getElem? (i := 1025) (by decide +kernel), List.mem_of_getElem? (i := 1026) (by decide +kernel)⟩
theorem lw_p55 : lw_okq (⟨"TurningDishesModel", "isOne", "(I)Z"⟩, 22) := ⟨⟨by decide +kernel, by decide +kernel⟩, List.mem_of_getElem? (i := 801) (by decide +kernel), List.mem_of_getElem? (i := 1039) (by decide +kernel), List.mem_of_getElem? (i := 1040) (by decide +kernel)⟩
theorem lw_p56 : lw_okq (⟨"TurningDishesModel", "swaps", "(III)I"⟩, 22) := ⟨⟨by decide +kernel, by decide +kernel⟩, List.mem_of_getElem? (i := 801) (by decide +kernel), List.mem_of_getElem? (i := 1048) (by decide +kernel), List.mem_of_getElem? (i := 1049) (by decide +kernel)⟩
theorem lw_p57 : lw_okq (⟨"TurningDishesModel", "goMinutes", "(I)V"⟩, 22) := ⟨⟨by decide +kernel, by decide +kernel⟩, List.mem_of_getElem? (i := 801) (by decide +kernel), List.mem_of_getElem? (i := 1077) (by decide +kernel), List.mem_of_getElem? (i := 1078) (by decide +kernel)⟩
theorem lw_p58 : lw_okq (⟨"TurningDishesModel", "laysBy", "(I)Z"⟩, 22) := ⟨⟨by decide +kernel, by decide +kernel⟩, List.mem_of_getElem? (i := 801) (by decide +kernel), List.mem_of_getElem? (i := 1113) (by decide +kernel), List.mem_of_getElem? (i := 1114) (by decide +kernel)⟩
theorem lw_p59 : lw_okq (⟨"TurningDishesModel", "sizeOf", "(I)I"⟩, 22) := ⟨⟨by decide +kernel, by decide +kernel⟩, List.mem_of_getElem? (i := 801) (by decide +kernel), List.mem_of_getElem? (i := 1149) (by decide +kernel), List.mem_of_getElem? (i := 1150) (by decide +kernel)⟩
theorem lw_p60 : lw_okq (⟨"TurningDishesModel", "leaves", "(I)V"⟩, 22) := ⟨⟨by decide +kernel, by decide +kernel⟩, List.mem_of_getElem? (i := 801) (by decide +kernel), List.mem_of_getElem? (i := 1153) (by decide +kernel), List.mem_of_getElem? (i := 1154) (by decide +kernel)⟩
theorem lw_p61 : lw_okq (⟨"TurningDishesModel", "markOfEater", "(I)I"⟩, 22) := ⟨⟨by decide +kernel, by decide +kernel⟩, List.mem_of_getElem? (i := 801) (by decide +kernel), List.mem_of_getElem? (i := 1157) (by decide +kernel), List.mem_of_getElem? (i := 1158) (by decide +kernel)⟩
theorem lw_p62 : lw_okq (⟨"TurningDishesModel", "markOf", "(I)I"⟩, 22) := ⟨⟨by decide +kernel, by decide +kernel⟩, List.mem_of_getElem? (i := 801) (by decide +kernel), List.mem_of_getElem? (i := 1161) (by decide +kernel), List.mem_of_getElem? (i := 1162) (by decide +kernel)⟩
def lw_privs_4 : List (MethodName × Nat) := [(⟨"TurningDishesModel", "minds", "()V"⟩, 22), (⟨"TurningDishesModel", "goMinute", "(I)V"⟩, 22), (⟨"TurningDishesModel", "guestAt", "(II)I"⟩, 22), (⟨"TurningDishesModel", "pushes", "(II)V"⟩, 22), (⟨"TurningDishesModel", "turnBy", "(II)V"⟩, 22), (⟨"TurningDishesModel", "leftTo", "(II)I"⟩, 22), (⟨"TurningDishesModel", "dishBefore", "(II)I"⟩, 22), (⟨"TurningDishesModel", "isOne", "(I)Z"⟩, 22), (⟨"TurningDishesModel", "swaps", "(III)I"⟩, 22), (⟨"TurningDishesModel", "goMinutes", "(I)V"⟩, 22), (⟨"TurningDishesModel", "laysBy", "(I)Z"⟩, 22), (⟨"TurningDishesModel", "sizeOf", "(I)I"⟩, 22), (⟨"TurningDishesModel", "leaves", "(I)V"⟩, 22), (⟨"TurningDishesModel", "markOfEater", "(I)I"⟩, 22), (⟨"TurningDishesModel", "markOf", "(I)I"⟩, 22)]
theorem lw_r4 : ∀ q ∈ lw_privs_4, lw_okq q := List.forall_mem_cons.mpr ⟨lw_p48, List.forall_mem_cons.mpr ⟨lw_p49, List.forall_mem_cons.mpr ⟨lw_p50, List.forall_mem_cons.mpr ⟨lw_p51, List.forall_mem_cons.mpr ⟨lw_p52, List.forall_mem_cons.mpr ⟨lw_p53, List.forall_mem_cons.mpr ⟨lw_p54, List.forall_mem_cons.mpr ⟨lw_p55, List.forall_mem_cons.mpr ⟨lw_p56, List.forall_mem_cons.mpr ⟨lw_p57, List.forall_mem_cons.mpr ⟨lw_p58, List.forall_mem_cons.mpr ⟨lw_p59, List.forall_mem_cons.mpr ⟨lw_p60, List.forall_mem_cons.mpr ⟨lw_p61, List.forall_mem_cons.mpr ⟨lw_p62, fun _ h => absurd h List.not_mem_nil⟩⟩⟩⟩⟩⟩⟩⟩⟩⟩⟩⟩⟩⟩⟩
def lw_privs : List (MethodName × Nat) := lw_privs_1 ++ (lw_privs_2 ++ (lw_privs_3 ++ (lw_privs_4)))
def lw_tbl : List Cond := k2_sels lw_privs ++ tables_1
theorem lw_privs_ok : ∀ q ∈ lw_privs, lw_okq q := by
  show ∀ q ∈ lw_privs_1 ++ (lw_privs_2 ++ (lw_privs_3 ++ (lw_privs_4))), lw_okq q
  exact List.forall_mem_append.mpr ⟨lw_r1, List.forall_mem_append.mpr ⟨lw_r2, List.forall_mem_append.mpr ⟨lw_r3, lw_r4⟩⟩⟩
-- ===== end of PART A; then your names; then what follows =====
end
section
def RX0 : String := "TurningDishes$Acts"
def TX0 : u_T := fun k => match k with
  | 0 => ("TurningDishes$Acts", "before", "[LTurningDishes$Table;", true)
  | 1 => ("TurningDishes$Acts", "next", "I", false)
  | _ => ("TurningDishes$Acts", "kept", "I", false)
def tyX0 : Nat → FieldType := fun k => match k with
  | 0 => .array (.object "TurningDishes$Table")
  | 1 => .int
  | _ => .int
theorem nmX0 : ∀ a, a < 3 → ∀ b, b < 3 → a ≠ b → (TX0 a).2.1 ≠ (TX0 b).2.1 := by decide +kernel
theorem tyX0_ok : ∀ k, k < 3 → parseFieldDescriptor (TX0 k).2.2.1 = some (tyX0 k) := by decide +kernel
abbrev cX0_init : ByteArray := prog_2_method_1_code
def yX0_init : MethodName := ⟨RX0, "<init>", "()V"⟩
abbrev cX0_keep : ByteArray := prog_2_method_2_code
def yX0_keep : MethodName := ⟨RX0, "keep", "(LTurningDishes$Table;)V"⟩
abbrev cX0_giveBack : ByteArray := prog_2_method_3_code
def yX0_giveBack : MethodName := ⟨RX0, "giveBack", "(LTurningDishes$Table;)V"⟩
abbrev cX0_forget : ByteArray := prog_2_method_4_code
def yX0_forget : MethodName := ⟨RX0, "forget", "()V"⟩
abbrev cX0_at : ByteArray := prog_2_method_5_code
def yX0_at : MethodName := ⟨RX0, "at", "(I)LTurningDishes$Table;"⟩
def RX1 : String := "TurningDishes$Asks"
def TX1 : u_T := fun k => match k with
  | 0 => ("TurningDishes$Asks", "numbers", "[I", true)
  | 1 => ("TurningDishes$Asks", "left", "I", false)
  | 2 => ("TurningDishes$Asks", "guest", "I", false)
  | 3 => ("TurningDishes$Asks", "sort", "I", false)
  | 4 => ("TurningDishes$Asks", "wants", "I", false)
  | _ => ("TurningDishes$Asks", "eaten", "I", false)
def tyX1 : Nat → FieldType := fun k => match k with
  | 0 => .array .int
  | 1 => .int
  | 2 => .int
  | 3 => .int
  | 4 => .int
  | _ => .int
theorem nmX1 : ∀ a, a < 6 → ∀ b, b < 6 → a ≠ b → (TX1 a).2.1 ≠ (TX1 b).2.1 := by decide +kernel
theorem tyX1_ok : ∀ k, k < 6 → parseFieldDescriptor (TX1 k).2.2.1 = some (tyX1 k) := by decide +kernel
abbrev cX1_init : ByteArray := prog_3_method_1_code
def yX1_init : MethodName := ⟨RX1, "<init>", "()V"⟩
abbrev cX1_begin : ByteArray := prog_3_method_2_code
def yX1_begin : MethodName := ⟨RX1, "begin", "(LTurningDishes$Table;I)V"⟩
abbrev cX1_traced : ByteArray := prog_3_method_3_code
def yX1_traced : MethodName := ⟨RX1, "traced", "(I)I"⟩
abbrev cX1_size : ByteArray := prog_3_method_4_code
def yX1_size : MethodName := ⟨RX1, "size", "()I"⟩
abbrev cX1_mark : ByteArray := prog_3_method_5_code
def yX1_mark : MethodName := ⟨RX1, "mark", "()I"⟩
abbrev cX1_size10 : ByteArray := prog_3_method_6_code
def yX1_size10 : MethodName := ⟨RX1, "size10", "()I"⟩
abbrev cX1_size11 : ByteArray := prog_3_method_7_code
def yX1_size11 : MethodName := ⟨RX1, "size11", "()I"⟩
abbrev cX1_size12 : ByteArray := prog_3_method_8_code
def yX1_size12 : MethodName := ⟨RX1, "size12", "()I"⟩
abbrev cX1_size13 : ByteArray := prog_3_method_9_code
def yX1_size13 : MethodName := ⟨RX1, "size13", "()I"⟩
abbrev cX1_size14 : ByteArray := prog_3_method_10_code
def yX1_size14 : MethodName := ⟨RX1, "size14", "()I"⟩
abbrev cX1_mark20 : ByteArray := prog_3_method_11_code
def yX1_mark20 : MethodName := ⟨RX1, "mark20", "()I"⟩
abbrev cX1_mark21 : ByteArray := prog_3_method_12_code
def yX1_mark21 : MethodName := ⟨RX1, "mark21", "()I"⟩
abbrev cX1_mark22 : ByteArray := prog_3_method_13_code
def yX1_mark22 : MethodName := ⟨RX1, "mark22", "()I"⟩
abbrev cX1_mark23 : ByteArray := prog_3_method_14_code
def yX1_mark23 : MethodName := ⟨RX1, "mark23", "()I"⟩
abbrev cX1_mark24 : ByteArray := prog_3_method_15_code
def yX1_mark24 : MethodName := ⟨RX1, "mark24", "()I"⟩
abbrev cX1_leave : ByteArray := prog_3_method_16_code
def yX1_leave : MethodName := ⟨RX1, "leave", "(I)V"⟩
def RX2 : String := "TurningDishes$Foresight"
def TX2 : u_T := fun k => match k with
  | 0 => ("TurningDishes$Foresight", "later", "LTurningDishes$Table;", true)
  | 1 => ("TurningDishes$Foresight", "slots", "[I", true)
  | _ => ("TurningDishes$Foresight", "bestSlots", "[I", true)
def tyX2 : Nat → FieldType := fun k => match k with
  | 0 => .object "TurningDishes$Table"
  | 1 => .array .int
  | _ => .array .int
theorem nmX2 : ∀ a, a < 3 → ∀ b, b < 3 → a ≠ b → (TX2 a).2.1 ≠ (TX2 b).2.1 := by decide +kernel
theorem tyX2_ok : ∀ k, k < 3 → parseFieldDescriptor (TX2 k).2.2.1 = some (tyX2 k) := by decide +kernel
abbrev cX2_init : ByteArray := prog_4_method_1_code
def yX2_init : MethodName := ⟨RX2, "<init>", "()V"⟩
abbrev cX2_look : ByteArray := prog_4_method_2_code
def yX2_look : MethodName := ⟨RX2, "look", "(LTurningDishes$Table;I)I"⟩
abbrev cX2_passMinutes : ByteArray := prog_4_method_3_code
def yX2_passMinutes : MethodName := ⟨RX2, "passMinutes", "(II)I"⟩
abbrev cX2_eatsSeatedAs : ByteArray := prog_4_method_4_code
def yX2_eatsSeatedAs : MethodName := ⟨RX2, "eatsSeatedAs", "(LTurningDishes$Table;III)I"⟩
abbrev cX2_bestToSitAs : ByteArray := prog_4_method_5_code
def yX2_bestToSitAs : MethodName := ⟨RX2, "bestToSitAs", "(LTurningDishes$Table;II)I"⟩
abbrev cX2_minuteOfLastPortion : ByteArray := prog_4_method_6_code
def yX2_minuteOfLastPortion : MethodName := ⟨RX2, "minuteOfLastPortion", "(LTurningDishes$Table;I)I"⟩
abbrev cX2_minutesToRest : ByteArray := prog_4_method_7_code
def yX2_minutesToRest : MethodName := ⟨RX2, "minutesToRest", "(LTurningDishes$Table;)I"⟩
abbrev cX2_turnsToServe : ByteArray := prog_4_method_8_code
def yX2_turnsToServe : MethodName := ⟨RX2, "turnsToServe", "(LTurningDishes$Table;)I"⟩
abbrev cX2_toTheRightForOthers : ByteArray := prog_4_method_9_code
def yX2_toTheRightForOthers : MethodName := ⟨RX2, "toTheRightForOthers", "(LTurningDishes$Table;I)I"⟩
abbrev cX2_findBestSlots : ByteArray := prog_4_method_10_code
def yX2_findBestSlots : MethodName := ⟨RX2, "findBestSlots", "(LTurningDishes$Table;I)I"⟩
abbrev cX2_bestSlot : ByteArray := prog_4_method_11_code
def yX2_bestSlot : MethodName := ⟨RX2, "bestSlot", "(I)I"⟩
abbrev cX2_layAsTried : ByteArray := prog_4_method_12_code
def yX2_layAsTried : MethodName := ⟨RX2, "layAsTried", "()V"⟩
abbrev cX2_toNextOrder : ByteArray := prog_4_method_13_code
def yX2_toNextOrder : MethodName := ⟨RX2, "toNextOrder", "(I)Z"⟩
abbrev cX2_swapTried : ByteArray := prog_4_method_14_code
def yX2_swapTried : MethodName := ⟨RX2, "swapTried", "(II)V"⟩
abbrev cX2_dishesToWant : ByteArray := prog_4_method_15_code
def yX2_dishesToWant : MethodName := ⟨RX2, "dishesToWant", "(LTurningDishes$Table;IILTurningDishes$Row;I)I"⟩
abbrev cX2_isLeft : ByteArray := prog_4_method_16_code
def yX2_isLeft : MethodName := ⟨RX2, "isLeft", "(LTurningDishes$Row;I)Z"⟩
def RX3 : String := "TurningDishes$Row"
def TX3 : u_T := fun k => match k with
  | 0 => ("TurningDishes$Row", "items", "[I", true)
  | 1 => ("TurningDishes$Row", "lane", "I", false)
  | _ => ("TurningDishes$Row", "length", "I", false)
def tyX3 : Nat → FieldType := fun k => match k with
  | 0 => .array .int
  | 1 => .int
  | _ => .int
theorem nmX3 : ∀ a, a < 3 → ∀ b, b < 3 → a ≠ b → (TX3 a).2.1 ≠ (TX3 b).2.1 := by decide +kernel
theorem tyX3_ok : ∀ k, k < 3 → parseFieldDescriptor (TX3 k).2.2.1 = some (tyX3 k) := by decide +kernel
abbrev cX3_init : ByteArray := prog_5_method_1_code
def yX3_init : MethodName := ⟨RX3, "<init>", "()V"⟩
abbrev cX3_isMissing : ByteArray := prog_5_method_2_code
def yX3_isMissing : MethodName := ⟨RX3, "isMissing", "()Z"⟩
abbrev cX3_begin : ByteArray := prog_5_method_3_code
def yX3_begin : MethodName := ⟨RX3, "begin", "(II)V"⟩
abbrev cX3_end : ByteArray := prog_5_method_4_code
def yX3_end : MethodName := ⟨RX3, "end", "()V"⟩
abbrev cX3_hasPlaces : ByteArray := prog_5_method_5_code
def yX3_hasPlaces : MethodName := ⟨RX3, "hasPlaces", "(II)Z"⟩
abbrev cX3_item : ByteArray := prog_5_method_6_code
def yX3_item : MethodName := ⟨RX3, "item", "(I)I"⟩
abbrev cX3_store : ByteArray := prog_5_method_7_code
def yX3_store : MethodName := ⟨RX3, "store", "(II)V"⟩
abbrev cX3_take : ByteArray := prog_5_method_8_code
def yX3_take : MethodName := ⟨RX3, "take", "(LTurningDishes$Row;III)V"⟩
def RX4 : String := "TurningDishes$Table"
def TX4 : u_T := fun k => match k with
  | 0 => ("TurningDishes$Table", "cells", "[I", true)
  | 1 => ("TurningDishes$Table", "guests", "I", false)
  | 2 => ("TurningDishes$Table", "turned", "I", false)
  | 3 => ("TurningDishes$Table", "minute", "I", false)
  | 4 => ("TurningDishes$Table", "on", "I", false)
  | 5 => ("TurningDishes$Table", "pushed", "I", false)
  | 6 => ("TurningDishes$Table", "dishEaten", "I", false)
  | _ => ("TurningDishes$Table", "bite", "I", false)
def tyX4 : Nat → FieldType := fun k => match k with
  | 0 => .array .int
  | 1 => .int
  | 2 => .int
  | 3 => .int
  | 4 => .int
  | 5 => .int
  | 6 => .int
  | _ => .int
theorem nmX4 : ∀ a, a < 8 → ∀ b, b < 8 → a ≠ b → (TX4 a).2.1 ≠ (TX4 b).2.1 := by decide +kernel
theorem tyX4_ok : ∀ k, k < 8 → parseFieldDescriptor (TX4 k).2.2.1 = some (tyX4 k) := by decide +kernel
abbrev cX4_init : ByteArray := prog_6_method_1_code
def yX4_init : MethodName := ⟨RX4, "<init>", "()V"⟩
abbrev cX4_of : ByteArray := prog_6_method_2_code
def yX4_of : MethodName := ⟨RX4, "of", "(II)I"⟩
abbrev cX4_put : ByteArray := prog_6_method_3_code
def yX4_put : MethodName := ⟨RX4, "put", "(III)V"⟩
abbrev cX4_add : ByteArray := prog_6_method_4_code
def yX4_add : MethodName := ⟨RX4, "add", "(III)V"⟩
abbrev cX4_stands : ByteArray := prog_6_method_5_code
def yX4_stands : MethodName := ⟨RX4, "stands", "()Z"⟩
abbrev cX4_has : ByteArray := prog_6_method_6_code
def yX4_has : MethodName := ⟨RX4, "has", "(I)Z"⟩
abbrev cX4_clear : ByteArray := prog_6_method_7_code
def yX4_clear : MethodName := ⟨RX4, "clear", "()V"⟩
abbrev cX4_become : ByteArray := prog_6_method_8_code
def yX4_become : MethodName := ⟨RX4, "become", "(LTurningDishes$Table;)V"⟩
abbrev cX4_seat : ByteArray := prog_6_method_9_code
def yX4_seat : MethodName := ⟨RX4, "seat", "(II)V"⟩
abbrev cX4_layIn : ByteArray := prog_6_method_10_code
def yX4_layIn : MethodName := ⟨RX4, "layIn", "(II)V"⟩
abbrev cX4_swapSeats : ByteArray := prog_6_method_11_code
def yX4_swapSeats : MethodName := ⟨RX4, "swapSeats", "(II)V"⟩
abbrev cX4_swapSlots : ByteArray := prog_6_method_12_code
def yX4_swapSlots : MethodName := ⟨RX4, "swapSlots", "(II)V"⟩
abbrev cX4_turnLeft : ByteArray := prog_6_method_13_code
def yX4_turnLeft : MethodName := ⟨RX4, "turnLeft", "(I)V"⟩
abbrev cX4_dishBefore : ByteArray := prog_6_method_14_code
def yX4_dishBefore : MethodName := ⟨RX4, "dishBefore", "(I)I"⟩
abbrev cX4_passMinute : ByteArray := prog_6_method_15_code
def yX4_passMinute : MethodName := ⟨RX4, "passMinute", "()V"⟩
abbrev cX4_pushBy : ByteArray := prog_6_method_16_code
def yX4_pushBy : MethodName := ⟨RX4, "pushBy", "(I)I"⟩
abbrev cX4_toTheLeft : ByteArray := prog_6_method_17_code
def yX4_toTheLeft : MethodName := ⟨RX4, "toTheLeft", "(II)I"⟩
abbrev cX4_biteOf : ByteArray := prog_6_method_18_code
def yX4_biteOf : MethodName := ⟨RX4, "biteOf", "(II)I"⟩
abbrev cX4_portionsOfAll : ByteArray := prog_6_method_19_code
def yX4_portionsOfAll : MethodName := ⟨RX4, "portionsOfAll", "()I"⟩
abbrev cX4_whoAteNothing : ByteArray := prog_6_method_20_code
def yX4_whoAteNothing : MethodName := ⟨RX4, "whoAteNothing", "()I"⟩
def RX5 : String := "TurningDishes$TableReader"
def TX5 : u_T := fun k => match k with
  | 0 => ("TurningDishes$TableReader", "tape", "LTurningDishes$Tape;", true)
  | 1 => ("TurningDishes$TableReader", "told", "LTurningDishes$Table;", true)
  | 2 => ("TurningDishes$TableReader", "token", "I", false)
  | 3 => ("TurningDishes$TableReader", "tokenStart", "I", false)
  | 4 => ("TurningDishes$TableReader", "tokenEnd", "I", false)
  | 5 => ("TurningDishes$TableReader", "number", "I", false)
  | 6 => ("TurningDishes$TableReader", "dishes", "I", false)
  | _ => ("TurningDishes$TableReader", "fault", "I", false)
def tyX5 : Nat → FieldType := fun k => match k with
  | 0 => .object "TurningDishes$Tape"
  | 1 => .object "TurningDishes$Table"
  | 2 => .int
  | 3 => .int
  | 4 => .int
  | 5 => .int
  | 6 => .int
  | _ => .int
theorem nmX5 : ∀ a, a < 8 → ∀ b, b < 8 → a ≠ b → (TX5 a).2.1 ≠ (TX5 b).2.1 := by decide +kernel
theorem tyX5_ok : ∀ k, k < 8 → parseFieldDescriptor (TX5 k).2.2.1 = some (tyX5 k) := by decide +kernel
abbrev cX5_init : ByteArray := prog_7_method_1_code
def yX5_init : MethodName := ⟨RX5, "<init>", "()V"⟩
abbrev cX5_read : ByteArray := prog_7_method_2_code
def yX5_read : MethodName := ⟨RX5, "read", "()V"⟩
abbrev cX5_readGuest : ByteArray := prog_7_method_3_code
def yX5_readGuest : MethodName := ⟨RX5, "readGuest", "()V"⟩
abbrev cX5_readDish : ByteArray := prog_7_method_4_code
def yX5_readDish : MethodName := ⟨RX5, "readDish", "()V"⟩
abbrev cX5_readNumberAndEnd : ByteArray := prog_7_method_5_code
def yX5_readNumberAndEnd : MethodName := ⟨RX5, "readNumberAndEnd", "(I)I"⟩
abbrev cX5_sortNamed : ByteArray := prog_7_method_6_code
def yX5_sortNamed : MethodName := ⟨RX5, "sortNamed", "()I"⟩
abbrev cX5_isWord : ByteArray := prog_7_method_7_code
def yX5_isWord : MethodName := ⟨RX5, "isWord", "(Ljava/lang/String;)Z"⟩
abbrev cX5_next : ByteArray := prog_7_method_8_code
def yX5_next : MethodName := ⟨RX5, "next", "()V"⟩
abbrev cX5_valueOfFigures : ByteArray := prog_7_method_9_code
def yX5_valueOfFigures : MethodName := ⟨RX5, "valueOfFigures", "()I"⟩
def RX6 : String := "TurningDishes$Tape"
def TX6 : u_T := fun k => match k with
  | 0 => ("TurningDishes$Tape", "bytes", "[I", true)
  | _ => ("TurningDishes$Tape", "length", "I", false)
def tyX6 : Nat → FieldType := fun k => match k with
  | 0 => .array .int
  | _ => .int
theorem nmX6 : ∀ a, a < 2 → ∀ b, b < 2 → a ≠ b → (TX6 a).2.1 ≠ (TX6 b).2.1 := by decide +kernel
theorem tyX6_ok : ∀ k, k < 2 → parseFieldDescriptor (TX6 k).2.2.1 = some (tyX6 k) := by decide +kernel
abbrev cX6_init : ByteArray := prog_8_method_1_code
def yX6_init : MethodName := ⟨RX6, "<init>", "()V"⟩
abbrev cX6_add : ByteArray := prog_8_method_2_code
def yX6_add : MethodName := ⟨RX6, "add", "(I)V"⟩
abbrev cX6_clear : ByteArray := prog_8_method_3_code
def yX6_clear : MethodName := ⟨RX6, "clear", "()V"⟩
abbrev cX6_at : ByteArray := prog_8_method_4_code
def yX6_at : MethodName := ⟨RX6, "at", "(I)I"⟩
abbrev cX6_endOfBlanks : ByteArray := prog_8_method_5_code
def yX6_endOfBlanks : MethodName := ⟨RX6, "endOfBlanks", "(I)I"⟩
abbrev cX6_endOfLetters : ByteArray := prog_8_method_6_code
def yX6_endOfLetters : MethodName := ⟨RX6, "endOfLetters", "(I)I"⟩
abbrev cX6_endOfFigures : ByteArray := prog_8_method_7_code
def yX6_endOfFigures : MethodName := ⟨RX6, "endOfFigures", "(I)I"⟩
abbrev cX6_isBlank : ByteArray := prog_8_method_8_code
def yX6_isBlank : MethodName := ⟨RX6, "isBlank", "(I)Z"⟩
abbrev cX6_isLetter : ByteArray := prog_8_method_9_code
def yX6_isLetter : MethodName := ⟨RX6, "isLetter", "(I)Z"⟩
abbrev cX6_isFigure : ByteArray := prog_8_method_10_code
def yX6_isFigure : MethodName := ⟨RX6, "isFigure", "(I)Z"⟩
def RX7 : String := "TurningDishes"
def TX7 : u_T := fun k => match k with
  | 0 => ("TurningDishes", "rows", "[LTurningDishes$Row;", true)
  | 1 => ("TurningDishes", "reader", "LTurningDishes$TableReader;", true)
  | 2 => ("TurningDishes", "table", "LTurningDishes$Table;", true)
  | 3 => ("TurningDishes", "acts", "LTurningDishes$Acts;", true)
  | 4 => ("TurningDishes", "images", "[LTurningDishes$Table;", true)
  | 5 => ("TurningDishes", "foresight", "LTurningDishes$Foresight;", true)
  | 6 => ("TurningDishes", "asks", "LTurningDishes$Asks;", true)
  | 7 => ("TurningDishes", "latestFault", "I", false)
  | _ => ("TurningDishes", "latestFinding", "I", false)
def tyX7 : Nat → FieldType := fun k => match k with
  | 0 => .array (.object "TurningDishes$Row")
  | 1 => .object "TurningDishes$TableReader"
  | 2 => .object "TurningDishes$Table"
  | 3 => .object "TurningDishes$Acts"
  | 4 => .array (.object "TurningDishes$Table")
  | 5 => .object "TurningDishes$Foresight"
  | 6 => .object "TurningDishes$Asks"
  | 7 => .int
  | _ => .int
theorem nmX7 : ∀ a, a < 9 → ∀ b, b < 9 → a ≠ b → (TX7 a).2.1 ≠ (TX7 b).2.1 := by decide +kernel
theorem tyX7_ok : ∀ k, k < 9 → parseFieldDescriptor (TX7 k).2.2.1 = some (tyX7 k) := by decide +kernel
abbrev cX7_init : ByteArray := prog_1_method_1_code
def yX7_init : MethodName := ⟨RX7, "<init>", "()V"⟩
abbrev cX7_row : ByteArray := prog_1_method_2_code
def yX7_row : MethodName := ⟨RX7, "row", "(III)I"⟩
abbrev cX7_set : ByteArray := prog_1_method_3_code
def yX7_set : MethodName := ⟨RX7, "set", "(III)I"⟩
abbrev cX7_copy : ByteArray := prog_1_method_4_code
def yX7_copy : MethodName := ⟨RX7, "copy", "(IIIII)I"⟩
abbrev cX7_drop : ByteArray := prog_1_method_5_code
def yX7_drop : MethodName := ⟨RX7, "drop", "(I)I"⟩
abbrev cX7_feed : ByteArray := prog_1_method_6_code
def yX7_feed : MethodName := ⟨RX7, "feed", "(JI)I"⟩
abbrev cX7_table : ByteArray := prog_1_method_7_code
def yX7_table : MethodName := ⟨RX7, "table", "()I"⟩
abbrev cX7_fault : ByteArray := prog_1_method_8_code
def yX7_fault : MethodName := ⟨RX7, "fault", "()I"⟩
abbrev cX7_minutes : ByteArray := prog_1_method_9_code
def yX7_minutes : MethodName := ⟨RX7, "minutes", "(I)I"⟩
abbrev cX7_turn : ByteArray := prog_1_method_10_code
def yX7_turn : MethodName := ⟨RX7, "turn", "(I)I"⟩
abbrev cX7_fill : ByteArray := prog_1_method_11_code
def yX7_fill : MethodName := ⟨RX7, "fill", "(II)I"⟩
abbrev cX7_change : ByteArray := prog_1_method_12_code
def yX7_change : MethodName := ⟨RX7, "change", "(II)I"⟩
abbrev cX7_lay : ByteArray := prog_1_method_13_code
def yX7_lay : MethodName := ⟨RX7, "lay", "(II)I"⟩
abbrev cX7_undo : ByteArray := prog_1_method_14_code
def yX7_undo : MethodName := ⟨RX7, "undo", "()I"⟩
abbrev cX7_guest : ByteArray := prog_1_method_15_code
def yX7_guest : MethodName := ⟨RX7, "guest", "(II)I"⟩
abbrev cX7_dish : ByteArray := prog_1_method_16_code
def yX7_dish : MethodName := ⟨RX7, "dish", "(II)I"⟩
abbrev cX7_ahead : ByteArray := prog_1_method_17_code
def yX7_ahead : MethodName := ⟨RX7, "ahead", "(II)I"⟩
abbrev cX7_dishAhead : ByteArray := prog_1_method_18_code
def yX7_dishAhead : MethodName := ⟨RX7, "dishAhead", "(II)I"⟩
abbrev cX7_guestAhead : ByteArray := prog_1_method_19_code
def yX7_guestAhead : MethodName := ⟨RX7, "guestAhead", "(II)I"⟩
abbrev cX7_last : ByteArray := prog_1_method_20_code
def yX7_last : MethodName := ⟨RX7, "last", "(II)I"⟩
abbrev cX7_hungry : ByteArray := prog_1_method_21_code
def yX7_hungry : MethodName := ⟨RX7, "hungry", "(I)I"⟩
abbrev cX7_rest : ByteArray := prog_1_method_22_code
def yX7_rest : MethodName := ⟨RX7, "rest", "()I"⟩
abbrev cX7_served : ByteArray := prog_1_method_23_code
def yX7_served : MethodName := ⟨RX7, "served", "()I"⟩
abbrev cX7_laid : ByteArray := prog_1_method_24_code
def yX7_laid : MethodName := ⟨RX7, "laid", "(II)I"⟩
abbrev cX7_wanted : ByteArray := prog_1_method_25_code
def yX7_wanted : MethodName := ⟨RX7, "wanted", "(IIII)I"⟩
abbrev cX7_seated : ByteArray := prog_1_method_26_code
def yX7_seated : MethodName := ⟨RX7, "seated", "(III)I"⟩
abbrev cX7_image : ByteArray := prog_1_method_27_code
def yX7_image : MethodName := ⟨RX7, "image", "(I)I"⟩
abbrev cX7_restore : ByteArray := prog_1_method_28_code
def yX7_restore : MethodName := ⟨RX7, "restore", "(I)I"⟩
abbrev cX7_kind : ByteArray := prog_1_method_29_code
def yX7_kind : MethodName := ⟨RX7, "kind", "(I)I"⟩
abbrev cX7_as : ByteArray := prog_1_method_30_code
def yX7_as : MethodName := ⟨RX7, "as", "(II)I"⟩
abbrev cX7_ask : ByteArray := prog_1_method_31_code
def yX7_ask : MethodName := ⟨RX7, "ask", "(II)I"⟩
abbrev cX7_trace : ByteArray := prog_1_method_32_code
def yX7_trace : MethodName := ⟨RX7, "trace", "(I)I"⟩
abbrev cX7_count : ByteArray := prog_1_method_33_code
def yX7_count : MethodName := ⟨RX7, "count", "(I)I"⟩
abbrev cX7_status : ByteArray := prog_1_method_34_code
def yX7_status : MethodName := ⟨RX7, "status", "()I"⟩
abbrev cX7_rowAt : ByteArray := prog_1_method_35_code
def yX7_rowAt : MethodName := ⟨RX7, "rowAt", "(I)LTurningDishes$Row;"⟩
abbrev cX7_imageAt : ByteArray := prog_1_method_36_code
def yX7_imageAt : MethodName := ⟨RX7, "imageAt", "(I)LTurningDishes$Table;"⟩
abbrev cX7_rowsThere : ByteArray := prog_1_method_37_code
def yX7_rowsThere : MethodName := ⟨RX7, "rowsThere", "()I"⟩
abbrev cX7_found : ByteArray := prog_1_method_38_code
def yX7_found : MethodName := ⟨RX7, "found", "(I)I"⟩
abbrev cX7_fine : ByteArray := prog_1_method_39_code
def yX7_fine : MethodName := ⟨RX7, "fine", "(I)I"⟩
abbrev cX7_within : ByteArray := prog_1_method_40_code
def yX7_within : MethodName := ⟨RX7, "within", "(III)Z"⟩
abbrev cX7_leftOver : ByteArray := prog_1_method_41_code
def yX7_leftOver : MethodName := ⟨RX7, "leftOver", "(II)I"⟩
abbrev cX7_isOne : ByteArray := prog_1_method_42_code
def yX7_isOne : MethodName := ⟨RX7, "isOne", "(II)Z"⟩
def RX8 : String := "TurningDishesModel"
def TX8 : u_T := fun k => match k with
  | 0 => ("TurningDishesModel", "w", "[I", true)
  | 1 => ("TurningDishesModel", "undoes", "I", false)
  | 2 => ("TurningDishesModel", "tape", "[I", true)
  | 3 => ("TurningDishesModel", "taped", "I", false)
  | 4 => ("TurningDishesModel", "fault", "I", false)
  | 5 => ("TurningDishesModel", "status", "I", false)
  | 6 => ("TurningDishesModel", "lanes", "[I", true)
  | 7 => ("TurningDishesModel", "sizes", "[I", true)
  | 8 => ("TurningDishesModel", "items", "[I", true)
  | 9 => ("TurningDishesModel", "taken", "[I", true)
  | 10 => ("TurningDishesModel", "start", "I", false)
  | 11 => ("TurningDishesModel", "next", "I", false)
  | 12 => ("TurningDishesModel", "sort", "I", false)
  | 13 => ("TurningDishesModel", "dishes", "I", false)
  | 14 => ("TurningDishesModel", "pushed", "I", false)
  | 15 => ("TurningDishesModel", "ate", "I", false)
  | 16 => ("TurningDishesModel", "eater", "I", false)
  | 17 => ("TurningDishesModel", "eaten", "I", false)
  | 18 => ("TurningDishesModel", "pushedAll", "I", false)
  | 19 => ("TurningDishesModel", "isKept", "[Z", true)
  | 20 => ("TurningDishesModel", "traces", "[I", true)
  | _ => ("TurningDishesModel", "traced", "I", false)
def tyX8 : Nat → FieldType := fun k => match k with
  | 0 => .array .int
  | 1 => .int
  | 2 => .array .int
  | 3 => .int
  | 4 => .int
  | 5 => .int
  | 6 => .array .int
  | 7 => .array .int
  | 8 => .array .int
  | 9 => .array .int
  | 10 => .int
  | 11 => .int
  | 12 => .int
  | 13 => .int
  | 14 => .int
  | 15 => .int
  | 16 => .int
  | 17 => .int
  | 18 => .int
  | 19 => .array .boolean
  | 20 => .array .int
  | _ => .int
theorem nmX8 : ∀ a, a < 22 → ∀ b, b < 22 → a ≠ b → (TX8 a).2.1 ≠ (TX8 b).2.1 := by decide +kernel
theorem tyX8_ok : ∀ k, k < 22 → parseFieldDescriptor (TX8 k).2.2.1 = some (tyX8 k) := by decide +kernel
abbrev cX8_init : ByteArray := prog_10_method_1_code
def yX8_init : MethodName := ⟨RX8, "<init>", "()V"⟩
abbrev cX8_in : ByteArray := prog_10_method_3_code
def yX8_in : MethodName := ⟨RX8, "in", "(JJJ)Z"⟩
abbrev cX8_copyRow : ByteArray := prog_10_method_5_code
def yX8_copyRow : MethodName := ⟨RX8, "copyRow", "(II)V"⟩
abbrev cX8_isRow : ByteArray := prog_10_method_6_code
def yX8_isRow : MethodName := ⟨RX8, "isRow", "(I)Z"⟩
abbrev cX8_found : ByteArray := prog_10_method_7_code
def yX8_found : MethodName := ⟨RX8, "found", "(I)I"⟩
abbrev cX8_well : ByteArray := prog_10_method_8_code
def yX8_well : MethodName := ⟨RX8, "well", "(I)I"⟩
abbrev cX8_row : ByteArray := prog_10_method_9_code
def yX8_row : MethodName := ⟨RX8, "row", "(III)I"⟩
abbrev cX8_set : ByteArray := prog_10_method_10_code
def yX8_set : MethodName := ⟨RX8, "set", "(III)I"⟩
abbrev cX8_isPart : ByteArray := prog_10_method_11_code
def yX8_isPart : MethodName := ⟨RX8, "isPart", "(III)Z"⟩
abbrev cX8_copy : ByteArray := prog_10_method_12_code
def yX8_copy : MethodName := ⟨RX8, "copy", "(IIIII)I"⟩
abbrev cX8_drop : ByteArray := prog_10_method_13_code
def yX8_drop : MethodName := ⟨RX8, "drop", "(I)I"⟩
abbrev cX8_feed : ByteArray := prog_10_method_14_code
def yX8_feed : MethodName := ⟨RX8, "feed", "(JI)I"⟩
abbrev cX8_byteAt : ByteArray := prog_10_method_15_code
def yX8_byteAt : MethodName := ⟨RX8, "byteAt", "(I)I"⟩
abbrev cX8_sortOf : ByteArray := prog_10_method_16_code
def yX8_sortOf : MethodName := ⟨RX8, "sortOf", "(I)I"⟩
abbrev cX8_token : ByteArray := prog_10_method_17_code
def yX8_token : MethodName := ⟨RX8, "token", "()V"⟩
abbrev cX8_wrong : ByteArray := prog_10_method_18_code
def yX8_wrong : MethodName := ⟨RX8, "wrong", "(I)Z"⟩
abbrev cX8_isWord : ByteArray := prog_10_method_19_code
def yX8_isWord : MethodName := ⟨RX8, "isWord", "(IIIII)Z"⟩
abbrev cX8_isFourth : ByteArray := prog_10_method_20_code
def yX8_isFourth : MethodName := ⟨RX8, "isFourth", "(I)Z"⟩
abbrev cX8_isGuestWord : ByteArray := prog_10_method_21_code
def yX8_isGuestWord : MethodName := ⟨RX8, "isGuestWord", "()Z"⟩
abbrev cX8_isDishWord : ByteArray := prog_10_method_22_code
def yX8_isDishWord : MethodName := ⟨RX8, "isDishWord", "()Z"⟩
abbrev cX8_sortNow : ByteArray := prog_10_method_23_code
def yX8_sortNow : MethodName := ⟨RX8, "sortNow", "()I"⟩
abbrev cX8_takesNumber : ByteArray := prog_10_method_24_code
def yX8_takesNumber : MethodName := ⟨RX8, "takesNumber", "(II)Z"⟩
abbrev cX8_stops : ByteArray := prog_10_method_25_code
def yX8_stops : MethodName := ⟨RX8, "stops", "()Z"⟩
abbrev cX8_readsGuest : ByteArray := prog_10_method_26_code
def yX8_readsGuest : MethodName := ⟨RX8, "readsGuest", "()Z"⟩
abbrev cX8_readsDish : ByteArray := prog_10_method_27_code
def yX8_readsDish : MethodName := ⟨RX8, "readsDish", "()Z"⟩
abbrev cX8_reads : ByteArray := prog_10_method_28_code
def yX8_reads : MethodName := ⟨RX8, "reads", "()Z"⟩
abbrev cX8_table : ByteArray := prog_10_method_29_code
def yX8_table : MethodName := ⟨RX8, "table", "()I"⟩
abbrev cX8_fault : ByteArray := prog_10_method_30_code
def yX8_fault : MethodName := ⟨RX8, "fault", "()I"⟩
abbrev cX8_guestAt : ByteArray := prog_10_method_31_code
def yX8_guestAt : MethodName := ⟨RX8, "guestAt", "(II)I"⟩
abbrev cX8_dishBefore : ByteArray := prog_10_method_32_code
def yX8_dishBefore : MethodName := ⟨RX8, "dishBefore", "(II)I"⟩
abbrev cX8_turnBy : ByteArray := prog_10_method_33_code
def yX8_turnBy : MethodName := ⟨RX8, "turnBy", "(II)V"⟩
abbrev cX8_leftTo : ByteArray := prog_10_method_34_code
def yX8_leftTo : MethodName := ⟨RX8, "leftTo", "(II)I"⟩
abbrev cX8_pushes : ByteArray := prog_10_method_35_code
def yX8_pushes : MethodName := ⟨RX8, "pushes", "(II)V"⟩
abbrev cX8_goMinute : ByteArray := prog_10_method_36_code
def yX8_goMinute : MethodName := ⟨RX8, "goMinute", "(I)V"⟩
abbrev cX8_minds : ByteArray := prog_10_method_37_code
def yX8_minds : MethodName := ⟨RX8, "minds", "()V"⟩
abbrev cX8_isNone : ByteArray := prog_10_method_38_code
def yX8_isNone : MethodName := ⟨RX8, "isNone", "()Z"⟩
abbrev cX8_isOne : ByteArray := prog_10_method_39_code
def yX8_isOne : MethodName := ⟨RX8, "isOne", "(I)Z"⟩
abbrev cX8_minutes : ByteArray := prog_10_method_40_code
def yX8_minutes : MethodName := ⟨RX8, "minutes", "(I)I"⟩
abbrev cX8_turn : ByteArray := prog_10_method_41_code
def yX8_turn : MethodName := ⟨RX8, "turn", "(I)I"⟩
abbrev cX8_fill : ByteArray := prog_10_method_42_code
def yX8_fill : MethodName := ⟨RX8, "fill", "(II)I"⟩
abbrev cX8_swaps : ByteArray := prog_10_method_43_code
def yX8_swaps : MethodName := ⟨RX8, "swaps", "(III)I"⟩
abbrev cX8_change : ByteArray := prog_10_method_44_code
def yX8_change : MethodName := ⟨RX8, "change", "(II)I"⟩
abbrev cX8_lay : ByteArray := prog_10_method_45_code
def yX8_lay : MethodName := ⟨RX8, "lay", "(II)I"⟩
abbrev cX8_undo : ByteArray := prog_10_method_46_code
def yX8_undo : MethodName := ⟨RX8, "undo", "()I"⟩
abbrev cX8_guest : ByteArray := prog_10_method_47_code
def yX8_guest : MethodName := ⟨RX8, "guest", "(II)I"⟩
abbrev cX8_dish : ByteArray := prog_10_method_48_code
def yX8_dish : MethodName := ⟨RX8, "dish", "(II)I"⟩
abbrev cX8_goMinutes : ByteArray := prog_10_method_49_code
def yX8_goMinutes : MethodName := ⟨RX8, "goMinutes", "(I)V"⟩
abbrev cX8_isLater : ByteArray := prog_10_method_50_code
def yX8_isLater : MethodName := ⟨RX8, "isLater", "(I)Z"⟩
abbrev cX8_ahead : ByteArray := prog_10_method_51_code
def yX8_ahead : MethodName := ⟨RX8, "ahead", "(II)I"⟩
abbrev cX8_dishAhead : ByteArray := prog_10_method_52_code
def yX8_dishAhead : MethodName := ⟨RX8, "dishAhead", "(II)I"⟩
abbrev cX8_guestAhead : ByteArray := prog_10_method_53_code
def yX8_guestAhead : MethodName := ⟨RX8, "guestAhead", "(II)I"⟩
abbrev cX8_last : ByteArray := prog_10_method_54_code
def yX8_last : MethodName := ⟨RX8, "last", "(II)I"⟩
abbrev cX8_hungry : ByteArray := prog_10_method_55_code
def yX8_hungry : MethodName := ⟨RX8, "hungry", "(I)I"⟩
abbrev cX8_rest : ByteArray := prog_10_method_56_code
def yX8_rest : MethodName := ⟨RX8, "rest", "()I"⟩
abbrev cX8_served : ByteArray := prog_10_method_57_code
def yX8_served : MethodName := ⟨RX8, "served", "()I"⟩
abbrev cX8_laysBy : ByteArray := prog_10_method_58_code
def yX8_laysBy : MethodName := ⟨RX8, "laysBy", "(I)Z"⟩
abbrev cX8_laid : ByteArray := prog_10_method_59_code
def yX8_laid : MethodName := ⟨RX8, "laid", "(II)I"⟩
abbrev cX8_wanted : ByteArray := prog_10_method_60_code
def yX8_wanted : MethodName := ⟨RX8, "wanted", "(IIII)I"⟩
abbrev cX8_seated : ByteArray := prog_10_method_61_code
def yX8_seated : MethodName := ⟨RX8, "seated", "(III)I"⟩
abbrev cX8_image : ByteArray := prog_10_method_62_code
def yX8_image : MethodName := ⟨RX8, "image", "(I)I"⟩
abbrev cX8_restore : ByteArray := prog_10_method_63_code
def yX8_restore : MethodName := ⟨RX8, "restore", "(I)I"⟩
abbrev cX8_leaves : ByteArray := prog_10_method_64_code
def yX8_leaves : MethodName := ⟨RX8, "leaves", "(I)V"⟩
abbrev cX8_kind : ByteArray := prog_10_method_65_code
def yX8_kind : MethodName := ⟨RX8, "kind", "(I)I"⟩
abbrev cX8_isOf : ByteArray := prog_10_method_66_code
def yX8_isOf : MethodName := ⟨RX8, "isOf", "(II)Z"⟩
abbrev cX8_as : ByteArray := prog_10_method_67_code
def yX8_as : MethodName := ⟨RX8, "as", "(II)I"⟩
abbrev cX8_sizeOf : ByteArray := prog_10_method_68_code
def yX8_sizeOf : MethodName := ⟨RX8, "sizeOf", "(I)I"⟩
abbrev cX8_markOfEater : ByteArray := prog_10_method_69_code
def yX8_markOfEater : MethodName := ⟨RX8, "markOfEater", "(I)I"⟩
abbrev cX8_markOf : ByteArray := prog_10_method_70_code
def yX8_markOf : MethodName := ⟨RX8, "markOf", "(I)I"⟩
abbrev cX8_ask : ByteArray := prog_10_method_71_code
def yX8_ask : MethodName := ⟨RX8, "ask", "(II)I"⟩
abbrev cX8_trace : ByteArray := prog_10_method_72_code
def yX8_trace : MethodName := ⟨RX8, "trace", "(I)I"⟩
abbrev cX8_count : ByteArray := prog_10_method_73_code
def yX8_count : MethodName := ⟨RX8, "count", "(I)I"⟩
abbrev cX8_status : ByteArray := prog_10_method_74_code
def yX8_status : MethodName := ⟨RX8, "status", "()I"⟩
def RJ9 : String := "java/lang/Math"
def TJ9 : u_T := fun k => match k with
  | _ => ("", "", "", false)
def tyJ9 : Nat → FieldType := fun k => match k with
  | _ => .int
theorem nmJ9 : ∀ a, a < 0 → ∀ b, b < 0 → a ≠ b → (TJ9 a).2.1 ≠ (TJ9 b).2.1 := by decide +kernel
theorem tyJ9_ok : ∀ k, k < 0 → parseFieldDescriptor (TJ9 k).2.2.1 = some (tyJ9 k) := by decide +kernel
abbrev cJ9_abs_0f7a4 : ByteArray := prog_11_method_59_code
def yJ9_abs_0f7a4 : MethodName := ⟨RJ9, "abs", "(I)I"⟩
abbrev cJ9_max_7cf53 : ByteArray := prog_11_method_65_code
def yJ9_max_7cf53 : MethodName := ⟨RJ9, "max", "(II)I"⟩
abbrev cJ9_min_7cf53 : ByteArray := prog_11_method_69_code
def yJ9_min_7cf53 : MethodName := ⟨RJ9, "min", "(II)I"⟩
def RJ0 : String := "java/lang/String"
def TJ0 : u_T := fun k => match k with
  | _ => ("", "", "", false)
def tyJ0 : Nat → FieldType := fun k => match k with
  | _ => .int
theorem nmJ0 : ∀ a, a < 0 → ∀ b, b < 0 → a ≠ b → (TJ0 a).2.1 ≠ (TJ0 b).2.1 := by decide +kernel
theorem tyJ0_ok : ∀ k, k < 0 → parseFieldDescriptor (TJ0 k).2.2.1 = some (tyJ0 k) := by decide +kernel
abbrev cJ0_length_8abf5 : ByteArray := prog_12_method_54_code
def yJ0_length_8abf5 : MethodName := ⟨RJ0, "length", "()I"⟩
abbrev cJ0_charAt_5068e : ByteArray := prog_12_method_56_code
def yJ0_charAt_5068e : MethodName := ⟨RJ0, "charAt", "(I)C"⟩
abbrev cJ0_coder_7d493 : ByteArray := prog_12_method_152_code
def yJ0_coder_7d493 : MethodName := ⟨RJ0, "coder", "()B"⟩
abbrev cJ0_isLatin1_aae02 : ByteArray := prog_12_method_154_code
def yJ0_isLatin1_aae02 : MethodName := ⟨RJ0, "isLatin1", "()Z"⟩
abbrev cJ0_checkIndex_df160 : ByteArray := prog_12_method_155_code
def yJ0_checkIndex_df160 : MethodName := ⟨RJ0, "checkIndex", "(II)V"⟩
def RJ1 : String := "java/lang/StringLatin1"
def TJ1 : u_T := fun k => match k with
  | _ => ("", "", "", false)
def tyJ1 : Nat → FieldType := fun k => match k with
  | _ => .int
theorem nmJ1 : ∀ a, a < 0 → ∀ b, b < 0 → a ≠ b → (TJ1 a).2.1 ≠ (TJ1 b).2.1 := by decide +kernel
theorem tyJ1_ok : ∀ k, k < 0 → parseFieldDescriptor (TJ1 k).2.2.1 = some (tyJ1 k) := by decide +kernel
abbrev cJ1_charAt_3b067 : ByteArray := prog_13_method_2_code
def yJ1_charAt_3b067 : MethodName := ⟨RJ1, "charAt", "([BI)C"⟩
def RJ2 : String := "java/lang/StringUTF16"
def TJ2 : u_T := fun k => match k with
  | _ => ("", "", "", false)
def tyJ2 : Nat → FieldType := fun k => match k with
  | _ => .int
theorem nmJ2 : ∀ a, a < 0 → ∀ b, b < 0 → a ≠ b → (TJ2 a).2.1 ≠ (TJ2 b).2.1 := by decide +kernel
theorem tyJ2_ok : ∀ k, k < 0 → parseFieldDescriptor (TJ2 k).2.2.1 = some (tyJ2 k) := by decide +kernel
abbrev cJ2_getChar_3b067 : ByteArray := prog_14_method_5_code
def yJ2_getChar_3b067 : MethodName := ⟨RJ2, "getChar", "([BI)C"⟩
abbrev cJ2_length_9d52b : ByteArray := prog_14_method_6_code
def yJ2_length_9d52b : MethodName := ⟨RJ2, "length", "([B)I"⟩
abbrev cJ2_charAt_3b067 : ByteArray := prog_14_method_83_code
def yJ2_charAt_3b067 : MethodName := ⟨RJ2, "charAt", "([BI)C"⟩
abbrev cJ2_checkIndex_2214a : ByteArray := prog_14_method_91_code
def yJ2_checkIndex_2214a : MethodName := ⟨RJ2, "checkIndex", "(I[B)V"⟩
def RJ10 : String := "java/lang/System"
def TJ10 : u_T := fun k => match k with
  | _ => ("", "", "", false)
def tyJ10 : Nat → FieldType := fun k => match k with
  | _ => .int
theorem nmJ10 : ∀ a, a < 0 → ∀ b, b < 0 → a ≠ b → (TJ10 a).2.1 ≠ (TJ10 b).2.1 := by decide +kernel
theorem tyJ10_ok : ∀ k, k < 0 → parseFieldDescriptor (TJ10 k).2.2.1 = some (tyJ10 k) := by decide +kernel
def RJ3 : String := "jdk/internal/util/Preconditions"
def TJ3 : u_T := fun k => match k with
  | _ => ("", "", "", false)
def tyJ3 : Nat → FieldType := fun k => match k with
  | _ => .int
theorem nmJ3 : ∀ a, a < 0 → ∀ b, b < 0 → a ≠ b → (TJ3 a).2.1 ≠ (TJ3 b).2.1 := by decide +kernel
theorem tyJ3_ok : ∀ k, k < 0 → parseFieldDescriptor (TJ3 k).2.2.1 = some (tyJ3 k) := by decide +kernel
abbrev cJ3_checkIndex_8e157 : ByteArray := prog_16_method_11_code
def yJ3_checkIndex_8e157 : MethodName := ⟨RJ3, "checkIndex", "(IILjava/util/function/BiFunction;)I"⟩
def RL : String := "TurningDishesLaw"
abbrev cL_law : ByteArray := code
abbrev vwCl : List vw_C := [(RX0, TX0, 3), (RX1, TX1, 6), (RX2, TX2, 3), (RX3, TX3, 3), (RX4, TX4, 8), (RX5, TX5, 8), (RX6, TX6, 2), (RX7, TX7, 9), (RX8, TX8, 22)]
end
section
theorem dX0_init_0 : decode cX0_init 0 = .ok (.aload_n 0, 1) := by decide +kernel
theorem dX0_init_1 : decode cX0_init 1 = .ok (.invokespecial 3, 3) := by decide +kernel
theorem dX0_init_4 : decode cX0_init 4 = .ok (.aload_n 0, 1) := by decide +kernel
theorem dX0_init_5 : decode cX0_init 5 = .ok (.bipush 24, 2) := by decide +kernel
theorem dX0_init_7 : decode cX0_init 7 = .ok (.anewarray 9, 3) := by decide +kernel
theorem dX0_init_10 : decode cX0_init 10 = .ok (.putfield 11, 3) := by decide +kernel
theorem dX0_init_13 : decode cX0_init 13 = .ok (.iconst 0, 1) := by decide +kernel
theorem dX0_init_14 : decode cX0_init 14 = .ok (.istore_n 1, 1) := by decide +kernel
theorem dX0_init_15 : decode cX0_init 15 = .ok (.iload_n 1, 1) := by decide +kernel
theorem dX0_init_16 : decode cX0_init 16 = .ok (.aload_n 0, 1) := by decide +kernel
theorem dX0_init_17 : decode cX0_init 17 = .ok (.getfield 11, 3) := by decide +kernel
theorem dX0_init_20 : decode cX0_init 20 = .ok (.arraylength, 1) := by decide +kernel
theorem dX0_init_21 : decode cX0_init 21 = .ok (.if_icmp .ge 22, 3) := by decide +kernel
theorem dX0_init_24 : decode cX0_init 24 = .ok (.aload_n 0, 1) := by decide +kernel
theorem dX0_init_25 : decode cX0_init 25 = .ok (.getfield 11, 3) := by decide +kernel
theorem dX0_init_28 : decode cX0_init 28 = .ok (.iload_n 1, 1) := by decide +kernel
theorem dX0_init_29 : decode cX0_init 29 = .ok (.new 9, 3) := by decide +kernel
theorem dX0_init_32 : decode cX0_init 32 = .ok (.dup, 1) := by decide +kernel
theorem dX0_init_33 : decode cX0_init 33 = .ok (.invokespecial 17, 3) := by decide +kernel
theorem dX0_init_36 : decode cX0_init 36 = .ok (.aastore, 1) := by decide +kernel
theorem dX0_init_37 : decode cX0_init 37 = .ok (.iinc 1 1, 3) := by decide +kernel
theorem dX0_init_40 : decode cX0_init 40 = .ok (.goto (-25), 3) := by decide +kernel
theorem dX0_init_43 : decode cX0_init 43 = .ok (.return_, 1) := by decide +kernel
theorem dX0_keep_0 : decode cX0_keep 0 = .ok (.aload_n 0, 1) := by decide +kernel
theorem dX0_keep_1 : decode cX0_keep 1 = .ok (.aload_n 0, 1) := by decide +kernel
theorem dX0_keep_2 : decode cX0_keep 2 = .ok (.getfield 18, 3) := by decide +kernel
theorem dX0_keep_5 : decode cX0_keep 5 = .ok (.invokevirtual 22, 3) := by decide +kernel
theorem dX0_keep_8 : decode cX0_keep 8 = .ok (.astore_n 2, 1) := by decide +kernel
theorem dX0_keep_9 : decode cX0_keep 9 = .ok (.aload_n 2, 1) := by decide +kernel
theorem dX0_keep_10 : decode cX0_keep 10 = .ok (.ifnull 8, 3) := by decide +kernel
theorem dX0_keep_13 : decode cX0_keep 13 = .ok (.aload_n 2, 1) := by decide +kernel
theorem dX0_keep_14 : decode cX0_keep 14 = .ok (.aload_n 1, 1) := by decide +kernel
theorem dX0_keep_15 : decode cX0_keep 15 = .ok (.invokevirtual 26, 3) := by decide +kernel
theorem dX0_keep_18 : decode cX0_keep 18 = .ok (.aload_n 0, 1) := by decide +kernel
theorem dX0_keep_19 : decode cX0_keep 19 = .ok (.aload_n 0, 1) := by decide +kernel
theorem dX0_keep_20 : decode cX0_keep 20 = .ok (.getfield 18, 3) := by decide +kernel
theorem dX0_keep_23 : decode cX0_keep 23 = .ok (.iconst 1, 1) := by decide +kernel
theorem dX0_keep_24 : decode cX0_keep 24 = .ok (.iadd, 1) := by decide +kernel
theorem dX0_keep_25 : decode cX0_keep 25 = .ok (.bipush 24, 2) := by decide +kernel
theorem dX0_keep_27 : decode cX0_keep 27 = .ok (.invokestatic 30, 3) := by decide +kernel
theorem dX0_keep_30 : decode cX0_keep 30 = .ok (.putfield 18, 3) := by decide +kernel
theorem dX0_keep_33 : decode cX0_keep 33 = .ok (.aload_n 0, 1) := by decide +kernel
theorem dX0_keep_34 : decode cX0_keep 34 = .ok (.aload_n 0, 1) := by decide +kernel
theorem dX0_keep_35 : decode cX0_keep 35 = .ok (.getfield 34, 3) := by decide +kernel
theorem dX0_keep_38 : decode cX0_keep 38 = .ok (.iconst 1, 1) := by decide +kernel
theorem dX0_keep_39 : decode cX0_keep 39 = .ok (.iadd, 1) := by decide +kernel
theorem dX0_keep_40 : decode cX0_keep 40 = .ok (.bipush 24, 2) := by decide +kernel
theorem dX0_keep_42 : decode cX0_keep 42 = .ok (.invokestatic 37, 3) := by decide +kernel
theorem dX0_keep_45 : decode cX0_keep 45 = .ok (.putfield 34, 3) := by decide +kernel
theorem dX0_keep_48 : decode cX0_keep 48 = .ok (.return_, 1) := by decide +kernel
theorem dX0_giveBack_0 : decode cX0_giveBack 0 = .ok (.aload_n 0, 1) := by decide +kernel
theorem dX0_giveBack_1 : decode cX0_giveBack 1 = .ok (.aload_n 0, 1) := by decide +kernel
theorem dX0_giveBack_2 : decode cX0_giveBack 2 = .ok (.getfield 18, 3) := by decide +kernel
theorem dX0_giveBack_5 : decode cX0_giveBack 5 = .ok (.iconst 1, 1) := by decide +kernel
theorem dX0_giveBack_6 : decode cX0_giveBack 6 = .ok (.isub, 1) := by decide +kernel
theorem dX0_giveBack_7 : decode cX0_giveBack 7 = .ok (.bipush 24, 2) := by decide +kernel
theorem dX0_giveBack_9 : decode cX0_giveBack 9 = .ok (.invokestatic 30, 3) := by decide +kernel
theorem dX0_giveBack_12 : decode cX0_giveBack 12 = .ok (.putfield 18, 3) := by decide +kernel
theorem dX0_giveBack_15 : decode cX0_giveBack 15 = .ok (.aload_n 1, 1) := by decide +kernel
theorem dX0_giveBack_16 : decode cX0_giveBack 16 = .ok (.aload_n 0, 1) := by decide +kernel
theorem dX0_giveBack_17 : decode cX0_giveBack 17 = .ok (.aload_n 0, 1) := by decide +kernel
theorem dX0_giveBack_18 : decode cX0_giveBack 18 = .ok (.getfield 18, 3) := by decide +kernel
theorem dX0_giveBack_21 : decode cX0_giveBack 21 = .ok (.invokevirtual 22, 3) := by decide +kernel
theorem dX0_giveBack_24 : decode cX0_giveBack 24 = .ok (.invokevirtual 26, 3) := by decide +kernel
theorem dX0_giveBack_27 : decode cX0_giveBack 27 = .ok (.aload_n 0, 1) := by decide +kernel
theorem dX0_giveBack_28 : decode cX0_giveBack 28 = .ok (.dup, 1) := by decide +kernel
theorem dX0_giveBack_29 : decode cX0_giveBack 29 = .ok (.getfield 34, 3) := by decide +kernel
theorem dX0_giveBack_32 : decode cX0_giveBack 32 = .ok (.iconst 1, 1) := by decide +kernel
theorem dX0_giveBack_33 : decode cX0_giveBack 33 = .ok (.isub, 1) := by decide +kernel
theorem dX0_giveBack_34 : decode cX0_giveBack 34 = .ok (.putfield 34, 3) := by decide +kernel
theorem dX0_giveBack_37 : decode cX0_giveBack 37 = .ok (.return_, 1) := by decide +kernel
theorem dX0_forget_0 : decode cX0_forget 0 = .ok (.aload_n 0, 1) := by decide +kernel
theorem dX0_forget_1 : decode cX0_forget 1 = .ok (.iconst 0, 1) := by decide +kernel
theorem dX0_forget_2 : decode cX0_forget 2 = .ok (.putfield 34, 3) := by decide +kernel
theorem dX0_forget_5 : decode cX0_forget 5 = .ok (.return_, 1) := by decide +kernel
theorem dX0_at_0 : decode cX0_at 0 = .ok (.iload_n 1, 1) := by decide +kernel
theorem dX0_at_1 : decode cX0_at 1 = .ok (.ifCond .lt 21, 3) := by decide +kernel
theorem dX0_at_4 : decode cX0_at 4 = .ok (.iload_n 1, 1) := by decide +kernel
theorem dX0_at_5 : decode cX0_at 5 = .ok (.aload_n 0, 1) := by decide +kernel
theorem dX0_at_6 : decode cX0_at 6 = .ok (.getfield 11, 3) := by decide +kernel
theorem dX0_at_9 : decode cX0_at 9 = .ok (.arraylength, 1) := by decide +kernel
theorem dX0_at_10 : decode cX0_at 10 = .ok (.if_icmp .ge 12, 3) := by decide +kernel
theorem dX0_at_13 : decode cX0_at 13 = .ok (.aload_n 0, 1) := by decide +kernel
theorem dX0_at_14 : decode cX0_at 14 = .ok (.getfield 11, 3) := by decide +kernel
theorem dX0_at_17 : decode cX0_at 17 = .ok (.iload_n 1, 1) := by decide +kernel
theorem dX0_at_18 : decode cX0_at 18 = .ok (.aaload, 1) := by decide +kernel
theorem dX0_at_19 : decode cX0_at 19 = .ok (.goto 4, 3) := by decide +kernel
theorem dX0_at_22 : decode cX0_at 22 = .ok (.aconst_null, 1) := by decide +kernel
theorem dX0_at_23 : decode cX0_at 23 = .ok (.areturn, 1) := by decide +kernel
theorem dX1_init_0 : decode cX1_init 0 = .ok (.aload_n 0, 1) := by decide +kernel
theorem dX1_init_1 : decode cX1_init 1 = .ok (.invokespecial 3, 3) := by decide +kernel
theorem dX1_init_4 : decode cX1_init 4 = .ok (.aload_n 0, 1) := by decide +kernel
theorem dX1_init_5 : decode cX1_init 5 = .ok (.bipush 16, 2) := by decide +kernel
theorem dX1_init_7 : decode cX1_init 7 = .ok (.newarray .int, 2) := by decide +kernel
theorem dX1_init_9 : decode cX1_init 9 = .ok (.putfield 9, 3) := by decide +kernel
theorem dX1_init_12 : decode cX1_init 12 = .ok (.return_, 1) := by decide +kernel
theorem dX1_begin_0 : decode cX1_begin 0 = .ok (.aload_n 0, 1) := by decide +kernel
theorem dX1_begin_1 : decode cX1_begin 1 = .ok (.iconst 0, 1) := by decide +kernel
theorem dX1_begin_2 : decode cX1_begin 2 = .ok (.putfield 15, 3) := by decide +kernel
theorem dX1_begin_5 : decode cX1_begin 5 = .ok (.aload_n 0, 1) := by decide +kernel
theorem dX1_begin_6 : decode cX1_begin 6 = .ok (.iload_n 2, 1) := by decide +kernel
theorem dX1_begin_7 : decode cX1_begin 7 = .ok (.putfield 19, 3) := by decide +kernel
theorem dX1_begin_10 : decode cX1_begin 10 = .ok (.aload_n 0, 1) := by decide +kernel
theorem dX1_begin_11 : decode cX1_begin 11 = .ok (.aload_n 1, 1) := by decide +kernel
theorem dX1_begin_12 : decode cX1_begin 12 = .ok (.iconst 0, 1) := by decide +kernel
theorem dX1_begin_13 : decode cX1_begin 13 = .ok (.iload_n 2, 1) := by decide +kernel
theorem dX1_begin_14 : decode cX1_begin 14 = .ok (.invokevirtual 24, 3) := by decide +kernel
theorem dX1_begin_17 : decode cX1_begin 17 = .ok (.putfield 28, 3) := by decide +kernel
theorem dX1_begin_20 : decode cX1_begin 20 = .ok (.aload_n 0, 1) := by decide +kernel
theorem dX1_begin_21 : decode cX1_begin 21 = .ok (.aload_n 1, 1) := by decide +kernel
theorem dX1_begin_22 : decode cX1_begin 22 = .ok (.iconst 1, 1) := by decide +kernel
theorem dX1_begin_23 : decode cX1_begin 23 = .ok (.iload_n 2, 1) := by decide +kernel
theorem dX1_begin_24 : decode cX1_begin 24 = .ok (.invokevirtual 24, 3) := by decide +kernel
theorem dX1_begin_27 : decode cX1_begin 27 = .ok (.putfield 31, 3) := by decide +kernel
theorem dX1_begin_30 : decode cX1_begin 30 = .ok (.aload_n 0, 1) := by decide +kernel
theorem dX1_begin_31 : decode cX1_begin 31 = .ok (.aload_n 1, 1) := by decide +kernel
theorem dX1_begin_32 : decode cX1_begin 32 = .ok (.iconst 3, 1) := by decide +kernel
theorem dX1_begin_33 : decode cX1_begin 33 = .ok (.iload_n 2, 1) := by decide +kernel
theorem dX1_begin_34 : decode cX1_begin 34 = .ok (.invokevirtual 24, 3) := by decide +kernel
theorem dX1_begin_37 : decode cX1_begin 37 = .ok (.putfield 34, 3) := by decide +kernel
theorem dX1_begin_40 : decode cX1_begin 40 = .ok (.return_, 1) := by decide +kernel
theorem dX1_traced_0 : decode cX1_traced 0 = .ok (.iload_n 1, 1) := by decide +kernel
theorem dX1_traced_1 : decode cX1_traced 1 = .ok (.ifCond .lt 29, 3) := by decide +kernel
theorem dX1_traced_4 : decode cX1_traced 4 = .ok (.iload_n 1, 1) := by decide +kernel
theorem dX1_traced_5 : decode cX1_traced 5 = .ok (.aload_n 0, 1) := by decide +kernel
theorem dX1_traced_6 : decode cX1_traced 6 = .ok (.getfield 15, 3) := by decide +kernel
theorem dX1_traced_9 : decode cX1_traced 9 = .ok (.if_icmp .ge 21, 3) := by decide +kernel
theorem dX1_traced_12 : decode cX1_traced 12 = .ok (.iload_n 1, 1) := by decide +kernel
theorem dX1_traced_13 : decode cX1_traced 13 = .ok (.aload_n 0, 1) := by decide +kernel
theorem dX1_traced_14 : decode cX1_traced 14 = .ok (.getfield 9, 3) := by decide +kernel
theorem dX1_traced_17 : decode cX1_traced 17 = .ok (.arraylength, 1) := by decide +kernel
theorem dX1_traced_18 : decode cX1_traced 18 = .ok (.if_icmp .ge 12, 3) := by decide +kernel
theorem dX1_traced_21 : decode cX1_traced 21 = .ok (.aload_n 0, 1) := by decide +kernel
theorem dX1_traced_22 : decode cX1_traced 22 = .ok (.getfield 9, 3) := by decide +kernel
theorem dX1_traced_25 : decode cX1_traced 25 = .ok (.iload_n 1, 1) := by decide +kernel
theorem dX1_traced_26 : decode cX1_traced 26 = .ok (.iaload, 1) := by decide +kernel
theorem dX1_traced_27 : decode cX1_traced 27 = .ok (.goto 5, 3) := by decide +kernel
theorem dX1_traced_30 : decode cX1_traced 30 = .ok (.ldc 37, 2) := by decide +kernel
theorem dX1_traced_32 : decode cX1_traced 32 = .ok (.ireturn, 1) := by decide +kernel
theorem dX1_size_0 : decode cX1_size 0 = .ok (.aload_n 0, 1) := by decide +kernel
theorem dX1_size_1 : decode cX1_size 1 = .ok (.getfield 28, 3) := by decide +kernel
theorem dX1_size_4 : decode cX1_size 4 = .ok (.tableswitch 47 2 5 #[32, 47, 37, 42], 32) := by decide +kernel
theorem dX1_size_36 : decode cX1_size 36 = .ok (.aload_n 0, 1) := by decide +kernel
theorem dX1_size_37 : decode cX1_size 37 = .ok (.invokevirtual 38, 3) := by decide +kernel
theorem dX1_size_40 : decode cX1_size 40 = .ok (.ireturn, 1) := by decide +kernel
theorem dX1_size_41 : decode cX1_size 41 = .ok (.aload_n 0, 1) := by decide +kernel
theorem dX1_size_42 : decode cX1_size 42 = .ok (.invokevirtual 42, 3) := by decide +kernel
theorem dX1_size_45 : decode cX1_size 45 = .ok (.ireturn, 1) := by decide +kernel
theorem dX1_size_46 : decode cX1_size 46 = .ok (.aload_n 0, 1) := by decide +kernel
theorem dX1_size_47 : decode cX1_size 47 = .ok (.invokevirtual 45, 3) := by decide +kernel
theorem dX1_size_50 : decode cX1_size 50 = .ok (.ireturn, 1) := by decide +kernel
theorem dX1_size_51 : decode cX1_size 51 = .ok (.aload_n 0, 1) := by decide +kernel
theorem dX1_size_52 : decode cX1_size 52 = .ok (.invokevirtual 48, 3) := by decide +kernel
theorem dX1_size_55 : decode cX1_size 55 = .ok (.ireturn, 1) := by decide +kernel
theorem dX1_mark_0 : decode cX1_mark 0 = .ok (.aload_n 0, 1) := by decide +kernel
theorem dX1_mark_1 : decode cX1_mark 1 = .ok (.getfield 28, 3) := by decide +kernel
theorem dX1_mark_4 : decode cX1_mark 4 = .ok (.tableswitch 52 2 5 #[32, 37, 42, 47], 32) := by decide +kernel
theorem dX1_mark_36 : decode cX1_mark 36 = .ok (.aload_n 0, 1) := by decide +kernel
theorem dX1_mark_37 : decode cX1_mark 37 = .ok (.invokevirtual 51, 3) := by decide +kernel
theorem dX1_mark_40 : decode cX1_mark 40 = .ok (.ireturn, 1) := by decide +kernel
theorem dX1_mark_41 : decode cX1_mark 41 = .ok (.aload_n 0, 1) := by decide +kernel
theorem dX1_mark_42 : decode cX1_mark 42 = .ok (.invokevirtual 54, 3) := by decide +kernel
theorem dX1_mark_45 : decode cX1_mark 45 = .ok (.ireturn, 1) := by decide +kernel
theorem dX1_mark_46 : decode cX1_mark 46 = .ok (.aload_n 0, 1) := by decide +kernel
theorem dX1_mark_47 : decode cX1_mark 47 = .ok (.invokevirtual 57, 3) := by decide +kernel
theorem dX1_mark_50 : decode cX1_mark 50 = .ok (.ireturn, 1) := by decide +kernel
theorem dX1_mark_51 : decode cX1_mark 51 = .ok (.aload_n 0, 1) := by decide +kernel
theorem dX1_mark_52 : decode cX1_mark 52 = .ok (.invokevirtual 57, 3) := by decide +kernel
theorem dX1_mark_55 : decode cX1_mark 55 = .ok (.ireturn, 1) := by decide +kernel
theorem dX1_mark_56 : decode cX1_mark 56 = .ok (.aload_n 0, 1) := by decide +kernel
theorem dX1_mark_57 : decode cX1_mark 57 = .ok (.invokevirtual 60, 3) := by decide +kernel
theorem dX1_mark_60 : decode cX1_mark 60 = .ok (.ireturn, 1) := by decide +kernel
theorem dX1_size10_0 : decode cX1_size10 0 = .ok (.aload_n 0, 1) := by decide +kernel
theorem dX1_size10_1 : decode cX1_size10 1 = .ok (.bipush 10, 2) := by decide +kernel
theorem dX1_size10_3 : decode cX1_size10 3 = .ok (.invokevirtual 63, 3) := by decide +kernel
theorem dX1_size10_6 : decode cX1_size10 6 = .ok (.aload_n 0, 1) := by decide +kernel
theorem dX1_size10_7 : decode cX1_size10 7 = .ok (.getfield 34, 3) := by decide +kernel
theorem dX1_size10_10 : decode cX1_size10 10 = .ok (.ireturn, 1) := by decide +kernel
theorem dX1_size11_0 : decode cX1_size11 0 = .ok (.aload_n 0, 1) := by decide +kernel
theorem dX1_size11_1 : decode cX1_size11 1 = .ok (.bipush 11, 2) := by decide +kernel
theorem dX1_size11_3 : decode cX1_size11 3 = .ok (.invokevirtual 63, 3) := by decide +kernel
theorem dX1_size11_6 : decode cX1_size11 6 = .ok (.aload_n 0, 1) := by decide +kernel
theorem dX1_size11_7 : decode cX1_size11 7 = .ok (.invokevirtual 67, 3) := by decide +kernel
theorem dX1_size11_10 : decode cX1_size11 10 = .ok (.istore_n 1, 1) := by decide +kernel
theorem dX1_size11_11 : decode cX1_size11 11 = .ok (.aload_n 0, 1) := by decide +kernel
theorem dX1_size11_12 : decode cX1_size11 12 = .ok (.getfield 28, 3) := by decide +kernel
theorem dX1_size11_15 : decode cX1_size11 15 = .ok (.lookupswitch 39 #[(2, 25), (3, 32)], 25) := by decide +kernel
theorem dX1_size11_40 : decode cX1_size11 40 = .ok (.iload_n 1, 1) := by decide +kernel
theorem dX1_size11_41 : decode cX1_size11 41 = .ok (.aload_n 0, 1) := by decide +kernel
theorem dX1_size11_42 : decode cX1_size11 42 = .ok (.invokevirtual 51, 3) := by decide +kernel
theorem dX1_size11_45 : decode cX1_size11 45 = .ok (.iadd, 1) := by decide +kernel
theorem dX1_size11_46 : decode cX1_size11 46 = .ok (.ireturn, 1) := by decide +kernel
theorem dX1_size11_47 : decode cX1_size11 47 = .ok (.iload_n 1, 1) := by decide +kernel
theorem dX1_size11_48 : decode cX1_size11 48 = .ok (.aload_n 0, 1) := by decide +kernel
theorem dX1_size11_49 : decode cX1_size11 49 = .ok (.invokevirtual 54, 3) := by decide +kernel
theorem dX1_size11_52 : decode cX1_size11 52 = .ok (.iadd, 1) := by decide +kernel
theorem dX1_size11_53 : decode cX1_size11 53 = .ok (.ireturn, 1) := by decide +kernel
theorem dX1_size11_54 : decode cX1_size11 54 = .ok (.iload_n 1, 1) := by decide +kernel
theorem dX1_size11_55 : decode cX1_size11 55 = .ok (.aload_n 0, 1) := by decide +kernel
theorem dX1_size11_56 : decode cX1_size11 56 = .ok (.invokevirtual 60, 3) := by decide +kernel
theorem dX1_size11_59 : decode cX1_size11 59 = .ok (.iadd, 1) := by decide +kernel
theorem dX1_size11_60 : decode cX1_size11 60 = .ok (.ireturn, 1) := by decide +kernel
theorem dX1_size12_0 : decode cX1_size12 0 = .ok (.aload_n 0, 1) := by decide +kernel
theorem dX1_size12_1 : decode cX1_size12 1 = .ok (.bipush 12, 2) := by decide +kernel
theorem dX1_size12_3 : decode cX1_size12 3 = .ok (.invokevirtual 63, 3) := by decide +kernel
theorem dX1_size12_6 : decode cX1_size12 6 = .ok (.aload_n 0, 1) := by decide +kernel
theorem dX1_size12_7 : decode cX1_size12 7 = .ok (.invokevirtual 48, 3) := by decide +kernel
theorem dX1_size12_10 : decode cX1_size12 10 = .ok (.ineg, 1) := by decide +kernel
theorem dX1_size12_11 : decode cX1_size12 11 = .ok (.ireturn, 1) := by decide +kernel
theorem dX1_size13_0 : decode cX1_size13 0 = .ok (.aload_n 0, 1) := by decide +kernel
theorem dX1_size13_1 : decode cX1_size13 1 = .ok (.bipush 13, 2) := by decide +kernel
theorem dX1_size13_3 : decode cX1_size13 3 = .ok (.invokevirtual 63, 3) := by decide +kernel
theorem dX1_size13_6 : decode cX1_size13 6 = .ok (.aload_n 0, 1) := by decide +kernel
theorem dX1_size13_7 : decode cX1_size13 7 = .ok (.invokevirtual 67, 3) := by decide +kernel
theorem dX1_size13_10 : decode cX1_size13 10 = .ok (.bipush 100, 2) := by decide +kernel
theorem dX1_size13_12 : decode cX1_size13 12 = .ok (.isub, 1) := by decide +kernel
theorem dX1_size13_13 : decode cX1_size13 13 = .ok (.ireturn, 1) := by decide +kernel
theorem dX1_size14_0 : decode cX1_size14 0 = .ok (.aload_n 0, 1) := by decide +kernel
theorem dX1_size14_1 : decode cX1_size14 1 = .ok (.bipush 14, 2) := by decide +kernel
theorem dX1_size14_3 : decode cX1_size14 3 = .ok (.invokevirtual 63, 3) := by decide +kernel
theorem dX1_size14_6 : decode cX1_size14 6 = .ok (.iconst 2, 1) := by decide +kernel
theorem dX1_size14_7 : decode cX1_size14 7 = .ok (.aload_n 0, 1) := by decide +kernel
theorem dX1_size14_8 : decode cX1_size14 8 = .ok (.invokevirtual 42, 3) := by decide +kernel
theorem dX1_size14_11 : decode cX1_size14 11 = .ok (.imul, 1) := by decide +kernel
theorem dX1_size14_12 : decode cX1_size14 12 = .ok (.ireturn, 1) := by decide +kernel
theorem dX1_mark20_0 : decode cX1_mark20 0 = .ok (.aload_n 0, 1) := by decide +kernel
theorem dX1_mark20_1 : decode cX1_mark20 1 = .ok (.bipush 20, 2) := by decide +kernel
theorem dX1_mark20_3 : decode cX1_mark20 3 = .ok (.invokevirtual 63, 3) := by decide +kernel
theorem dX1_mark20_6 : decode cX1_mark20 6 = .ok (.aload_n 0, 1) := by decide +kernel
theorem dX1_mark20_7 : decode cX1_mark20 7 = .ok (.getfield 19, 3) := by decide +kernel
theorem dX1_mark20_10 : decode cX1_mark20 10 = .ok (.ireturn, 1) := by decide +kernel
theorem dX1_mark21_0 : decode cX1_mark21 0 = .ok (.aload_n 0, 1) := by decide +kernel
theorem dX1_mark21_1 : decode cX1_mark21 1 = .ok (.bipush 21, 2) := by decide +kernel
theorem dX1_mark21_3 : decode cX1_mark21 3 = .ok (.invokevirtual 63, 3) := by decide +kernel
theorem dX1_mark21_6 : decode cX1_mark21 6 = .ok (.aload_n 0, 1) := by decide +kernel
theorem dX1_mark21_7 : decode cX1_mark21 7 = .ok (.invokevirtual 70, 3) := by decide +kernel
theorem dX1_mark21_10 : decode cX1_mark21 10 = .ok (.aload_n 0, 1) := by decide +kernel
theorem dX1_mark21_11 : decode cX1_mark21 11 = .ok (.getfield 31, 3) := by decide +kernel
theorem dX1_mark21_14 : decode cX1_mark21 14 = .ok (.iadd, 1) := by decide +kernel
theorem dX1_mark21_15 : decode cX1_mark21 15 = .ok (.ireturn, 1) := by decide +kernel
theorem dX1_mark22_0 : decode cX1_mark22 0 = .ok (.aload_n 0, 1) := by decide +kernel
theorem dX1_mark22_1 : decode cX1_mark22 1 = .ok (.bipush 22, 2) := by decide +kernel
theorem dX1_mark22_3 : decode cX1_mark22 3 = .ok (.invokevirtual 63, 3) := by decide +kernel
theorem dX1_mark22_6 : decode cX1_mark22 6 = .ok (.aload_n 0, 1) := by decide +kernel
theorem dX1_mark22_7 : decode cX1_mark22 7 = .ok (.invokevirtual 60, 3) := by decide +kernel
theorem dX1_mark22_10 : decode cX1_mark22 10 = .ok (.sipush 1000, 3) := by decide +kernel
theorem dX1_mark22_13 : decode cX1_mark22 13 = .ok (.isub, 1) := by decide +kernel
theorem dX1_mark22_14 : decode cX1_mark22 14 = .ok (.ireturn, 1) := by decide +kernel
theorem dX1_mark23_0 : decode cX1_mark23 0 = .ok (.aload_n 0, 1) := by decide +kernel
theorem dX1_mark23_1 : decode cX1_mark23 1 = .ok (.bipush 23, 2) := by decide +kernel
theorem dX1_mark23_3 : decode cX1_mark23 3 = .ok (.invokevirtual 63, 3) := by decide +kernel
theorem dX1_mark23_6 : decode cX1_mark23 6 = .ok (.aload_n 0, 1) := by decide +kernel
theorem dX1_mark23_7 : decode cX1_mark23 7 = .ok (.invokevirtual 70, 3) := by decide +kernel
theorem dX1_mark23_10 : decode cX1_mark23 10 = .ok (.istore_n 1, 1) := by decide +kernel
theorem dX1_mark23_11 : decode cX1_mark23 11 = .ok (.iload_n 1, 1) := by decide +kernel
theorem dX1_mark23_12 : decode cX1_mark23 12 = .ok (.aload_n 0, 1) := by decide +kernel
theorem dX1_mark23_13 : decode cX1_mark23 13 = .ok (.getfield 28, 3) := by decide +kernel
theorem dX1_mark23_16 : decode cX1_mark23 16 = .ok (.iconst 5, 1) := by decide +kernel
theorem dX1_mark23_17 : decode cX1_mark23 17 = .ok (.if_icmp .ne 10, 3) := by decide +kernel
theorem dX1_mark23_20 : decode cX1_mark23 20 = .ok (.aload_n 0, 1) := by decide +kernel
theorem dX1_mark23_21 : decode cX1_mark23 21 = .ok (.invokevirtual 45, 3) := by decide +kernel
theorem dX1_mark23_24 : decode cX1_mark23 24 = .ok (.goto 7, 3) := by decide +kernel
theorem dX1_mark23_27 : decode cX1_mark23 27 = .ok (.aload_n 0, 1) := by decide +kernel
theorem dX1_mark23_28 : decode cX1_mark23 28 = .ok (.invokevirtual 42, 3) := by decide +kernel
theorem dX1_mark23_31 : decode cX1_mark23 31 = .ok (.isub, 1) := by decide +kernel
theorem dX1_mark23_32 : decode cX1_mark23 32 = .ok (.ireturn, 1) := by decide +kernel
theorem dX1_mark24_0 : decode cX1_mark24 0 = .ok (.aload_n 0, 1) := by decide +kernel
theorem dX1_mark24_1 : decode cX1_mark24 1 = .ok (.bipush 24, 2) := by decide +kernel
theorem dX1_mark24_3 : decode cX1_mark24 3 = .ok (.invokevirtual 63, 3) := by decide +kernel
theorem dX1_mark24_6 : decode cX1_mark24 6 = .ok (.iconst 2, 1) := by decide +kernel
theorem dX1_mark24_7 : decode cX1_mark24 7 = .ok (.aload_n 0, 1) := by decide +kernel
theorem dX1_mark24_8 : decode cX1_mark24 8 = .ok (.invokevirtual 60, 3) := by decide +kernel
theorem dX1_mark24_11 : decode cX1_mark24 11 = .ok (.imul, 1) := by decide +kernel
theorem dX1_mark24_12 : decode cX1_mark24 12 = .ok (.ireturn, 1) := by decide +kernel
theorem dX1_leave_0 : decode cX1_leave 0 = .ok (.aload_n 0, 1) := by decide +kernel
theorem dX1_leave_1 : decode cX1_leave 1 = .ok (.getfield 15, 3) := by decide +kernel
theorem dX1_leave_4 : decode cX1_leave 4 = .ok (.ifCond .lt 35, 3) := by decide +kernel
theorem dX1_leave_7 : decode cX1_leave 7 = .ok (.aload_n 0, 1) := by decide +kernel
theorem dX1_leave_8 : decode cX1_leave 8 = .ok (.getfield 15, 3) := by decide +kernel
theorem dX1_leave_11 : decode cX1_leave 11 = .ok (.aload_n 0, 1) := by decide +kernel
theorem dX1_leave_12 : decode cX1_leave 12 = .ok (.getfield 9, 3) := by decide +kernel
theorem dX1_leave_15 : decode cX1_leave 15 = .ok (.arraylength, 1) := by decide +kernel
theorem dX1_leave_16 : decode cX1_leave 16 = .ok (.if_icmp .ge 23, 3) := by decide +kernel
theorem dX1_leave_19 : decode cX1_leave 19 = .ok (.aload_n 0, 1) := by decide +kernel
theorem dX1_leave_20 : decode cX1_leave 20 = .ok (.getfield 9, 3) := by decide +kernel
theorem dX1_leave_23 : decode cX1_leave 23 = .ok (.aload_n 0, 1) := by decide +kernel
theorem dX1_leave_24 : decode cX1_leave 24 = .ok (.getfield 15, 3) := by decide +kernel
theorem dX1_leave_27 : decode cX1_leave 27 = .ok (.iload_n 1, 1) := by decide +kernel
theorem dX1_leave_28 : decode cX1_leave 28 = .ok (.iastore, 1) := by decide +kernel
theorem dX1_leave_29 : decode cX1_leave 29 = .ok (.aload_n 0, 1) := by decide +kernel
theorem dX1_leave_30 : decode cX1_leave 30 = .ok (.dup, 1) := by decide +kernel
theorem dX1_leave_31 : decode cX1_leave 31 = .ok (.getfield 15, 3) := by decide +kernel
theorem dX1_leave_34 : decode cX1_leave 34 = .ok (.iconst 1, 1) := by decide +kernel
theorem dX1_leave_35 : decode cX1_leave 35 = .ok (.iadd, 1) := by decide +kernel
theorem dX1_leave_36 : decode cX1_leave 36 = .ok (.putfield 15, 3) := by decide +kernel
theorem dX1_leave_39 : decode cX1_leave 39 = .ok (.return_, 1) := by decide +kernel
theorem dX2_init_0 : decode cX2_init 0 = .ok (.aload_n 0, 1) := by decide +kernel
theorem dX2_init_1 : decode cX2_init 1 = .ok (.invokespecial 3, 3) := by decide +kernel
theorem dX2_init_4 : decode cX2_init 4 = .ok (.aload_n 0, 1) := by decide +kernel
theorem dX2_init_5 : decode cX2_init 5 = .ok (.new 9, 3) := by decide +kernel
theorem dX2_init_8 : decode cX2_init 8 = .ok (.dup, 1) := by decide +kernel
theorem dX2_init_9 : decode cX2_init 9 = .ok (.invokespecial 11, 3) := by decide +kernel
theorem dX2_init_12 : decode cX2_init 12 = .ok (.putfield 12, 3) := by decide +kernel
theorem dX2_init_15 : decode cX2_init 15 = .ok (.aload_n 0, 1) := by decide +kernel
theorem dX2_init_16 : decode cX2_init 16 = .ok (.bipush 6, 2) := by decide +kernel
theorem dX2_init_18 : decode cX2_init 18 = .ok (.newarray .int, 2) := by decide +kernel
theorem dX2_init_20 : decode cX2_init 20 = .ok (.putfield 18, 3) := by decide +kernel
theorem dX2_init_23 : decode cX2_init 23 = .ok (.aload_n 0, 1) := by decide +kernel
theorem dX2_init_24 : decode cX2_init 24 = .ok (.bipush 6, 2) := by decide +kernel
theorem dX2_init_26 : decode cX2_init 26 = .ok (.newarray .int, 2) := by decide +kernel
theorem dX2_init_28 : decode cX2_init 28 = .ok (.putfield 22, 3) := by decide +kernel
theorem dX2_init_31 : decode cX2_init 31 = .ok (.return_, 1) := by decide +kernel
theorem dX2_look_0 : decode cX2_look 0 = .ok (.aload_n 0, 1) := by decide +kernel
theorem dX2_look_1 : decode cX2_look 1 = .ok (.getfield 12, 3) := by decide +kernel
theorem dX2_look_4 : decode cX2_look 4 = .ok (.aload_n 1, 1) := by decide +kernel
theorem dX2_look_5 : decode cX2_look 5 = .ok (.invokevirtual 25, 3) := by decide +kernel
theorem dX2_look_8 : decode cX2_look 8 = .ok (.aload_n 0, 1) := by decide +kernel
theorem dX2_look_9 : decode cX2_look 9 = .ok (.iload_n 2, 1) := by decide +kernel
theorem dX2_look_10 : decode cX2_look 10 = .ok (.ldc 29, 2) := by decide +kernel
theorem dX2_look_12 : decode cX2_look 12 = .ok (.invokevirtual 30, 3) := by decide +kernel
theorem dX2_look_15 : decode cX2_look 15 = .ok (.ireturn, 1) := by decide +kernel
theorem dX2_passMinutes_0 : decode cX2_passMinutes 0 = .ok (.iconst 0, 1) := by decide +kernel
theorem dX2_passMinutes_1 : decode cX2_passMinutes 1 = .ok (.istore_n 3, 1) := by decide +kernel
theorem dX2_passMinutes_2 : decode cX2_passMinutes 2 = .ok (.iconst 0, 1) := by decide +kernel
theorem dX2_passMinutes_3 : decode cX2_passMinutes 3 = .ok (.istore 4, 2) := by decide +kernel
theorem dX2_passMinutes_5 : decode cX2_passMinutes 5 = .ok (.iload 4, 2) := by decide +kernel
theorem dX2_passMinutes_7 : decode cX2_passMinutes 7 = .ok (.iload_n 1, 1) := by decide +kernel
theorem dX2_passMinutes_8 : decode cX2_passMinutes 8 = .ok (.if_icmp .ge 31, 3) := by decide +kernel
theorem dX2_passMinutes_11 : decode cX2_passMinutes 11 = .ok (.iload_n 3, 1) := by decide +kernel
theorem dX2_passMinutes_12 : decode cX2_passMinutes 12 = .ok (.iload_n 2, 1) := by decide +kernel
theorem dX2_passMinutes_13 : decode cX2_passMinutes 13 = .ok (.if_icmp .ge 26, 3) := by decide +kernel
theorem dX2_passMinutes_16 : decode cX2_passMinutes 16 = .ok (.aload_n 0, 1) := by decide +kernel
theorem dX2_passMinutes_17 : decode cX2_passMinutes 17 = .ok (.getfield 12, 3) := by decide +kernel
theorem dX2_passMinutes_20 : decode cX2_passMinutes 20 = .ok (.invokevirtual 34, 3) := by decide +kernel
theorem dX2_passMinutes_23 : decode cX2_passMinutes 23 = .ok (.iload_n 3, 1) := by decide +kernel
theorem dX2_passMinutes_24 : decode cX2_passMinutes 24 = .ok (.aload_n 0, 1) := by decide +kernel
theorem dX2_passMinutes_25 : decode cX2_passMinutes 25 = .ok (.getfield 12, 3) := by decide +kernel
theorem dX2_passMinutes_28 : decode cX2_passMinutes 28 = .ok (.getfield 37, 3) := by decide +kernel
theorem dX2_passMinutes_31 : decode cX2_passMinutes 31 = .ok (.iadd, 1) := by decide +kernel
theorem dX2_passMinutes_32 : decode cX2_passMinutes 32 = .ok (.istore_n 3, 1) := by decide +kernel
theorem dX2_passMinutes_33 : decode cX2_passMinutes 33 = .ok (.iinc 4 1, 3) := by decide +kernel
theorem dX2_passMinutes_36 : decode cX2_passMinutes 36 = .ok (.goto (-31), 3) := by decide +kernel
theorem dX2_passMinutes_39 : decode cX2_passMinutes 39 = .ok (.iload_n 3, 1) := by decide +kernel
theorem dX2_passMinutes_40 : decode cX2_passMinutes 40 = .ok (.ireturn, 1) := by decide +kernel
theorem dX2_eatsSeatedAs_0 : decode cX2_eatsSeatedAs 0 = .ok (.aload_n 0, 1) := by decide +kernel
theorem dX2_eatsSeatedAs_1 : decode cX2_eatsSeatedAs 1 = .ok (.getfield 12, 3) := by decide +kernel
theorem dX2_eatsSeatedAs_4 : decode cX2_eatsSeatedAs 4 = .ok (.aload_n 1, 1) := by decide +kernel
theorem dX2_eatsSeatedAs_5 : decode cX2_eatsSeatedAs 5 = .ok (.invokevirtual 25, 3) := by decide +kernel
theorem dX2_eatsSeatedAs_8 : decode cX2_eatsSeatedAs 8 = .ok (.iload_n 2, 1) := by decide +kernel
theorem dX2_eatsSeatedAs_9 : decode cX2_eatsSeatedAs 9 = .ok (.iload_n 3, 1) := by decide +kernel
theorem dX2_eatsSeatedAs_10 : decode cX2_eatsSeatedAs 10 = .ok (.if_icmp .eq 12, 3) := by decide +kernel
theorem dX2_eatsSeatedAs_13 : decode cX2_eatsSeatedAs 13 = .ok (.aload_n 0, 1) := by decide +kernel
theorem dX2_eatsSeatedAs_14 : decode cX2_eatsSeatedAs 14 = .ok (.getfield 12, 3) := by decide +kernel
theorem dX2_eatsSeatedAs_17 : decode cX2_eatsSeatedAs 17 = .ok (.iload_n 2, 1) := by decide +kernel
theorem dX2_eatsSeatedAs_18 : decode cX2_eatsSeatedAs 18 = .ok (.iload_n 3, 1) := by decide +kernel
theorem dX2_eatsSeatedAs_19 : decode cX2_eatsSeatedAs 19 = .ok (.invokevirtual 41, 3) := by decide +kernel
theorem dX2_eatsSeatedAs_22 : decode cX2_eatsSeatedAs 22 = .ok (.aload_n 0, 1) := by decide +kernel
theorem dX2_eatsSeatedAs_23 : decode cX2_eatsSeatedAs 23 = .ok (.iload 4, 2) := by decide +kernel
theorem dX2_eatsSeatedAs_25 : decode cX2_eatsSeatedAs 25 = .ok (.ldc 29, 2) := by decide +kernel
theorem dX2_eatsSeatedAs_27 : decode cX2_eatsSeatedAs 27 = .ok (.invokevirtual 30, 3) := by decide +kernel
theorem dX2_eatsSeatedAs_30 : decode cX2_eatsSeatedAs 30 = .ok (.pop, 1) := by decide +kernel
theorem dX2_eatsSeatedAs_31 : decode cX2_eatsSeatedAs 31 = .ok (.aload_n 0, 1) := by decide +kernel
theorem dX2_eatsSeatedAs_32 : decode cX2_eatsSeatedAs 32 = .ok (.getfield 12, 3) := by decide +kernel
theorem dX2_eatsSeatedAs_35 : decode cX2_eatsSeatedAs 35 = .ok (.iconst 3, 1) := by decide +kernel
theorem dX2_eatsSeatedAs_36 : decode cX2_eatsSeatedAs 36 = .ok (.iload_n 2, 1) := by decide +kernel
theorem dX2_eatsSeatedAs_37 : decode cX2_eatsSeatedAs 37 = .ok (.invokevirtual 45, 3) := by decide +kernel
theorem dX2_eatsSeatedAs_40 : decode cX2_eatsSeatedAs 40 = .ok (.aload_n 1, 1) := by decide +kernel
theorem dX2_eatsSeatedAs_41 : decode cX2_eatsSeatedAs 41 = .ok (.iconst 3, 1) := by decide +kernel
theorem dX2_eatsSeatedAs_42 : decode cX2_eatsSeatedAs 42 = .ok (.iload_n 2, 1) := by decide +kernel
theorem dX2_eatsSeatedAs_43 : decode cX2_eatsSeatedAs 43 = .ok (.invokevirtual 45, 3) := by decide +kernel
theorem dX2_eatsSeatedAs_46 : decode cX2_eatsSeatedAs 46 = .ok (.isub, 1) := by decide +kernel
theorem dX2_eatsSeatedAs_47 : decode cX2_eatsSeatedAs 47 = .ok (.ireturn, 1) := by decide +kernel
theorem dX2_bestToSitAs_0 : decode cX2_bestToSitAs 0 = .ok (.iconst 0, 1) := by decide +kernel
theorem dX2_bestToSitAs_1 : decode cX2_bestToSitAs 1 = .ok (.istore 4, 2) := by decide +kernel
theorem dX2_bestToSitAs_3 : decode cX2_bestToSitAs 3 = .ok (.iconst (-1), 1) := by decide +kernel
theorem dX2_bestToSitAs_4 : decode cX2_bestToSitAs 4 = .ok (.istore 5, 2) := by decide +kernel
theorem dX2_bestToSitAs_6 : decode cX2_bestToSitAs 6 = .ok (.iconst 0, 1) := by decide +kernel
theorem dX2_bestToSitAs_7 : decode cX2_bestToSitAs 7 = .ok (.istore 6, 2) := by decide +kernel
theorem dX2_bestToSitAs_9 : decode cX2_bestToSitAs 9 = .ok (.iload 6, 2) := by decide +kernel
theorem dX2_bestToSitAs_11 : decode cX2_bestToSitAs 11 = .ok (.aload_n 1, 1) := by decide +kernel
theorem dX2_bestToSitAs_12 : decode cX2_bestToSitAs 12 = .ok (.getfield 48, 3) := by decide +kernel
theorem dX2_bestToSitAs_15 : decode cX2_bestToSitAs 15 = .ok (.if_icmp .ge 35, 3) := by decide +kernel
theorem dX2_bestToSitAs_18 : decode cX2_bestToSitAs 18 = .ok (.aload_n 0, 1) := by decide +kernel
theorem dX2_bestToSitAs_19 : decode cX2_bestToSitAs 19 = .ok (.aload_n 1, 1) := by decide +kernel
theorem dX2_bestToSitAs_20 : decode cX2_bestToSitAs 20 = .ok (.iload_n 2, 1) := by decide +kernel
theorem dX2_bestToSitAs_21 : decode cX2_bestToSitAs 21 = .ok (.iload 6, 2) := by decide +kernel
theorem dX2_bestToSitAs_23 : decode cX2_bestToSitAs 23 = .ok (.iload_n 3, 1) := by decide +kernel
theorem dX2_bestToSitAs_24 : decode cX2_bestToSitAs 24 = .ok (.invokevirtual 51, 3) := by decide +kernel
theorem dX2_bestToSitAs_27 : decode cX2_bestToSitAs 27 = .ok (.istore 7, 2) := by decide +kernel
theorem dX2_bestToSitAs_29 : decode cX2_bestToSitAs 29 = .ok (.iload 7, 2) := by decide +kernel
theorem dX2_bestToSitAs_31 : decode cX2_bestToSitAs 31 = .ok (.iload 5, 2) := by decide +kernel
theorem dX2_bestToSitAs_33 : decode cX2_bestToSitAs 33 = .ok (.if_icmp .le 11, 3) := by decide +kernel
theorem dX2_bestToSitAs_36 : decode cX2_bestToSitAs 36 = .ok (.iload 7, 2) := by decide +kernel
theorem dX2_bestToSitAs_38 : decode cX2_bestToSitAs 38 = .ok (.istore 5, 2) := by decide +kernel
theorem dX2_bestToSitAs_40 : decode cX2_bestToSitAs 40 = .ok (.iload 6, 2) := by decide +kernel
theorem dX2_bestToSitAs_42 : decode cX2_bestToSitAs 42 = .ok (.istore 4, 2) := by decide +kernel
theorem dX2_bestToSitAs_44 : decode cX2_bestToSitAs 44 = .ok (.iinc 6 1, 3) := by decide +kernel
theorem dX2_bestToSitAs_47 : decode cX2_bestToSitAs 47 = .ok (.goto (-38), 3) := by decide +kernel
theorem dX2_bestToSitAs_50 : decode cX2_bestToSitAs 50 = .ok (.iload 4, 2) := by decide +kernel
theorem dX2_bestToSitAs_52 : decode cX2_bestToSitAs 52 = .ok (.ireturn, 1) := by decide +kernel
theorem dX2_minuteOfLastPortion_0 : decode cX2_minuteOfLastPortion 0 = .ok (.aload_n 0, 1) := by decide +kernel
theorem dX2_minuteOfLastPortion_1 : decode cX2_minuteOfLastPortion 1 = .ok (.getfield 12, 3) := by decide +kernel
theorem dX2_minuteOfLastPortion_4 : decode cX2_minuteOfLastPortion 4 = .ok (.aload_n 1, 1) := by decide +kernel
theorem dX2_minuteOfLastPortion_5 : decode cX2_minuteOfLastPortion 5 = .ok (.invokevirtual 25, 3) := by decide +kernel
theorem dX2_minuteOfLastPortion_8 : decode cX2_minuteOfLastPortion 8 = .ok (.iconst 1, 1) := by decide +kernel
theorem dX2_minuteOfLastPortion_9 : decode cX2_minuteOfLastPortion 9 = .ok (.istore_n 3, 1) := by decide +kernel
theorem dX2_minuteOfLastPortion_10 : decode cX2_minuteOfLastPortion 10 = .ok (.iload_n 3, 1) := by decide +kernel
theorem dX2_minuteOfLastPortion_11 : decode cX2_minuteOfLastPortion 11 = .ok (.sipush 200, 3) := by decide +kernel
theorem dX2_minuteOfLastPortion_14 : decode cX2_minuteOfLastPortion 14 = .ok (.if_icmp .gt 63, 3) := by decide +kernel
theorem dX2_minuteOfLastPortion_17 : decode cX2_minuteOfLastPortion 17 = .ok (.aload_n 0, 1) := by decide +kernel
theorem dX2_minuteOfLastPortion_18 : decode cX2_minuteOfLastPortion 18 = .ok (.getfield 12, 3) := by decide +kernel
theorem dX2_minuteOfLastPortion_21 : decode cX2_minuteOfLastPortion 21 = .ok (.invokevirtual 34, 3) := by decide +kernel
theorem dX2_minuteOfLastPortion_24 : decode cX2_minuteOfLastPortion 24 = .ok (.aload_n 0, 1) := by decide +kernel
theorem dX2_minuteOfLastPortion_25 : decode cX2_minuteOfLastPortion 25 = .ok (.getfield 12, 3) := by decide +kernel
theorem dX2_minuteOfLastPortion_28 : decode cX2_minuteOfLastPortion 28 = .ok (.getfield 55, 3) := by decide +kernel
theorem dX2_minuteOfLastPortion_31 : decode cX2_minuteOfLastPortion 31 = .ok (.ifCond .le 18, 3) := by decide +kernel
theorem dX2_minuteOfLastPortion_34 : decode cX2_minuteOfLastPortion 34 = .ok (.aload_n 0, 1) := by decide +kernel
theorem dX2_minuteOfLastPortion_35 : decode cX2_minuteOfLastPortion 35 = .ok (.getfield 12, 3) := by decide +kernel
theorem dX2_minuteOfLastPortion_38 : decode cX2_minuteOfLastPortion 38 = .ok (.getfield 58, 3) := by decide +kernel
theorem dX2_minuteOfLastPortion_41 : decode cX2_minuteOfLastPortion 41 = .ok (.iload_n 2, 1) := by decide +kernel
theorem dX2_minuteOfLastPortion_42 : decode cX2_minuteOfLastPortion 42 = .ok (.if_icmp .ne 7, 3) := by decide +kernel
theorem dX2_minuteOfLastPortion_45 : decode cX2_minuteOfLastPortion 45 = .ok (.iconst 1, 1) := by decide +kernel
theorem dX2_minuteOfLastPortion_46 : decode cX2_minuteOfLastPortion 46 = .ok (.goto 4, 3) := by decide +kernel
theorem dX2_minuteOfLastPortion_49 : decode cX2_minuteOfLastPortion 49 = .ok (.iconst 0, 1) := by decide +kernel
theorem dX2_minuteOfLastPortion_50 : decode cX2_minuteOfLastPortion 50 = .ok (.istore 4, 2) := by decide +kernel
theorem dX2_minuteOfLastPortion_52 : decode cX2_minuteOfLastPortion 52 = .ok (.iload 4, 2) := by decide +kernel
theorem dX2_minuteOfLastPortion_54 : decode cX2_minuteOfLastPortion 54 = .ok (.ifCond .eq 17, 3) := by decide +kernel
theorem dX2_minuteOfLastPortion_57 : decode cX2_minuteOfLastPortion 57 = .ok (.aload_n 0, 1) := by decide +kernel
theorem dX2_minuteOfLastPortion_58 : decode cX2_minuteOfLastPortion 58 = .ok (.getfield 12, 3) := by decide +kernel
theorem dX2_minuteOfLastPortion_61 : decode cX2_minuteOfLastPortion 61 = .ok (.iconst 4, 1) := by decide +kernel
theorem dX2_minuteOfLastPortion_62 : decode cX2_minuteOfLastPortion 62 = .ok (.iload_n 2, 1) := by decide +kernel
theorem dX2_minuteOfLastPortion_63 : decode cX2_minuteOfLastPortion 63 = .ok (.invokevirtual 45, 3) := by decide +kernel
theorem dX2_minuteOfLastPortion_66 : decode cX2_minuteOfLastPortion 66 = .ok (.ifCond .ne 5, 3) := by decide +kernel
theorem dX2_minuteOfLastPortion_69 : decode cX2_minuteOfLastPortion 69 = .ok (.iload_n 3, 1) := by decide +kernel
theorem dX2_minuteOfLastPortion_70 : decode cX2_minuteOfLastPortion 70 = .ok (.ireturn, 1) := by decide +kernel
theorem dX2_minuteOfLastPortion_71 : decode cX2_minuteOfLastPortion 71 = .ok (.iinc 3 1, 3) := by decide +kernel
theorem dX2_minuteOfLastPortion_74 : decode cX2_minuteOfLastPortion 74 = .ok (.goto (-64), 3) := by decide +kernel
theorem dX2_minuteOfLastPortion_77 : decode cX2_minuteOfLastPortion 77 = .ok (.ldc 61, 2) := by decide +kernel
theorem dX2_minuteOfLastPortion_79 : decode cX2_minuteOfLastPortion 79 = .ok (.ireturn, 1) := by decide +kernel
theorem dX2_minutesToRest_0 : decode cX2_minutesToRest 0 = .ok (.aload_n 0, 1) := by decide +kernel
theorem dX2_minutesToRest_1 : decode cX2_minutesToRest 1 = .ok (.getfield 12, 3) := by decide +kernel
theorem dX2_minutesToRest_4 : decode cX2_minutesToRest 4 = .ok (.aload_n 1, 1) := by decide +kernel
theorem dX2_minutesToRest_5 : decode cX2_minutesToRest 5 = .ok (.invokevirtual 25, 3) := by decide +kernel
theorem dX2_minutesToRest_8 : decode cX2_minutesToRest 8 = .ok (.iconst 0, 1) := by decide +kernel
theorem dX2_minutesToRest_9 : decode cX2_minutesToRest 9 = .ok (.istore_n 2, 1) := by decide +kernel
theorem dX2_minutesToRest_10 : decode cX2_minutesToRest 10 = .ok (.iconst 1, 1) := by decide +kernel
theorem dX2_minutesToRest_11 : decode cX2_minutesToRest 11 = .ok (.istore_n 3, 1) := by decide +kernel
theorem dX2_minutesToRest_12 : decode cX2_minutesToRest 12 = .ok (.iload_n 3, 1) := by decide +kernel
theorem dX2_minutesToRest_13 : decode cX2_minutesToRest 13 = .ok (.sipush 200, 3) := by decide +kernel
theorem dX2_minutesToRest_16 : decode cX2_minutesToRest 16 = .ok (.aload_n 1, 1) := by decide +kernel
theorem dX2_minutesToRest_17 : decode cX2_minutesToRest 17 = .ok (.getfield 48, 3) := by decide +kernel
theorem dX2_minutesToRest_20 : decode cX2_minutesToRest 20 = .ok (.iadd, 1) := by decide +kernel
theorem dX2_minutesToRest_21 : decode cX2_minutesToRest 21 = .ok (.if_icmp .gt 56, 3) := by decide +kernel
theorem dX2_minutesToRest_24 : decode cX2_minutesToRest 24 = .ok (.aload_n 0, 1) := by decide +kernel
theorem dX2_minutesToRest_25 : decode cX2_minutesToRest 25 = .ok (.getfield 12, 3) := by decide +kernel
theorem dX2_minutesToRest_28 : decode cX2_minutesToRest 28 = .ok (.invokevirtual 34, 3) := by decide +kernel
theorem dX2_minutesToRest_31 : decode cX2_minutesToRest 31 = .ok (.aload_n 0, 1) := by decide +kernel
theorem dX2_minutesToRest_32 : decode cX2_minutesToRest 32 = .ok (.getfield 12, 3) := by decide +kernel
theorem dX2_minutesToRest_35 : decode cX2_minutesToRest 35 = .ok (.getfield 37, 3) := by decide +kernel
theorem dX2_minutesToRest_38 : decode cX2_minutesToRest 38 = .ok (.ifCond .ne 19, 3) := by decide +kernel
theorem dX2_minutesToRest_41 : decode cX2_minutesToRest 41 = .ok (.aload_n 0, 1) := by decide +kernel
theorem dX2_minutesToRest_42 : decode cX2_minutesToRest 42 = .ok (.getfield 12, 3) := by decide +kernel
theorem dX2_minutesToRest_45 : decode cX2_minutesToRest 45 = .ok (.getfield 55, 3) := by decide +kernel
theorem dX2_minutesToRest_48 : decode cX2_minutesToRest 48 = .ok (.ifCond .ne 9, 3) := by decide +kernel
theorem dX2_minutesToRest_51 : decode cX2_minutesToRest 51 = .ok (.iload_n 2, 1) := by decide +kernel
theorem dX2_minutesToRest_52 : decode cX2_minutesToRest 52 = .ok (.iconst 1, 1) := by decide +kernel
theorem dX2_minutesToRest_53 : decode cX2_minutesToRest 53 = .ok (.iadd, 1) := by decide +kernel
theorem dX2_minutesToRest_54 : decode cX2_minutesToRest 54 = .ok (.goto 4, 3) := by decide +kernel
theorem dX2_minutesToRest_57 : decode cX2_minutesToRest 57 = .ok (.iconst 0, 1) := by decide +kernel
theorem dX2_minutesToRest_58 : decode cX2_minutesToRest 58 = .ok (.istore_n 2, 1) := by decide +kernel
theorem dX2_minutesToRest_59 : decode cX2_minutesToRest 59 = .ok (.iload_n 2, 1) := by decide +kernel
theorem dX2_minutesToRest_60 : decode cX2_minutesToRest 60 = .ok (.aload_n 1, 1) := by decide +kernel
theorem dX2_minutesToRest_61 : decode cX2_minutesToRest 61 = .ok (.getfield 48, 3) := by decide +kernel
theorem dX2_minutesToRest_64 : decode cX2_minutesToRest 64 = .ok (.if_icmp .ne 7, 3) := by decide +kernel
theorem dX2_minutesToRest_67 : decode cX2_minutesToRest 67 = .ok (.iload_n 3, 1) := by decide +kernel
theorem dX2_minutesToRest_68 : decode cX2_minutesToRest 68 = .ok (.iload_n 2, 1) := by decide +kernel
theorem dX2_minutesToRest_69 : decode cX2_minutesToRest 69 = .ok (.isub, 1) := by decide +kernel
theorem dX2_minutesToRest_70 : decode cX2_minutesToRest 70 = .ok (.ireturn, 1) := by decide +kernel
theorem dX2_minutesToRest_71 : decode cX2_minutesToRest 71 = .ok (.iinc 3 1, 3) := by decide +kernel
theorem dX2_minutesToRest_74 : decode cX2_minutesToRest 74 = .ok (.goto (-62), 3) := by decide +kernel
theorem dX2_minutesToRest_77 : decode cX2_minutesToRest 77 = .ok (.ldc 61, 2) := by decide +kernel
theorem dX2_minutesToRest_79 : decode cX2_minutesToRest 79 = .ok (.ireturn, 1) := by decide +kernel
theorem dX2_turnsToServe_0 : decode cX2_turnsToServe 0 = .ok (.iconst 2, 1) := by decide +kernel
theorem dX2_turnsToServe_1 : decode cX2_turnsToServe 1 = .ok (.aload_n 1, 1) := by decide +kernel
theorem dX2_turnsToServe_2 : decode cX2_turnsToServe 2 = .ok (.getfield 48, 3) := by decide +kernel
theorem dX2_turnsToServe_5 : decode cX2_turnsToServe 5 = .ok (.imul, 1) := by decide +kernel
theorem dX2_turnsToServe_6 : decode cX2_turnsToServe 6 = .ok (.istore_n 2, 1) := by decide +kernel
theorem dX2_turnsToServe_7 : decode cX2_turnsToServe 7 = .ok (.iconst 0, 1) := by decide +kernel
theorem dX2_turnsToServe_8 : decode cX2_turnsToServe 8 = .ok (.istore_n 3, 1) := by decide +kernel
theorem dX2_turnsToServe_9 : decode cX2_turnsToServe 9 = .ok (.iload_n 3, 1) := by decide +kernel
theorem dX2_turnsToServe_10 : decode cX2_turnsToServe 10 = .ok (.aload_n 1, 1) := by decide +kernel
theorem dX2_turnsToServe_11 : decode cX2_turnsToServe 11 = .ok (.getfield 48, 3) := by decide +kernel
theorem dX2_turnsToServe_14 : decode cX2_turnsToServe 14 = .ok (.if_icmp .ge 32, 3) := by decide +kernel
theorem dX2_turnsToServe_17 : decode cX2_turnsToServe 17 = .ok (.aload_n 1, 1) := by decide +kernel
theorem dX2_turnsToServe_18 : decode cX2_turnsToServe 18 = .ok (.iload_n 3, 1) := by decide +kernel
theorem dX2_turnsToServe_19 : decode cX2_turnsToServe 19 = .ok (.invokestatic 62, 3) := by decide +kernel
theorem dX2_turnsToServe_22 : decode cX2_turnsToServe 22 = .ok (.istore 4, 2) := by decide +kernel
theorem dX2_turnsToServe_24 : decode cX2_turnsToServe 24 = .ok (.iload_n 2, 1) := by decide +kernel
theorem dX2_turnsToServe_25 : decode cX2_turnsToServe 25 = .ok (.iload_n 3, 1) := by decide +kernel
theorem dX2_turnsToServe_26 : decode cX2_turnsToServe 26 = .ok (.iload 4, 2) := by decide +kernel
theorem dX2_turnsToServe_28 : decode cX2_turnsToServe 28 = .ok (.iadd, 1) := by decide +kernel
theorem dX2_turnsToServe_29 : decode cX2_turnsToServe 29 = .ok (.iload_n 3, 1) := by decide +kernel
theorem dX2_turnsToServe_30 : decode cX2_turnsToServe 30 = .ok (.iload 4, 2) := by decide +kernel
theorem dX2_turnsToServe_32 : decode cX2_turnsToServe 32 = .ok (.invokestatic 66, 3) := by decide +kernel
theorem dX2_turnsToServe_35 : decode cX2_turnsToServe 35 = .ok (.iadd, 1) := by decide +kernel
theorem dX2_turnsToServe_36 : decode cX2_turnsToServe 36 = .ok (.invokestatic 66, 3) := by decide +kernel
theorem dX2_turnsToServe_39 : decode cX2_turnsToServe 39 = .ok (.istore_n 2, 1) := by decide +kernel
theorem dX2_turnsToServe_40 : decode cX2_turnsToServe 40 = .ok (.iinc 3 1, 3) := by decide +kernel
theorem dX2_turnsToServe_43 : decode cX2_turnsToServe 43 = .ok (.goto (-34), 3) := by decide +kernel
theorem dX2_turnsToServe_46 : decode cX2_turnsToServe 46 = .ok (.iload_n 2, 1) := by decide +kernel
theorem dX2_turnsToServe_47 : decode cX2_turnsToServe 47 = .ok (.ireturn, 1) := by decide +kernel
theorem dX2_toTheRightForOthers_0 : decode cX2_toTheRightForOthers 0 = .ok (.iconst 0, 1) := by decide +kernel
theorem dX2_toTheRightForOthers_1 : decode cX2_toTheRightForOthers 1 = .ok (.istore_n 2, 1) := by decide +kernel
theorem dX2_toTheRightForOthers_2 : decode cX2_toTheRightForOthers 2 = .ok (.iconst 0, 1) := by decide +kernel
theorem dX2_toTheRightForOthers_3 : decode cX2_toTheRightForOthers 3 = .ok (.istore_n 3, 1) := by decide +kernel
theorem dX2_toTheRightForOthers_4 : decode cX2_toTheRightForOthers 4 = .ok (.iload_n 3, 1) := by decide +kernel
theorem dX2_toTheRightForOthers_5 : decode cX2_toTheRightForOthers 5 = .ok (.aload_n 0, 1) := by decide +kernel
theorem dX2_toTheRightForOthers_6 : decode cX2_toTheRightForOthers 6 = .ok (.getfield 48, 3) := by decide +kernel
theorem dX2_toTheRightForOthers_9 : decode cX2_toTheRightForOthers 9 = .ok (.if_icmp .ge 53, 3) := by decide +kernel
theorem dX2_toTheRightForOthers_12 : decode cX2_toTheRightForOthers 12 = .ok (.aload_n 0, 1) := by decide +kernel
theorem dX2_toTheRightForOthers_13 : decode cX2_toTheRightForOthers 13 = .ok (.iconst 1, 1) := by decide +kernel
theorem dX2_toTheRightForOthers_14 : decode cX2_toTheRightForOthers 14 = .ok (.iload_n 3, 1) := by decide +kernel
theorem dX2_toTheRightForOthers_15 : decode cX2_toTheRightForOthers 15 = .ok (.invokevirtual 45, 3) := by decide +kernel
theorem dX2_toTheRightForOthers_18 : decode cX2_toTheRightForOthers 18 = .ok (.istore 4, 2) := by decide +kernel
theorem dX2_toTheRightForOthers_20 : decode cX2_toTheRightForOthers 20 = .ok (.aload_n 0, 1) := by decide +kernel
theorem dX2_toTheRightForOthers_21 : decode cX2_toTheRightForOthers 21 = .ok (.iload_n 3, 1) := by decide +kernel
theorem dX2_toTheRightForOthers_22 : decode cX2_toTheRightForOthers 22 = .ok (.iload 4, 2) := by decide +kernel
theorem dX2_toTheRightForOthers_24 : decode cX2_toTheRightForOthers 24 = .ok (.invokevirtual 71, 3) := by decide +kernel
theorem dX2_toTheRightForOthers_27 : decode cX2_toTheRightForOthers 27 = .ok (.istore 5, 2) := by decide +kernel
theorem dX2_toTheRightForOthers_29 : decode cX2_toTheRightForOthers 29 = .ok (.aload_n 0, 1) := by decide +kernel
theorem dX2_toTheRightForOthers_30 : decode cX2_toTheRightForOthers 30 = .ok (.iload 4, 2) := by decide +kernel
theorem dX2_toTheRightForOthers_32 : decode cX2_toTheRightForOthers 32 = .ok (.invokevirtual 74, 3) := by decide +kernel
theorem dX2_toTheRightForOthers_35 : decode cX2_toTheRightForOthers 35 = .ok (.ifCond .eq 21, 3) := by decide +kernel
theorem dX2_toTheRightForOthers_38 : decode cX2_toTheRightForOthers 38 = .ok (.iload 5, 2) := by decide +kernel
theorem dX2_toTheRightForOthers_40 : decode cX2_toTheRightForOthers 40 = .ok (.iload_n 1, 1) := by decide +kernel
theorem dX2_toTheRightForOthers_41 : decode cX2_toTheRightForOthers 41 = .ok (.if_icmp .le 15, 3) := by decide +kernel
theorem dX2_toTheRightForOthers_44 : decode cX2_toTheRightForOthers 44 = .ok (.iload_n 2, 1) := by decide +kernel
theorem dX2_toTheRightForOthers_45 : decode cX2_toTheRightForOthers 45 = .ok (.aload_n 0, 1) := by decide +kernel
theorem dX2_toTheRightForOthers_46 : decode cX2_toTheRightForOthers 46 = .ok (.getfield 48, 3) := by decide +kernel
theorem dX2_toTheRightForOthers_49 : decode cX2_toTheRightForOthers 49 = .ok (.iload 5, 2) := by decide +kernel
theorem dX2_toTheRightForOthers_51 : decode cX2_toTheRightForOthers 51 = .ok (.isub, 1) := by decide +kernel
theorem dX2_toTheRightForOthers_52 : decode cX2_toTheRightForOthers 52 = .ok (.invokestatic 78, 3) := by decide +kernel
theorem dX2_toTheRightForOthers_55 : decode cX2_toTheRightForOthers 55 = .ok (.istore_n 2, 1) := by decide +kernel
theorem dX2_toTheRightForOthers_56 : decode cX2_toTheRightForOthers 56 = .ok (.iinc 3 1, 3) := by decide +kernel
theorem dX2_toTheRightForOthers_59 : decode cX2_toTheRightForOthers 59 = .ok (.goto (-55), 3) := by decide +kernel
theorem dX2_toTheRightForOthers_62 : decode cX2_toTheRightForOthers 62 = .ok (.iload_n 2, 1) := by decide +kernel
theorem dX2_toTheRightForOthers_63 : decode cX2_toTheRightForOthers 63 = .ok (.ireturn, 1) := by decide +kernel
theorem dX2_findBestSlots_0 : decode cX2_findBestSlots 0 = .ok (.ldc 29, 2) := by decide +kernel
theorem dX2_findBestSlots_2 : decode cX2_findBestSlots 2 = .ok (.istore_n 3, 1) := by decide +kernel
theorem dX2_findBestSlots_3 : decode cX2_findBestSlots 3 = .ok (.iconst 0, 1) := by decide +kernel
theorem dX2_findBestSlots_4 : decode cX2_findBestSlots 4 = .ok (.istore 4, 2) := by decide +kernel
theorem dX2_findBestSlots_6 : decode cX2_findBestSlots 6 = .ok (.iload 4, 2) := by decide +kernel
theorem dX2_findBestSlots_8 : decode cX2_findBestSlots 8 = .ok (.aload_n 0, 1) := by decide +kernel
theorem dX2_findBestSlots_9 : decode cX2_findBestSlots 9 = .ok (.getfield 18, 3) := by decide +kernel
theorem dX2_findBestSlots_12 : decode cX2_findBestSlots 12 = .ok (.arraylength, 1) := by decide +kernel
theorem dX2_findBestSlots_13 : decode cX2_findBestSlots 13 = .ok (.if_icmp .ge 18, 3) := by decide +kernel
theorem dX2_findBestSlots_16 : decode cX2_findBestSlots 16 = .ok (.aload_n 0, 1) := by decide +kernel
theorem dX2_findBestSlots_17 : decode cX2_findBestSlots 17 = .ok (.getfield 18, 3) := by decide +kernel
theorem dX2_findBestSlots_20 : decode cX2_findBestSlots 20 = .ok (.iload 4, 2) := by decide +kernel
theorem dX2_findBestSlots_22 : decode cX2_findBestSlots 22 = .ok (.iload 4, 2) := by decide +kernel
theorem dX2_findBestSlots_24 : decode cX2_findBestSlots 24 = .ok (.iastore, 1) := by decide +kernel
theorem dX2_findBestSlots_25 : decode cX2_findBestSlots 25 = .ok (.iinc 4 1, 3) := by decide +kernel
theorem dX2_findBestSlots_28 : decode cX2_findBestSlots 28 = .ok (.goto (-22), 3) := by decide +kernel
theorem dX2_findBestSlots_31 : decode cX2_findBestSlots 31 = .ok (.iconst 1, 1) := by decide +kernel
theorem dX2_findBestSlots_32 : decode cX2_findBestSlots 32 = .ok (.istore 4, 2) := by decide +kernel
theorem dX2_findBestSlots_34 : decode cX2_findBestSlots 34 = .ok (.iconst 0, 1) := by decide +kernel
theorem dX2_findBestSlots_35 : decode cX2_findBestSlots 35 = .ok (.istore 5, 2) := by decide +kernel
theorem dX2_findBestSlots_37 : decode cX2_findBestSlots 37 = .ok (.iload 4, 2) := by decide +kernel
theorem dX2_findBestSlots_39 : decode cX2_findBestSlots 39 = .ok (.ifCond .eq 77, 3) := by decide +kernel
theorem dX2_findBestSlots_42 : decode cX2_findBestSlots 42 = .ok (.iload 5, 2) := by decide +kernel
theorem dX2_findBestSlots_44 : decode cX2_findBestSlots 44 = .ok (.ldc 29, 2) := by decide +kernel
theorem dX2_findBestSlots_46 : decode cX2_findBestSlots 46 = .ok (.if_icmp .ge 70, 3) := by decide +kernel
theorem dX2_findBestSlots_49 : decode cX2_findBestSlots 49 = .ok (.iload_n 3, 1) := by decide +kernel
theorem dX2_findBestSlots_50 : decode cX2_findBestSlots 50 = .ok (.ifCond .le 66, 3) := by decide +kernel
theorem dX2_findBestSlots_53 : decode cX2_findBestSlots 53 = .ok (.aload_n 0, 1) := by decide +kernel
theorem dX2_findBestSlots_54 : decode cX2_findBestSlots 54 = .ok (.getfield 12, 3) := by decide +kernel
theorem dX2_findBestSlots_57 : decode cX2_findBestSlots 57 = .ok (.aload_n 1, 1) := by decide +kernel
theorem dX2_findBestSlots_58 : decode cX2_findBestSlots 58 = .ok (.invokevirtual 25, 3) := by decide +kernel
theorem dX2_findBestSlots_61 : decode cX2_findBestSlots 61 = .ok (.aload_n 0, 1) := by decide +kernel
theorem dX2_findBestSlots_62 : decode cX2_findBestSlots 62 = .ok (.invokevirtual 81, 3) := by decide +kernel
theorem dX2_findBestSlots_65 : decode cX2_findBestSlots 65 = .ok (.aload_n 0, 1) := by decide +kernel
theorem dX2_findBestSlots_66 : decode cX2_findBestSlots 66 = .ok (.iload_n 2, 1) := by decide +kernel
theorem dX2_findBestSlots_67 : decode cX2_findBestSlots 67 = .ok (.iload_n 3, 1) := by decide +kernel
theorem dX2_findBestSlots_68 : decode cX2_findBestSlots 68 = .ok (.invokevirtual 30, 3) := by decide +kernel
theorem dX2_findBestSlots_71 : decode cX2_findBestSlots 71 = .ok (.istore 6, 2) := by decide +kernel
theorem dX2_findBestSlots_73 : decode cX2_findBestSlots 73 = .ok (.iload 6, 2) := by decide +kernel
theorem dX2_findBestSlots_75 : decode cX2_findBestSlots 75 = .ok (.iload_n 3, 1) := by decide +kernel
theorem dX2_findBestSlots_76 : decode cX2_findBestSlots 76 = .ok (.if_icmp .ge 24, 3) := by decide +kernel
theorem dX2_findBestSlots_79 : decode cX2_findBestSlots 79 = .ok (.iload 6, 2) := by decide +kernel
theorem dX2_findBestSlots_81 : decode cX2_findBestSlots 81 = .ok (.istore_n 3, 1) := by decide +kernel
theorem dX2_findBestSlots_82 : decode cX2_findBestSlots 82 = .ok (.aload_n 0, 1) := by decide +kernel
theorem dX2_findBestSlots_83 : decode cX2_findBestSlots 83 = .ok (.getfield 18, 3) := by decide +kernel
theorem dX2_findBestSlots_86 : decode cX2_findBestSlots 86 = .ok (.iconst 0, 1) := by decide +kernel
theorem dX2_findBestSlots_87 : decode cX2_findBestSlots 87 = .ok (.aload_n 0, 1) := by decide +kernel
theorem dX2_findBestSlots_88 : decode cX2_findBestSlots 88 = .ok (.getfield 22, 3) := by decide +kernel
theorem dX2_findBestSlots_91 : decode cX2_findBestSlots 91 = .ok (.iconst 0, 1) := by decide +kernel
theorem dX2_findBestSlots_92 : decode cX2_findBestSlots 92 = .ok (.aload_n 0, 1) := by decide +kernel
theorem dX2_findBestSlots_93 : decode cX2_findBestSlots 93 = .ok (.getfield 18, 3) := by decide +kernel
theorem dX2_findBestSlots_96 : decode cX2_findBestSlots 96 = .ok (.arraylength, 1) := by decide +kernel
theorem dX2_findBestSlots_97 : decode cX2_findBestSlots 97 = .ok (.invokestatic 84, 3) := by decide +kernel
theorem dX2_findBestSlots_100 : decode cX2_findBestSlots 100 = .ok (.aload_n 0, 1) := by decide +kernel
theorem dX2_findBestSlots_101 : decode cX2_findBestSlots 101 = .ok (.aload_n 1, 1) := by decide +kernel
theorem dX2_findBestSlots_102 : decode cX2_findBestSlots 102 = .ok (.getfield 48, 3) := by decide +kernel
theorem dX2_findBestSlots_105 : decode cX2_findBestSlots 105 = .ok (.invokevirtual 90, 3) := by decide +kernel
theorem dX2_findBestSlots_108 : decode cX2_findBestSlots 108 = .ok (.istore 4, 2) := by decide +kernel
theorem dX2_findBestSlots_110 : decode cX2_findBestSlots 110 = .ok (.iinc 5 1, 3) := by decide +kernel
theorem dX2_findBestSlots_113 : decode cX2_findBestSlots 113 = .ok (.goto (-76), 3) := by decide +kernel
theorem dX2_findBestSlots_116 : decode cX2_findBestSlots 116 = .ok (.iload_n 3, 1) := by decide +kernel
theorem dX2_findBestSlots_117 : decode cX2_findBestSlots 117 = .ok (.ireturn, 1) := by decide +kernel
theorem dX2_bestSlot_0 : decode cX2_bestSlot 0 = .ok (.iload_n 1, 1) := by decide +kernel
theorem dX2_bestSlot_1 : decode cX2_bestSlot 1 = .ok (.ifCond .lt 21, 3) := by decide +kernel
theorem dX2_bestSlot_4 : decode cX2_bestSlot 4 = .ok (.iload_n 1, 1) := by decide +kernel
theorem dX2_bestSlot_5 : decode cX2_bestSlot 5 = .ok (.aload_n 0, 1) := by decide +kernel
theorem dX2_bestSlot_6 : decode cX2_bestSlot 6 = .ok (.getfield 22, 3) := by decide +kernel
theorem dX2_bestSlot_9 : decode cX2_bestSlot 9 = .ok (.arraylength, 1) := by decide +kernel
theorem dX2_bestSlot_10 : decode cX2_bestSlot 10 = .ok (.if_icmp .ge 12, 3) := by decide +kernel
theorem dX2_bestSlot_13 : decode cX2_bestSlot 13 = .ok (.aload_n 0, 1) := by decide +kernel
theorem dX2_bestSlot_14 : decode cX2_bestSlot 14 = .ok (.getfield 22, 3) := by decide +kernel
theorem dX2_bestSlot_17 : decode cX2_bestSlot 17 = .ok (.iload_n 1, 1) := by decide +kernel
theorem dX2_bestSlot_18 : decode cX2_bestSlot 18 = .ok (.iaload, 1) := by decide +kernel
theorem dX2_bestSlot_19 : decode cX2_bestSlot 19 = .ok (.goto 4, 3) := by decide +kernel
theorem dX2_bestSlot_22 : decode cX2_bestSlot 22 = .ok (.iconst 0, 1) := by decide +kernel
theorem dX2_bestSlot_23 : decode cX2_bestSlot 23 = .ok (.ireturn, 1) := by decide +kernel
theorem dX2_layAsTried_0 : decode cX2_layAsTried 0 = .ok (.iconst 0, 1) := by decide +kernel
theorem dX2_layAsTried_1 : decode cX2_layAsTried 1 = .ok (.istore_n 1, 1) := by decide +kernel
theorem dX2_layAsTried_2 : decode cX2_layAsTried 2 = .ok (.iload_n 1, 1) := by decide +kernel
theorem dX2_layAsTried_3 : decode cX2_layAsTried 3 = .ok (.aload_n 0, 1) := by decide +kernel
theorem dX2_layAsTried_4 : decode cX2_layAsTried 4 = .ok (.getfield 12, 3) := by decide +kernel
theorem dX2_layAsTried_7 : decode cX2_layAsTried 7 = .ok (.getfield 48, 3) := by decide +kernel
theorem dX2_layAsTried_10 : decode cX2_layAsTried 10 = .ok (.if_icmp .ge 32, 3) := by decide +kernel
theorem dX2_layAsTried_13 : decode cX2_layAsTried 13 = .ok (.iload_n 1, 1) := by decide +kernel
theorem dX2_layAsTried_14 : decode cX2_layAsTried 14 = .ok (.aload_n 0, 1) := by decide +kernel
theorem dX2_layAsTried_15 : decode cX2_layAsTried 15 = .ok (.getfield 18, 3) := by decide +kernel
theorem dX2_layAsTried_18 : decode cX2_layAsTried 18 = .ok (.arraylength, 1) := by decide +kernel
theorem dX2_layAsTried_19 : decode cX2_layAsTried 19 = .ok (.if_icmp .ge 23, 3) := by decide +kernel
theorem dX2_layAsTried_22 : decode cX2_layAsTried 22 = .ok (.aload_n 0, 1) := by decide +kernel
theorem dX2_layAsTried_23 : decode cX2_layAsTried 23 = .ok (.getfield 12, 3) := by decide +kernel
theorem dX2_layAsTried_26 : decode cX2_layAsTried 26 = .ok (.iload_n 1, 1) := by decide +kernel
theorem dX2_layAsTried_27 : decode cX2_layAsTried 27 = .ok (.aload_n 0, 1) := by decide +kernel
theorem dX2_layAsTried_28 : decode cX2_layAsTried 28 = .ok (.getfield 18, 3) := by decide +kernel
theorem dX2_layAsTried_31 : decode cX2_layAsTried 31 = .ok (.iload_n 1, 1) := by decide +kernel
theorem dX2_layAsTried_32 : decode cX2_layAsTried 32 = .ok (.iaload, 1) := by decide +kernel
theorem dX2_layAsTried_33 : decode cX2_layAsTried 33 = .ok (.invokevirtual 93, 3) := by decide +kernel
theorem dX2_layAsTried_36 : decode cX2_layAsTried 36 = .ok (.iinc 1 1, 3) := by decide +kernel
theorem dX2_layAsTried_39 : decode cX2_layAsTried 39 = .ok (.goto (-37), 3) := by decide +kernel
theorem dX2_layAsTried_42 : decode cX2_layAsTried 42 = .ok (.return_, 1) := by decide +kernel
theorem dX2_toNextOrder_0 : decode cX2_toNextOrder 0 = .ok (.iload_n 1, 1) := by decide +kernel
theorem dX2_toNextOrder_1 : decode cX2_toNextOrder 1 = .ok (.aload_n 0, 1) := by decide +kernel
theorem dX2_toNextOrder_2 : decode cX2_toNextOrder 2 = .ok (.getfield 18, 3) := by decide +kernel
theorem dX2_toNextOrder_5 : decode cX2_toNextOrder 5 = .ok (.arraylength, 1) := by decide +kernel
theorem dX2_toNextOrder_6 : decode cX2_toNextOrder 6 = .ok (.invokestatic 66, 3) := by decide +kernel
theorem dX2_toNextOrder_9 : decode cX2_toNextOrder 9 = .ok (.iconst 2, 1) := by decide +kernel
theorem dX2_toNextOrder_10 : decode cX2_toNextOrder 10 = .ok (.isub, 1) := by decide +kernel
theorem dX2_toNextOrder_11 : decode cX2_toNextOrder 11 = .ok (.istore_n 2, 1) := by decide +kernel
theorem dX2_toNextOrder_12 : decode cX2_toNextOrder 12 = .ok (.iload_n 2, 1) := by decide +kernel
theorem dX2_toNextOrder_13 : decode cX2_toNextOrder 13 = .ok (.ifCond .lt 26, 3) := by decide +kernel
theorem dX2_toNextOrder_16 : decode cX2_toNextOrder 16 = .ok (.aload_n 0, 1) := by decide +kernel
theorem dX2_toNextOrder_17 : decode cX2_toNextOrder 17 = .ok (.getfield 18, 3) := by decide +kernel
theorem dX2_toNextOrder_20 : decode cX2_toNextOrder 20 = .ok (.iload_n 2, 1) := by decide +kernel
theorem dX2_toNextOrder_21 : decode cX2_toNextOrder 21 = .ok (.iaload, 1) := by decide +kernel
theorem dX2_toNextOrder_22 : decode cX2_toNextOrder 22 = .ok (.aload_n 0, 1) := by decide +kernel
theorem dX2_toNextOrder_23 : decode cX2_toNextOrder 23 = .ok (.getfield 18, 3) := by decide +kernel
theorem dX2_toNextOrder_26 : decode cX2_toNextOrder 26 = .ok (.iload_n 2, 1) := by decide +kernel
theorem dX2_toNextOrder_27 : decode cX2_toNextOrder 27 = .ok (.iconst 1, 1) := by decide +kernel
theorem dX2_toNextOrder_28 : decode cX2_toNextOrder 28 = .ok (.iadd, 1) := by decide +kernel
theorem dX2_toNextOrder_29 : decode cX2_toNextOrder 29 = .ok (.iaload, 1) := by decide +kernel
theorem dX2_toNextOrder_30 : decode cX2_toNextOrder 30 = .ok (.if_icmp .le 9, 3) := by decide +kernel
theorem dX2_toNextOrder_33 : decode cX2_toNextOrder 33 = .ok (.iinc 2 (-1), 3) := by decide +kernel
theorem dX2_toNextOrder_36 : decode cX2_toNextOrder 36 = .ok (.goto (-24), 3) := by decide +kernel
theorem dX2_toNextOrder_39 : decode cX2_toNextOrder 39 = .ok (.iload_n 2, 1) := by decide +kernel
theorem dX2_toNextOrder_40 : decode cX2_toNextOrder 40 = .ok (.ifCond .ge 5, 3) := by decide +kernel
theorem dX2_toNextOrder_43 : decode cX2_toNextOrder 43 = .ok (.iconst 0, 1) := by decide +kernel
theorem dX2_toNextOrder_44 : decode cX2_toNextOrder 44 = .ok (.ireturn, 1) := by decide +kernel
theorem dX2_toNextOrder_45 : decode cX2_toNextOrder 45 = .ok (.iload_n 1, 1) := by decide +kernel
theorem dX2_toNextOrder_46 : decode cX2_toNextOrder 46 = .ok (.aload_n 0, 1) := by decide +kernel
theorem dX2_toNextOrder_47 : decode cX2_toNextOrder 47 = .ok (.getfield 18, 3) := by decide +kernel
theorem dX2_toNextOrder_50 : decode cX2_toNextOrder 50 = .ok (.arraylength, 1) := by decide +kernel
theorem dX2_toNextOrder_51 : decode cX2_toNextOrder 51 = .ok (.invokestatic 66, 3) := by decide +kernel
theorem dX2_toNextOrder_54 : decode cX2_toNextOrder 54 = .ok (.iconst 1, 1) := by decide +kernel
theorem dX2_toNextOrder_55 : decode cX2_toNextOrder 55 = .ok (.isub, 1) := by decide +kernel
theorem dX2_toNextOrder_56 : decode cX2_toNextOrder 56 = .ok (.istore_n 3, 1) := by decide +kernel
theorem dX2_toNextOrder_57 : decode cX2_toNextOrder 57 = .ok (.iload_n 3, 1) := by decide +kernel
theorem dX2_toNextOrder_58 : decode cX2_toNextOrder 58 = .ok (.iload_n 2, 1) := by decide +kernel
theorem dX2_toNextOrder_59 : decode cX2_toNextOrder 59 = .ok (.iconst 1, 1) := by decide +kernel
theorem dX2_toNextOrder_60 : decode cX2_toNextOrder 60 = .ok (.iadd, 1) := by decide +kernel
theorem dX2_toNextOrder_61 : decode cX2_toNextOrder 61 = .ok (.if_icmp .le 24, 3) := by decide +kernel
theorem dX2_toNextOrder_64 : decode cX2_toNextOrder 64 = .ok (.aload_n 0, 1) := by decide +kernel
theorem dX2_toNextOrder_65 : decode cX2_toNextOrder 65 = .ok (.getfield 18, 3) := by decide +kernel
theorem dX2_toNextOrder_68 : decode cX2_toNextOrder 68 = .ok (.iload_n 3, 1) := by decide +kernel
theorem dX2_toNextOrder_69 : decode cX2_toNextOrder 69 = .ok (.iaload, 1) := by decide +kernel
theorem dX2_toNextOrder_70 : decode cX2_toNextOrder 70 = .ok (.aload_n 0, 1) := by decide +kernel
theorem dX2_toNextOrder_71 : decode cX2_toNextOrder 71 = .ok (.getfield 18, 3) := by decide +kernel
theorem dX2_toNextOrder_74 : decode cX2_toNextOrder 74 = .ok (.iload_n 2, 1) := by decide +kernel
theorem dX2_toNextOrder_75 : decode cX2_toNextOrder 75 = .ok (.iaload, 1) := by decide +kernel
theorem dX2_toNextOrder_76 : decode cX2_toNextOrder 76 = .ok (.if_icmp .ge 9, 3) := by decide +kernel
theorem dX2_toNextOrder_79 : decode cX2_toNextOrder 79 = .ok (.iinc 3 (-1), 3) := by decide +kernel
theorem dX2_toNextOrder_82 : decode cX2_toNextOrder 82 = .ok (.goto (-25), 3) := by decide +kernel
theorem dX2_toNextOrder_85 : decode cX2_toNextOrder 85 = .ok (.aload_n 0, 1) := by decide +kernel
theorem dX2_toNextOrder_86 : decode cX2_toNextOrder 86 = .ok (.iload_n 2, 1) := by decide +kernel
theorem dX2_toNextOrder_87 : decode cX2_toNextOrder 87 = .ok (.iload_n 3, 1) := by decide +kernel
theorem dX2_toNextOrder_88 : decode cX2_toNextOrder 88 = .ok (.invokevirtual 96, 3) := by decide +kernel
theorem dX2_toNextOrder_91 : decode cX2_toNextOrder 91 = .ok (.iload_n 1, 1) := by decide +kernel
theorem dX2_toNextOrder_92 : decode cX2_toNextOrder 92 = .ok (.aload_n 0, 1) := by decide +kernel
theorem dX2_toNextOrder_93 : decode cX2_toNextOrder 93 = .ok (.getfield 18, 3) := by decide +kernel
theorem dX2_toNextOrder_96 : decode cX2_toNextOrder 96 = .ok (.arraylength, 1) := by decide +kernel
theorem dX2_toNextOrder_97 : decode cX2_toNextOrder 97 = .ok (.invokestatic 66, 3) := by decide +kernel
theorem dX2_toNextOrder_100 : decode cX2_toNextOrder 100 = .ok (.iconst 1, 1) := by decide +kernel
theorem dX2_toNextOrder_101 : decode cX2_toNextOrder 101 = .ok (.isub, 1) := by decide +kernel
theorem dX2_toNextOrder_102 : decode cX2_toNextOrder 102 = .ok (.istore 4, 2) := by decide +kernel
theorem dX2_toNextOrder_104 : decode cX2_toNextOrder 104 = .ok (.iload_n 2, 1) := by decide +kernel
theorem dX2_toNextOrder_105 : decode cX2_toNextOrder 105 = .ok (.iconst 1, 1) := by decide +kernel
theorem dX2_toNextOrder_106 : decode cX2_toNextOrder 106 = .ok (.iadd, 1) := by decide +kernel
theorem dX2_toNextOrder_107 : decode cX2_toNextOrder 107 = .ok (.istore 5, 2) := by decide +kernel
theorem dX2_toNextOrder_109 : decode cX2_toNextOrder 109 = .ok (.iload 5, 2) := by decide +kernel
theorem dX2_toNextOrder_111 : decode cX2_toNextOrder 111 = .ok (.iload 4, 2) := by decide +kernel
theorem dX2_toNextOrder_113 : decode cX2_toNextOrder 113 = .ok (.if_icmp .ge 20, 3) := by decide +kernel
theorem dX2_toNextOrder_116 : decode cX2_toNextOrder 116 = .ok (.aload_n 0, 1) := by decide +kernel
theorem dX2_toNextOrder_117 : decode cX2_toNextOrder 117 = .ok (.iload 5, 2) := by decide +kernel
theorem dX2_toNextOrder_119 : decode cX2_toNextOrder 119 = .ok (.iload 4, 2) := by decide +kernel
theorem dX2_toNextOrder_121 : decode cX2_toNextOrder 121 = .ok (.invokevirtual 96, 3) := by decide +kernel
theorem dX2_toNextOrder_124 : decode cX2_toNextOrder 124 = .ok (.iinc 4 (-1), 3) := by decide +kernel
theorem dX2_toNextOrder_127 : decode cX2_toNextOrder 127 = .ok (.iinc 5 1, 3) := by decide +kernel
theorem dX2_toNextOrder_130 : decode cX2_toNextOrder 130 = .ok (.goto (-21), 3) := by decide +kernel
theorem dX2_toNextOrder_133 : decode cX2_toNextOrder 133 = .ok (.iconst 1, 1) := by decide +kernel
theorem dX2_toNextOrder_134 : decode cX2_toNextOrder 134 = .ok (.ireturn, 1) := by decide +kernel
theorem dX2_swapTried_0 : decode cX2_swapTried 0 = .ok (.iload_n 1, 1) := by decide +kernel
theorem dX2_swapTried_1 : decode cX2_swapTried 1 = .ok (.iconst 0, 1) := by decide +kernel
theorem dX2_swapTried_2 : decode cX2_swapTried 2 = .ok (.aload_n 0, 1) := by decide +kernel
theorem dX2_swapTried_3 : decode cX2_swapTried 3 = .ok (.getfield 18, 3) := by decide +kernel
theorem dX2_swapTried_6 : decode cX2_swapTried 6 = .ok (.arraylength, 1) := by decide +kernel
theorem dX2_swapTried_7 : decode cX2_swapTried 7 = .ok (.iconst 1, 1) := by decide +kernel
theorem dX2_swapTried_8 : decode cX2_swapTried 8 = .ok (.isub, 1) := by decide +kernel
theorem dX2_swapTried_9 : decode cX2_swapTried 9 = .ok (.invokestatic 99, 3) := by decide +kernel
theorem dX2_swapTried_12 : decode cX2_swapTried 12 = .ok (.ifCond .eq 44, 3) := by decide +kernel
theorem dX2_swapTried_15 : decode cX2_swapTried 15 = .ok (.iload_n 2, 1) := by decide +kernel
theorem dX2_swapTried_16 : decode cX2_swapTried 16 = .ok (.iconst 0, 1) := by decide +kernel
theorem dX2_swapTried_17 : decode cX2_swapTried 17 = .ok (.aload_n 0, 1) := by decide +kernel
theorem dX2_swapTried_18 : decode cX2_swapTried 18 = .ok (.getfield 18, 3) := by decide +kernel
theorem dX2_swapTried_21 : decode cX2_swapTried 21 = .ok (.arraylength, 1) := by decide +kernel
theorem dX2_swapTried_22 : decode cX2_swapTried 22 = .ok (.iconst 1, 1) := by decide +kernel
theorem dX2_swapTried_23 : decode cX2_swapTried 23 = .ok (.isub, 1) := by decide +kernel
theorem dX2_swapTried_24 : decode cX2_swapTried 24 = .ok (.invokestatic 99, 3) := by decide +kernel
theorem dX2_swapTried_27 : decode cX2_swapTried 27 = .ok (.ifCond .eq 29, 3) := by decide +kernel
theorem dX2_swapTried_30 : decode cX2_swapTried 30 = .ok (.aload_n 0, 1) := by decide +kernel
theorem dX2_swapTried_31 : decode cX2_swapTried 31 = .ok (.getfield 18, 3) := by decide +kernel
theorem dX2_swapTried_34 : decode cX2_swapTried 34 = .ok (.iload_n 1, 1) := by decide +kernel
theorem dX2_swapTried_35 : decode cX2_swapTried 35 = .ok (.iaload, 1) := by decide +kernel
theorem dX2_swapTried_36 : decode cX2_swapTried 36 = .ok (.istore_n 3, 1) := by decide +kernel
theorem dX2_swapTried_37 : decode cX2_swapTried 37 = .ok (.aload_n 0, 1) := by decide +kernel
theorem dX2_swapTried_38 : decode cX2_swapTried 38 = .ok (.getfield 18, 3) := by decide +kernel
theorem dX2_swapTried_41 : decode cX2_swapTried 41 = .ok (.iload_n 1, 1) := by decide +kernel
theorem dX2_swapTried_42 : decode cX2_swapTried 42 = .ok (.aload_n 0, 1) := by decide +kernel
theorem dX2_swapTried_43 : decode cX2_swapTried 43 = .ok (.getfield 18, 3) := by decide +kernel
theorem dX2_swapTried_46 : decode cX2_swapTried 46 = .ok (.iload_n 2, 1) := by decide +kernel
theorem dX2_swapTried_47 : decode cX2_swapTried 47 = .ok (.iaload, 1) := by decide +kernel
theorem dX2_swapTried_48 : decode cX2_swapTried 48 = .ok (.iastore, 1) := by decide +kernel
theorem dX2_swapTried_49 : decode cX2_swapTried 49 = .ok (.aload_n 0, 1) := by decide +kernel
theorem dX2_swapTried_50 : decode cX2_swapTried 50 = .ok (.getfield 18, 3) := by decide +kernel
theorem dX2_swapTried_53 : decode cX2_swapTried 53 = .ok (.iload_n 2, 1) := by decide +kernel
theorem dX2_swapTried_54 : decode cX2_swapTried 54 = .ok (.iload_n 3, 1) := by decide +kernel
theorem dX2_swapTried_55 : decode cX2_swapTried 55 = .ok (.iastore, 1) := by decide +kernel
theorem dX2_swapTried_56 : decode cX2_swapTried 56 = .ok (.return_, 1) := by decide +kernel
theorem dX2_dishesToWant_0 : decode cX2_dishesToWant 0 = .ok (.iconst 0, 1) := by decide +kernel
theorem dX2_dishesToWant_1 : decode cX2_dishesToWant 1 = .ok (.istore 6, 2) := by decide +kernel
theorem dX2_dishesToWant_3 : decode cX2_dishesToWant 3 = .ok (.iconst 0, 1) := by decide +kernel
theorem dX2_dishesToWant_4 : decode cX2_dishesToWant 4 = .ok (.istore 7, 2) := by decide +kernel
theorem dX2_dishesToWant_6 : decode cX2_dishesToWant 6 = .ok (.iload 7, 2) := by decide +kernel
theorem dX2_dishesToWant_8 : decode cX2_dishesToWant 8 = .ok (.aload_n 1, 1) := by decide +kernel
theorem dX2_dishesToWant_9 : decode cX2_dishesToWant 9 = .ok (.getfield 48, 3) := by decide +kernel
theorem dX2_dishesToWant_12 : decode cX2_dishesToWant 12 = .ok (.if_icmp .ge 56, 3) := by decide +kernel
theorem dX2_dishesToWant_15 : decode cX2_dishesToWant 15 = .ok (.aload_n 0, 1) := by decide +kernel
theorem dX2_dishesToWant_16 : decode cX2_dishesToWant 16 = .ok (.getfield 12, 3) := by decide +kernel
theorem dX2_dishesToWant_19 : decode cX2_dishesToWant 19 = .ok (.aload_n 1, 1) := by decide +kernel
theorem dX2_dishesToWant_20 : decode cX2_dishesToWant 20 = .ok (.invokevirtual 25, 3) := by decide +kernel
theorem dX2_dishesToWant_23 : decode cX2_dishesToWant 23 = .ok (.aload_n 0, 1) := by decide +kernel
theorem dX2_dishesToWant_24 : decode cX2_dishesToWant 24 = .ok (.getfield 12, 3) := by decide +kernel
theorem dX2_dishesToWant_27 : decode cX2_dishesToWant 27 = .ok (.iconst 1, 1) := by decide +kernel
theorem dX2_dishesToWant_28 : decode cX2_dishesToWant 28 = .ok (.iload_n 2, 1) := by decide +kernel
theorem dX2_dishesToWant_29 : decode cX2_dishesToWant 29 = .ok (.iload 7, 2) := by decide +kernel
theorem dX2_dishesToWant_31 : decode cX2_dishesToWant 31 = .ok (.invokevirtual 103, 3) := by decide +kernel
theorem dX2_dishesToWant_34 : decode cX2_dishesToWant 34 = .ok (.aload_n 0, 1) := by decide +kernel
theorem dX2_dishesToWant_35 : decode cX2_dishesToWant 35 = .ok (.iload_n 3, 1) := by decide +kernel
theorem dX2_dishesToWant_36 : decode cX2_dishesToWant 36 = .ok (.ldc 29, 2) := by decide +kernel
theorem dX2_dishesToWant_38 : decode cX2_dishesToWant 38 = .ok (.invokevirtual 30, 3) := by decide +kernel
theorem dX2_dishesToWant_41 : decode cX2_dishesToWant 41 = .ok (.pop, 1) := by decide +kernel
theorem dX2_dishesToWant_42 : decode cX2_dishesToWant 42 = .ok (.aload_n 0, 1) := by decide +kernel
theorem dX2_dishesToWant_43 : decode cX2_dishesToWant 43 = .ok (.aload 4, 2) := by decide +kernel
theorem dX2_dishesToWant_45 : decode cX2_dishesToWant 45 = .ok (.iload 5, 2) := by decide +kernel
theorem dX2_dishesToWant_47 : decode cX2_dishesToWant 47 = .ok (.invokevirtual 107, 3) := by decide +kernel
theorem dX2_dishesToWant_50 : decode cX2_dishesToWant 50 = .ok (.ifCond .eq 12, 3) := by decide +kernel
theorem dX2_dishesToWant_53 : decode cX2_dishesToWant 53 = .ok (.iload 6, 2) := by decide +kernel
theorem dX2_dishesToWant_55 : decode cX2_dishesToWant 55 = .ok (.iconst 1, 1) := by decide +kernel
theorem dX2_dishesToWant_56 : decode cX2_dishesToWant 56 = .ok (.iload 7, 2) := by decide +kernel
theorem dX2_dishesToWant_58 : decode cX2_dishesToWant 58 = .ok (.ishl, 1) := by decide +kernel
theorem dX2_dishesToWant_59 : decode cX2_dishesToWant 59 = .ok (.ior, 1) := by decide +kernel
theorem dX2_dishesToWant_60 : decode cX2_dishesToWant 60 = .ok (.istore 6, 2) := by decide +kernel
theorem dX2_dishesToWant_62 : decode cX2_dishesToWant 62 = .ok (.iinc 7 1, 3) := by decide +kernel
theorem dX2_dishesToWant_65 : decode cX2_dishesToWant 65 = .ok (.goto (-59), 3) := by decide +kernel
theorem dX2_dishesToWant_68 : decode cX2_dishesToWant 68 = .ok (.iload 6, 2) := by decide +kernel
theorem dX2_dishesToWant_70 : decode cX2_dishesToWant 70 = .ok (.ireturn, 1) := by decide +kernel
theorem dX2_isLeft_0 : decode cX2_isLeft 0 = .ok (.iconst 0, 1) := by decide +kernel
theorem dX2_isLeft_1 : decode cX2_isLeft 1 = .ok (.istore_n 3, 1) := by decide +kernel
theorem dX2_isLeft_2 : decode cX2_isLeft 2 = .ok (.iload_n 3, 1) := by decide +kernel
theorem dX2_isLeft_3 : decode cX2_isLeft 3 = .ok (.aload_n 0, 1) := by decide +kernel
theorem dX2_isLeft_4 : decode cX2_isLeft 4 = .ok (.getfield 12, 3) := by decide +kernel
theorem dX2_isLeft_7 : decode cX2_isLeft 7 = .ok (.getfield 48, 3) := by decide +kernel
theorem dX2_isLeft_10 : decode cX2_isLeft 10 = .ok (.if_icmp .ge 30, 3) := by decide +kernel
theorem dX2_isLeft_13 : decode cX2_isLeft 13 = .ok (.aload_n 1, 1) := by decide +kernel
theorem dX2_isLeft_14 : decode cX2_isLeft 14 = .ok (.iload_n 2, 1) := by decide +kernel
theorem dX2_isLeft_15 : decode cX2_isLeft 15 = .ok (.iload_n 3, 1) := by decide +kernel
theorem dX2_isLeft_16 : decode cX2_isLeft 16 = .ok (.iadd, 1) := by decide +kernel
theorem dX2_isLeft_17 : decode cX2_isLeft 17 = .ok (.invokevirtual 111, 3) := by decide +kernel
theorem dX2_isLeft_20 : decode cX2_isLeft 20 = .ok (.aload_n 0, 1) := by decide +kernel
theorem dX2_isLeft_21 : decode cX2_isLeft 21 = .ok (.getfield 12, 3) := by decide +kernel
theorem dX2_isLeft_24 : decode cX2_isLeft 24 = .ok (.iconst 4, 1) := by decide +kernel
theorem dX2_isLeft_25 : decode cX2_isLeft 25 = .ok (.iload_n 3, 1) := by decide +kernel
theorem dX2_isLeft_26 : decode cX2_isLeft 26 = .ok (.invokevirtual 45, 3) := by decide +kernel
theorem dX2_isLeft_29 : decode cX2_isLeft 29 = .ok (.if_icmp .eq 5, 3) := by decide +kernel
theorem dX2_isLeft_32 : decode cX2_isLeft 32 = .ok (.iconst 0, 1) := by decide +kernel
theorem dX2_isLeft_33 : decode cX2_isLeft 33 = .ok (.ireturn, 1) := by decide +kernel
theorem dX2_isLeft_34 : decode cX2_isLeft 34 = .ok (.iinc 3 1, 3) := by decide +kernel
theorem dX2_isLeft_37 : decode cX2_isLeft 37 = .ok (.goto (-35), 3) := by decide +kernel
theorem dX2_isLeft_40 : decode cX2_isLeft 40 = .ok (.iconst 1, 1) := by decide +kernel
theorem dX2_isLeft_41 : decode cX2_isLeft 41 = .ok (.ireturn, 1) := by decide +kernel
theorem dX3_init_0 : decode cX3_init 0 = .ok (.aload_n 0, 1) := by decide +kernel
theorem dX3_init_1 : decode cX3_init 1 = .ok (.invokespecial 3, 3) := by decide +kernel
theorem dX3_init_4 : decode cX3_init 4 = .ok (.aload_n 0, 1) := by decide +kernel
theorem dX3_init_5 : decode cX3_init 5 = .ok (.bipush 40, 2) := by decide +kernel
theorem dX3_init_7 : decode cX3_init 7 = .ok (.newarray .int, 2) := by decide +kernel
theorem dX3_init_9 : decode cX3_init 9 = .ok (.putfield 9, 3) := by decide +kernel
theorem dX3_init_12 : decode cX3_init 12 = .ok (.aload_n 0, 1) := by decide +kernel
theorem dX3_init_13 : decode cX3_init 13 = .ok (.iconst (-1), 1) := by decide +kernel
theorem dX3_init_14 : decode cX3_init 14 = .ok (.putfield 15, 3) := by decide +kernel
theorem dX3_init_17 : decode cX3_init 17 = .ok (.return_, 1) := by decide +kernel
theorem dX3_isMissing_0 : decode cX3_isMissing 0 = .ok (.aload_n 0, 1) := by decide +kernel
theorem dX3_isMissing_1 : decode cX3_isMissing 1 = .ok (.getfield 15, 3) := by decide +kernel
theorem dX3_isMissing_4 : decode cX3_isMissing 4 = .ok (.iconst (-1), 1) := by decide +kernel
theorem dX3_isMissing_5 : decode cX3_isMissing 5 = .ok (.if_icmp .ne 7, 3) := by decide +kernel
theorem dX3_isMissing_8 : decode cX3_isMissing 8 = .ok (.iconst 1, 1) := by decide +kernel
theorem dX3_isMissing_9 : decode cX3_isMissing 9 = .ok (.goto 4, 3) := by decide +kernel
theorem dX3_isMissing_12 : decode cX3_isMissing 12 = .ok (.iconst 0, 1) := by decide +kernel
theorem dX3_isMissing_13 : decode cX3_isMissing 13 = .ok (.ireturn, 1) := by decide +kernel
theorem dX3_begin_0 : decode cX3_begin 0 = .ok (.aload_n 0, 1) := by decide +kernel
theorem dX3_begin_1 : decode cX3_begin 1 = .ok (.iload_n 1, 1) := by decide +kernel
theorem dX3_begin_2 : decode cX3_begin 2 = .ok (.putfield 15, 3) := by decide +kernel
theorem dX3_begin_5 : decode cX3_begin 5 = .ok (.aload_n 0, 1) := by decide +kernel
theorem dX3_begin_6 : decode cX3_begin 6 = .ok (.iconst 0, 1) := by decide +kernel
theorem dX3_begin_7 : decode cX3_begin 7 = .ok (.iload_n 2, 1) := by decide +kernel
theorem dX3_begin_8 : decode cX3_begin 8 = .ok (.aload_n 0, 1) := by decide +kernel
theorem dX3_begin_9 : decode cX3_begin 9 = .ok (.getfield 9, 3) := by decide +kernel
theorem dX3_begin_12 : decode cX3_begin 12 = .ok (.arraylength, 1) := by decide +kernel
theorem dX3_begin_13 : decode cX3_begin 13 = .ok (.invokestatic 19, 3) := by decide +kernel
theorem dX3_begin_16 : decode cX3_begin 16 = .ok (.invokestatic 25, 3) := by decide +kernel
theorem dX3_begin_19 : decode cX3_begin 19 = .ok (.putfield 28, 3) := by decide +kernel
theorem dX3_begin_22 : decode cX3_begin 22 = .ok (.iconst 0, 1) := by decide +kernel
theorem dX3_begin_23 : decode cX3_begin 23 = .ok (.istore_n 3, 1) := by decide +kernel
theorem dX3_begin_24 : decode cX3_begin 24 = .ok (.iload_n 3, 1) := by decide +kernel
theorem dX3_begin_25 : decode cX3_begin 25 = .ok (.aload_n 0, 1) := by decide +kernel
theorem dX3_begin_26 : decode cX3_begin 26 = .ok (.getfield 9, 3) := by decide +kernel
theorem dX3_begin_29 : decode cX3_begin 29 = .ok (.arraylength, 1) := by decide +kernel
theorem dX3_begin_30 : decode cX3_begin 30 = .ok (.if_icmp .ge 16, 3) := by decide +kernel
theorem dX3_begin_33 : decode cX3_begin 33 = .ok (.aload_n 0, 1) := by decide +kernel
theorem dX3_begin_34 : decode cX3_begin 34 = .ok (.getfield 9, 3) := by decide +kernel
theorem dX3_begin_37 : decode cX3_begin 37 = .ok (.iload_n 3, 1) := by decide +kernel
theorem dX3_begin_38 : decode cX3_begin 38 = .ok (.iconst 0, 1) := by decide +kernel
theorem dX3_begin_39 : decode cX3_begin 39 = .ok (.iastore, 1) := by decide +kernel
theorem dX3_begin_40 : decode cX3_begin 40 = .ok (.iinc 3 1, 3) := by decide +kernel
theorem dX3_begin_43 : decode cX3_begin 43 = .ok (.goto (-19), 3) := by decide +kernel
theorem dX3_begin_46 : decode cX3_begin 46 = .ok (.return_, 1) := by decide +kernel
theorem dX3_end_0 : decode cX3_end 0 = .ok (.aload_n 0, 1) := by decide +kernel
theorem dX3_end_1 : decode cX3_end 1 = .ok (.iconst (-1), 1) := by decide +kernel
theorem dX3_end_2 : decode cX3_end 2 = .ok (.putfield 15, 3) := by decide +kernel
theorem dX3_end_5 : decode cX3_end 5 = .ok (.aload_n 0, 1) := by decide +kernel
theorem dX3_end_6 : decode cX3_end 6 = .ok (.iconst 0, 1) := by decide +kernel
theorem dX3_end_7 : decode cX3_end 7 = .ok (.putfield 28, 3) := by decide +kernel
theorem dX3_end_10 : decode cX3_end 10 = .ok (.return_, 1) := by decide +kernel
theorem dX3_hasPlaces_0 : decode cX3_hasPlaces 0 = .ok (.iload_n 2, 1) := by decide +kernel
theorem dX3_hasPlaces_1 : decode cX3_hasPlaces 1 = .ok (.ifCond .lt 29, 3) := by decide +kernel
theorem dX3_hasPlaces_4 : decode cX3_hasPlaces 4 = .ok (.iload_n 1, 1) := by decide +kernel
theorem dX3_hasPlaces_5 : decode cX3_hasPlaces 5 = .ok (.ifCond .lt 25, 3) := by decide +kernel
theorem dX3_hasPlaces_8 : decode cX3_hasPlaces 8 = .ok (.iload_n 2, 1) := by decide +kernel
theorem dX3_hasPlaces_9 : decode cX3_hasPlaces 9 = .ok (.aload_n 0, 1) := by decide +kernel
theorem dX3_hasPlaces_10 : decode cX3_hasPlaces 10 = .ok (.getfield 28, 3) := by decide +kernel
theorem dX3_hasPlaces_13 : decode cX3_hasPlaces 13 = .ok (.if_icmp .gt 17, 3) := by decide +kernel
theorem dX3_hasPlaces_16 : decode cX3_hasPlaces 16 = .ok (.iload_n 1, 1) := by decide +kernel
theorem dX3_hasPlaces_17 : decode cX3_hasPlaces 17 = .ok (.aload_n 0, 1) := by decide +kernel
theorem dX3_hasPlaces_18 : decode cX3_hasPlaces 18 = .ok (.getfield 28, 3) := by decide +kernel
theorem dX3_hasPlaces_21 : decode cX3_hasPlaces 21 = .ok (.iload_n 2, 1) := by decide +kernel
theorem dX3_hasPlaces_22 : decode cX3_hasPlaces 22 = .ok (.isub, 1) := by decide +kernel
theorem dX3_hasPlaces_23 : decode cX3_hasPlaces 23 = .ok (.if_icmp .gt 7, 3) := by decide +kernel
theorem dX3_hasPlaces_26 : decode cX3_hasPlaces 26 = .ok (.iconst 1, 1) := by decide +kernel
theorem dX3_hasPlaces_27 : decode cX3_hasPlaces 27 = .ok (.goto 4, 3) := by decide +kernel
theorem dX3_hasPlaces_30 : decode cX3_hasPlaces 30 = .ok (.iconst 0, 1) := by decide +kernel
theorem dX3_hasPlaces_31 : decode cX3_hasPlaces 31 = .ok (.ireturn, 1) := by decide +kernel
theorem dX3_item_0 : decode cX3_item 0 = .ok (.iload_n 1, 1) := by decide +kernel
theorem dX3_item_1 : decode cX3_item 1 = .ok (.ifCond .lt 21, 3) := by decide +kernel
theorem dX3_item_4 : decode cX3_item 4 = .ok (.iload_n 1, 1) := by decide +kernel
theorem dX3_item_5 : decode cX3_item 5 = .ok (.aload_n 0, 1) := by decide +kernel
theorem dX3_item_6 : decode cX3_item 6 = .ok (.getfield 9, 3) := by decide +kernel
theorem dX3_item_9 : decode cX3_item 9 = .ok (.arraylength, 1) := by decide +kernel
theorem dX3_item_10 : decode cX3_item 10 = .ok (.if_icmp .ge 12, 3) := by decide +kernel
theorem dX3_item_13 : decode cX3_item 13 = .ok (.aload_n 0, 1) := by decide +kernel
theorem dX3_item_14 : decode cX3_item 14 = .ok (.getfield 9, 3) := by decide +kernel
theorem dX3_item_17 : decode cX3_item 17 = .ok (.iload_n 1, 1) := by decide +kernel
theorem dX3_item_18 : decode cX3_item 18 = .ok (.iaload, 1) := by decide +kernel
theorem dX3_item_19 : decode cX3_item 19 = .ok (.goto 4, 3) := by decide +kernel
theorem dX3_item_22 : decode cX3_item 22 = .ok (.iconst 0, 1) := by decide +kernel
theorem dX3_item_23 : decode cX3_item 23 = .ok (.ireturn, 1) := by decide +kernel
theorem dX3_store_0 : decode cX3_store 0 = .ok (.iload_n 1, 1) := by decide +kernel
theorem dX3_store_1 : decode cX3_store 1 = .ok (.ifCond .lt 12, 3) := by decide +kernel
theorem dX3_store_4 : decode cX3_store 4 = .ok (.iload_n 1, 1) := by decide +kernel
theorem dX3_store_5 : decode cX3_store 5 = .ok (.aload_n 0, 1) := by decide +kernel
theorem dX3_store_6 : decode cX3_store 6 = .ok (.getfield 9, 3) := by decide +kernel
theorem dX3_store_9 : decode cX3_store 9 = .ok (.arraylength, 1) := by decide +kernel
theorem dX3_store_10 : decode cX3_store 10 = .ok (.if_icmp .lt 4, 3) := by decide +kernel
theorem dX3_store_13 : decode cX3_store 13 = .ok (.return_, 1) := by decide +kernel
theorem dX3_store_14 : decode cX3_store 14 = .ok (.aload_n 0, 1) := by decide +kernel
theorem dX3_store_15 : decode cX3_store 15 = .ok (.getfield 15, 3) := by decide +kernel
theorem dX3_store_18 : decode cX3_store 18 = .ok (.lookupswitch 48 #[(0, 26), (1, 37)], 26) := by decide +kernel
theorem dX3_store_44 : decode cX3_store 44 = .ok (.aload_n 0, 1) := by decide +kernel
theorem dX3_store_45 : decode cX3_store 45 = .ok (.getfield 9, 3) := by decide +kernel
theorem dX3_store_48 : decode cX3_store 48 = .ok (.iload_n 1, 1) := by decide +kernel
theorem dX3_store_49 : decode cX3_store 49 = .ok (.iload_n 2, 1) := by decide +kernel
theorem dX3_store_50 : decode cX3_store 50 = .ok (.i2b, 1) := by decide +kernel
theorem dX3_store_51 : decode cX3_store 51 = .ok (.iastore, 1) := by decide +kernel
theorem dX3_store_52 : decode cX3_store 52 = .ok (.goto 21, 3) := by decide +kernel
theorem dX3_store_55 : decode cX3_store 55 = .ok (.aload_n 0, 1) := by decide +kernel
theorem dX3_store_56 : decode cX3_store 56 = .ok (.getfield 9, 3) := by decide +kernel
theorem dX3_store_59 : decode cX3_store 59 = .ok (.iload_n 1, 1) := by decide +kernel
theorem dX3_store_60 : decode cX3_store 60 = .ok (.iload_n 2, 1) := by decide +kernel
theorem dX3_store_61 : decode cX3_store 61 = .ok (.i2s, 1) := by decide +kernel
theorem dX3_store_62 : decode cX3_store 62 = .ok (.iastore, 1) := by decide +kernel
theorem dX3_store_63 : decode cX3_store 63 = .ok (.goto 10, 3) := by decide +kernel
theorem dX3_store_66 : decode cX3_store 66 = .ok (.aload_n 0, 1) := by decide +kernel
theorem dX3_store_67 : decode cX3_store 67 = .ok (.getfield 9, 3) := by decide +kernel
theorem dX3_store_70 : decode cX3_store 70 = .ok (.iload_n 1, 1) := by decide +kernel
theorem dX3_store_71 : decode cX3_store 71 = .ok (.iload_n 2, 1) := by decide +kernel
theorem dX3_store_72 : decode cX3_store 72 = .ok (.iastore, 1) := by decide +kernel
theorem dX3_store_73 : decode cX3_store 73 = .ok (.return_, 1) := by decide +kernel
theorem dX3_take_0 : decode cX3_take 0 = .ok (.aload_n 1, 1) := by decide +kernel
theorem dX3_take_1 : decode cX3_take 1 = .ok (.ifnull 38, 3) := by decide +kernel
theorem dX3_take_4 : decode cX3_take 4 = .ok (.aload_n 1, 1) := by decide +kernel
theorem dX3_take_5 : decode cX3_take 5 = .ok (.iload_n 2, 1) := by decide +kernel
theorem dX3_take_6 : decode cX3_take 6 = .ok (.iload 4, 2) := by decide +kernel
theorem dX3_take_8 : decode cX3_take 8 = .ok (.invokevirtual 31, 3) := by decide +kernel
theorem dX3_take_11 : decode cX3_take 11 = .ok (.ifCond .eq 28, 3) := by decide +kernel
theorem dX3_take_14 : decode cX3_take 14 = .ok (.aload_n 0, 1) := by decide +kernel
theorem dX3_take_15 : decode cX3_take 15 = .ok (.iload_n 3, 1) := by decide +kernel
theorem dX3_take_16 : decode cX3_take 16 = .ok (.iload 4, 2) := by decide +kernel
theorem dX3_take_18 : decode cX3_take 18 = .ok (.invokevirtual 31, 3) := by decide +kernel
theorem dX3_take_21 : decode cX3_take 21 = .ok (.ifCond .eq 18, 3) := by decide +kernel
theorem dX3_take_24 : decode cX3_take 24 = .ok (.aload_n 1, 1) := by decide +kernel
theorem dX3_take_25 : decode cX3_take 25 = .ok (.getfield 9, 3) := by decide +kernel
theorem dX3_take_28 : decode cX3_take 28 = .ok (.iload_n 2, 1) := by decide +kernel
theorem dX3_take_29 : decode cX3_take 29 = .ok (.aload_n 0, 1) := by decide +kernel
theorem dX3_take_30 : decode cX3_take 30 = .ok (.getfield 9, 3) := by decide +kernel
theorem dX3_take_33 : decode cX3_take 33 = .ok (.iload_n 3, 1) := by decide +kernel
theorem dX3_take_34 : decode cX3_take 34 = .ok (.iload 4, 2) := by decide +kernel
theorem dX3_take_36 : decode cX3_take 36 = .ok (.invokestatic 35, 3) := by decide +kernel
theorem dX3_take_39 : decode cX3_take 39 = .ok (.return_, 1) := by decide +kernel
theorem dX4_init_0 : decode cX4_init 0 = .ok (.aload_n 0, 1) := by decide +kernel
theorem dX4_init_1 : decode cX4_init 1 = .ok (.invokespecial 3, 3) := by decide +kernel
theorem dX4_init_4 : decode cX4_init 4 = .ok (.aload_n 0, 1) := by decide +kernel
theorem dX4_init_5 : decode cX4_init 5 = .ok (.bipush 48, 2) := by decide +kernel
theorem dX4_init_7 : decode cX4_init 7 = .ok (.newarray .int, 2) := by decide +kernel
theorem dX4_init_9 : decode cX4_init 9 = .ok (.putfield 11, 3) := by decide +kernel
theorem dX4_init_12 : decode cX4_init 12 = .ok (.return_, 1) := by decide +kernel
theorem dX4_of_0 : decode cX4_of 0 = .ok (.iload_n 1, 1) := by decide +kernel
theorem dX4_of_1 : decode cX4_of 1 = .ok (.bipush 6, 2) := by decide +kernel
theorem dX4_of_3 : decode cX4_of 3 = .ok (.imul, 1) := by decide +kernel
theorem dX4_of_4 : decode cX4_of 4 = .ok (.iload_n 2, 1) := by decide +kernel
theorem dX4_of_5 : decode cX4_of 5 = .ok (.iadd, 1) := by decide +kernel
theorem dX4_of_6 : decode cX4_of 6 = .ok (.istore_n 3, 1) := by decide +kernel
theorem dX4_of_7 : decode cX4_of 7 = .ok (.iload_n 2, 1) := by decide +kernel
theorem dX4_of_8 : decode cX4_of 8 = .ok (.ifCond .lt 31, 3) := by decide +kernel
theorem dX4_of_11 : decode cX4_of 11 = .ok (.iload_n 2, 1) := by decide +kernel
theorem dX4_of_12 : decode cX4_of 12 = .ok (.bipush 6, 2) := by decide +kernel
theorem dX4_of_14 : decode cX4_of 14 = .ok (.if_icmp .ge 25, 3) := by decide +kernel
theorem dX4_of_17 : decode cX4_of 17 = .ok (.iload_n 3, 1) := by decide +kernel
theorem dX4_of_18 : decode cX4_of 18 = .ok (.ifCond .lt 21, 3) := by decide +kernel
theorem dX4_of_21 : decode cX4_of 21 = .ok (.iload_n 3, 1) := by decide +kernel
theorem dX4_of_22 : decode cX4_of 22 = .ok (.aload_n 0, 1) := by decide +kernel
theorem dX4_of_23 : decode cX4_of 23 = .ok (.getfield 11, 3) := by decide +kernel
theorem dX4_of_26 : decode cX4_of 26 = .ok (.arraylength, 1) := by decide +kernel
theorem dX4_of_27 : decode cX4_of 27 = .ok (.if_icmp .ge 12, 3) := by decide +kernel
theorem dX4_of_30 : decode cX4_of 30 = .ok (.aload_n 0, 1) := by decide +kernel
theorem dX4_of_31 : decode cX4_of 31 = .ok (.getfield 11, 3) := by decide +kernel
theorem dX4_of_34 : decode cX4_of 34 = .ok (.iload_n 3, 1) := by decide +kernel
theorem dX4_of_35 : decode cX4_of 35 = .ok (.iaload, 1) := by decide +kernel
theorem dX4_of_36 : decode cX4_of 36 = .ok (.goto 4, 3) := by decide +kernel
theorem dX4_of_39 : decode cX4_of 39 = .ok (.iconst 0, 1) := by decide +kernel
theorem dX4_of_40 : decode cX4_of 40 = .ok (.ireturn, 1) := by decide +kernel
theorem dX4_put_0 : decode cX4_put 0 = .ok (.iload_n 1, 1) := by decide +kernel
theorem dX4_put_1 : decode cX4_put 1 = .ok (.bipush 6, 2) := by decide +kernel
theorem dX4_put_3 : decode cX4_put 3 = .ok (.imul, 1) := by decide +kernel
theorem dX4_put_4 : decode cX4_put 4 = .ok (.iload_n 2, 1) := by decide +kernel
theorem dX4_put_5 : decode cX4_put 5 = .ok (.iadd, 1) := by decide +kernel
theorem dX4_put_6 : decode cX4_put 6 = .ok (.istore 4, 2) := by decide +kernel
theorem dX4_put_8 : decode cX4_put 8 = .ok (.iload_n 2, 1) := by decide +kernel
theorem dX4_put_9 : decode cX4_put 9 = .ok (.ifCond .lt 32, 3) := by decide +kernel
theorem dX4_put_12 : decode cX4_put 12 = .ok (.iload_n 2, 1) := by decide +kernel
theorem dX4_put_13 : decode cX4_put 13 = .ok (.bipush 6, 2) := by decide +kernel
theorem dX4_put_15 : decode cX4_put 15 = .ok (.if_icmp .ge 26, 3) := by decide +kernel
theorem dX4_put_18 : decode cX4_put 18 = .ok (.iload 4, 2) := by decide +kernel
theorem dX4_put_20 : decode cX4_put 20 = .ok (.ifCond .lt 21, 3) := by decide +kernel
theorem dX4_put_23 : decode cX4_put 23 = .ok (.iload 4, 2) := by decide +kernel
theorem dX4_put_25 : decode cX4_put 25 = .ok (.aload_n 0, 1) := by decide +kernel
theorem dX4_put_26 : decode cX4_put 26 = .ok (.getfield 11, 3) := by decide +kernel
theorem dX4_put_29 : decode cX4_put 29 = .ok (.arraylength, 1) := by decide +kernel
theorem dX4_put_30 : decode cX4_put 30 = .ok (.if_icmp .ge 11, 3) := by decide +kernel
theorem dX4_put_33 : decode cX4_put 33 = .ok (.aload_n 0, 1) := by decide +kernel
theorem dX4_put_34 : decode cX4_put 34 = .ok (.getfield 11, 3) := by decide +kernel
theorem dX4_put_37 : decode cX4_put 37 = .ok (.iload 4, 2) := by decide +kernel
theorem dX4_put_39 : decode cX4_put 39 = .ok (.iload_n 3, 1) := by decide +kernel
theorem dX4_put_40 : decode cX4_put 40 = .ok (.iastore, 1) := by decide +kernel
theorem dX4_put_41 : decode cX4_put 41 = .ok (.return_, 1) := by decide +kernel
theorem dX4_add_0 : decode cX4_add 0 = .ok (.aload_n 0, 1) := by decide +kernel
theorem dX4_add_1 : decode cX4_add 1 = .ok (.iload_n 1, 1) := by decide +kernel
theorem dX4_add_2 : decode cX4_add 2 = .ok (.iload_n 2, 1) := by decide +kernel
theorem dX4_add_3 : decode cX4_add 3 = .ok (.aload_n 0, 1) := by decide +kernel
theorem dX4_add_4 : decode cX4_add 4 = .ok (.iload_n 1, 1) := by decide +kernel
theorem dX4_add_5 : decode cX4_add 5 = .ok (.iload_n 2, 1) := by decide +kernel
theorem dX4_add_6 : decode cX4_add 6 = .ok (.invokevirtual 15, 3) := by decide +kernel
theorem dX4_add_9 : decode cX4_add 9 = .ok (.iload_n 3, 1) := by decide +kernel
theorem dX4_add_10 : decode cX4_add 10 = .ok (.iadd, 1) := by decide +kernel
theorem dX4_add_11 : decode cX4_add 11 = .ok (.invokevirtual 19, 3) := by decide +kernel
theorem dX4_add_14 : decode cX4_add 14 = .ok (.return_, 1) := by decide +kernel
theorem dX4_stands_0 : decode cX4_stands 0 = .ok (.aload_n 0, 1) := by decide +kernel
theorem dX4_stands_1 : decode cX4_stands 1 = .ok (.getfield 23, 3) := by decide +kernel
theorem dX4_stands_4 : decode cX4_stands 4 = .ok (.ifCond .le 7, 3) := by decide +kernel
theorem dX4_stands_7 : decode cX4_stands 7 = .ok (.iconst 1, 1) := by decide +kernel
theorem dX4_stands_8 : decode cX4_stands 8 = .ok (.goto 4, 3) := by decide +kernel
theorem dX4_stands_11 : decode cX4_stands 11 = .ok (.iconst 0, 1) := by decide +kernel
theorem dX4_stands_12 : decode cX4_stands 12 = .ok (.ireturn, 1) := by decide +kernel
theorem dX4_has_0 : decode cX4_has 0 = .ok (.iload_n 1, 1) := by decide +kernel
theorem dX4_has_1 : decode cX4_has 1 = .ok (.ifCond .lt 15, 3) := by decide +kernel
theorem dX4_has_4 : decode cX4_has 4 = .ok (.iload_n 1, 1) := by decide +kernel
theorem dX4_has_5 : decode cX4_has 5 = .ok (.aload_n 0, 1) := by decide +kernel
theorem dX4_has_6 : decode cX4_has 6 = .ok (.getfield 23, 3) := by decide +kernel
theorem dX4_has_9 : decode cX4_has 9 = .ok (.if_icmp .ge 7, 3) := by decide +kernel
theorem dX4_has_12 : decode cX4_has 12 = .ok (.iconst 1, 1) := by decide +kernel
theorem dX4_has_13 : decode cX4_has 13 = .ok (.goto 4, 3) := by decide +kernel
theorem dX4_has_16 : decode cX4_has 16 = .ok (.iconst 0, 1) := by decide +kernel
theorem dX4_has_17 : decode cX4_has 17 = .ok (.ireturn, 1) := by decide +kernel
theorem dX4_clear_0 : decode cX4_clear 0 = .ok (.aload_n 0, 1) := by decide +kernel
theorem dX4_clear_1 : decode cX4_clear 1 = .ok (.iconst 0, 1) := by decide +kernel
theorem dX4_clear_2 : decode cX4_clear 2 = .ok (.putfield 23, 3) := by decide +kernel
theorem dX4_clear_5 : decode cX4_clear 5 = .ok (.aload_n 0, 1) := by decide +kernel
theorem dX4_clear_6 : decode cX4_clear 6 = .ok (.iconst 0, 1) := by decide +kernel
theorem dX4_clear_7 : decode cX4_clear 7 = .ok (.putfield 27, 3) := by decide +kernel
theorem dX4_clear_10 : decode cX4_clear 10 = .ok (.aload_n 0, 1) := by decide +kernel
theorem dX4_clear_11 : decode cX4_clear 11 = .ok (.iconst 0, 1) := by decide +kernel
theorem dX4_clear_12 : decode cX4_clear 12 = .ok (.putfield 30, 3) := by decide +kernel
theorem dX4_clear_15 : decode cX4_clear 15 = .ok (.iconst 0, 1) := by decide +kernel
theorem dX4_clear_16 : decode cX4_clear 16 = .ok (.istore_n 1, 1) := by decide +kernel
theorem dX4_clear_17 : decode cX4_clear 17 = .ok (.iload_n 1, 1) := by decide +kernel
theorem dX4_clear_18 : decode cX4_clear 18 = .ok (.aload_n 0, 1) := by decide +kernel
theorem dX4_clear_19 : decode cX4_clear 19 = .ok (.getfield 11, 3) := by decide +kernel
theorem dX4_clear_22 : decode cX4_clear 22 = .ok (.arraylength, 1) := by decide +kernel
theorem dX4_clear_23 : decode cX4_clear 23 = .ok (.if_icmp .ge 16, 3) := by decide +kernel
theorem dX4_clear_26 : decode cX4_clear 26 = .ok (.aload_n 0, 1) := by decide +kernel
theorem dX4_clear_27 : decode cX4_clear 27 = .ok (.getfield 11, 3) := by decide +kernel
theorem dX4_clear_30 : decode cX4_clear 30 = .ok (.iload_n 1, 1) := by decide +kernel
theorem dX4_clear_31 : decode cX4_clear 31 = .ok (.iconst 0, 1) := by decide +kernel
theorem dX4_clear_32 : decode cX4_clear 32 = .ok (.iastore, 1) := by decide +kernel
theorem dX4_clear_33 : decode cX4_clear 33 = .ok (.iinc 1 1, 3) := by decide +kernel
theorem dX4_clear_36 : decode cX4_clear 36 = .ok (.goto (-19), 3) := by decide +kernel
theorem dX4_clear_39 : decode cX4_clear 39 = .ok (.return_, 1) := by decide +kernel
theorem dX4_become_0 : decode cX4_become 0 = .ok (.aload_n 1, 1) := by decide +kernel
theorem dX4_become_1 : decode cX4_become 1 = .ok (.ifnull 16, 3) := by decide +kernel
theorem dX4_become_4 : decode cX4_become 4 = .ok (.aload_n 1, 1) := by decide +kernel
theorem dX4_become_5 : decode cX4_become 5 = .ok (.getfield 11, 3) := by decide +kernel
theorem dX4_become_8 : decode cX4_become 8 = .ok (.arraylength, 1) := by decide +kernel
theorem dX4_become_9 : decode cX4_become 9 = .ok (.aload_n 0, 1) := by decide +kernel
theorem dX4_become_10 : decode cX4_become 10 = .ok (.getfield 11, 3) := by decide +kernel
theorem dX4_become_13 : decode cX4_become 13 = .ok (.arraylength, 1) := by decide +kernel
theorem dX4_become_14 : decode cX4_become 14 = .ok (.if_icmp .eq 4, 3) := by decide +kernel
theorem dX4_become_17 : decode cX4_become 17 = .ok (.return_, 1) := by decide +kernel
theorem dX4_become_18 : decode cX4_become 18 = .ok (.aload_n 1, 1) := by decide +kernel
theorem dX4_become_19 : decode cX4_become 19 = .ok (.getfield 11, 3) := by decide +kernel
theorem dX4_become_22 : decode cX4_become 22 = .ok (.iconst 0, 1) := by decide +kernel
theorem dX4_become_23 : decode cX4_become 23 = .ok (.aload_n 0, 1) := by decide +kernel
theorem dX4_become_24 : decode cX4_become 24 = .ok (.getfield 11, 3) := by decide +kernel
theorem dX4_become_27 : decode cX4_become 27 = .ok (.iconst 0, 1) := by decide +kernel
theorem dX4_become_28 : decode cX4_become 28 = .ok (.aload_n 0, 1) := by decide +kernel
theorem dX4_become_29 : decode cX4_become 29 = .ok (.getfield 11, 3) := by decide +kernel
theorem dX4_become_32 : decode cX4_become 32 = .ok (.arraylength, 1) := by decide +kernel
theorem dX4_become_33 : decode cX4_become 33 = .ok (.invokestatic 33, 3) := by decide +kernel
theorem dX4_become_36 : decode cX4_become 36 = .ok (.aload_n 0, 1) := by decide +kernel
theorem dX4_become_37 : decode cX4_become 37 = .ok (.aload_n 1, 1) := by decide +kernel
theorem dX4_become_38 : decode cX4_become 38 = .ok (.getfield 23, 3) := by decide +kernel
theorem dX4_become_41 : decode cX4_become 41 = .ok (.putfield 23, 3) := by decide +kernel
theorem dX4_become_44 : decode cX4_become 44 = .ok (.aload_n 0, 1) := by decide +kernel
theorem dX4_become_45 : decode cX4_become 45 = .ok (.aload_n 1, 1) := by decide +kernel
theorem dX4_become_46 : decode cX4_become 46 = .ok (.getfield 27, 3) := by decide +kernel
theorem dX4_become_49 : decode cX4_become 49 = .ok (.putfield 27, 3) := by decide +kernel
theorem dX4_become_52 : decode cX4_become 52 = .ok (.aload_n 0, 1) := by decide +kernel
theorem dX4_become_53 : decode cX4_become 53 = .ok (.aload_n 1, 1) := by decide +kernel
theorem dX4_become_54 : decode cX4_become 54 = .ok (.getfield 30, 3) := by decide +kernel
theorem dX4_become_57 : decode cX4_become 57 = .ok (.putfield 30, 3) := by decide +kernel
theorem dX4_become_60 : decode cX4_become 60 = .ok (.return_, 1) := by decide +kernel
theorem dX4_seat_0 : decode cX4_seat 0 = .ok (.aload_n 0, 1) := by decide +kernel
theorem dX4_seat_1 : decode cX4_seat 1 = .ok (.iconst 0, 1) := by decide +kernel
theorem dX4_seat_2 : decode cX4_seat 2 = .ok (.aload_n 0, 1) := by decide +kernel
theorem dX4_seat_3 : decode cX4_seat 3 = .ok (.getfield 23, 3) := by decide +kernel
theorem dX4_seat_6 : decode cX4_seat 6 = .ok (.iload_n 1, 1) := by decide +kernel
theorem dX4_seat_7 : decode cX4_seat 7 = .ok (.invokevirtual 19, 3) := by decide +kernel
theorem dX4_seat_10 : decode cX4_seat 10 = .ok (.aload_n 0, 1) := by decide +kernel
theorem dX4_seat_11 : decode cX4_seat 11 = .ok (.iconst 1, 1) := by decide +kernel
theorem dX4_seat_12 : decode cX4_seat 12 = .ok (.aload_n 0, 1) := by decide +kernel
theorem dX4_seat_13 : decode cX4_seat 13 = .ok (.getfield 23, 3) := by decide +kernel
theorem dX4_seat_16 : decode cX4_seat 16 = .ok (.iload_n 2, 1) := by decide +kernel
theorem dX4_seat_17 : decode cX4_seat 17 = .ok (.invokevirtual 19, 3) := by decide +kernel
theorem dX4_seat_20 : decode cX4_seat 20 = .ok (.aload_n 0, 1) := by decide +kernel
theorem dX4_seat_21 : decode cX4_seat 21 = .ok (.iconst 2, 1) := by decide +kernel
theorem dX4_seat_22 : decode cX4_seat 22 = .ok (.aload_n 0, 1) := by decide +kernel
theorem dX4_seat_23 : decode cX4_seat 23 = .ok (.getfield 23, 3) := by decide +kernel
theorem dX4_seat_26 : decode cX4_seat 26 = .ok (.aload_n 0, 1) := by decide +kernel
theorem dX4_seat_27 : decode cX4_seat 27 = .ok (.getfield 23, 3) := by decide +kernel
theorem dX4_seat_30 : decode cX4_seat 30 = .ok (.invokevirtual 19, 3) := by decide +kernel
theorem dX4_seat_33 : decode cX4_seat 33 = .ok (.aload_n 0, 1) := by decide +kernel
theorem dX4_seat_34 : decode cX4_seat 34 = .ok (.bipush 6, 2) := by decide +kernel
theorem dX4_seat_36 : decode cX4_seat 36 = .ok (.aload_n 0, 1) := by decide +kernel
theorem dX4_seat_37 : decode cX4_seat 37 = .ok (.getfield 23, 3) := by decide +kernel
theorem dX4_seat_40 : decode cX4_seat 40 = .ok (.aload_n 0, 1) := by decide +kernel
theorem dX4_seat_41 : decode cX4_seat 41 = .ok (.getfield 23, 3) := by decide +kernel
theorem dX4_seat_44 : decode cX4_seat 44 = .ok (.invokevirtual 19, 3) := by decide +kernel
theorem dX4_seat_47 : decode cX4_seat 47 = .ok (.aload_n 0, 1) := by decide +kernel
theorem dX4_seat_48 : decode cX4_seat 48 = .ok (.aload_n 0, 1) := by decide +kernel
theorem dX4_seat_49 : decode cX4_seat 49 = .ok (.getfield 23, 3) := by decide +kernel
theorem dX4_seat_52 : decode cX4_seat 52 = .ok (.aload_n 0, 1) := by decide +kernel
theorem dX4_seat_53 : decode cX4_seat 53 = .ok (.getfield 23, 3) := by decide +kernel
theorem dX4_seat_56 : decode cX4_seat 56 = .ok (.invokevirtual 39, 3) := by decide +kernel
theorem dX4_seat_59 : decode cX4_seat 59 = .ok (.aload_n 0, 1) := by decide +kernel
theorem dX4_seat_60 : decode cX4_seat 60 = .ok (.dup, 1) := by decide +kernel
theorem dX4_seat_61 : decode cX4_seat 61 = .ok (.getfield 23, 3) := by decide +kernel
theorem dX4_seat_64 : decode cX4_seat 64 = .ok (.iconst 1, 1) := by decide +kernel
theorem dX4_seat_65 : decode cX4_seat 65 = .ok (.iadd, 1) := by decide +kernel
theorem dX4_seat_66 : decode cX4_seat 66 = .ok (.putfield 23, 3) := by decide +kernel
theorem dX4_seat_69 : decode cX4_seat 69 = .ok (.return_, 1) := by decide +kernel
theorem dX4_layIn_0 : decode cX4_layIn 0 = .ok (.aload_n 0, 1) := by decide +kernel
theorem dX4_layIn_1 : decode cX4_layIn 1 = .ok (.iconst 5, 1) := by decide +kernel
theorem dX4_layIn_2 : decode cX4_layIn 2 = .ok (.iload_n 1, 1) := by decide +kernel
theorem dX4_layIn_3 : decode cX4_layIn 3 = .ok (.iload_n 2, 1) := by decide +kernel
theorem dX4_layIn_4 : decode cX4_layIn 4 = .ok (.invokevirtual 19, 3) := by decide +kernel
theorem dX4_layIn_7 : decode cX4_layIn 7 = .ok (.aload_n 0, 1) := by decide +kernel
theorem dX4_layIn_8 : decode cX4_layIn 8 = .ok (.bipush 7, 2) := by decide +kernel
theorem dX4_layIn_10 : decode cX4_layIn 10 = .ok (.iload_n 2, 1) := by decide +kernel
theorem dX4_layIn_11 : decode cX4_layIn 11 = .ok (.iload_n 1, 1) := by decide +kernel
theorem dX4_layIn_12 : decode cX4_layIn 12 = .ok (.invokevirtual 19, 3) := by decide +kernel
theorem dX4_layIn_15 : decode cX4_layIn 15 = .ok (.return_, 1) := by decide +kernel
theorem dX4_swapSeats_0 : decode cX4_swapSeats 0 = .ok (.aload_n 0, 1) := by decide +kernel
theorem dX4_swapSeats_1 : decode cX4_swapSeats 1 = .ok (.iconst 2, 1) := by decide +kernel
theorem dX4_swapSeats_2 : decode cX4_swapSeats 2 = .ok (.iload_n 1, 1) := by decide +kernel
theorem dX4_swapSeats_3 : decode cX4_swapSeats 3 = .ok (.invokevirtual 15, 3) := by decide +kernel
theorem dX4_swapSeats_6 : decode cX4_swapSeats 6 = .ok (.istore_n 3, 1) := by decide +kernel
theorem dX4_swapSeats_7 : decode cX4_swapSeats 7 = .ok (.aload_n 0, 1) := by decide +kernel
theorem dX4_swapSeats_8 : decode cX4_swapSeats 8 = .ok (.iconst 2, 1) := by decide +kernel
theorem dX4_swapSeats_9 : decode cX4_swapSeats 9 = .ok (.iload_n 2, 1) := by decide +kernel
theorem dX4_swapSeats_10 : decode cX4_swapSeats 10 = .ok (.invokevirtual 15, 3) := by decide +kernel
theorem dX4_swapSeats_13 : decode cX4_swapSeats 13 = .ok (.istore 4, 2) := by decide +kernel
theorem dX4_swapSeats_15 : decode cX4_swapSeats 15 = .ok (.aload_n 0, 1) := by decide +kernel
theorem dX4_swapSeats_16 : decode cX4_swapSeats 16 = .ok (.iconst 2, 1) := by decide +kernel
theorem dX4_swapSeats_17 : decode cX4_swapSeats 17 = .ok (.iload_n 1, 1) := by decide +kernel
theorem dX4_swapSeats_18 : decode cX4_swapSeats 18 = .ok (.iload 4, 2) := by decide +kernel
theorem dX4_swapSeats_20 : decode cX4_swapSeats 20 = .ok (.invokevirtual 19, 3) := by decide +kernel
theorem dX4_swapSeats_23 : decode cX4_swapSeats 23 = .ok (.aload_n 0, 1) := by decide +kernel
theorem dX4_swapSeats_24 : decode cX4_swapSeats 24 = .ok (.iconst 2, 1) := by decide +kernel
theorem dX4_swapSeats_25 : decode cX4_swapSeats 25 = .ok (.iload_n 2, 1) := by decide +kernel
theorem dX4_swapSeats_26 : decode cX4_swapSeats 26 = .ok (.iload_n 3, 1) := by decide +kernel
theorem dX4_swapSeats_27 : decode cX4_swapSeats 27 = .ok (.invokevirtual 19, 3) := by decide +kernel
theorem dX4_swapSeats_30 : decode cX4_swapSeats 30 = .ok (.aload_n 0, 1) := by decide +kernel
theorem dX4_swapSeats_31 : decode cX4_swapSeats 31 = .ok (.bipush 6, 2) := by decide +kernel
theorem dX4_swapSeats_33 : decode cX4_swapSeats 33 = .ok (.iload 4, 2) := by decide +kernel
theorem dX4_swapSeats_35 : decode cX4_swapSeats 35 = .ok (.iload_n 1, 1) := by decide +kernel
theorem dX4_swapSeats_36 : decode cX4_swapSeats 36 = .ok (.invokevirtual 19, 3) := by decide +kernel
theorem dX4_swapSeats_39 : decode cX4_swapSeats 39 = .ok (.aload_n 0, 1) := by decide +kernel
theorem dX4_swapSeats_40 : decode cX4_swapSeats 40 = .ok (.bipush 6, 2) := by decide +kernel
theorem dX4_swapSeats_42 : decode cX4_swapSeats 42 = .ok (.iload_n 3, 1) := by decide +kernel
theorem dX4_swapSeats_43 : decode cX4_swapSeats 43 = .ok (.iload_n 2, 1) := by decide +kernel
theorem dX4_swapSeats_44 : decode cX4_swapSeats 44 = .ok (.invokevirtual 19, 3) := by decide +kernel
theorem dX4_swapSeats_47 : decode cX4_swapSeats 47 = .ok (.return_, 1) := by decide +kernel
theorem dX4_swapSlots_0 : decode cX4_swapSlots 0 = .ok (.aload_n 0, 1) := by decide +kernel
theorem dX4_swapSlots_1 : decode cX4_swapSlots 1 = .ok (.iconst 5, 1) := by decide +kernel
theorem dX4_swapSlots_2 : decode cX4_swapSlots 2 = .ok (.iload_n 1, 1) := by decide +kernel
theorem dX4_swapSlots_3 : decode cX4_swapSlots 3 = .ok (.invokevirtual 15, 3) := by decide +kernel
theorem dX4_swapSlots_6 : decode cX4_swapSlots 6 = .ok (.istore_n 3, 1) := by decide +kernel
theorem dX4_swapSlots_7 : decode cX4_swapSlots 7 = .ok (.aload_n 0, 1) := by decide +kernel
theorem dX4_swapSlots_8 : decode cX4_swapSlots 8 = .ok (.iload_n 1, 1) := by decide +kernel
theorem dX4_swapSlots_9 : decode cX4_swapSlots 9 = .ok (.aload_n 0, 1) := by decide +kernel
theorem dX4_swapSlots_10 : decode cX4_swapSlots 10 = .ok (.iconst 5, 1) := by decide +kernel
theorem dX4_swapSlots_11 : decode cX4_swapSlots 11 = .ok (.iload_n 2, 1) := by decide +kernel
theorem dX4_swapSlots_12 : decode cX4_swapSlots 12 = .ok (.invokevirtual 15, 3) := by decide +kernel
theorem dX4_swapSlots_15 : decode cX4_swapSlots 15 = .ok (.invokevirtual 39, 3) := by decide +kernel
theorem dX4_swapSlots_18 : decode cX4_swapSlots 18 = .ok (.aload_n 0, 1) := by decide +kernel
theorem dX4_swapSlots_19 : decode cX4_swapSlots 19 = .ok (.iload_n 2, 1) := by decide +kernel
theorem dX4_swapSlots_20 : decode cX4_swapSlots 20 = .ok (.iload_n 3, 1) := by decide +kernel
theorem dX4_swapSlots_21 : decode cX4_swapSlots 21 = .ok (.invokevirtual 39, 3) := by decide +kernel
theorem dX4_swapSlots_24 : decode cX4_swapSlots 24 = .ok (.return_, 1) := by decide +kernel
theorem dX4_turnLeft_0 : decode cX4_turnLeft 0 = .ok (.aload_n 0, 1) := by decide +kernel
theorem dX4_turnLeft_1 : decode cX4_turnLeft 1 = .ok (.aload_n 0, 1) := by decide +kernel
theorem dX4_turnLeft_2 : decode cX4_turnLeft 2 = .ok (.getfield 27, 3) := by decide +kernel
theorem dX4_turnLeft_5 : decode cX4_turnLeft 5 = .ok (.iload_n 1, 1) := by decide +kernel
theorem dX4_turnLeft_6 : decode cX4_turnLeft 6 = .ok (.iadd, 1) := by decide +kernel
theorem dX4_turnLeft_7 : decode cX4_turnLeft 7 = .ok (.aload_n 0, 1) := by decide +kernel
theorem dX4_turnLeft_8 : decode cX4_turnLeft 8 = .ok (.getfield 23, 3) := by decide +kernel
theorem dX4_turnLeft_11 : decode cX4_turnLeft 11 = .ok (.invokestatic 43, 3) := by decide +kernel
theorem dX4_turnLeft_14 : decode cX4_turnLeft 14 = .ok (.putfield 27, 3) := by decide +kernel
theorem dX4_turnLeft_17 : decode cX4_turnLeft 17 = .ok (.return_, 1) := by decide +kernel
theorem dX4_dishBefore_0 : decode cX4_dishBefore 0 = .ok (.aload_n 0, 1) := by decide +kernel
theorem dX4_dishBefore_1 : decode cX4_dishBefore 1 = .ok (.bipush 7, 2) := by decide +kernel
theorem dX4_dishBefore_3 : decode cX4_dishBefore 3 = .ok (.aload_n 0, 1) := by decide +kernel
theorem dX4_dishBefore_4 : decode cX4_dishBefore 4 = .ok (.iconst 2, 1) := by decide +kernel
theorem dX4_dishBefore_5 : decode cX4_dishBefore 5 = .ok (.iload_n 1, 1) := by decide +kernel
theorem dX4_dishBefore_6 : decode cX4_dishBefore 6 = .ok (.invokevirtual 15, 3) := by decide +kernel
theorem dX4_dishBefore_9 : decode cX4_dishBefore 9 = .ok (.aload_n 0, 1) := by decide +kernel
theorem dX4_dishBefore_10 : decode cX4_dishBefore 10 = .ok (.getfield 27, 3) := by decide +kernel
theorem dX4_dishBefore_13 : decode cX4_dishBefore 13 = .ok (.iadd, 1) := by decide +kernel
theorem dX4_dishBefore_14 : decode cX4_dishBefore 14 = .ok (.aload_n 0, 1) := by decide +kernel
theorem dX4_dishBefore_15 : decode cX4_dishBefore 15 = .ok (.getfield 23, 3) := by decide +kernel
theorem dX4_dishBefore_18 : decode cX4_dishBefore 18 = .ok (.invokestatic 43, 3) := by decide +kernel
theorem dX4_dishBefore_21 : decode cX4_dishBefore 21 = .ok (.invokevirtual 15, 3) := by decide +kernel
theorem dX4_dishBefore_24 : decode cX4_dishBefore 24 = .ok (.ireturn, 1) := by decide +kernel
theorem dX4_passMinute_0 : decode cX4_passMinute 0 = .ok (.aload_n 0, 1) := by decide +kernel
theorem dX4_passMinute_1 : decode cX4_passMinute 1 = .ok (.aload_n 0, 1) := by decide +kernel
theorem dX4_passMinute_2 : decode cX4_passMinute 2 = .ok (.bipush 6, 2) := by decide +kernel
theorem dX4_passMinute_4 : decode cX4_passMinute 4 = .ok (.aload_n 0, 1) := by decide +kernel
theorem dX4_passMinute_5 : decode cX4_passMinute 5 = .ok (.getfield 30, 3) := by decide +kernel
theorem dX4_passMinute_8 : decode cX4_passMinute 8 = .ok (.aload_n 0, 1) := by decide +kernel
theorem dX4_passMinute_9 : decode cX4_passMinute 9 = .ok (.getfield 23, 3) := by decide +kernel
theorem dX4_passMinute_12 : decode cX4_passMinute 12 = .ok (.invokestatic 43, 3) := by decide +kernel
theorem dX4_passMinute_15 : decode cX4_passMinute 15 = .ok (.invokevirtual 15, 3) := by decide +kernel
theorem dX4_passMinute_18 : decode cX4_passMinute 18 = .ok (.putfield 46, 3) := by decide +kernel
theorem dX4_passMinute_21 : decode cX4_passMinute 21 = .ok (.aload_n 0, 1) := by decide +kernel
theorem dX4_passMinute_22 : decode cX4_passMinute 22 = .ok (.aload_n 0, 1) := by decide +kernel
theorem dX4_passMinute_23 : decode cX4_passMinute 23 = .ok (.getfield 46, 3) := by decide +kernel
theorem dX4_passMinute_26 : decode cX4_passMinute 26 = .ok (.invokevirtual 49, 3) := by decide +kernel
theorem dX4_passMinute_29 : decode cX4_passMinute 29 = .ok (.istore_n 1, 1) := by decide +kernel
theorem dX4_passMinute_30 : decode cX4_passMinute 30 = .ok (.aload_n 0, 1) := by decide +kernel
theorem dX4_passMinute_31 : decode cX4_passMinute 31 = .ok (.iload_n 1, 1) := by decide +kernel
theorem dX4_passMinute_32 : decode cX4_passMinute 32 = .ok (.invokestatic 53, 3) := by decide +kernel
theorem dX4_passMinute_35 : decode cX4_passMinute 35 = .ok (.putfield 58, 3) := by decide +kernel
theorem dX4_passMinute_38 : decode cX4_passMinute 38 = .ok (.aload_n 0, 1) := by decide +kernel
theorem dX4_passMinute_39 : decode cX4_passMinute 39 = .ok (.iload_n 1, 1) := by decide +kernel
theorem dX4_passMinute_40 : decode cX4_passMinute 40 = .ok (.invokevirtual 61, 3) := by decide +kernel
theorem dX4_passMinute_43 : decode cX4_passMinute 43 = .ok (.aload_n 0, 1) := by decide +kernel
theorem dX4_passMinute_44 : decode cX4_passMinute 44 = .ok (.aload_n 0, 1) := by decide +kernel
theorem dX4_passMinute_45 : decode cX4_passMinute 45 = .ok (.aload_n 0, 1) := by decide +kernel
theorem dX4_passMinute_46 : decode cX4_passMinute 46 = .ok (.getfield 46, 3) := by decide +kernel
theorem dX4_passMinute_49 : decode cX4_passMinute 49 = .ok (.invokevirtual 65, 3) := by decide +kernel
theorem dX4_passMinute_52 : decode cX4_passMinute 52 = .ok (.putfield 68, 3) := by decide +kernel
theorem dX4_passMinute_55 : decode cX4_passMinute 55 = .ok (.aload_n 0, 1) := by decide +kernel
theorem dX4_passMinute_56 : decode cX4_passMinute 56 = .ok (.aload_n 0, 1) := by decide +kernel
theorem dX4_passMinute_57 : decode cX4_passMinute 57 = .ok (.aload_n 0, 1) := by decide +kernel
theorem dX4_passMinute_58 : decode cX4_passMinute 58 = .ok (.getfield 46, 3) := by decide +kernel
theorem dX4_passMinute_61 : decode cX4_passMinute 61 = .ok (.aload_n 0, 1) := by decide +kernel
theorem dX4_passMinute_62 : decode cX4_passMinute 62 = .ok (.getfield 68, 3) := by decide +kernel
theorem dX4_passMinute_65 : decode cX4_passMinute 65 = .ok (.invokevirtual 71, 3) := by decide +kernel
theorem dX4_passMinute_68 : decode cX4_passMinute 68 = .ok (.putfield 74, 3) := by decide +kernel
theorem dX4_passMinute_71 : decode cX4_passMinute 71 = .ok (.aload_n 0, 1) := by decide +kernel
theorem dX4_passMinute_72 : decode cX4_passMinute 72 = .ok (.iconst 4, 1) := by decide +kernel
theorem dX4_passMinute_73 : decode cX4_passMinute 73 = .ok (.aload_n 0, 1) := by decide +kernel
theorem dX4_passMinute_74 : decode cX4_passMinute 74 = .ok (.getfield 68, 3) := by decide +kernel
theorem dX4_passMinute_77 : decode cX4_passMinute 77 = .ok (.aload_n 0, 1) := by decide +kernel
theorem dX4_passMinute_78 : decode cX4_passMinute 78 = .ok (.getfield 74, 3) := by decide +kernel
theorem dX4_passMinute_81 : decode cX4_passMinute 81 = .ok (.ineg, 1) := by decide +kernel
theorem dX4_passMinute_82 : decode cX4_passMinute 82 = .ok (.invokevirtual 77, 3) := by decide +kernel
theorem dX4_passMinute_85 : decode cX4_passMinute 85 = .ok (.aload_n 0, 1) := by decide +kernel
theorem dX4_passMinute_86 : decode cX4_passMinute 86 = .ok (.iconst 3, 1) := by decide +kernel
theorem dX4_passMinute_87 : decode cX4_passMinute 87 = .ok (.aload_n 0, 1) := by decide +kernel
theorem dX4_passMinute_88 : decode cX4_passMinute 88 = .ok (.getfield 46, 3) := by decide +kernel
theorem dX4_passMinute_91 : decode cX4_passMinute 91 = .ok (.aload_n 0, 1) := by decide +kernel
theorem dX4_passMinute_92 : decode cX4_passMinute 92 = .ok (.getfield 74, 3) := by decide +kernel
theorem dX4_passMinute_95 : decode cX4_passMinute 95 = .ok (.invokevirtual 77, 3) := by decide +kernel
theorem dX4_passMinute_98 : decode cX4_passMinute 98 = .ok (.aload_n 0, 1) := by decide +kernel
theorem dX4_passMinute_99 : decode cX4_passMinute 99 = .ok (.dup, 1) := by decide +kernel
theorem dX4_passMinute_100 : decode cX4_passMinute 100 = .ok (.getfield 30, 3) := by decide +kernel
theorem dX4_passMinute_103 : decode cX4_passMinute 103 = .ok (.iconst 1, 1) := by decide +kernel
theorem dX4_passMinute_104 : decode cX4_passMinute 104 = .ok (.iadd, 1) := by decide +kernel
theorem dX4_passMinute_105 : decode cX4_passMinute 105 = .ok (.putfield 30, 3) := by decide +kernel
theorem dX4_passMinute_108 : decode cX4_passMinute 108 = .ok (.return_, 1) := by decide +kernel
theorem dX4_pushBy_0 : decode cX4_pushBy 0 = .ok (.aload_n 0, 1) := by decide +kernel
theorem dX4_pushBy_1 : decode cX4_pushBy 1 = .ok (.iconst 0, 1) := by decide +kernel
theorem dX4_pushBy_2 : decode cX4_pushBy 2 = .ok (.iload_n 1, 1) := by decide +kernel
theorem dX4_pushBy_3 : decode cX4_pushBy 3 = .ok (.invokevirtual 15, 3) := by decide +kernel
theorem dX4_pushBy_6 : decode cX4_pushBy 6 = .ok (.istore_n 2, 1) := by decide +kernel
theorem dX4_pushBy_7 : decode cX4_pushBy 7 = .ok (.aload_n 0, 1) := by decide +kernel
theorem dX4_pushBy_8 : decode cX4_pushBy 8 = .ok (.iconst 1, 1) := by decide +kernel
theorem dX4_pushBy_9 : decode cX4_pushBy 9 = .ok (.iload_n 1, 1) := by decide +kernel
theorem dX4_pushBy_10 : decode cX4_pushBy 10 = .ok (.invokevirtual 15, 3) := by decide +kernel
theorem dX4_pushBy_13 : decode cX4_pushBy 13 = .ok (.istore_n 3, 1) := by decide +kernel
theorem dX4_pushBy_14 : decode cX4_pushBy 14 = .ok (.iload_n 2, 1) := by decide +kernel
theorem dX4_pushBy_15 : decode cX4_pushBy 15 = .ok (.iconst 5, 1) := by decide +kernel
theorem dX4_pushBy_16 : decode cX4_pushBy 16 = .ok (.if_icmp .ne 5, 3) := by decide +kernel
theorem dX4_pushBy_19 : decode cX4_pushBy 19 = .ok (.iconst 1, 1) := by decide +kernel
theorem dX4_pushBy_20 : decode cX4_pushBy 20 = .ok (.ireturn, 1) := by decide +kernel
theorem dX4_pushBy_21 : decode cX4_pushBy 21 = .ok (.iload_n 2, 1) := by decide +kernel
theorem dX4_pushBy_22 : decode cX4_pushBy 22 = .ok (.iconst 4, 1) := by decide +kernel
theorem dX4_pushBy_23 : decode cX4_pushBy 23 = .ok (.if_icmp .eq 20, 3) := by decide +kernel
theorem dX4_pushBy_26 : decode cX4_pushBy 26 = .ok (.aload_n 0, 1) := by decide +kernel
theorem dX4_pushBy_27 : decode cX4_pushBy 27 = .ok (.iload_n 3, 1) := by decide +kernel
theorem dX4_pushBy_28 : decode cX4_pushBy 28 = .ok (.invokevirtual 80, 3) := by decide +kernel
theorem dX4_pushBy_31 : decode cX4_pushBy 31 = .ok (.ifCond .eq 12, 3) := by decide +kernel
theorem dX4_pushBy_34 : decode cX4_pushBy 34 = .ok (.aload_n 0, 1) := by decide +kernel
theorem dX4_pushBy_35 : decode cX4_pushBy 35 = .ok (.iconst 4, 1) := by decide +kernel
theorem dX4_pushBy_36 : decode cX4_pushBy 36 = .ok (.iload_n 3, 1) := by decide +kernel
theorem dX4_pushBy_37 : decode cX4_pushBy 37 = .ok (.invokevirtual 15, 3) := by decide +kernel
theorem dX4_pushBy_40 : decode cX4_pushBy 40 = .ok (.ifCond .ne 5, 3) := by decide +kernel
theorem dX4_pushBy_43 : decode cX4_pushBy 43 = .ok (.iconst 0, 1) := by decide +kernel
theorem dX4_pushBy_44 : decode cX4_pushBy 44 = .ok (.ireturn, 1) := by decide +kernel
theorem dX4_pushBy_45 : decode cX4_pushBy 45 = .ok (.iconst 1, 1) := by decide +kernel
theorem dX4_pushBy_46 : decode cX4_pushBy 46 = .ok (.aload_n 0, 1) := by decide +kernel
theorem dX4_pushBy_47 : decode cX4_pushBy 47 = .ok (.getfield 23, 3) := by decide +kernel
theorem dX4_pushBy_50 : decode cX4_pushBy 50 = .ok (.iconst 4, 1) := by decide +kernel
theorem dX4_pushBy_51 : decode cX4_pushBy 51 = .ok (.idiv, 1) := by decide +kernel
theorem dX4_pushBy_52 : decode cX4_pushBy 52 = .ok (.invokestatic 84, 3) := by decide +kernel
theorem dX4_pushBy_55 : decode cX4_pushBy 55 = .ok (.istore 4, 2) := by decide +kernel
theorem dX4_pushBy_57 : decode cX4_pushBy 57 = .ok (.aload_n 0, 1) := by decide +kernel
theorem dX4_pushBy_58 : decode cX4_pushBy 58 = .ok (.iload_n 1, 1) := by decide +kernel
theorem dX4_pushBy_59 : decode cX4_pushBy 59 = .ok (.iload_n 3, 1) := by decide +kernel
theorem dX4_pushBy_60 : decode cX4_pushBy 60 = .ok (.invokevirtual 87, 3) := by decide +kernel
theorem dX4_pushBy_63 : decode cX4_pushBy 63 = .ok (.istore 5, 2) := by decide +kernel
theorem dX4_pushBy_65 : decode cX4_pushBy 65 = .ok (.aload_n 0, 1) := by decide +kernel
theorem dX4_pushBy_66 : decode cX4_pushBy 66 = .ok (.getfield 23, 3) := by decide +kernel
theorem dX4_pushBy_69 : decode cX4_pushBy 69 = .ok (.iload 5, 2) := by decide +kernel
theorem dX4_pushBy_71 : decode cX4_pushBy 71 = .ok (.isub, 1) := by decide +kernel
theorem dX4_pushBy_72 : decode cX4_pushBy 72 = .ok (.istore 6, 2) := by decide +kernel
theorem dX4_pushBy_74 : decode cX4_pushBy 74 = .ok (.iload 5, 2) := by decide +kernel
theorem dX4_pushBy_76 : decode cX4_pushBy 76 = .ok (.iload 6, 2) := by decide +kernel
theorem dX4_pushBy_78 : decode cX4_pushBy 78 = .ok (.if_icmp .gt 13, 3) := by decide +kernel
theorem dX4_pushBy_81 : decode cX4_pushBy 81 = .ok (.iload 5, 2) := by decide +kernel
theorem dX4_pushBy_83 : decode cX4_pushBy 83 = .ok (.iload 4, 2) := by decide +kernel
theorem dX4_pushBy_85 : decode cX4_pushBy 85 = .ok (.invokestatic 90, 3) := by decide +kernel
theorem dX4_pushBy_88 : decode cX4_pushBy 88 = .ok (.goto 11, 3) := by decide +kernel
theorem dX4_pushBy_91 : decode cX4_pushBy 91 = .ok (.iload 6, 2) := by decide +kernel
theorem dX4_pushBy_93 : decode cX4_pushBy 93 = .ok (.iload 4, 2) := by decide +kernel
theorem dX4_pushBy_95 : decode cX4_pushBy 95 = .ok (.invokestatic 90, 3) := by decide +kernel
theorem dX4_pushBy_98 : decode cX4_pushBy 98 = .ok (.ineg, 1) := by decide +kernel
theorem dX4_pushBy_99 : decode cX4_pushBy 99 = .ok (.ireturn, 1) := by decide +kernel
theorem dX4_toTheLeft_0 : decode cX4_toTheLeft 0 = .ok (.aload_n 0, 1) := by decide +kernel
theorem dX4_toTheLeft_1 : decode cX4_toTheLeft 1 = .ok (.iconst 5, 1) := by decide +kernel
theorem dX4_toTheLeft_2 : decode cX4_toTheLeft 2 = .ok (.iload_n 2, 1) := by decide +kernel
theorem dX4_toTheLeft_3 : decode cX4_toTheLeft 3 = .ok (.invokevirtual 15, 3) := by decide +kernel
theorem dX4_toTheLeft_6 : decode cX4_toTheLeft 6 = .ok (.aload_n 0, 1) := by decide +kernel
theorem dX4_toTheLeft_7 : decode cX4_toTheLeft 7 = .ok (.iconst 2, 1) := by decide +kernel
theorem dX4_toTheLeft_8 : decode cX4_toTheLeft 8 = .ok (.iload_n 1, 1) := by decide +kernel
theorem dX4_toTheLeft_9 : decode cX4_toTheLeft 9 = .ok (.invokevirtual 15, 3) := by decide +kernel
theorem dX4_toTheLeft_12 : decode cX4_toTheLeft 12 = .ok (.isub, 1) := by decide +kernel
theorem dX4_toTheLeft_13 : decode cX4_toTheLeft 13 = .ok (.aload_n 0, 1) := by decide +kernel
theorem dX4_toTheLeft_14 : decode cX4_toTheLeft 14 = .ok (.getfield 27, 3) := by decide +kernel
theorem dX4_toTheLeft_17 : decode cX4_toTheLeft 17 = .ok (.isub, 1) := by decide +kernel
theorem dX4_toTheLeft_18 : decode cX4_toTheLeft 18 = .ok (.aload_n 0, 1) := by decide +kernel
theorem dX4_toTheLeft_19 : decode cX4_toTheLeft 19 = .ok (.getfield 23, 3) := by decide +kernel
theorem dX4_toTheLeft_22 : decode cX4_toTheLeft 22 = .ok (.invokestatic 43, 3) := by decide +kernel
theorem dX4_toTheLeft_25 : decode cX4_toTheLeft 25 = .ok (.ireturn, 1) := by decide +kernel
theorem dX4_biteOf_0 : decode cX4_biteOf 0 = .ok (.aload_n 0, 1) := by decide +kernel
theorem dX4_biteOf_1 : decode cX4_biteOf 1 = .ok (.iconst 0, 1) := by decide +kernel
theorem dX4_biteOf_2 : decode cX4_biteOf 2 = .ok (.iload_n 1, 1) := by decide +kernel
theorem dX4_biteOf_3 : decode cX4_biteOf 3 = .ok (.invokevirtual 15, 3) := by decide +kernel
theorem dX4_biteOf_6 : decode cX4_biteOf 6 = .ok (.istore_n 3, 1) := by decide +kernel
theorem dX4_biteOf_7 : decode cX4_biteOf 7 = .ok (.aload_n 0, 1) := by decide +kernel
theorem dX4_biteOf_8 : decode cX4_biteOf 8 = .ok (.iconst 4, 1) := by decide +kernel
theorem dX4_biteOf_9 : decode cX4_biteOf 9 = .ok (.iload_n 2, 1) := by decide +kernel
theorem dX4_biteOf_10 : decode cX4_biteOf 10 = .ok (.invokevirtual 15, 3) := by decide +kernel
theorem dX4_biteOf_13 : decode cX4_biteOf 13 = .ok (.istore 4, 2) := by decide +kernel
theorem dX4_biteOf_15 : decode cX4_biteOf 15 = .ok (.iload_n 3, 1) := by decide +kernel
theorem dX4_biteOf_16 : decode cX4_biteOf 16 = .ok (.iconst 3, 1) := by decide +kernel
theorem dX4_biteOf_17 : decode cX4_biteOf 17 = .ok (.if_icmp .eq 8, 3) := by decide +kernel
theorem dX4_biteOf_20 : decode cX4_biteOf 20 = .ok (.iload_n 3, 1) := by decide +kernel
theorem dX4_biteOf_21 : decode cX4_biteOf 21 = .ok (.iconst 5, 1) := by decide +kernel
theorem dX4_biteOf_22 : decode cX4_biteOf 22 = .ok (.if_icmp .ne 7, 3) := by decide +kernel
theorem dX4_biteOf_25 : decode cX4_biteOf 25 = .ok (.iconst 1, 1) := by decide +kernel
theorem dX4_biteOf_26 : decode cX4_biteOf 26 = .ok (.goto 4, 3) := by decide +kernel
theorem dX4_biteOf_29 : decode cX4_biteOf 29 = .ok (.iconst 0, 1) := by decide +kernel
theorem dX4_biteOf_30 : decode cX4_biteOf 30 = .ok (.istore 5, 2) := by decide +kernel
theorem dX4_biteOf_32 : decode cX4_biteOf 32 = .ok (.iload 5, 2) := by decide +kernel
theorem dX4_biteOf_34 : decode cX4_biteOf 34 = .ok (.ifCond .ne 15, 3) := by decide +kernel
theorem dX4_biteOf_37 : decode cX4_biteOf 37 = .ok (.aload_n 0, 1) := by decide +kernel
theorem dX4_biteOf_38 : decode cX4_biteOf 38 = .ok (.iconst 1, 1) := by decide +kernel
theorem dX4_biteOf_39 : decode cX4_biteOf 39 = .ok (.iload_n 1, 1) := by decide +kernel
theorem dX4_biteOf_40 : decode cX4_biteOf 40 = .ok (.invokevirtual 15, 3) := by decide +kernel
theorem dX4_biteOf_43 : decode cX4_biteOf 43 = .ok (.iload_n 2, 1) := by decide +kernel
theorem dX4_biteOf_44 : decode cX4_biteOf 44 = .ok (.if_icmp .eq 5, 3) := by decide +kernel
theorem dX4_biteOf_47 : decode cX4_biteOf 47 = .ok (.iconst 0, 1) := by decide +kernel
theorem dX4_biteOf_48 : decode cX4_biteOf 48 = .ok (.ireturn, 1) := by decide +kernel
theorem dX4_biteOf_49 : decode cX4_biteOf 49 = .ok (.iload 4, 2) := by decide +kernel
theorem dX4_biteOf_51 : decode cX4_biteOf 51 = .ok (.iload_n 3, 1) := by decide +kernel
theorem dX4_biteOf_52 : decode cX4_biteOf 52 = .ok (.iconst 2, 1) := by decide +kernel
theorem dX4_biteOf_53 : decode cX4_biteOf 53 = .ok (.if_icmp .ne 7, 3) := by decide +kernel
theorem dX4_biteOf_56 : decode cX4_biteOf 56 = .ok (.iconst 2, 1) := by decide +kernel
theorem dX4_biteOf_57 : decode cX4_biteOf 57 = .ok (.goto 4, 3) := by decide +kernel
theorem dX4_biteOf_60 : decode cX4_biteOf 60 = .ok (.iconst 1, 1) := by decide +kernel
theorem dX4_biteOf_61 : decode cX4_biteOf 61 = .ok (.invokestatic 90, 3) := by decide +kernel
theorem dX4_biteOf_64 : decode cX4_biteOf 64 = .ok (.ireturn, 1) := by decide +kernel
theorem dX4_portionsOfAll_0 : decode cX4_portionsOfAll 0 = .ok (.iconst 0, 1) := by decide +kernel
theorem dX4_portionsOfAll_1 : decode cX4_portionsOfAll 1 = .ok (.istore_n 1, 1) := by decide +kernel
theorem dX4_portionsOfAll_2 : decode cX4_portionsOfAll 2 = .ok (.iconst 0, 1) := by decide +kernel
theorem dX4_portionsOfAll_3 : decode cX4_portionsOfAll 3 = .ok (.istore_n 2, 1) := by decide +kernel
theorem dX4_portionsOfAll_4 : decode cX4_portionsOfAll 4 = .ok (.iload_n 2, 1) := by decide +kernel
theorem dX4_portionsOfAll_5 : decode cX4_portionsOfAll 5 = .ok (.aload_n 0, 1) := by decide +kernel
theorem dX4_portionsOfAll_6 : decode cX4_portionsOfAll 6 = .ok (.getfield 23, 3) := by decide +kernel
theorem dX4_portionsOfAll_9 : decode cX4_portionsOfAll 9 = .ok (.if_icmp .ge 18, 3) := by decide +kernel
theorem dX4_portionsOfAll_12 : decode cX4_portionsOfAll 12 = .ok (.iload_n 1, 1) := by decide +kernel
theorem dX4_portionsOfAll_13 : decode cX4_portionsOfAll 13 = .ok (.aload_n 0, 1) := by decide +kernel
theorem dX4_portionsOfAll_14 : decode cX4_portionsOfAll 14 = .ok (.iconst 4, 1) := by decide +kernel
theorem dX4_portionsOfAll_15 : decode cX4_portionsOfAll 15 = .ok (.iload_n 2, 1) := by decide +kernel
theorem dX4_portionsOfAll_16 : decode cX4_portionsOfAll 16 = .ok (.invokevirtual 15, 3) := by decide +kernel
theorem dX4_portionsOfAll_19 : decode cX4_portionsOfAll 19 = .ok (.iadd, 1) := by decide +kernel
theorem dX4_portionsOfAll_20 : decode cX4_portionsOfAll 20 = .ok (.istore_n 1, 1) := by decide +kernel
theorem dX4_portionsOfAll_21 : decode cX4_portionsOfAll 21 = .ok (.iinc 2 1, 3) := by decide +kernel
theorem dX4_portionsOfAll_24 : decode cX4_portionsOfAll 24 = .ok (.goto (-20), 3) := by decide +kernel
theorem dX4_portionsOfAll_27 : decode cX4_portionsOfAll 27 = .ok (.iload_n 1, 1) := by decide +kernel
theorem dX4_portionsOfAll_28 : decode cX4_portionsOfAll 28 = .ok (.ireturn, 1) := by decide +kernel
theorem dX4_whoAteNothing_0 : decode cX4_whoAteNothing 0 = .ok (.iconst 0, 1) := by decide +kernel
theorem dX4_whoAteNothing_1 : decode cX4_whoAteNothing 1 = .ok (.istore_n 1, 1) := by decide +kernel
theorem dX4_whoAteNothing_2 : decode cX4_whoAteNothing 2 = .ok (.iconst 0, 1) := by decide +kernel
theorem dX4_whoAteNothing_3 : decode cX4_whoAteNothing 3 = .ok (.istore_n 2, 1) := by decide +kernel
theorem dX4_whoAteNothing_4 : decode cX4_whoAteNothing 4 = .ok (.iload_n 2, 1) := by decide +kernel
theorem dX4_whoAteNothing_5 : decode cX4_whoAteNothing 5 = .ok (.aload_n 0, 1) := by decide +kernel
theorem dX4_whoAteNothing_6 : decode cX4_whoAteNothing 6 = .ok (.getfield 23, 3) := by decide +kernel
theorem dX4_whoAteNothing_9 : decode cX4_whoAteNothing 9 = .ok (.if_icmp .ge 24, 3) := by decide +kernel
theorem dX4_whoAteNothing_12 : decode cX4_whoAteNothing 12 = .ok (.aload_n 0, 1) := by decide +kernel
theorem dX4_whoAteNothing_13 : decode cX4_whoAteNothing 13 = .ok (.iconst 3, 1) := by decide +kernel
theorem dX4_whoAteNothing_14 : decode cX4_whoAteNothing 14 = .ok (.iload_n 2, 1) := by decide +kernel
theorem dX4_whoAteNothing_15 : decode cX4_whoAteNothing 15 = .ok (.invokevirtual 15, 3) := by decide +kernel
theorem dX4_whoAteNothing_18 : decode cX4_whoAteNothing 18 = .ok (.ifCond .ne 9, 3) := by decide +kernel
theorem dX4_whoAteNothing_21 : decode cX4_whoAteNothing 21 = .ok (.iload_n 1, 1) := by decide +kernel
theorem dX4_whoAteNothing_22 : decode cX4_whoAteNothing 22 = .ok (.iconst 1, 1) := by decide +kernel
theorem dX4_whoAteNothing_23 : decode cX4_whoAteNothing 23 = .ok (.iload_n 2, 1) := by decide +kernel
theorem dX4_whoAteNothing_24 : decode cX4_whoAteNothing 24 = .ok (.ishl, 1) := by decide +kernel
theorem dX4_whoAteNothing_25 : decode cX4_whoAteNothing 25 = .ok (.ior, 1) := by decide +kernel
theorem dX4_whoAteNothing_26 : decode cX4_whoAteNothing 26 = .ok (.istore_n 1, 1) := by decide +kernel
theorem dX4_whoAteNothing_27 : decode cX4_whoAteNothing 27 = .ok (.iinc 2 1, 3) := by decide +kernel
theorem dX4_whoAteNothing_30 : decode cX4_whoAteNothing 30 = .ok (.goto (-26), 3) := by decide +kernel
theorem dX4_whoAteNothing_33 : decode cX4_whoAteNothing 33 = .ok (.iload_n 1, 1) := by decide +kernel
theorem dX4_whoAteNothing_34 : decode cX4_whoAteNothing 34 = .ok (.ireturn, 1) := by decide +kernel
theorem dX5_init_0 : decode cX5_init 0 = .ok (.aload_n 0, 1) := by decide +kernel
theorem dX5_init_1 : decode cX5_init 1 = .ok (.invokespecial 3, 3) := by decide +kernel
theorem dX5_init_4 : decode cX5_init 4 = .ok (.aload_n 0, 1) := by decide +kernel
theorem dX5_init_5 : decode cX5_init 5 = .ok (.new 9, 3) := by decide +kernel
theorem dX5_init_8 : decode cX5_init 8 = .ok (.dup, 1) := by decide +kernel
theorem dX5_init_9 : decode cX5_init 9 = .ok (.invokespecial 11, 3) := by decide +kernel
theorem dX5_init_12 : decode cX5_init 12 = .ok (.putfield 12, 3) := by decide +kernel
theorem dX5_init_15 : decode cX5_init 15 = .ok (.aload_n 0, 1) := by decide +kernel
theorem dX5_init_16 : decode cX5_init 16 = .ok (.new 18, 3) := by decide +kernel
theorem dX5_init_19 : decode cX5_init 19 = .ok (.dup, 1) := by decide +kernel
theorem dX5_init_20 : decode cX5_init 20 = .ok (.invokespecial 20, 3) := by decide +kernel
theorem dX5_init_23 : decode cX5_init 23 = .ok (.putfield 21, 3) := by decide +kernel
theorem dX5_init_26 : decode cX5_init 26 = .ok (.return_, 1) := by decide +kernel
theorem dX5_read_0 : decode cX5_read 0 = .ok (.aload_n 0, 1) := by decide +kernel
theorem dX5_read_1 : decode cX5_read 1 = .ok (.getfield 21, 3) := by decide +kernel
theorem dX5_read_4 : decode cX5_read 4 = .ok (.invokevirtual 25, 3) := by decide +kernel
theorem dX5_read_7 : decode cX5_read 7 = .ok (.aload_n 0, 1) := by decide +kernel
theorem dX5_read_8 : decode cX5_read 8 = .ok (.iconst 0, 1) := by decide +kernel
theorem dX5_read_9 : decode cX5_read 9 = .ok (.putfield 28, 3) := by decide +kernel
theorem dX5_read_12 : decode cX5_read 12 = .ok (.aload_n 0, 1) := by decide +kernel
theorem dX5_read_13 : decode cX5_read 13 = .ok (.iconst 0, 1) := by decide +kernel
theorem dX5_read_14 : decode cX5_read 14 = .ok (.putfield 32, 3) := by decide +kernel
theorem dX5_read_17 : decode cX5_read 17 = .ok (.aload_n 0, 1) := by decide +kernel
theorem dX5_read_18 : decode cX5_read 18 = .ok (.invokevirtual 35, 3) := by decide +kernel
theorem dX5_read_21 : decode cX5_read 21 = .ok (.aload_n 0, 1) := by decide +kernel
theorem dX5_read_22 : decode cX5_read 22 = .ok (.aload_n 0, 1) := by decide +kernel
theorem dX5_read_23 : decode cX5_read 23 = .ok (.ldc 38, 2) := by decide +kernel
theorem dX5_read_25 : decode cX5_read 25 = .ok (.invokevirtual 40, 3) := by decide +kernel
theorem dX5_read_28 : decode cX5_read 28 = .ok (.ifCond .eq 7, 3) := by decide +kernel
theorem dX5_read_31 : decode cX5_read 31 = .ok (.iconst 0, 1) := by decide +kernel
theorem dX5_read_32 : decode cX5_read 32 = .ok (.goto 4, 3) := by decide +kernel
theorem dX5_read_35 : decode cX5_read 35 = .ok (.iconst 1, 1) := by decide +kernel
theorem dX5_read_36 : decode cX5_read 36 = .ok (.putfield 44, 3) := by decide +kernel
theorem dX5_read_39 : decode cX5_read 39 = .ok (.iconst 0, 1) := by decide +kernel
theorem dX5_read_40 : decode cX5_read 40 = .ok (.istore_n 1, 1) := by decide +kernel
theorem dX5_read_41 : decode cX5_read 41 = .ok (.iload_n 1, 1) := by decide +kernel
theorem dX5_read_42 : decode cX5_read 42 = .ok (.bipush 6, 2) := by decide +kernel
theorem dX5_read_44 : decode cX5_read 44 = .ok (.if_icmp .gt 29, 3) := by decide +kernel
theorem dX5_read_47 : decode cX5_read 47 = .ok (.aload_n 0, 1) := by decide +kernel
theorem dX5_read_48 : decode cX5_read 48 = .ok (.getfield 44, 3) := by decide +kernel
theorem dX5_read_51 : decode cX5_read 51 = .ok (.ifCond .ne 22, 3) := by decide +kernel
theorem dX5_read_54 : decode cX5_read 54 = .ok (.aload_n 0, 1) := by decide +kernel
theorem dX5_read_55 : decode cX5_read 55 = .ok (.ldc 38, 2) := by decide +kernel
theorem dX5_read_57 : decode cX5_read 57 = .ok (.invokevirtual 40, 3) := by decide +kernel
theorem dX5_read_60 : decode cX5_read 60 = .ok (.ifCond .eq 13, 3) := by decide +kernel
theorem dX5_read_63 : decode cX5_read 63 = .ok (.aload_n 0, 1) := by decide +kernel
theorem dX5_read_64 : decode cX5_read 64 = .ok (.invokevirtual 47, 3) := by decide +kernel
theorem dX5_read_67 : decode cX5_read 67 = .ok (.iinc 1 1, 3) := by decide +kernel
theorem dX5_read_70 : decode cX5_read 70 = .ok (.goto (-29), 3) := by decide +kernel
theorem dX5_read_73 : decode cX5_read 73 = .ok (.iconst 0, 1) := by decide +kernel
theorem dX5_read_74 : decode cX5_read 74 = .ok (.istore_n 1, 1) := by decide +kernel
theorem dX5_read_75 : decode cX5_read 75 = .ok (.iload_n 1, 1) := by decide +kernel
theorem dX5_read_76 : decode cX5_read 76 = .ok (.bipush 6, 2) := by decide +kernel
theorem dX5_read_78 : decode cX5_read 78 = .ok (.if_icmp .gt 29, 3) := by decide +kernel
theorem dX5_read_81 : decode cX5_read 81 = .ok (.aload_n 0, 1) := by decide +kernel
theorem dX5_read_82 : decode cX5_read 82 = .ok (.getfield 44, 3) := by decide +kernel
theorem dX5_read_85 : decode cX5_read 85 = .ok (.ifCond .ne 22, 3) := by decide +kernel
theorem dX5_read_88 : decode cX5_read 88 = .ok (.aload_n 0, 1) := by decide +kernel
theorem dX5_read_89 : decode cX5_read 89 = .ok (.ldc 50, 2) := by decide +kernel
theorem dX5_read_91 : decode cX5_read 91 = .ok (.invokevirtual 40, 3) := by decide +kernel
theorem dX5_read_94 : decode cX5_read 94 = .ok (.ifCond .eq 13, 3) := by decide +kernel
theorem dX5_read_97 : decode cX5_read 97 = .ok (.aload_n 0, 1) := by decide +kernel
theorem dX5_read_98 : decode cX5_read 98 = .ok (.invokevirtual 52, 3) := by decide +kernel
theorem dX5_read_101 : decode cX5_read 101 = .ok (.iinc 1 1, 3) := by decide +kernel
end
section
theorem dX5_read_104 : decode cX5_read 104 = .ok (.goto (-29), 3) := by decide +kernel
theorem dX5_read_107 : decode cX5_read 107 = .ok (.aload_n 0, 1) := by decide +kernel
theorem dX5_read_108 : decode cX5_read 108 = .ok (.getfield 44, 3) := by decide +kernel
theorem dX5_read_111 : decode cX5_read 111 = .ok (.ifCond .ne 16, 3) := by decide +kernel
theorem dX5_read_114 : decode cX5_read 114 = .ok (.aload_n 0, 1) := by decide +kernel
theorem dX5_read_115 : decode cX5_read 115 = .ok (.getfield 55, 3) := by decide +kernel
theorem dX5_read_118 : decode cX5_read 118 = .ok (.iconst 3, 1) := by decide +kernel
theorem dX5_read_119 : decode cX5_read 119 = .ok (.if_icmp .eq 8, 3) := by decide +kernel
theorem dX5_read_122 : decode cX5_read 122 = .ok (.aload_n 0, 1) := by decide +kernel
theorem dX5_read_123 : decode cX5_read 123 = .ok (.iconst 1, 1) := by decide +kernel
theorem dX5_read_124 : decode cX5_read 124 = .ok (.putfield 44, 3) := by decide +kernel
theorem dX5_read_127 : decode cX5_read 127 = .ok (.return_, 1) := by decide +kernel
theorem dX5_readGuest_0 : decode cX5_readGuest 0 = .ok (.aload_n 0, 1) := by decide +kernel
theorem dX5_readGuest_1 : decode cX5_readGuest 1 = .ok (.getfield 21, 3) := by decide +kernel
theorem dX5_readGuest_4 : decode cX5_readGuest 4 = .ok (.getfield 58, 3) := by decide +kernel
theorem dX5_readGuest_7 : decode cX5_readGuest 7 = .ok (.bipush 6, 2) := by decide +kernel
theorem dX5_readGuest_9 : decode cX5_readGuest 9 = .ok (.if_icmp .lt 9, 3) := by decide +kernel
theorem dX5_readGuest_12 : decode cX5_readGuest 12 = .ok (.aload_n 0, 1) := by decide +kernel
theorem dX5_readGuest_13 : decode cX5_readGuest 13 = .ok (.iconst 3, 1) := by decide +kernel
theorem dX5_readGuest_14 : decode cX5_readGuest 14 = .ok (.putfield 44, 3) := by decide +kernel
theorem dX5_readGuest_17 : decode cX5_readGuest 17 = .ok (.return_, 1) := by decide +kernel
theorem dX5_readGuest_18 : decode cX5_readGuest 18 = .ok (.aload_n 0, 1) := by decide +kernel
theorem dX5_readGuest_19 : decode cX5_readGuest 19 = .ok (.invokevirtual 35, 3) := by decide +kernel
theorem dX5_readGuest_22 : decode cX5_readGuest 22 = .ok (.aload_n 0, 1) := by decide +kernel
theorem dX5_readGuest_23 : decode cX5_readGuest 23 = .ok (.invokevirtual 61, 3) := by decide +kernel
theorem dX5_readGuest_26 : decode cX5_readGuest 26 = .ok (.istore_n 1, 1) := by decide +kernel
theorem dX5_readGuest_27 : decode cX5_readGuest 27 = .ok (.iload_n 1, 1) := by decide +kernel
theorem dX5_readGuest_28 : decode cX5_readGuest 28 = .ok (.ifCond .ne 9, 3) := by decide +kernel
theorem dX5_readGuest_31 : decode cX5_readGuest 31 = .ok (.aload_n 0, 1) := by decide +kernel
theorem dX5_readGuest_32 : decode cX5_readGuest 32 = .ok (.iconst 1, 1) := by decide +kernel
theorem dX5_readGuest_33 : decode cX5_readGuest 33 = .ok (.putfield 44, 3) := by decide +kernel
theorem dX5_readGuest_36 : decode cX5_readGuest 36 = .ok (.return_, 1) := by decide +kernel
theorem dX5_readGuest_37 : decode cX5_readGuest 37 = .ok (.aload_n 0, 1) := by decide +kernel
theorem dX5_readGuest_38 : decode cX5_readGuest 38 = .ok (.invokevirtual 35, 3) := by decide +kernel
theorem dX5_readGuest_41 : decode cX5_readGuest 41 = .ok (.aload_n 0, 1) := by decide +kernel
theorem dX5_readGuest_42 : decode cX5_readGuest 42 = .ok (.iconst 5, 1) := by decide +kernel
theorem dX5_readGuest_43 : decode cX5_readGuest 43 = .ok (.invokevirtual 65, 3) := by decide +kernel
theorem dX5_readGuest_46 : decode cX5_readGuest 46 = .ok (.istore_n 2, 1) := by decide +kernel
theorem dX5_readGuest_47 : decode cX5_readGuest 47 = .ok (.aload_n 0, 1) := by decide +kernel
theorem dX5_readGuest_48 : decode cX5_readGuest 48 = .ok (.getfield 44, 3) := by decide +kernel
theorem dX5_readGuest_51 : decode cX5_readGuest 51 = .ok (.ifCond .ne 12, 3) := by decide +kernel
theorem dX5_readGuest_54 : decode cX5_readGuest 54 = .ok (.aload_n 0, 1) := by decide +kernel
theorem dX5_readGuest_55 : decode cX5_readGuest 55 = .ok (.getfield 21, 3) := by decide +kernel
theorem dX5_readGuest_58 : decode cX5_readGuest 58 = .ok (.iload_n 1, 1) := by decide +kernel
theorem dX5_readGuest_59 : decode cX5_readGuest 59 = .ok (.iload_n 2, 1) := by decide +kernel
theorem dX5_readGuest_60 : decode cX5_readGuest 60 = .ok (.invokevirtual 69, 3) := by decide +kernel
theorem dX5_readGuest_63 : decode cX5_readGuest 63 = .ok (.return_, 1) := by decide +kernel
theorem dX5_readDish_0 : decode cX5_readDish 0 = .ok (.aload_n 0, 1) := by decide +kernel
theorem dX5_readDish_1 : decode cX5_readDish 1 = .ok (.getfield 32, 3) := by decide +kernel
theorem dX5_readDish_4 : decode cX5_readDish 4 = .ok (.aload_n 0, 1) := by decide +kernel
theorem dX5_readDish_5 : decode cX5_readDish 5 = .ok (.getfield 21, 3) := by decide +kernel
theorem dX5_readDish_8 : decode cX5_readDish 8 = .ok (.getfield 58, 3) := by decide +kernel
theorem dX5_readDish_11 : decode cX5_readDish 11 = .ok (.if_icmp .lt 9, 3) := by decide +kernel
theorem dX5_readDish_14 : decode cX5_readDish 14 = .ok (.aload_n 0, 1) := by decide +kernel
theorem dX5_readDish_15 : decode cX5_readDish 15 = .ok (.iconst 3, 1) := by decide +kernel
theorem dX5_readDish_16 : decode cX5_readDish 16 = .ok (.putfield 44, 3) := by decide +kernel
theorem dX5_readDish_19 : decode cX5_readDish 19 = .ok (.return_, 1) := by decide +kernel
theorem dX5_readDish_20 : decode cX5_readDish 20 = .ok (.aload_n 0, 1) := by decide +kernel
theorem dX5_readDish_21 : decode cX5_readDish 21 = .ok (.invokevirtual 35, 3) := by decide +kernel
theorem dX5_readDish_24 : decode cX5_readDish 24 = .ok (.aload_n 0, 1) := by decide +kernel
theorem dX5_readDish_25 : decode cX5_readDish 25 = .ok (.bipush 30, 2) := by decide +kernel
theorem dX5_readDish_27 : decode cX5_readDish 27 = .ok (.invokevirtual 65, 3) := by decide +kernel
theorem dX5_readDish_30 : decode cX5_readDish 30 = .ok (.istore_n 1, 1) := by decide +kernel
theorem dX5_readDish_31 : decode cX5_readDish 31 = .ok (.aload_n 0, 1) := by decide +kernel
theorem dX5_readDish_32 : decode cX5_readDish 32 = .ok (.getfield 44, 3) := by decide +kernel
theorem dX5_readDish_35 : decode cX5_readDish 35 = .ok (.ifCond .ne 26, 3) := by decide +kernel
theorem dX5_readDish_38 : decode cX5_readDish 38 = .ok (.aload_n 0, 1) := by decide +kernel
theorem dX5_readDish_39 : decode cX5_readDish 39 = .ok (.getfield 21, 3) := by decide +kernel
theorem dX5_readDish_42 : decode cX5_readDish 42 = .ok (.iconst 4, 1) := by decide +kernel
theorem dX5_readDish_43 : decode cX5_readDish 43 = .ok (.aload_n 0, 1) := by decide +kernel
theorem dX5_readDish_44 : decode cX5_readDish 44 = .ok (.getfield 32, 3) := by decide +kernel
theorem dX5_readDish_47 : decode cX5_readDish 47 = .ok (.iload_n 1, 1) := by decide +kernel
theorem dX5_readDish_48 : decode cX5_readDish 48 = .ok (.invokevirtual 73, 3) := by decide +kernel
theorem dX5_readDish_51 : decode cX5_readDish 51 = .ok (.aload_n 0, 1) := by decide +kernel
theorem dX5_readDish_52 : decode cX5_readDish 52 = .ok (.dup, 1) := by decide +kernel
theorem dX5_readDish_53 : decode cX5_readDish 53 = .ok (.getfield 32, 3) := by decide +kernel
theorem dX5_readDish_56 : decode cX5_readDish 56 = .ok (.iconst 1, 1) := by decide +kernel
theorem dX5_readDish_57 : decode cX5_readDish 57 = .ok (.iadd, 1) := by decide +kernel
theorem dX5_readDish_58 : decode cX5_readDish 58 = .ok (.putfield 32, 3) := by decide +kernel
theorem dX5_readDish_61 : decode cX5_readDish 61 = .ok (.return_, 1) := by decide +kernel
theorem dX5_readNumberAndEnd_0 : decode cX5_readNumberAndEnd 0 = .ok (.aload_n 0, 1) := by decide +kernel
theorem dX5_readNumberAndEnd_1 : decode cX5_readNumberAndEnd 1 = .ok (.getfield 77, 3) := by decide +kernel
theorem dX5_readNumberAndEnd_4 : decode cX5_readNumberAndEnd 4 = .ok (.istore_n 2, 1) := by decide +kernel
theorem dX5_readNumberAndEnd_5 : decode cX5_readNumberAndEnd 5 = .ok (.aload_n 0, 1) := by decide +kernel
theorem dX5_readNumberAndEnd_6 : decode cX5_readNumberAndEnd 6 = .ok (.getfield 55, 3) := by decide +kernel
theorem dX5_readNumberAndEnd_9 : decode cX5_readNumberAndEnd 9 = .ok (.iconst 1, 1) := by decide +kernel
theorem dX5_readNumberAndEnd_10 : decode cX5_readNumberAndEnd 10 = .ok (.if_icmp .eq 10, 3) := by decide +kernel
theorem dX5_readNumberAndEnd_13 : decode cX5_readNumberAndEnd 13 = .ok (.aload_n 0, 1) := by decide +kernel
theorem dX5_readNumberAndEnd_14 : decode cX5_readNumberAndEnd 14 = .ok (.iconst 1, 1) := by decide +kernel
theorem dX5_readNumberAndEnd_15 : decode cX5_readNumberAndEnd 15 = .ok (.putfield 44, 3) := by decide +kernel
theorem dX5_readNumberAndEnd_18 : decode cX5_readNumberAndEnd 18 = .ok (.iconst 0, 1) := by decide +kernel
theorem dX5_readNumberAndEnd_19 : decode cX5_readNumberAndEnd 19 = .ok (.ireturn, 1) := by decide +kernel
theorem dX5_readNumberAndEnd_20 : decode cX5_readNumberAndEnd 20 = .ok (.iload_n 2, 1) := by decide +kernel
theorem dX5_readNumberAndEnd_21 : decode cX5_readNumberAndEnd 21 = .ok (.iload_n 1, 1) := by decide +kernel
theorem dX5_readNumberAndEnd_22 : decode cX5_readNumberAndEnd 22 = .ok (.if_icmp .le 10, 3) := by decide +kernel
theorem dX5_readNumberAndEnd_25 : decode cX5_readNumberAndEnd 25 = .ok (.aload_n 0, 1) := by decide +kernel
theorem dX5_readNumberAndEnd_26 : decode cX5_readNumberAndEnd 26 = .ok (.iconst 2, 1) := by decide +kernel
theorem dX5_readNumberAndEnd_27 : decode cX5_readNumberAndEnd 27 = .ok (.putfield 44, 3) := by decide +kernel
theorem dX5_readNumberAndEnd_30 : decode cX5_readNumberAndEnd 30 = .ok (.iconst 0, 1) := by decide +kernel
theorem dX5_readNumberAndEnd_31 : decode cX5_readNumberAndEnd 31 = .ok (.ireturn, 1) := by decide +kernel
theorem dX5_readNumberAndEnd_32 : decode cX5_readNumberAndEnd 32 = .ok (.aload_n 0, 1) := by decide +kernel
theorem dX5_readNumberAndEnd_33 : decode cX5_readNumberAndEnd 33 = .ok (.invokevirtual 35, 3) := by decide +kernel
theorem dX5_readNumberAndEnd_36 : decode cX5_readNumberAndEnd 36 = .ok (.aload_n 0, 1) := by decide +kernel
theorem dX5_readNumberAndEnd_37 : decode cX5_readNumberAndEnd 37 = .ok (.getfield 55, 3) := by decide +kernel
theorem dX5_readNumberAndEnd_40 : decode cX5_readNumberAndEnd 40 = .ok (.iconst 2, 1) := by decide +kernel
theorem dX5_readNumberAndEnd_41 : decode cX5_readNumberAndEnd 41 = .ok (.if_icmp .eq 10, 3) := by decide +kernel
theorem dX5_readNumberAndEnd_44 : decode cX5_readNumberAndEnd 44 = .ok (.aload_n 0, 1) := by decide +kernel
theorem dX5_readNumberAndEnd_45 : decode cX5_readNumberAndEnd 45 = .ok (.iconst 1, 1) := by decide +kernel
theorem dX5_readNumberAndEnd_46 : decode cX5_readNumberAndEnd 46 = .ok (.putfield 44, 3) := by decide +kernel
theorem dX5_readNumberAndEnd_49 : decode cX5_readNumberAndEnd 49 = .ok (.iconst 0, 1) := by decide +kernel
theorem dX5_readNumberAndEnd_50 : decode cX5_readNumberAndEnd 50 = .ok (.ireturn, 1) := by decide +kernel
theorem dX5_readNumberAndEnd_51 : decode cX5_readNumberAndEnd 51 = .ok (.aload_n 0, 1) := by decide +kernel
theorem dX5_readNumberAndEnd_52 : decode cX5_readNumberAndEnd 52 = .ok (.invokevirtual 35, 3) := by decide +kernel
theorem dX5_readNumberAndEnd_55 : decode cX5_readNumberAndEnd 55 = .ok (.iload_n 2, 1) := by decide +kernel
theorem dX5_readNumberAndEnd_56 : decode cX5_readNumberAndEnd 56 = .ok (.ireturn, 1) := by decide +kernel
theorem dX5_sortNamed_0 : decode cX5_sortNamed 0 = .ok (.aload_n 0, 1) := by decide +kernel
theorem dX5_sortNamed_1 : decode cX5_sortNamed 1 = .ok (.ldc 80, 2) := by decide +kernel
theorem dX5_sortNamed_3 : decode cX5_sortNamed 3 = .ok (.invokevirtual 40, 3) := by decide +kernel
theorem dX5_sortNamed_6 : decode cX5_sortNamed 6 = .ok (.ifCond .eq 5, 3) := by decide +kernel
theorem dX5_sortNamed_9 : decode cX5_sortNamed 9 = .ok (.iconst 1, 1) := by decide +kernel
theorem dX5_sortNamed_10 : decode cX5_sortNamed 10 = .ok (.ireturn, 1) := by decide +kernel
theorem dX5_sortNamed_11 : decode cX5_sortNamed 11 = .ok (.aload_n 0, 1) := by decide +kernel
theorem dX5_sortNamed_12 : decode cX5_sortNamed 12 = .ok (.ldc 82, 2) := by decide +kernel
theorem dX5_sortNamed_14 : decode cX5_sortNamed 14 = .ok (.invokevirtual 40, 3) := by decide +kernel
theorem dX5_sortNamed_17 : decode cX5_sortNamed 17 = .ok (.ifCond .eq 5, 3) := by decide +kernel
theorem dX5_sortNamed_20 : decode cX5_sortNamed 20 = .ok (.iconst 2, 1) := by decide +kernel
theorem dX5_sortNamed_21 : decode cX5_sortNamed 21 = .ok (.ireturn, 1) := by decide +kernel
theorem dX5_sortNamed_22 : decode cX5_sortNamed 22 = .ok (.aload_n 0, 1) := by decide +kernel
theorem dX5_sortNamed_23 : decode cX5_sortNamed 23 = .ok (.ldc 84, 2) := by decide +kernel
theorem dX5_sortNamed_25 : decode cX5_sortNamed 25 = .ok (.invokevirtual 40, 3) := by decide +kernel
theorem dX5_sortNamed_28 : decode cX5_sortNamed 28 = .ok (.ifCond .eq 5, 3) := by decide +kernel
theorem dX5_sortNamed_31 : decode cX5_sortNamed 31 = .ok (.iconst 3, 1) := by decide +kernel
theorem dX5_sortNamed_32 : decode cX5_sortNamed 32 = .ok (.ireturn, 1) := by decide +kernel
theorem dX5_sortNamed_33 : decode cX5_sortNamed 33 = .ok (.aload_n 0, 1) := by decide +kernel
theorem dX5_sortNamed_34 : decode cX5_sortNamed 34 = .ok (.ldc 86, 2) := by decide +kernel
theorem dX5_sortNamed_36 : decode cX5_sortNamed 36 = .ok (.invokevirtual 40, 3) := by decide +kernel
theorem dX5_sortNamed_39 : decode cX5_sortNamed 39 = .ok (.ifCond .eq 5, 3) := by decide +kernel
theorem dX5_sortNamed_42 : decode cX5_sortNamed 42 = .ok (.iconst 4, 1) := by decide +kernel
theorem dX5_sortNamed_43 : decode cX5_sortNamed 43 = .ok (.ireturn, 1) := by decide +kernel
theorem dX5_sortNamed_44 : decode cX5_sortNamed 44 = .ok (.aload_n 0, 1) := by decide +kernel
theorem dX5_sortNamed_45 : decode cX5_sortNamed 45 = .ok (.ldc 88, 2) := by decide +kernel
theorem dX5_sortNamed_47 : decode cX5_sortNamed 47 = .ok (.invokevirtual 40, 3) := by decide +kernel
theorem dX5_sortNamed_50 : decode cX5_sortNamed 50 = .ok (.ifCond .eq 7, 3) := by decide +kernel
theorem dX5_sortNamed_53 : decode cX5_sortNamed 53 = .ok (.iconst 5, 1) := by decide +kernel
theorem dX5_sortNamed_54 : decode cX5_sortNamed 54 = .ok (.goto 4, 3) := by decide +kernel
theorem dX5_sortNamed_57 : decode cX5_sortNamed 57 = .ok (.iconst 0, 1) := by decide +kernel
theorem dX5_sortNamed_58 : decode cX5_sortNamed 58 = .ok (.ireturn, 1) := by decide +kernel
theorem dX5_isWord_0 : decode cX5_isWord 0 = .ok (.aload_n 0, 1) := by decide +kernel
theorem dX5_isWord_1 : decode cX5_isWord 1 = .ok (.getfield 55, 3) := by decide +kernel
theorem dX5_isWord_4 : decode cX5_isWord 4 = .ok (.ifCond .ne 19, 3) := by decide +kernel
theorem dX5_isWord_7 : decode cX5_isWord 7 = .ok (.aload_n 0, 1) := by decide +kernel
theorem dX5_isWord_8 : decode cX5_isWord 8 = .ok (.getfield 28, 3) := by decide +kernel
theorem dX5_isWord_11 : decode cX5_isWord 11 = .ok (.aload_n 0, 1) := by decide +kernel
theorem dX5_isWord_12 : decode cX5_isWord 12 = .ok (.getfield 90, 3) := by decide +kernel
theorem dX5_isWord_15 : decode cX5_isWord 15 = .ok (.isub, 1) := by decide +kernel
theorem dX5_isWord_16 : decode cX5_isWord 16 = .ok (.aload_n 1, 1) := by decide +kernel
theorem dX5_isWord_17 : decode cX5_isWord 17 = .ok (.invokevirtual 93, 3) := by decide +kernel
theorem dX5_isWord_20 : decode cX5_isWord 20 = .ok (.if_icmp .eq 5, 3) := by decide +kernel
theorem dX5_isWord_23 : decode cX5_isWord 23 = .ok (.iconst 0, 1) := by decide +kernel
theorem dX5_isWord_24 : decode cX5_isWord 24 = .ok (.ireturn, 1) := by decide +kernel
theorem dX5_isWord_25 : decode cX5_isWord 25 = .ok (.iconst 0, 1) := by decide +kernel
theorem dX5_isWord_26 : decode cX5_isWord 26 = .ok (.istore_n 2, 1) := by decide +kernel
theorem dX5_isWord_27 : decode cX5_isWord 27 = .ok (.iload_n 2, 1) := by decide +kernel
theorem dX5_isWord_28 : decode cX5_isWord 28 = .ok (.aload_n 1, 1) := by decide +kernel
theorem dX5_isWord_29 : decode cX5_isWord 29 = .ok (.invokevirtual 93, 3) := by decide +kernel
theorem dX5_isWord_32 : decode cX5_isWord 32 = .ok (.if_icmp .ge 32, 3) := by decide +kernel
theorem dX5_isWord_35 : decode cX5_isWord 35 = .ok (.aload_n 0, 1) := by decide +kernel
theorem dX5_isWord_36 : decode cX5_isWord 36 = .ok (.getfield 12, 3) := by decide +kernel
theorem dX5_isWord_39 : decode cX5_isWord 39 = .ok (.aload_n 0, 1) := by decide +kernel
theorem dX5_isWord_40 : decode cX5_isWord 40 = .ok (.getfield 90, 3) := by decide +kernel
theorem dX5_isWord_43 : decode cX5_isWord 43 = .ok (.iload_n 2, 1) := by decide +kernel
theorem dX5_isWord_44 : decode cX5_isWord 44 = .ok (.iadd, 1) := by decide +kernel
theorem dX5_isWord_45 : decode cX5_isWord 45 = .ok (.invokevirtual 98, 3) := by decide +kernel
theorem dX5_isWord_48 : decode cX5_isWord 48 = .ok (.aload_n 1, 1) := by decide +kernel
theorem dX5_isWord_49 : decode cX5_isWord 49 = .ok (.iload_n 2, 1) := by decide +kernel
theorem dX5_isWord_50 : decode cX5_isWord 50 = .ok (.invokevirtual 101, 3) := by decide +kernel
theorem dX5_isWord_53 : decode cX5_isWord 53 = .ok (.if_icmp .eq 5, 3) := by decide +kernel
theorem dX5_isWord_56 : decode cX5_isWord 56 = .ok (.iconst 0, 1) := by decide +kernel
theorem dX5_isWord_57 : decode cX5_isWord 57 = .ok (.ireturn, 1) := by decide +kernel
theorem dX5_isWord_58 : decode cX5_isWord 58 = .ok (.iinc 2 1, 3) := by decide +kernel
theorem dX5_isWord_61 : decode cX5_isWord 61 = .ok (.goto (-34), 3) := by decide +kernel
theorem dX5_isWord_64 : decode cX5_isWord 64 = .ok (.iconst 1, 1) := by decide +kernel
theorem dX5_isWord_65 : decode cX5_isWord 65 = .ok (.ireturn, 1) := by decide +kernel
theorem dX5_next_0 : decode cX5_next 0 = .ok (.aload_n 0, 1) := by decide +kernel
theorem dX5_next_1 : decode cX5_next 1 = .ok (.aload_n 0, 1) := by decide +kernel
theorem dX5_next_2 : decode cX5_next 2 = .ok (.getfield 12, 3) := by decide +kernel
theorem dX5_next_5 : decode cX5_next 5 = .ok (.aload_n 0, 1) := by decide +kernel
theorem dX5_next_6 : decode cX5_next 6 = .ok (.getfield 28, 3) := by decide +kernel
theorem dX5_next_9 : decode cX5_next 9 = .ok (.invokevirtual 105, 3) := by decide +kernel
theorem dX5_next_12 : decode cX5_next 12 = .ok (.putfield 90, 3) := by decide +kernel
theorem dX5_next_15 : decode cX5_next 15 = .ok (.aload_n 0, 1) := by decide +kernel
theorem dX5_next_16 : decode cX5_next 16 = .ok (.aload_n 0, 1) := by decide +kernel
theorem dX5_next_17 : decode cX5_next 17 = .ok (.getfield 90, 3) := by decide +kernel
theorem dX5_next_20 : decode cX5_next 20 = .ok (.iconst 1, 1) := by decide +kernel
theorem dX5_next_21 : decode cX5_next 21 = .ok (.iadd, 1) := by decide +kernel
theorem dX5_next_22 : decode cX5_next 22 = .ok (.putfield 28, 3) := by decide +kernel
theorem dX5_next_25 : decode cX5_next 25 = .ok (.aload_n 0, 1) := by decide +kernel
theorem dX5_next_26 : decode cX5_next 26 = .ok (.getfield 12, 3) := by decide +kernel
theorem dX5_next_29 : decode cX5_next 29 = .ok (.aload_n 0, 1) := by decide +kernel
theorem dX5_next_30 : decode cX5_next 30 = .ok (.getfield 90, 3) := by decide +kernel
theorem dX5_next_33 : decode cX5_next 33 = .ok (.invokevirtual 98, 3) := by decide +kernel
theorem dX5_next_36 : decode cX5_next 36 = .ok (.istore_n 1, 1) := by decide +kernel
theorem dX5_next_37 : decode cX5_next 37 = .ok (.iload_n 1, 1) := by decide +kernel
theorem dX5_next_38 : decode cX5_next 38 = .ok (.iconst (-1), 1) := by decide +kernel
theorem dX5_next_39 : decode cX5_next 39 = .ok (.if_icmp .ne 19, 3) := by decide +kernel
theorem dX5_next_42 : decode cX5_next 42 = .ok (.aload_n 0, 1) := by decide +kernel
theorem dX5_next_43 : decode cX5_next 43 = .ok (.iconst 3, 1) := by decide +kernel
theorem dX5_next_44 : decode cX5_next 44 = .ok (.putfield 55, 3) := by decide +kernel
theorem dX5_next_47 : decode cX5_next 47 = .ok (.aload_n 0, 1) := by decide +kernel
theorem dX5_next_48 : decode cX5_next 48 = .ok (.aload_n 0, 1) := by decide +kernel
theorem dX5_next_49 : decode cX5_next 49 = .ok (.getfield 90, 3) := by decide +kernel
theorem dX5_next_52 : decode cX5_next 52 = .ok (.putfield 28, 3) := by decide +kernel
theorem dX5_next_55 : decode cX5_next 55 = .ok (.goto 115, 3) := by decide +kernel
theorem dX5_next_58 : decode cX5_next 58 = .ok (.iload_n 1, 1) := by decide +kernel
theorem dX5_next_59 : decode cX5_next 59 = .ok (.invokestatic 108, 3) := by decide +kernel
theorem dX5_next_62 : decode cX5_next 62 = .ok (.ifCond .eq 26, 3) := by decide +kernel
theorem dX5_next_65 : decode cX5_next 65 = .ok (.aload_n 0, 1) := by decide +kernel
theorem dX5_next_66 : decode cX5_next 66 = .ok (.iconst 0, 1) := by decide +kernel
theorem dX5_next_67 : decode cX5_next 67 = .ok (.putfield 55, 3) := by decide +kernel
theorem dX5_next_70 : decode cX5_next 70 = .ok (.aload_n 0, 1) := by decide +kernel
theorem dX5_next_71 : decode cX5_next 71 = .ok (.aload_n 0, 1) := by decide +kernel
theorem dX5_next_72 : decode cX5_next 72 = .ok (.getfield 12, 3) := by decide +kernel
theorem dX5_next_75 : decode cX5_next 75 = .ok (.aload_n 0, 1) := by decide +kernel
theorem dX5_next_76 : decode cX5_next 76 = .ok (.getfield 90, 3) := by decide +kernel
theorem dX5_next_79 : decode cX5_next 79 = .ok (.invokevirtual 112, 3) := by decide +kernel
theorem dX5_next_82 : decode cX5_next 82 = .ok (.putfield 28, 3) := by decide +kernel
theorem dX5_next_85 : decode cX5_next 85 = .ok (.goto 85, 3) := by decide +kernel
theorem dX5_next_88 : decode cX5_next 88 = .ok (.iload_n 1, 1) := by decide +kernel
theorem dX5_next_89 : decode cX5_next 89 = .ok (.invokestatic 115, 3) := by decide +kernel
theorem dX5_next_92 : decode cX5_next 92 = .ok (.ifCond .eq 63, 3) := by decide +kernel
theorem dX5_next_95 : decode cX5_next 95 = .ok (.aload_n 0, 1) := by decide +kernel
theorem dX5_next_96 : decode cX5_next 96 = .ok (.aload_n 0, 1) := by decide +kernel
theorem dX5_next_97 : decode cX5_next 97 = .ok (.getfield 12, 3) := by decide +kernel
theorem dX5_next_100 : decode cX5_next 100 = .ok (.aload_n 0, 1) := by decide +kernel
theorem dX5_next_101 : decode cX5_next 101 = .ok (.getfield 90, 3) := by decide +kernel
theorem dX5_next_104 : decode cX5_next 104 = .ok (.invokevirtual 118, 3) := by decide +kernel
theorem dX5_next_107 : decode cX5_next 107 = .ok (.putfield 28, 3) := by decide +kernel
theorem dX5_next_110 : decode cX5_next 110 = .ok (.aload_n 0, 1) := by decide +kernel
theorem dX5_next_111 : decode cX5_next 111 = .ok (.aload_n 0, 1) := by decide +kernel
theorem dX5_next_112 : decode cX5_next 112 = .ok (.getfield 28, 3) := by decide +kernel
theorem dX5_next_115 : decode cX5_next 115 = .ok (.aload_n 0, 1) := by decide +kernel
theorem dX5_next_116 : decode cX5_next 116 = .ok (.getfield 90, 3) := by decide +kernel
theorem dX5_next_119 : decode cX5_next 119 = .ok (.isub, 1) := by decide +kernel
theorem dX5_next_120 : decode cX5_next 120 = .ok (.iconst 3, 1) := by decide +kernel
theorem dX5_next_121 : decode cX5_next 121 = .ok (.if_icmp .gt 7, 3) := by decide +kernel
theorem dX5_next_124 : decode cX5_next 124 = .ok (.iconst 1, 1) := by decide +kernel
theorem dX5_next_125 : decode cX5_next 125 = .ok (.goto 4, 3) := by decide +kernel
theorem dX5_next_128 : decode cX5_next 128 = .ok (.iconst 4, 1) := by decide +kernel
theorem dX5_next_129 : decode cX5_next 129 = .ok (.putfield 55, 3) := by decide +kernel
theorem dX5_next_132 : decode cX5_next 132 = .ok (.aload_n 0, 1) := by decide +kernel
theorem dX5_next_133 : decode cX5_next 133 = .ok (.aload_n 0, 1) := by decide +kernel
theorem dX5_next_134 : decode cX5_next 134 = .ok (.getfield 55, 3) := by decide +kernel
theorem dX5_next_137 : decode cX5_next 137 = .ok (.iconst 1, 1) := by decide +kernel
theorem dX5_next_138 : decode cX5_next 138 = .ok (.if_icmp .ne 10, 3) := by decide +kernel
theorem dX5_next_141 : decode cX5_next 141 = .ok (.aload_n 0, 1) := by decide +kernel
theorem dX5_next_142 : decode cX5_next 142 = .ok (.invokevirtual 121, 3) := by decide +kernel
theorem dX5_next_145 : decode cX5_next 145 = .ok (.goto 4, 3) := by decide +kernel
theorem dX5_next_148 : decode cX5_next 148 = .ok (.iconst 0, 1) := by decide +kernel
theorem dX5_next_149 : decode cX5_next 149 = .ok (.putfield 77, 3) := by decide +kernel
theorem dX5_next_152 : decode cX5_next 152 = .ok (.goto 18, 3) := by decide +kernel
theorem dX5_next_155 : decode cX5_next 155 = .ok (.aload_n 0, 1) := by decide +kernel
theorem dX5_next_156 : decode cX5_next 156 = .ok (.iload_n 1, 1) := by decide +kernel
theorem dX5_next_157 : decode cX5_next 157 = .ok (.bipush 59, 2) := by decide +kernel
theorem dX5_next_159 : decode cX5_next 159 = .ok (.if_icmp .ne 7, 3) := by decide +kernel
theorem dX5_next_162 : decode cX5_next 162 = .ok (.iconst 2, 1) := by decide +kernel
theorem dX5_next_163 : decode cX5_next 163 = .ok (.goto 4, 3) := by decide +kernel
theorem dX5_next_166 : decode cX5_next 166 = .ok (.iconst 4, 1) := by decide +kernel
theorem dX5_next_167 : decode cX5_next 167 = .ok (.putfield 55, 3) := by decide +kernel
theorem dX5_next_170 : decode cX5_next 170 = .ok (.return_, 1) := by decide +kernel
theorem dX5_valueOfFigures_0 : decode cX5_valueOfFigures 0 = .ok (.iconst 0, 1) := by decide +kernel
theorem dX5_valueOfFigures_1 : decode cX5_valueOfFigures 1 = .ok (.istore_n 1, 1) := by decide +kernel
theorem dX5_valueOfFigures_2 : decode cX5_valueOfFigures 2 = .ok (.aload_n 0, 1) := by decide +kernel
theorem dX5_valueOfFigures_3 : decode cX5_valueOfFigures 3 = .ok (.getfield 90, 3) := by decide +kernel
theorem dX5_valueOfFigures_6 : decode cX5_valueOfFigures 6 = .ok (.istore_n 2, 1) := by decide +kernel
theorem dX5_valueOfFigures_7 : decode cX5_valueOfFigures 7 = .ok (.iload_n 2, 1) := by decide +kernel
theorem dX5_valueOfFigures_8 : decode cX5_valueOfFigures 8 = .ok (.aload_n 0, 1) := by decide +kernel
theorem dX5_valueOfFigures_9 : decode cX5_valueOfFigures 9 = .ok (.getfield 28, 3) := by decide +kernel
theorem dX5_valueOfFigures_12 : decode cX5_valueOfFigures 12 = .ok (.if_icmp .ge 26, 3) := by decide +kernel
theorem dX5_valueOfFigures_15 : decode cX5_valueOfFigures 15 = .ok (.bipush 10, 2) := by decide +kernel
theorem dX5_valueOfFigures_17 : decode cX5_valueOfFigures 17 = .ok (.iload_n 1, 1) := by decide +kernel
theorem dX5_valueOfFigures_18 : decode cX5_valueOfFigures 18 = .ok (.imul, 1) := by decide +kernel
theorem dX5_valueOfFigures_19 : decode cX5_valueOfFigures 19 = .ok (.aload_n 0, 1) := by decide +kernel
theorem dX5_valueOfFigures_20 : decode cX5_valueOfFigures 20 = .ok (.getfield 12, 3) := by decide +kernel
theorem dX5_valueOfFigures_23 : decode cX5_valueOfFigures 23 = .ok (.iload_n 2, 1) := by decide +kernel
theorem dX5_valueOfFigures_24 : decode cX5_valueOfFigures 24 = .ok (.invokevirtual 98, 3) := by decide +kernel
theorem dX5_valueOfFigures_27 : decode cX5_valueOfFigures 27 = .ok (.iadd, 1) := by decide +kernel
theorem dX5_valueOfFigures_28 : decode cX5_valueOfFigures 28 = .ok (.bipush 48, 2) := by decide +kernel
theorem dX5_valueOfFigures_30 : decode cX5_valueOfFigures 30 = .ok (.isub, 1) := by decide +kernel
theorem dX5_valueOfFigures_31 : decode cX5_valueOfFigures 31 = .ok (.istore_n 1, 1) := by decide +kernel
theorem dX5_valueOfFigures_32 : decode cX5_valueOfFigures 32 = .ok (.iinc 2 1, 3) := by decide +kernel
theorem dX5_valueOfFigures_35 : decode cX5_valueOfFigures 35 = .ok (.goto (-28), 3) := by decide +kernel
theorem dX5_valueOfFigures_38 : decode cX5_valueOfFigures 38 = .ok (.iload_n 1, 1) := by decide +kernel
theorem dX5_valueOfFigures_39 : decode cX5_valueOfFigures 39 = .ok (.ireturn, 1) := by decide +kernel
theorem dX6_init_0 : decode cX6_init 0 = .ok (.aload_n 0, 1) := by decide +kernel
theorem dX6_init_1 : decode cX6_init 1 = .ok (.invokespecial 3, 3) := by decide +kernel
theorem dX6_init_4 : decode cX6_init 4 = .ok (.aload_n 0, 1) := by decide +kernel
theorem dX6_init_5 : decode cX6_init 5 = .ok (.sipush 300, 3) := by decide +kernel
theorem dX6_init_8 : decode cX6_init 8 = .ok (.newarray .int, 2) := by decide +kernel
theorem dX6_init_10 : decode cX6_init 10 = .ok (.putfield 9, 3) := by decide +kernel
theorem dX6_init_13 : decode cX6_init 13 = .ok (.return_, 1) := by decide +kernel
theorem dX6_add_0 : decode cX6_add 0 = .ok (.aload_n 0, 1) := by decide +kernel
theorem dX6_add_1 : decode cX6_add 1 = .ok (.getfield 15, 3) := by decide +kernel
theorem dX6_add_4 : decode cX6_add 4 = .ok (.ifCond .lt 35, 3) := by decide +kernel
theorem dX6_add_7 : decode cX6_add 7 = .ok (.aload_n 0, 1) := by decide +kernel
theorem dX6_add_8 : decode cX6_add 8 = .ok (.getfield 15, 3) := by decide +kernel
theorem dX6_add_11 : decode cX6_add 11 = .ok (.aload_n 0, 1) := by decide +kernel
theorem dX6_add_12 : decode cX6_add 12 = .ok (.getfield 9, 3) := by decide +kernel
theorem dX6_add_15 : decode cX6_add 15 = .ok (.arraylength, 1) := by decide +kernel
theorem dX6_add_16 : decode cX6_add 16 = .ok (.if_icmp .ge 23, 3) := by decide +kernel
theorem dX6_add_19 : decode cX6_add 19 = .ok (.aload_n 0, 1) := by decide +kernel
theorem dX6_add_20 : decode cX6_add 20 = .ok (.getfield 9, 3) := by decide +kernel
theorem dX6_add_23 : decode cX6_add 23 = .ok (.aload_n 0, 1) := by decide +kernel
theorem dX6_add_24 : decode cX6_add 24 = .ok (.getfield 15, 3) := by decide +kernel
theorem dX6_add_27 : decode cX6_add 27 = .ok (.iload_n 1, 1) := by decide +kernel
theorem dX6_add_28 : decode cX6_add 28 = .ok (.iastore, 1) := by decide +kernel
theorem dX6_add_29 : decode cX6_add 29 = .ok (.aload_n 0, 1) := by decide +kernel
theorem dX6_add_30 : decode cX6_add 30 = .ok (.dup, 1) := by decide +kernel
theorem dX6_add_31 : decode cX6_add 31 = .ok (.getfield 15, 3) := by decide +kernel
theorem dX6_add_34 : decode cX6_add 34 = .ok (.iconst 1, 1) := by decide +kernel
theorem dX6_add_35 : decode cX6_add 35 = .ok (.iadd, 1) := by decide +kernel
theorem dX6_add_36 : decode cX6_add 36 = .ok (.putfield 15, 3) := by decide +kernel
theorem dX6_add_39 : decode cX6_add 39 = .ok (.return_, 1) := by decide +kernel
theorem dX6_clear_0 : decode cX6_clear 0 = .ok (.aload_n 0, 1) := by decide +kernel
theorem dX6_clear_1 : decode cX6_clear 1 = .ok (.iconst 0, 1) := by decide +kernel
theorem dX6_clear_2 : decode cX6_clear 2 = .ok (.putfield 15, 3) := by decide +kernel
theorem dX6_clear_5 : decode cX6_clear 5 = .ok (.return_, 1) := by decide +kernel
theorem dX6_at_0 : decode cX6_at 0 = .ok (.iload_n 1, 1) := by decide +kernel
theorem dX6_at_1 : decode cX6_at 1 = .ok (.ifCond .lt 29, 3) := by decide +kernel
theorem dX6_at_4 : decode cX6_at 4 = .ok (.iload_n 1, 1) := by decide +kernel
theorem dX6_at_5 : decode cX6_at 5 = .ok (.aload_n 0, 1) := by decide +kernel
theorem dX6_at_6 : decode cX6_at 6 = .ok (.getfield 15, 3) := by decide +kernel
theorem dX6_at_9 : decode cX6_at 9 = .ok (.if_icmp .ge 21, 3) := by decide +kernel
theorem dX6_at_12 : decode cX6_at 12 = .ok (.iload_n 1, 1) := by decide +kernel
theorem dX6_at_13 : decode cX6_at 13 = .ok (.aload_n 0, 1) := by decide +kernel
theorem dX6_at_14 : decode cX6_at 14 = .ok (.getfield 9, 3) := by decide +kernel
theorem dX6_at_17 : decode cX6_at 17 = .ok (.arraylength, 1) := by decide +kernel
theorem dX6_at_18 : decode cX6_at 18 = .ok (.if_icmp .ge 12, 3) := by decide +kernel
theorem dX6_at_21 : decode cX6_at 21 = .ok (.aload_n 0, 1) := by decide +kernel
theorem dX6_at_22 : decode cX6_at 22 = .ok (.getfield 9, 3) := by decide +kernel
theorem dX6_at_25 : decode cX6_at 25 = .ok (.iload_n 1, 1) := by decide +kernel
theorem dX6_at_26 : decode cX6_at 26 = .ok (.iaload, 1) := by decide +kernel
theorem dX6_at_27 : decode cX6_at 27 = .ok (.goto 4, 3) := by decide +kernel
theorem dX6_at_30 : decode cX6_at 30 = .ok (.iconst (-1), 1) := by decide +kernel
theorem dX6_at_31 : decode cX6_at 31 = .ok (.ireturn, 1) := by decide +kernel
theorem dX6_endOfBlanks_0 : decode cX6_endOfBlanks 0 = .ok (.iload_n 1, 1) := by decide +kernel
theorem dX6_endOfBlanks_1 : decode cX6_endOfBlanks 1 = .ok (.istore_n 2, 1) := by decide +kernel
theorem dX6_endOfBlanks_2 : decode cX6_endOfBlanks 2 = .ok (.iload_n 2, 1) := by decide +kernel
theorem dX6_endOfBlanks_3 : decode cX6_endOfBlanks 3 = .ok (.aload_n 0, 1) := by decide +kernel
theorem dX6_endOfBlanks_4 : decode cX6_endOfBlanks 4 = .ok (.getfield 15, 3) := by decide +kernel
theorem dX6_endOfBlanks_7 : decode cX6_endOfBlanks 7 = .ok (.if_icmp .ge 20, 3) := by decide +kernel
theorem dX6_endOfBlanks_10 : decode cX6_endOfBlanks 10 = .ok (.aload_n 0, 1) := by decide +kernel
theorem dX6_endOfBlanks_11 : decode cX6_endOfBlanks 11 = .ok (.iload_n 2, 1) := by decide +kernel
theorem dX6_endOfBlanks_12 : decode cX6_endOfBlanks 12 = .ok (.invokevirtual 19, 3) := by decide +kernel
theorem dX6_endOfBlanks_15 : decode cX6_endOfBlanks 15 = .ok (.invokestatic 23, 3) := by decide +kernel
theorem dX6_endOfBlanks_18 : decode cX6_endOfBlanks 18 = .ok (.ifCond .eq 9, 3) := by decide +kernel
theorem dX6_endOfBlanks_21 : decode cX6_endOfBlanks 21 = .ok (.iinc 2 1, 3) := by decide +kernel
theorem dX6_endOfBlanks_24 : decode cX6_endOfBlanks 24 = .ok (.goto (-22), 3) := by decide +kernel
theorem dX6_endOfBlanks_27 : decode cX6_endOfBlanks 27 = .ok (.iload_n 2, 1) := by decide +kernel
theorem dX6_endOfBlanks_28 : decode cX6_endOfBlanks 28 = .ok (.ireturn, 1) := by decide +kernel
theorem dX6_endOfLetters_0 : decode cX6_endOfLetters 0 = .ok (.iload_n 1, 1) := by decide +kernel
theorem dX6_endOfLetters_1 : decode cX6_endOfLetters 1 = .ok (.istore_n 2, 1) := by decide +kernel
theorem dX6_endOfLetters_2 : decode cX6_endOfLetters 2 = .ok (.iload_n 2, 1) := by decide +kernel
theorem dX6_endOfLetters_3 : decode cX6_endOfLetters 3 = .ok (.aload_n 0, 1) := by decide +kernel
theorem dX6_endOfLetters_4 : decode cX6_endOfLetters 4 = .ok (.getfield 15, 3) := by decide +kernel
theorem dX6_endOfLetters_7 : decode cX6_endOfLetters 7 = .ok (.if_icmp .ge 20, 3) := by decide +kernel
theorem dX6_endOfLetters_10 : decode cX6_endOfLetters 10 = .ok (.aload_n 0, 1) := by decide +kernel
theorem dX6_endOfLetters_11 : decode cX6_endOfLetters 11 = .ok (.iload_n 2, 1) := by decide +kernel
theorem dX6_endOfLetters_12 : decode cX6_endOfLetters 12 = .ok (.invokevirtual 19, 3) := by decide +kernel
theorem dX6_endOfLetters_15 : decode cX6_endOfLetters 15 = .ok (.invokestatic 27, 3) := by decide +kernel
theorem dX6_endOfLetters_18 : decode cX6_endOfLetters 18 = .ok (.ifCond .eq 9, 3) := by decide +kernel
theorem dX6_endOfLetters_21 : decode cX6_endOfLetters 21 = .ok (.iinc 2 1, 3) := by decide +kernel
theorem dX6_endOfLetters_24 : decode cX6_endOfLetters 24 = .ok (.goto (-22), 3) := by decide +kernel
theorem dX6_endOfLetters_27 : decode cX6_endOfLetters 27 = .ok (.iload_n 2, 1) := by decide +kernel
theorem dX6_endOfLetters_28 : decode cX6_endOfLetters 28 = .ok (.ireturn, 1) := by decide +kernel
theorem dX6_endOfFigures_0 : decode cX6_endOfFigures 0 = .ok (.iload_n 1, 1) := by decide +kernel
theorem dX6_endOfFigures_1 : decode cX6_endOfFigures 1 = .ok (.istore_n 2, 1) := by decide +kernel
theorem dX6_endOfFigures_2 : decode cX6_endOfFigures 2 = .ok (.iload_n 2, 1) := by decide +kernel
theorem dX6_endOfFigures_3 : decode cX6_endOfFigures 3 = .ok (.aload_n 0, 1) := by decide +kernel
theorem dX6_endOfFigures_4 : decode cX6_endOfFigures 4 = .ok (.getfield 15, 3) := by decide +kernel
theorem dX6_endOfFigures_7 : decode cX6_endOfFigures 7 = .ok (.if_icmp .ge 20, 3) := by decide +kernel
theorem dX6_endOfFigures_10 : decode cX6_endOfFigures 10 = .ok (.aload_n 0, 1) := by decide +kernel
theorem dX6_endOfFigures_11 : decode cX6_endOfFigures 11 = .ok (.iload_n 2, 1) := by decide +kernel
theorem dX6_endOfFigures_12 : decode cX6_endOfFigures 12 = .ok (.invokevirtual 19, 3) := by decide +kernel
theorem dX6_endOfFigures_15 : decode cX6_endOfFigures 15 = .ok (.invokestatic 30, 3) := by decide +kernel
theorem dX6_endOfFigures_18 : decode cX6_endOfFigures 18 = .ok (.ifCond .eq 9, 3) := by decide +kernel
theorem dX6_endOfFigures_21 : decode cX6_endOfFigures 21 = .ok (.iinc 2 1, 3) := by decide +kernel
theorem dX6_endOfFigures_24 : decode cX6_endOfFigures 24 = .ok (.goto (-22), 3) := by decide +kernel
theorem dX6_endOfFigures_27 : decode cX6_endOfFigures 27 = .ok (.iload_n 2, 1) := by decide +kernel
theorem dX6_endOfFigures_28 : decode cX6_endOfFigures 28 = .ok (.ireturn, 1) := by decide +kernel
theorem dX6_isBlank_0 : decode cX6_isBlank 0 = .ok (.iload_n 0, 1) := by decide +kernel
theorem dX6_isBlank_1 : decode cX6_isBlank 1 = .ok (.bipush 32, 2) := by decide +kernel
theorem dX6_isBlank_3 : decode cX6_isBlank 3 = .ok (.if_icmp .eq 9, 3) := by decide +kernel
theorem dX6_isBlank_6 : decode cX6_isBlank 6 = .ok (.iload_n 0, 1) := by decide +kernel
theorem dX6_isBlank_7 : decode cX6_isBlank 7 = .ok (.bipush 10, 2) := by decide +kernel
theorem dX6_isBlank_9 : decode cX6_isBlank 9 = .ok (.if_icmp .ne 7, 3) := by decide +kernel
theorem dX6_isBlank_12 : decode cX6_isBlank 12 = .ok (.iconst 1, 1) := by decide +kernel
theorem dX6_isBlank_13 : decode cX6_isBlank 13 = .ok (.goto 4, 3) := by decide +kernel
theorem dX6_isBlank_16 : decode cX6_isBlank 16 = .ok (.iconst 0, 1) := by decide +kernel
theorem dX6_isBlank_17 : decode cX6_isBlank 17 = .ok (.ireturn, 1) := by decide +kernel
theorem dX6_isLetter_0 : decode cX6_isLetter 0 = .ok (.iload_n 0, 1) := by decide +kernel
theorem dX6_isLetter_1 : decode cX6_isLetter 1 = .ok (.bipush 97, 2) := by decide +kernel
theorem dX6_isLetter_3 : decode cX6_isLetter 3 = .ok (.if_icmp .lt 13, 3) := by decide +kernel
theorem dX6_isLetter_6 : decode cX6_isLetter 6 = .ok (.iload_n 0, 1) := by decide +kernel
theorem dX6_isLetter_7 : decode cX6_isLetter 7 = .ok (.bipush 122, 2) := by decide +kernel
theorem dX6_isLetter_9 : decode cX6_isLetter 9 = .ok (.if_icmp .gt 7, 3) := by decide +kernel
theorem dX6_isLetter_12 : decode cX6_isLetter 12 = .ok (.iconst 1, 1) := by decide +kernel
theorem dX6_isLetter_13 : decode cX6_isLetter 13 = .ok (.goto 4, 3) := by decide +kernel
theorem dX6_isLetter_16 : decode cX6_isLetter 16 = .ok (.iconst 0, 1) := by decide +kernel
theorem dX6_isLetter_17 : decode cX6_isLetter 17 = .ok (.ireturn, 1) := by decide +kernel
theorem dX6_isFigure_0 : decode cX6_isFigure 0 = .ok (.iload_n 0, 1) := by decide +kernel
theorem dX6_isFigure_1 : decode cX6_isFigure 1 = .ok (.bipush 48, 2) := by decide +kernel
theorem dX6_isFigure_3 : decode cX6_isFigure 3 = .ok (.if_icmp .lt 13, 3) := by decide +kernel
theorem dX6_isFigure_6 : decode cX6_isFigure 6 = .ok (.iload_n 0, 1) := by decide +kernel
theorem dX6_isFigure_7 : decode cX6_isFigure 7 = .ok (.bipush 57, 2) := by decide +kernel
theorem dX6_isFigure_9 : decode cX6_isFigure 9 = .ok (.if_icmp .gt 7, 3) := by decide +kernel
theorem dX6_isFigure_12 : decode cX6_isFigure 12 = .ok (.iconst 1, 1) := by decide +kernel
theorem dX6_isFigure_13 : decode cX6_isFigure 13 = .ok (.goto 4, 3) := by decide +kernel
theorem dX6_isFigure_16 : decode cX6_isFigure 16 = .ok (.iconst 0, 1) := by decide +kernel
theorem dX6_isFigure_17 : decode cX6_isFigure 17 = .ok (.ireturn, 1) := by decide +kernel
theorem dX7_init_0 : decode cX7_init 0 = .ok (.aload_n 0, 1) := by decide +kernel
theorem dX7_init_1 : decode cX7_init 1 = .ok (.invokespecial 1, 3) := by decide +kernel
theorem dX7_init_4 : decode cX7_init 4 = .ok (.aload_n 0, 1) := by decide +kernel
theorem dX7_init_5 : decode cX7_init 5 = .ok (.bipush 8, 2) := by decide +kernel
theorem dX7_init_7 : decode cX7_init 7 = .ok (.anewarray 9, 3) := by decide +kernel
theorem dX7_init_10 : decode cX7_init 10 = .ok (.putfield 11, 3) := by decide +kernel
theorem dX7_init_13 : decode cX7_init 13 = .ok (.iconst 0, 1) := by decide +kernel
theorem dX7_init_14 : decode cX7_init 14 = .ok (.istore_n 1, 1) := by decide +kernel
theorem dX7_init_15 : decode cX7_init 15 = .ok (.iload_n 1, 1) := by decide +kernel
theorem dX7_init_16 : decode cX7_init 16 = .ok (.aload_n 0, 1) := by decide +kernel
theorem dX7_init_17 : decode cX7_init 17 = .ok (.getfield 11, 3) := by decide +kernel
theorem dX7_init_20 : decode cX7_init 20 = .ok (.arraylength, 1) := by decide +kernel
theorem dX7_init_21 : decode cX7_init 21 = .ok (.if_icmp .ge 22, 3) := by decide +kernel
theorem dX7_init_24 : decode cX7_init 24 = .ok (.aload_n 0, 1) := by decide +kernel
theorem dX7_init_25 : decode cX7_init 25 = .ok (.getfield 11, 3) := by decide +kernel
theorem dX7_init_28 : decode cX7_init 28 = .ok (.iload_n 1, 1) := by decide +kernel
theorem dX7_init_29 : decode cX7_init 29 = .ok (.new 9, 3) := by decide +kernel
theorem dX7_init_32 : decode cX7_init 32 = .ok (.dup, 1) := by decide +kernel
theorem dX7_init_33 : decode cX7_init 33 = .ok (.invokespecial 15, 3) := by decide +kernel
theorem dX7_init_36 : decode cX7_init 36 = .ok (.aastore, 1) := by decide +kernel
theorem dX7_init_37 : decode cX7_init 37 = .ok (.iinc 1 1, 3) := by decide +kernel
theorem dX7_init_40 : decode cX7_init 40 = .ok (.goto (-25), 3) := by decide +kernel
theorem dX7_init_43 : decode cX7_init 43 = .ok (.aload_n 0, 1) := by decide +kernel
theorem dX7_init_44 : decode cX7_init 44 = .ok (.iconst 2, 1) := by decide +kernel
theorem dX7_init_45 : decode cX7_init 45 = .ok (.anewarray 16, 3) := by decide +kernel
theorem dX7_init_48 : decode cX7_init 48 = .ok (.putfield 18, 3) := by decide +kernel
theorem dX7_init_51 : decode cX7_init 51 = .ok (.iconst 0, 1) := by decide +kernel
theorem dX7_init_52 : decode cX7_init 52 = .ok (.istore_n 1, 1) := by decide +kernel
theorem dX7_init_53 : decode cX7_init 53 = .ok (.iload_n 1, 1) := by decide +kernel
theorem dX7_init_54 : decode cX7_init 54 = .ok (.aload_n 0, 1) := by decide +kernel
theorem dX7_init_55 : decode cX7_init 55 = .ok (.getfield 18, 3) := by decide +kernel
theorem dX7_init_58 : decode cX7_init 58 = .ok (.arraylength, 1) := by decide +kernel
theorem dX7_init_59 : decode cX7_init 59 = .ok (.if_icmp .ge 22, 3) := by decide +kernel
theorem dX7_init_62 : decode cX7_init 62 = .ok (.aload_n 0, 1) := by decide +kernel
theorem dX7_init_63 : decode cX7_init 63 = .ok (.getfield 18, 3) := by decide +kernel
theorem dX7_init_66 : decode cX7_init 66 = .ok (.iload_n 1, 1) := by decide +kernel
theorem dX7_init_67 : decode cX7_init 67 = .ok (.new 16, 3) := by decide +kernel
theorem dX7_init_70 : decode cX7_init 70 = .ok (.dup, 1) := by decide +kernel
theorem dX7_init_71 : decode cX7_init 71 = .ok (.invokespecial 22, 3) := by decide +kernel
theorem dX7_init_74 : decode cX7_init 74 = .ok (.aastore, 1) := by decide +kernel
theorem dX7_init_75 : decode cX7_init 75 = .ok (.iinc 1 1, 3) := by decide +kernel
theorem dX7_init_78 : decode cX7_init 78 = .ok (.goto (-25), 3) := by decide +kernel
theorem dX7_init_81 : decode cX7_init 81 = .ok (.aload_n 0, 1) := by decide +kernel
theorem dX7_init_82 : decode cX7_init 82 = .ok (.new 23, 3) := by decide +kernel
theorem dX7_init_85 : decode cX7_init 85 = .ok (.dup, 1) := by decide +kernel
theorem dX7_init_86 : decode cX7_init 86 = .ok (.invokespecial 25, 3) := by decide +kernel
theorem dX7_init_89 : decode cX7_init 89 = .ok (.putfield 26, 3) := by decide +kernel
theorem dX7_init_92 : decode cX7_init 92 = .ok (.aload_n 0, 1) := by decide +kernel
theorem dX7_init_93 : decode cX7_init 93 = .ok (.new 16, 3) := by decide +kernel
theorem dX7_init_96 : decode cX7_init 96 = .ok (.dup, 1) := by decide +kernel
theorem dX7_init_97 : decode cX7_init 97 = .ok (.invokespecial 22, 3) := by decide +kernel
theorem dX7_init_100 : decode cX7_init 100 = .ok (.putfield 30, 3) := by decide +kernel
theorem dX7_init_103 : decode cX7_init 103 = .ok (.aload_n 0, 1) := by decide +kernel
theorem dX7_init_104 : decode cX7_init 104 = .ok (.new 34, 3) := by decide +kernel
theorem dX7_init_107 : decode cX7_init 107 = .ok (.dup, 1) := by decide +kernel
theorem dX7_init_108 : decode cX7_init 108 = .ok (.invokespecial 36, 3) := by decide +kernel
theorem dX7_init_111 : decode cX7_init 111 = .ok (.putfield 37, 3) := by decide +kernel
theorem dX7_init_114 : decode cX7_init 114 = .ok (.aload_n 0, 1) := by decide +kernel
theorem dX7_init_115 : decode cX7_init 115 = .ok (.new 41, 3) := by decide +kernel
theorem dX7_init_118 : decode cX7_init 118 = .ok (.dup, 1) := by decide +kernel
theorem dX7_init_119 : decode cX7_init 119 = .ok (.invokespecial 43, 3) := by decide +kernel
theorem dX7_init_122 : decode cX7_init 122 = .ok (.putfield 44, 3) := by decide +kernel
theorem dX7_init_125 : decode cX7_init 125 = .ok (.aload_n 0, 1) := by decide +kernel
theorem dX7_init_126 : decode cX7_init 126 = .ok (.new 48, 3) := by decide +kernel
theorem dX7_init_129 : decode cX7_init 129 = .ok (.dup, 1) := by decide +kernel
theorem dX7_init_130 : decode cX7_init 130 = .ok (.invokespecial 50, 3) := by decide +kernel
theorem dX7_init_133 : decode cX7_init 133 = .ok (.putfield 51, 3) := by decide +kernel
theorem dX7_init_136 : decode cX7_init 136 = .ok (.return_, 1) := by decide +kernel
theorem dX7_row_0 : decode cX7_row 0 = .ok (.aload_n 0, 1) := by decide +kernel
theorem dX7_row_1 : decode cX7_row 1 = .ok (.iload_n 1, 1) := by decide +kernel
theorem dX7_row_2 : decode cX7_row 2 = .ok (.invokevirtual 55, 3) := by decide +kernel
theorem dX7_row_5 : decode cX7_row 5 = .ok (.astore 4, 2) := by decide +kernel
theorem dX7_row_7 : decode cX7_row 7 = .ok (.aload 4, 2) := by decide +kernel
theorem dX7_row_9 : decode cX7_row 9 = .ok (.ifnull 18, 3) := by decide +kernel
theorem dX7_row_12 : decode cX7_row 12 = .ok (.iload_n 2, 1) := by decide +kernel
theorem dX7_row_13 : decode cX7_row 13 = .ok (.iconst 0, 1) := by decide +kernel
theorem dX7_row_14 : decode cX7_row 14 = .ok (.iconst 2, 1) := by decide +kernel
theorem dX7_row_15 : decode cX7_row 15 = .ok (.invokestatic 59, 3) := by decide +kernel
theorem dX7_row_18 : decode cX7_row 18 = .ok (.ifCond .eq 9, 3) := by decide +kernel
theorem dX7_row_21 : decode cX7_row 21 = .ok (.iload_n 3, 1) := by decide +kernel
theorem dX7_row_22 : decode cX7_row 22 = .ok (.bipush 40, 2) := by decide +kernel
theorem dX7_row_24 : decode cX7_row 24 = .ok (.if_icmp .le 6, 3) := by decide +kernel
theorem dX7_row_27 : decode cX7_row 27 = .ok (.ldc 63, 2) := by decide +kernel
theorem dX7_row_29 : decode cX7_row 29 = .ok (.ireturn, 1) := by decide +kernel
theorem dX7_row_30 : decode cX7_row 30 = .ok (.iload_n 3, 1) := by decide +kernel
theorem dX7_row_31 : decode cX7_row 31 = .ok (.ifCond .ge 9, 3) := by decide +kernel
theorem dX7_row_34 : decode cX7_row 34 = .ok (.aload_n 0, 1) := by decide +kernel
theorem dX7_row_35 : decode cX7_row 35 = .ok (.iconst 4, 1) := by decide +kernel
theorem dX7_row_36 : decode cX7_row 36 = .ok (.invokevirtual 64, 3) := by decide +kernel
theorem dX7_row_39 : decode cX7_row 39 = .ok (.ireturn, 1) := by decide +kernel
theorem dX7_row_40 : decode cX7_row 40 = .ok (.aload 4, 2) := by decide +kernel
theorem dX7_row_42 : decode cX7_row 42 = .ok (.iload_n 2, 1) := by decide +kernel
theorem dX7_row_43 : decode cX7_row 43 = .ok (.iload_n 3, 1) := by decide +kernel
theorem dX7_row_44 : decode cX7_row 44 = .ok (.invokevirtual 68, 3) := by decide +kernel
theorem dX7_row_47 : decode cX7_row 47 = .ok (.aload_n 0, 1) := by decide +kernel
theorem dX7_row_48 : decode cX7_row 48 = .ok (.iload_n 3, 1) := by decide +kernel
theorem dX7_row_49 : decode cX7_row 49 = .ok (.invokevirtual 72, 3) := by decide +kernel
theorem dX7_row_52 : decode cX7_row 52 = .ok (.ireturn, 1) := by decide +kernel
theorem dX7_set_0 : decode cX7_set 0 = .ok (.aload_n 0, 1) := by decide +kernel
theorem dX7_set_1 : decode cX7_set 1 = .ok (.iload_n 1, 1) := by decide +kernel
theorem dX7_set_2 : decode cX7_set 2 = .ok (.invokevirtual 55, 3) := by decide +kernel
theorem dX7_set_5 : decode cX7_set 5 = .ok (.astore 4, 2) := by decide +kernel
theorem dX7_set_7 : decode cX7_set 7 = .ok (.aload 4, 2) := by decide +kernel
theorem dX7_set_9 : decode cX7_set 9 = .ok (.ifnonnull 6, 3) := by decide +kernel
theorem dX7_set_12 : decode cX7_set 12 = .ok (.ldc 63, 2) := by decide +kernel
theorem dX7_set_14 : decode cX7_set 14 = .ok (.ireturn, 1) := by decide +kernel
theorem dX7_set_15 : decode cX7_set 15 = .ok (.aload 4, 2) := by decide +kernel
theorem dX7_set_17 : decode cX7_set 17 = .ok (.invokevirtual 75, 3) := by decide +kernel
theorem dX7_set_20 : decode cX7_set 20 = .ok (.ifCond .eq 9, 3) := by decide +kernel
theorem dX7_set_23 : decode cX7_set 23 = .ok (.aload_n 0, 1) := by decide +kernel
theorem dX7_set_24 : decode cX7_set 24 = .ok (.iconst 1, 1) := by decide +kernel
theorem dX7_set_25 : decode cX7_set 25 = .ok (.invokevirtual 64, 3) := by decide +kernel
theorem dX7_set_28 : decode cX7_set 28 = .ok (.ireturn, 1) := by decide +kernel
theorem dX7_set_29 : decode cX7_set 29 = .ok (.aload 4, 2) := by decide +kernel
theorem dX7_set_31 : decode cX7_set 31 = .ok (.iload_n 2, 1) := by decide +kernel
theorem dX7_set_32 : decode cX7_set 32 = .ok (.iconst 1, 1) := by decide +kernel
theorem dX7_set_33 : decode cX7_set 33 = .ok (.invokevirtual 79, 3) := by decide +kernel
theorem dX7_set_36 : decode cX7_set 36 = .ok (.ifCond .ne 9, 3) := by decide +kernel
theorem dX7_set_39 : decode cX7_set 39 = .ok (.aload_n 0, 1) := by decide +kernel
theorem dX7_set_40 : decode cX7_set 40 = .ok (.iconst 2, 1) := by decide +kernel
theorem dX7_set_41 : decode cX7_set 41 = .ok (.invokevirtual 64, 3) := by decide +kernel
theorem dX7_set_44 : decode cX7_set 44 = .ok (.ireturn, 1) := by decide +kernel
theorem dX7_set_45 : decode cX7_set 45 = .ok (.aload 4, 2) := by decide +kernel
theorem dX7_set_47 : decode cX7_set 47 = .ok (.iload_n 2, 1) := by decide +kernel
theorem dX7_set_48 : decode cX7_set 48 = .ok (.iload_n 3, 1) := by decide +kernel
theorem dX7_set_49 : decode cX7_set 49 = .ok (.invokevirtual 83, 3) := by decide +kernel
theorem dX7_set_52 : decode cX7_set 52 = .ok (.aload_n 0, 1) := by decide +kernel
theorem dX7_set_53 : decode cX7_set 53 = .ok (.aload 4, 2) := by decide +kernel
theorem dX7_set_55 : decode cX7_set 55 = .ok (.iload_n 2, 1) := by decide +kernel
theorem dX7_set_56 : decode cX7_set 56 = .ok (.invokevirtual 86, 3) := by decide +kernel
theorem dX7_set_59 : decode cX7_set 59 = .ok (.invokevirtual 72, 3) := by decide +kernel
theorem dX7_set_62 : decode cX7_set 62 = .ok (.ireturn, 1) := by decide +kernel
theorem dX7_copy_0 : decode cX7_copy 0 = .ok (.aload_n 0, 1) := by decide +kernel
theorem dX7_copy_1 : decode cX7_copy 1 = .ok (.iload_n 1, 1) := by decide +kernel
theorem dX7_copy_2 : decode cX7_copy 2 = .ok (.invokevirtual 55, 3) := by decide +kernel
theorem dX7_copy_5 : decode cX7_copy 5 = .ok (.astore 6, 2) := by decide +kernel
theorem dX7_copy_7 : decode cX7_copy 7 = .ok (.aload_n 0, 1) := by decide +kernel
theorem dX7_copy_8 : decode cX7_copy 8 = .ok (.iload_n 3, 1) := by decide +kernel
theorem dX7_copy_9 : decode cX7_copy 9 = .ok (.invokevirtual 55, 3) := by decide +kernel
theorem dX7_copy_12 : decode cX7_copy 12 = .ok (.astore 7, 2) := by decide +kernel
theorem dX7_copy_14 : decode cX7_copy 14 = .ok (.aload 6, 2) := by decide +kernel
theorem dX7_copy_16 : decode cX7_copy 16 = .ok (.ifnull 8, 3) := by decide +kernel
theorem dX7_copy_19 : decode cX7_copy 19 = .ok (.aload 7, 2) := by decide +kernel
theorem dX7_copy_21 : decode cX7_copy 21 = .ok (.ifnonnull 6, 3) := by decide +kernel
theorem dX7_copy_24 : decode cX7_copy 24 = .ok (.ldc 63, 2) := by decide +kernel
theorem dX7_copy_26 : decode cX7_copy 26 = .ok (.ireturn, 1) := by decide +kernel
theorem dX7_copy_27 : decode cX7_copy 27 = .ok (.aload 6, 2) := by decide +kernel
theorem dX7_copy_29 : decode cX7_copy 29 = .ok (.invokevirtual 75, 3) := by decide +kernel
theorem dX7_copy_32 : decode cX7_copy 32 = .ok (.ifCond .ne 11, 3) := by decide +kernel
theorem dX7_copy_35 : decode cX7_copy 35 = .ok (.aload 7, 2) := by decide +kernel
theorem dX7_copy_37 : decode cX7_copy 37 = .ok (.invokevirtual 75, 3) := by decide +kernel
theorem dX7_copy_40 : decode cX7_copy 40 = .ok (.ifCond .eq 9, 3) := by decide +kernel
theorem dX7_copy_43 : decode cX7_copy 43 = .ok (.aload_n 0, 1) := by decide +kernel
theorem dX7_copy_44 : decode cX7_copy 44 = .ok (.iconst 1, 1) := by decide +kernel
theorem dX7_copy_45 : decode cX7_copy 45 = .ok (.invokevirtual 64, 3) := by decide +kernel
theorem dX7_copy_48 : decode cX7_copy 48 = .ok (.ireturn, 1) := by decide +kernel
theorem dX7_copy_49 : decode cX7_copy 49 = .ok (.aload 6, 2) := by decide +kernel
theorem dX7_copy_51 : decode cX7_copy 51 = .ok (.getfield 89, 3) := by decide +kernel
theorem dX7_copy_54 : decode cX7_copy 54 = .ok (.aload 7, 2) := by decide +kernel
theorem dX7_copy_56 : decode cX7_copy 56 = .ok (.getfield 89, 3) := by decide +kernel
theorem dX7_copy_59 : decode cX7_copy 59 = .ok (.if_icmp .eq 9, 3) := by decide +kernel
theorem dX7_copy_62 : decode cX7_copy 62 = .ok (.aload_n 0, 1) := by decide +kernel
theorem dX7_copy_63 : decode cX7_copy 63 = .ok (.iconst 5, 1) := by decide +kernel
theorem dX7_copy_64 : decode cX7_copy 64 = .ok (.invokevirtual 64, 3) := by decide +kernel
theorem dX7_copy_67 : decode cX7_copy 67 = .ok (.ireturn, 1) := by decide +kernel
theorem dX7_copy_68 : decode cX7_copy 68 = .ok (.aload 6, 2) := by decide +kernel
theorem dX7_copy_70 : decode cX7_copy 70 = .ok (.iload_n 2, 1) := by decide +kernel
theorem dX7_copy_71 : decode cX7_copy 71 = .ok (.iload 5, 2) := by decide +kernel
theorem dX7_copy_73 : decode cX7_copy 73 = .ok (.invokevirtual 79, 3) := by decide +kernel
theorem dX7_copy_76 : decode cX7_copy 76 = .ok (.ifCond .eq 15, 3) := by decide +kernel
theorem dX7_copy_79 : decode cX7_copy 79 = .ok (.aload 7, 2) := by decide +kernel
theorem dX7_copy_81 : decode cX7_copy 81 = .ok (.iload 4, 2) := by decide +kernel
theorem dX7_copy_83 : decode cX7_copy 83 = .ok (.iload 5, 2) := by decide +kernel
theorem dX7_copy_85 : decode cX7_copy 85 = .ok (.invokevirtual 79, 3) := by decide +kernel
theorem dX7_copy_88 : decode cX7_copy 88 = .ok (.ifCond .ne 9, 3) := by decide +kernel
theorem dX7_copy_91 : decode cX7_copy 91 = .ok (.aload_n 0, 1) := by decide +kernel
theorem dX7_copy_92 : decode cX7_copy 92 = .ok (.iconst 2, 1) := by decide +kernel
theorem dX7_copy_93 : decode cX7_copy 93 = .ok (.invokevirtual 64, 3) := by decide +kernel
theorem dX7_copy_96 : decode cX7_copy 96 = .ok (.ireturn, 1) := by decide +kernel
theorem dX7_copy_97 : decode cX7_copy 97 = .ok (.aload 7, 2) := by decide +kernel
theorem dX7_copy_99 : decode cX7_copy 99 = .ok (.aload 6, 2) := by decide +kernel
theorem dX7_copy_101 : decode cX7_copy 101 = .ok (.iload_n 2, 1) := by decide +kernel
theorem dX7_copy_102 : decode cX7_copy 102 = .ok (.iload 4, 2) := by decide +kernel
theorem dX7_copy_104 : decode cX7_copy 104 = .ok (.iload 5, 2) := by decide +kernel
theorem dX7_copy_106 : decode cX7_copy 106 = .ok (.invokevirtual 93, 3) := by decide +kernel
theorem dX7_copy_109 : decode cX7_copy 109 = .ok (.aload_n 0, 1) := by decide +kernel
theorem dX7_copy_110 : decode cX7_copy 110 = .ok (.iload 5, 2) := by decide +kernel
theorem dX7_copy_112 : decode cX7_copy 112 = .ok (.invokevirtual 72, 3) := by decide +kernel
theorem dX7_copy_115 : decode cX7_copy 115 = .ok (.ireturn, 1) := by decide +kernel
theorem dX7_drop_0 : decode cX7_drop 0 = .ok (.aload_n 0, 1) := by decide +kernel
theorem dX7_drop_1 : decode cX7_drop 1 = .ok (.iload_n 1, 1) := by decide +kernel
theorem dX7_drop_2 : decode cX7_drop 2 = .ok (.invokevirtual 55, 3) := by decide +kernel
theorem dX7_drop_5 : decode cX7_drop 5 = .ok (.astore_n 2, 1) := by decide +kernel
theorem dX7_drop_6 : decode cX7_drop 6 = .ok (.aload_n 2, 1) := by decide +kernel
theorem dX7_drop_7 : decode cX7_drop 7 = .ok (.ifnonnull 6, 3) := by decide +kernel
theorem dX7_drop_10 : decode cX7_drop 10 = .ok (.ldc 63, 2) := by decide +kernel
theorem dX7_drop_12 : decode cX7_drop 12 = .ok (.ireturn, 1) := by decide +kernel
theorem dX7_drop_13 : decode cX7_drop 13 = .ok (.aload_n 2, 1) := by decide +kernel
theorem dX7_drop_14 : decode cX7_drop 14 = .ok (.invokevirtual 75, 3) := by decide +kernel
theorem dX7_drop_17 : decode cX7_drop 17 = .ok (.ifCond .eq 9, 3) := by decide +kernel
theorem dX7_drop_20 : decode cX7_drop 20 = .ok (.aload_n 0, 1) := by decide +kernel
theorem dX7_drop_21 : decode cX7_drop 21 = .ok (.iconst 1, 1) := by decide +kernel
theorem dX7_drop_22 : decode cX7_drop 22 = .ok (.invokevirtual 64, 3) := by decide +kernel
theorem dX7_drop_25 : decode cX7_drop 25 = .ok (.ireturn, 1) := by decide +kernel
theorem dX7_drop_26 : decode cX7_drop 26 = .ok (.aload_n 2, 1) := by decide +kernel
theorem dX7_drop_27 : decode cX7_drop 27 = .ok (.getfield 97, 3) := by decide +kernel
theorem dX7_drop_30 : decode cX7_drop 30 = .ok (.istore_n 3, 1) := by decide +kernel
theorem dX7_drop_31 : decode cX7_drop 31 = .ok (.aload_n 2, 1) := by decide +kernel
theorem dX7_drop_32 : decode cX7_drop 32 = .ok (.invokevirtual 100, 3) := by decide +kernel
theorem dX7_drop_35 : decode cX7_drop 35 = .ok (.aload_n 0, 1) := by decide +kernel
theorem dX7_drop_36 : decode cX7_drop 36 = .ok (.iload_n 3, 1) := by decide +kernel
theorem dX7_drop_37 : decode cX7_drop 37 = .ok (.invokevirtual 72, 3) := by decide +kernel
theorem dX7_drop_40 : decode cX7_drop 40 = .ok (.ireturn, 1) := by decide +kernel
theorem dX7_feed_0 : decode cX7_feed 0 = .ok (.iload_n 3, 1) := by decide +kernel
theorem dX7_feed_1 : decode cX7_feed 1 = .ok (.iconst 1, 1) := by decide +kernel
theorem dX7_feed_2 : decode cX7_feed 2 = .ok (.bipush 8, 2) := by decide +kernel
theorem dX7_feed_4 : decode cX7_feed 4 = .ok (.invokestatic 59, 3) := by decide +kernel
theorem dX7_feed_7 : decode cX7_feed 7 = .ok (.ifCond .ne 6, 3) := by decide +kernel
theorem dX7_feed_10 : decode cX7_feed 10 = .ok (.ldc 63, 2) := by decide +kernel
theorem dX7_feed_12 : decode cX7_feed 12 = .ok (.ireturn, 1) := by decide +kernel
theorem dX7_feed_13 : decode cX7_feed 13 = .ok (.aload_n 0, 1) := by decide +kernel
theorem dX7_feed_14 : decode cX7_feed 14 = .ok (.getfield 26, 3) := by decide +kernel
theorem dX7_feed_17 : decode cX7_feed 17 = .ok (.getfield 103, 3) := by decide +kernel
theorem dX7_feed_20 : decode cX7_feed 20 = .ok (.getfield 107, 3) := by decide +kernel
theorem dX7_feed_23 : decode cX7_feed 23 = .ok (.iload_n 3, 1) := by decide +kernel
theorem dX7_feed_24 : decode cX7_feed 24 = .ok (.iadd, 1) := by decide +kernel
theorem dX7_feed_25 : decode cX7_feed 25 = .ok (.sipush 300, 3) := by decide +kernel
theorem dX7_feed_28 : decode cX7_feed 28 = .ok (.if_icmp .le 6, 3) := by decide +kernel
theorem dX7_feed_31 : decode cX7_feed 31 = .ok (.ldc 110, 2) := by decide +kernel
theorem dX7_feed_33 : decode cX7_feed 33 = .ok (.ireturn, 1) := by decide +kernel
theorem dX7_feed_34 : decode cX7_feed 34 = .ok (.iload_n 3, 1) := by decide +kernel
theorem dX7_feed_35 : decode cX7_feed 35 = .ok (.iconst 1, 1) := by decide +kernel
theorem dX7_feed_36 : decode cX7_feed 36 = .ok (.isub, 1) := by decide +kernel
theorem dX7_feed_37 : decode cX7_feed 37 = .ok (.istore 4, 2) := by decide +kernel
theorem dX7_feed_39 : decode cX7_feed 39 = .ok (.iload 4, 2) := by decide +kernel
theorem dX7_feed_41 : decode cX7_feed 41 = .ok (.ifCond .lt 31, 3) := by decide +kernel
theorem dX7_feed_44 : decode cX7_feed 44 = .ok (.aload_n 0, 1) := by decide +kernel
theorem dX7_feed_45 : decode cX7_feed 45 = .ok (.getfield 26, 3) := by decide +kernel
theorem dX7_feed_48 : decode cX7_feed 48 = .ok (.getfield 103, 3) := by decide +kernel
theorem dX7_feed_51 : decode cX7_feed 51 = .ok (.lload_n 1, 1) := by decide +kernel
theorem dX7_feed_52 : decode cX7_feed 52 = .ok (.bipush 8, 2) := by decide +kernel
theorem dX7_feed_54 : decode cX7_feed 54 = .ok (.iload 4, 2) := by decide +kernel
theorem dX7_feed_56 : decode cX7_feed 56 = .ok (.imul, 1) := by decide +kernel
theorem dX7_feed_57 : decode cX7_feed 57 = .ok (.lshr, 1) := by decide +kernel
theorem dX7_feed_58 : decode cX7_feed 58 = .ok (.l2i, 1) := by decide +kernel
theorem dX7_feed_59 : decode cX7_feed 59 = .ok (.sipush 255, 3) := by decide +kernel
theorem dX7_feed_62 : decode cX7_feed 62 = .ok (.iand, 1) := by decide +kernel
theorem dX7_feed_63 : decode cX7_feed 63 = .ok (.invokevirtual 111, 3) := by decide +kernel
theorem dX7_feed_66 : decode cX7_feed 66 = .ok (.iinc 4 (-1), 3) := by decide +kernel
theorem dX7_feed_69 : decode cX7_feed 69 = .ok (.goto (-30), 3) := by decide +kernel
theorem dX7_feed_72 : decode cX7_feed 72 = .ok (.aload_n 0, 1) := by decide +kernel
theorem dX7_feed_73 : decode cX7_feed 73 = .ok (.getfield 26, 3) := by decide +kernel
theorem dX7_feed_76 : decode cX7_feed 76 = .ok (.getfield 103, 3) := by decide +kernel
theorem dX7_feed_79 : decode cX7_feed 79 = .ok (.getfield 107, 3) := by decide +kernel
theorem dX7_feed_82 : decode cX7_feed 82 = .ok (.ireturn, 1) := by decide +kernel
theorem dX7_table_0 : decode cX7_table 0 = .ok (.aload_n 0, 1) := by decide +kernel
theorem dX7_table_1 : decode cX7_table 1 = .ok (.getfield 26, 3) := by decide +kernel
theorem dX7_table_4 : decode cX7_table 4 = .ok (.invokevirtual 115, 3) := by decide +kernel
theorem dX7_table_7 : decode cX7_table 7 = .ok (.aload_n 0, 1) := by decide +kernel
theorem dX7_table_8 : decode cX7_table 8 = .ok (.getfield 26, 3) := by decide +kernel
theorem dX7_table_11 : decode cX7_table 11 = .ok (.getfield 103, 3) := by decide +kernel
theorem dX7_table_14 : decode cX7_table 14 = .ok (.invokevirtual 118, 3) := by decide +kernel
theorem dX7_table_17 : decode cX7_table 17 = .ok (.aload_n 0, 1) := by decide +kernel
theorem dX7_table_18 : decode cX7_table 18 = .ok (.getfield 26, 3) := by decide +kernel
theorem dX7_table_21 : decode cX7_table 21 = .ok (.getfield 121, 3) := by decide +kernel
theorem dX7_table_24 : decode cX7_table 24 = .ok (.ifCond .eq 25, 3) := by decide +kernel
theorem dX7_table_27 : decode cX7_table 27 = .ok (.aload_n 0, 1) := by decide +kernel
theorem dX7_table_28 : decode cX7_table 28 = .ok (.aload_n 0, 1) := by decide +kernel
theorem dX7_table_29 : decode cX7_table 29 = .ok (.getfield 26, 3) := by decide +kernel
theorem dX7_table_32 : decode cX7_table 32 = .ok (.getfield 121, 3) := by decide +kernel
theorem dX7_table_35 : decode cX7_table 35 = .ok (.putfield 124, 3) := by decide +kernel
theorem dX7_table_38 : decode cX7_table 38 = .ok (.ldc 127, 2) := by decide +kernel
theorem dX7_table_40 : decode cX7_table 40 = .ok (.aload_n 0, 1) := by decide +kernel
theorem dX7_table_41 : decode cX7_table 41 = .ok (.getfield 26, 3) := by decide +kernel
theorem dX7_table_44 : decode cX7_table 44 = .ok (.getfield 128, 3) := by decide +kernel
theorem dX7_table_47 : decode cX7_table 47 = .ok (.isub, 1) := by decide +kernel
theorem dX7_table_48 : decode cX7_table 48 = .ok (.ireturn, 1) := by decide +kernel
theorem dX7_table_49 : decode cX7_table 49 = .ok (.aload_n 0, 1) := by decide +kernel
theorem dX7_table_50 : decode cX7_table 50 = .ok (.getfield 30, 3) := by decide +kernel
theorem dX7_table_53 : decode cX7_table 53 = .ok (.aload_n 0, 1) := by decide +kernel
theorem dX7_table_54 : decode cX7_table 54 = .ok (.getfield 26, 3) := by decide +kernel
theorem dX7_table_57 : decode cX7_table 57 = .ok (.getfield 131, 3) := by decide +kernel
theorem dX7_table_60 : decode cX7_table 60 = .ok (.invokevirtual 134, 3) := by decide +kernel
theorem dX7_table_63 : decode cX7_table 63 = .ok (.aload_n 0, 1) := by decide +kernel
theorem dX7_table_64 : decode cX7_table 64 = .ok (.getfield 37, 3) := by decide +kernel
theorem dX7_table_67 : decode cX7_table 67 = .ok (.invokevirtual 138, 3) := by decide +kernel
theorem dX7_table_70 : decode cX7_table 70 = .ok (.aload_n 0, 1) := by decide +kernel
theorem dX7_table_71 : decode cX7_table 71 = .ok (.getfield 30, 3) := by decide +kernel
theorem dX7_table_74 : decode cX7_table 74 = .ok (.getfield 141, 3) := by decide +kernel
theorem dX7_table_77 : decode cX7_table 77 = .ok (.ireturn, 1) := by decide +kernel
theorem dX7_fault_0 : decode cX7_fault 0 = .ok (.aload_n 0, 1) := by decide +kernel
theorem dX7_fault_1 : decode cX7_fault 1 = .ok (.getfield 124, 3) := by decide +kernel
theorem dX7_fault_4 : decode cX7_fault 4 = .ok (.ireturn, 1) := by decide +kernel
theorem dX7_minutes_0 : decode cX7_minutes 0 = .ok (.aload_n 0, 1) := by decide +kernel
theorem dX7_minutes_1 : decode cX7_minutes 1 = .ok (.getfield 30, 3) := by decide +kernel
theorem dX7_minutes_4 : decode cX7_minutes 4 = .ok (.invokevirtual 144, 3) := by decide +kernel
theorem dX7_minutes_7 : decode cX7_minutes 7 = .ok (.ifCond .ne 6, 3) := by decide +kernel
theorem dX7_minutes_10 : decode cX7_minutes 10 = .ok (.ldc 147, 2) := by decide +kernel
theorem dX7_minutes_12 : decode cX7_minutes 12 = .ok (.ireturn, 1) := by decide +kernel
theorem dX7_minutes_13 : decode cX7_minutes 13 = .ok (.iload_n 1, 1) := by decide +kernel
theorem dX7_minutes_14 : decode cX7_minutes 14 = .ok (.iconst 1, 1) := by decide +kernel
theorem dX7_minutes_15 : decode cX7_minutes 15 = .ok (.bipush 24, 2) := by decide +kernel
theorem dX7_minutes_17 : decode cX7_minutes 17 = .ok (.invokestatic 59, 3) := by decide +kernel
theorem dX7_minutes_20 : decode cX7_minutes 20 = .ok (.ifCond .ne 6, 3) := by decide +kernel
theorem dX7_minutes_23 : decode cX7_minutes 23 = .ok (.ldc 63, 2) := by decide +kernel
theorem dX7_minutes_25 : decode cX7_minutes 25 = .ok (.ireturn, 1) := by decide +kernel
theorem dX7_minutes_26 : decode cX7_minutes 26 = .ok (.aload_n 0, 1) := by decide +kernel
theorem dX7_minutes_27 : decode cX7_minutes 27 = .ok (.getfield 30, 3) := by decide +kernel
theorem dX7_minutes_30 : decode cX7_minutes 30 = .ok (.getfield 148, 3) := by decide +kernel
theorem dX7_minutes_33 : decode cX7_minutes 33 = .ok (.iload_n 1, 1) := by decide +kernel
theorem dX7_minutes_34 : decode cX7_minutes 34 = .ok (.iadd, 1) := by decide +kernel
theorem dX7_minutes_35 : decode cX7_minutes 35 = .ok (.sipush 999, 3) := by decide +kernel
theorem dX7_minutes_38 : decode cX7_minutes 38 = .ok (.if_icmp .le 6, 3) := by decide +kernel
theorem dX7_minutes_41 : decode cX7_minutes 41 = .ok (.ldc 110, 2) := by decide +kernel
theorem dX7_minutes_43 : decode cX7_minutes 43 = .ok (.ireturn, 1) := by decide +kernel
theorem dX7_minutes_44 : decode cX7_minutes 44 = .ok (.iconst 0, 1) := by decide +kernel
theorem dX7_minutes_45 : decode cX7_minutes 45 = .ok (.istore_n 2, 1) := by decide +kernel
theorem dX7_minutes_46 : decode cX7_minutes 46 = .ok (.iload_n 2, 1) := by decide +kernel
theorem dX7_minutes_47 : decode cX7_minutes 47 = .ok (.iload_n 1, 1) := by decide +kernel
theorem dX7_minutes_48 : decode cX7_minutes 48 = .ok (.if_icmp .ge 27, 3) := by decide +kernel
theorem dX7_minutes_51 : decode cX7_minutes 51 = .ok (.aload_n 0, 1) := by decide +kernel
theorem dX7_minutes_52 : decode cX7_minutes 52 = .ok (.getfield 37, 3) := by decide +kernel
theorem dX7_minutes_55 : decode cX7_minutes 55 = .ok (.aload_n 0, 1) := by decide +kernel
theorem dX7_minutes_56 : decode cX7_minutes 56 = .ok (.getfield 30, 3) := by decide +kernel
theorem dX7_minutes_59 : decode cX7_minutes 59 = .ok (.invokevirtual 151, 3) := by decide +kernel
theorem dX7_minutes_62 : decode cX7_minutes 62 = .ok (.aload_n 0, 1) := by decide +kernel
theorem dX7_minutes_63 : decode cX7_minutes 63 = .ok (.getfield 30, 3) := by decide +kernel
theorem dX7_minutes_66 : decode cX7_minutes 66 = .ok (.invokevirtual 154, 3) := by decide +kernel
theorem dX7_minutes_69 : decode cX7_minutes 69 = .ok (.iinc 2 1, 3) := by decide +kernel
theorem dX7_minutes_72 : decode cX7_minutes 72 = .ok (.goto (-26), 3) := by decide +kernel
theorem dX7_minutes_75 : decode cX7_minutes 75 = .ok (.aload_n 0, 1) := by decide +kernel
theorem dX7_minutes_76 : decode cX7_minutes 76 = .ok (.getfield 30, 3) := by decide +kernel
theorem dX7_minutes_79 : decode cX7_minutes 79 = .ok (.getfield 157, 3) := by decide +kernel
theorem dX7_minutes_82 : decode cX7_minutes 82 = .ok (.ireturn, 1) := by decide +kernel
theorem dX7_turn_0 : decode cX7_turn 0 = .ok (.aload_n 0, 1) := by decide +kernel
theorem dX7_turn_1 : decode cX7_turn 1 = .ok (.getfield 30, 3) := by decide +kernel
theorem dX7_turn_4 : decode cX7_turn 4 = .ok (.invokevirtual 144, 3) := by decide +kernel
theorem dX7_turn_7 : decode cX7_turn 7 = .ok (.ifCond .ne 6, 3) := by decide +kernel
theorem dX7_turn_10 : decode cX7_turn 10 = .ok (.ldc 147, 2) := by decide +kernel
theorem dX7_turn_12 : decode cX7_turn 12 = .ok (.ireturn, 1) := by decide +kernel
theorem dX7_turn_13 : decode cX7_turn 13 = .ok (.iload_n 1, 1) := by decide +kernel
theorem dX7_turn_14 : decode cX7_turn 14 = .ok (.bipush (-9), 2) := by decide +kernel
theorem dX7_turn_16 : decode cX7_turn 16 = .ok (.bipush 9, 2) := by decide +kernel
theorem dX7_turn_18 : decode cX7_turn 18 = .ok (.invokestatic 59, 3) := by decide +kernel
theorem dX7_turn_21 : decode cX7_turn 21 = .ok (.ifCond .ne 6, 3) := by decide +kernel
theorem dX7_turn_24 : decode cX7_turn 24 = .ok (.ldc 63, 2) := by decide +kernel
theorem dX7_turn_26 : decode cX7_turn 26 = .ok (.ireturn, 1) := by decide +kernel
theorem dX7_turn_27 : decode cX7_turn 27 = .ok (.aload_n 0, 1) := by decide +kernel
theorem dX7_turn_28 : decode cX7_turn 28 = .ok (.getfield 37, 3) := by decide +kernel
theorem dX7_turn_31 : decode cX7_turn 31 = .ok (.aload_n 0, 1) := by decide +kernel
theorem dX7_turn_32 : decode cX7_turn 32 = .ok (.getfield 30, 3) := by decide +kernel
theorem dX7_turn_35 : decode cX7_turn 35 = .ok (.invokevirtual 151, 3) := by decide +kernel
theorem dX7_turn_38 : decode cX7_turn 38 = .ok (.aload_n 0, 1) := by decide +kernel
theorem dX7_turn_39 : decode cX7_turn 39 = .ok (.getfield 30, 3) := by decide +kernel
theorem dX7_turn_42 : decode cX7_turn 42 = .ok (.iload_n 1, 1) := by decide +kernel
theorem dX7_turn_43 : decode cX7_turn 43 = .ok (.invokevirtual 160, 3) := by decide +kernel
theorem dX7_turn_46 : decode cX7_turn 46 = .ok (.aload_n 0, 1) := by decide +kernel
theorem dX7_turn_47 : decode cX7_turn 47 = .ok (.getfield 30, 3) := by decide +kernel
theorem dX7_turn_50 : decode cX7_turn 50 = .ok (.getfield 157, 3) := by decide +kernel
theorem dX7_turn_53 : decode cX7_turn 53 = .ok (.ireturn, 1) := by decide +kernel
theorem dX7_fill_0 : decode cX7_fill 0 = .ok (.aload_n 0, 1) := by decide +kernel
theorem dX7_fill_1 : decode cX7_fill 1 = .ok (.getfield 30, 3) := by decide +kernel
theorem dX7_fill_4 : decode cX7_fill 4 = .ok (.iload_n 1, 1) := by decide +kernel
theorem dX7_fill_5 : decode cX7_fill 5 = .ok (.invokevirtual 163, 3) := by decide +kernel
theorem dX7_fill_8 : decode cX7_fill 8 = .ok (.ifCond .eq 13, 3) := by decide +kernel
theorem dX7_fill_11 : decode cX7_fill 11 = .ok (.iload_n 2, 1) := by decide +kernel
theorem dX7_fill_12 : decode cX7_fill 12 = .ok (.iconst 1, 1) := by decide +kernel
theorem dX7_fill_13 : decode cX7_fill 13 = .ok (.bipush 30, 2) := by decide +kernel
theorem dX7_fill_15 : decode cX7_fill 15 = .ok (.invokestatic 59, 3) := by decide +kernel
theorem dX7_fill_18 : decode cX7_fill 18 = .ok (.ifCond .ne 6, 3) := by decide +kernel
theorem dX7_fill_21 : decode cX7_fill 21 = .ok (.ldc 63, 2) := by decide +kernel
theorem dX7_fill_23 : decode cX7_fill 23 = .ok (.ireturn, 1) := by decide +kernel
theorem dX7_fill_24 : decode cX7_fill 24 = .ok (.aload_n 0, 1) := by decide +kernel
theorem dX7_fill_25 : decode cX7_fill 25 = .ok (.getfield 30, 3) := by decide +kernel
theorem dX7_fill_28 : decode cX7_fill 28 = .ok (.iconst 4, 1) := by decide +kernel
theorem dX7_fill_29 : decode cX7_fill 29 = .ok (.iload_n 1, 1) := by decide +kernel
theorem dX7_fill_30 : decode cX7_fill 30 = .ok (.invokevirtual 167, 3) := by decide +kernel
theorem dX7_fill_33 : decode cX7_fill 33 = .ok (.iload_n 2, 1) := by decide +kernel
theorem dX7_fill_34 : decode cX7_fill 34 = .ok (.iadd, 1) := by decide +kernel
theorem dX7_fill_35 : decode cX7_fill 35 = .ok (.bipush 99, 2) := by decide +kernel
theorem dX7_fill_37 : decode cX7_fill 37 = .ok (.if_icmp .le 6, 3) := by decide +kernel
theorem dX7_fill_40 : decode cX7_fill 40 = .ok (.ldc 110, 2) := by decide +kernel
theorem dX7_fill_42 : decode cX7_fill 42 = .ok (.ireturn, 1) := by decide +kernel
theorem dX7_fill_43 : decode cX7_fill 43 = .ok (.aload_n 0, 1) := by decide +kernel
theorem dX7_fill_44 : decode cX7_fill 44 = .ok (.getfield 37, 3) := by decide +kernel
theorem dX7_fill_47 : decode cX7_fill 47 = .ok (.aload_n 0, 1) := by decide +kernel
theorem dX7_fill_48 : decode cX7_fill 48 = .ok (.getfield 30, 3) := by decide +kernel
theorem dX7_fill_51 : decode cX7_fill 51 = .ok (.invokevirtual 151, 3) := by decide +kernel
theorem dX7_fill_54 : decode cX7_fill 54 = .ok (.aload_n 0, 1) := by decide +kernel
theorem dX7_fill_55 : decode cX7_fill 55 = .ok (.getfield 30, 3) := by decide +kernel
theorem dX7_fill_58 : decode cX7_fill 58 = .ok (.iconst 4, 1) := by decide +kernel
theorem dX7_fill_59 : decode cX7_fill 59 = .ok (.iload_n 1, 1) := by decide +kernel
theorem dX7_fill_60 : decode cX7_fill 60 = .ok (.iload_n 2, 1) := by decide +kernel
theorem dX7_fill_61 : decode cX7_fill 61 = .ok (.invokevirtual 171, 3) := by decide +kernel
theorem dX7_fill_64 : decode cX7_fill 64 = .ok (.aload_n 0, 1) := by decide +kernel
theorem dX7_fill_65 : decode cX7_fill 65 = .ok (.getfield 30, 3) := by decide +kernel
theorem dX7_fill_68 : decode cX7_fill 68 = .ok (.iconst 4, 1) := by decide +kernel
theorem dX7_fill_69 : decode cX7_fill 69 = .ok (.iload_n 1, 1) := by decide +kernel
theorem dX7_fill_70 : decode cX7_fill 70 = .ok (.invokevirtual 167, 3) := by decide +kernel
theorem dX7_fill_73 : decode cX7_fill 73 = .ok (.ireturn, 1) := by decide +kernel
theorem dX7_change_0 : decode cX7_change 0 = .ok (.aload_n 0, 1) := by decide +kernel
theorem dX7_change_1 : decode cX7_change 1 = .ok (.getfield 30, 3) := by decide +kernel
theorem dX7_change_4 : decode cX7_change 4 = .ok (.iload_n 1, 1) := by decide +kernel
theorem dX7_change_5 : decode cX7_change 5 = .ok (.invokevirtual 163, 3) := by decide +kernel
theorem dX7_change_8 : decode cX7_change 8 = .ok (.ifCond .eq 19, 3) := by decide +kernel
theorem dX7_change_11 : decode cX7_change 11 = .ok (.aload_n 0, 1) := by decide +kernel
theorem dX7_change_12 : decode cX7_change 12 = .ok (.getfield 30, 3) := by decide +kernel
theorem dX7_change_15 : decode cX7_change 15 = .ok (.iload_n 2, 1) := by decide +kernel
theorem dX7_change_16 : decode cX7_change 16 = .ok (.invokevirtual 163, 3) := by decide +kernel
theorem dX7_change_19 : decode cX7_change 19 = .ok (.ifCond .eq 8, 3) := by decide +kernel
theorem dX7_change_22 : decode cX7_change 22 = .ok (.iload_n 1, 1) := by decide +kernel
theorem dX7_change_23 : decode cX7_change 23 = .ok (.iload_n 2, 1) := by decide +kernel
theorem dX7_change_24 : decode cX7_change 24 = .ok (.if_icmp .ne 6, 3) := by decide +kernel
theorem dX7_change_27 : decode cX7_change 27 = .ok (.ldc 63, 2) := by decide +kernel
theorem dX7_change_29 : decode cX7_change 29 = .ok (.ireturn, 1) := by decide +kernel
theorem dX7_change_30 : decode cX7_change 30 = .ok (.aload_n 0, 1) := by decide +kernel
theorem dX7_change_31 : decode cX7_change 31 = .ok (.getfield 37, 3) := by decide +kernel
theorem dX7_change_34 : decode cX7_change 34 = .ok (.aload_n 0, 1) := by decide +kernel
theorem dX7_change_35 : decode cX7_change 35 = .ok (.getfield 30, 3) := by decide +kernel
theorem dX7_change_38 : decode cX7_change 38 = .ok (.invokevirtual 151, 3) := by decide +kernel
theorem dX7_change_41 : decode cX7_change 41 = .ok (.aload_n 0, 1) := by decide +kernel
theorem dX7_change_42 : decode cX7_change 42 = .ok (.getfield 30, 3) := by decide +kernel
theorem dX7_change_45 : decode cX7_change 45 = .ok (.iload_n 1, 1) := by decide +kernel
theorem dX7_change_46 : decode cX7_change 46 = .ok (.iload_n 2, 1) := by decide +kernel
theorem dX7_change_47 : decode cX7_change 47 = .ok (.invokevirtual 174, 3) := by decide +kernel
theorem dX7_change_50 : decode cX7_change 50 = .ok (.aload_n 0, 1) := by decide +kernel
theorem dX7_change_51 : decode cX7_change 51 = .ok (.getfield 30, 3) := by decide +kernel
theorem dX7_change_54 : decode cX7_change 54 = .ok (.iconst 2, 1) := by decide +kernel
theorem dX7_change_55 : decode cX7_change 55 = .ok (.iload_n 1, 1) := by decide +kernel
theorem dX7_change_56 : decode cX7_change 56 = .ok (.invokevirtual 167, 3) := by decide +kernel
theorem dX7_change_59 : decode cX7_change 59 = .ok (.ireturn, 1) := by decide +kernel
theorem dX7_lay_0 : decode cX7_lay 0 = .ok (.aload_n 0, 1) := by decide +kernel
theorem dX7_lay_1 : decode cX7_lay 1 = .ok (.getfield 30, 3) := by decide +kernel
theorem dX7_lay_4 : decode cX7_lay 4 = .ok (.iload_n 1, 1) := by decide +kernel
theorem dX7_lay_5 : decode cX7_lay 5 = .ok (.invokevirtual 163, 3) := by decide +kernel
theorem dX7_lay_8 : decode cX7_lay 8 = .ok (.ifCond .eq 19, 3) := by decide +kernel
theorem dX7_lay_11 : decode cX7_lay 11 = .ok (.aload_n 0, 1) := by decide +kernel
theorem dX7_lay_12 : decode cX7_lay 12 = .ok (.getfield 30, 3) := by decide +kernel
theorem dX7_lay_15 : decode cX7_lay 15 = .ok (.iload_n 2, 1) := by decide +kernel
theorem dX7_lay_16 : decode cX7_lay 16 = .ok (.invokevirtual 163, 3) := by decide +kernel
theorem dX7_lay_19 : decode cX7_lay 19 = .ok (.ifCond .eq 8, 3) := by decide +kernel
theorem dX7_lay_22 : decode cX7_lay 22 = .ok (.iload_n 1, 1) := by decide +kernel
theorem dX7_lay_23 : decode cX7_lay 23 = .ok (.iload_n 2, 1) := by decide +kernel
theorem dX7_lay_24 : decode cX7_lay 24 = .ok (.if_icmp .ne 6, 3) := by decide +kernel
theorem dX7_lay_27 : decode cX7_lay 27 = .ok (.ldc 63, 2) := by decide +kernel
theorem dX7_lay_29 : decode cX7_lay 29 = .ok (.ireturn, 1) := by decide +kernel
theorem dX7_lay_30 : decode cX7_lay 30 = .ok (.aload_n 0, 1) := by decide +kernel
theorem dX7_lay_31 : decode cX7_lay 31 = .ok (.getfield 37, 3) := by decide +kernel
theorem dX7_lay_34 : decode cX7_lay 34 = .ok (.aload_n 0, 1) := by decide +kernel
theorem dX7_lay_35 : decode cX7_lay 35 = .ok (.getfield 30, 3) := by decide +kernel
theorem dX7_lay_38 : decode cX7_lay 38 = .ok (.invokevirtual 151, 3) := by decide +kernel
theorem dX7_lay_41 : decode cX7_lay 41 = .ok (.aload_n 0, 1) := by decide +kernel
theorem dX7_lay_42 : decode cX7_lay 42 = .ok (.getfield 30, 3) := by decide +kernel
theorem dX7_lay_45 : decode cX7_lay 45 = .ok (.iload_n 1, 1) := by decide +kernel
theorem dX7_lay_46 : decode cX7_lay 46 = .ok (.iload_n 2, 1) := by decide +kernel
theorem dX7_lay_47 : decode cX7_lay 47 = .ok (.invokevirtual 177, 3) := by decide +kernel
theorem dX7_lay_50 : decode cX7_lay 50 = .ok (.aload_n 0, 1) := by decide +kernel
theorem dX7_lay_51 : decode cX7_lay 51 = .ok (.getfield 30, 3) := by decide +kernel
theorem dX7_lay_54 : decode cX7_lay 54 = .ok (.iconst 5, 1) := by decide +kernel
theorem dX7_lay_55 : decode cX7_lay 55 = .ok (.iload_n 1, 1) := by decide +kernel
theorem dX7_lay_56 : decode cX7_lay 56 = .ok (.invokevirtual 167, 3) := by decide +kernel
theorem dX7_lay_59 : decode cX7_lay 59 = .ok (.ireturn, 1) := by decide +kernel
theorem dX7_undo_0 : decode cX7_undo 0 = .ok (.aload_n 0, 1) := by decide +kernel
theorem dX7_undo_1 : decode cX7_undo 1 = .ok (.getfield 37, 3) := by decide +kernel
theorem dX7_undo_4 : decode cX7_undo 4 = .ok (.getfield 180, 3) := by decide +kernel
theorem dX7_undo_7 : decode cX7_undo 7 = .ok (.ifCond .ne 6, 3) := by decide +kernel
theorem dX7_undo_10 : decode cX7_undo 10 = .ok (.ldc 147, 2) := by decide +kernel
theorem dX7_undo_12 : decode cX7_undo 12 = .ok (.ireturn, 1) := by decide +kernel
theorem dX7_undo_13 : decode cX7_undo 13 = .ok (.aload_n 0, 1) := by decide +kernel
theorem dX7_undo_14 : decode cX7_undo 14 = .ok (.getfield 37, 3) := by decide +kernel
theorem dX7_undo_17 : decode cX7_undo 17 = .ok (.aload_n 0, 1) := by decide +kernel
theorem dX7_undo_18 : decode cX7_undo 18 = .ok (.getfield 30, 3) := by decide +kernel
theorem dX7_undo_21 : decode cX7_undo 21 = .ok (.invokevirtual 183, 3) := by decide +kernel
theorem dX7_undo_24 : decode cX7_undo 24 = .ok (.aload_n 0, 1) := by decide +kernel
theorem dX7_undo_25 : decode cX7_undo 25 = .ok (.getfield 37, 3) := by decide +kernel
theorem dX7_undo_28 : decode cX7_undo 28 = .ok (.getfield 180, 3) := by decide +kernel
theorem dX7_undo_31 : decode cX7_undo 31 = .ok (.ireturn, 1) := by decide +kernel
theorem dX7_guest_0 : decode cX7_guest 0 = .ok (.aload_n 0, 1) := by decide +kernel
theorem dX7_guest_1 : decode cX7_guest 1 = .ok (.getfield 30, 3) := by decide +kernel
theorem dX7_guest_4 : decode cX7_guest 4 = .ok (.iload_n 1, 1) := by decide +kernel
theorem dX7_guest_5 : decode cX7_guest 5 = .ok (.invokevirtual 163, 3) := by decide +kernel
theorem dX7_guest_8 : decode cX7_guest 8 = .ok (.ifCond .ne 6, 3) := by decide +kernel
theorem dX7_guest_11 : decode cX7_guest 11 = .ok (.ldc 63, 2) := by decide +kernel
theorem dX7_guest_13 : decode cX7_guest 13 = .ok (.ireturn, 1) := by decide +kernel
theorem dX7_guest_14 : decode cX7_guest 14 = .ok (.iload_n 2, 1) := by decide +kernel
theorem dX7_guest_15 : decode cX7_guest 15 = .ok (.tableswitch 68 0 3 #[29, 39, 49, 59], 29) := by decide +kernel
theorem dX7_guest_44 : decode cX7_guest 44 = .ok (.aload_n 0, 1) := by decide +kernel
theorem dX7_guest_45 : decode cX7_guest 45 = .ok (.getfield 30, 3) := by decide +kernel
theorem dX7_guest_48 : decode cX7_guest 48 = .ok (.iconst 2, 1) := by decide +kernel
theorem dX7_guest_49 : decode cX7_guest 49 = .ok (.iload_n 1, 1) := by decide +kernel
theorem dX7_guest_50 : decode cX7_guest 50 = .ok (.invokevirtual 167, 3) := by decide +kernel
theorem dX7_guest_53 : decode cX7_guest 53 = .ok (.ireturn, 1) := by decide +kernel
theorem dX7_guest_54 : decode cX7_guest 54 = .ok (.aload_n 0, 1) := by decide +kernel
theorem dX7_guest_55 : decode cX7_guest 55 = .ok (.getfield 30, 3) := by decide +kernel
theorem dX7_guest_58 : decode cX7_guest 58 = .ok (.iconst 1, 1) := by decide +kernel
theorem dX7_guest_59 : decode cX7_guest 59 = .ok (.iload_n 1, 1) := by decide +kernel
theorem dX7_guest_60 : decode cX7_guest 60 = .ok (.invokevirtual 167, 3) := by decide +kernel
theorem dX7_guest_63 : decode cX7_guest 63 = .ok (.ireturn, 1) := by decide +kernel
theorem dX7_guest_64 : decode cX7_guest 64 = .ok (.aload_n 0, 1) := by decide +kernel
theorem dX7_guest_65 : decode cX7_guest 65 = .ok (.getfield 30, 3) := by decide +kernel
theorem dX7_guest_68 : decode cX7_guest 68 = .ok (.iconst 3, 1) := by decide +kernel
theorem dX7_guest_69 : decode cX7_guest 69 = .ok (.iload_n 1, 1) := by decide +kernel
theorem dX7_guest_70 : decode cX7_guest 70 = .ok (.invokevirtual 167, 3) := by decide +kernel
theorem dX7_guest_73 : decode cX7_guest 73 = .ok (.ireturn, 1) := by decide +kernel
theorem dX7_guest_74 : decode cX7_guest 74 = .ok (.aload_n 0, 1) := by decide +kernel
theorem dX7_guest_75 : decode cX7_guest 75 = .ok (.getfield 30, 3) := by decide +kernel
theorem dX7_guest_78 : decode cX7_guest 78 = .ok (.iload_n 1, 1) := by decide +kernel
theorem dX7_guest_79 : decode cX7_guest 79 = .ok (.invokevirtual 186, 3) := by decide +kernel
theorem dX7_guest_82 : decode cX7_guest 82 = .ok (.ireturn, 1) := by decide +kernel
theorem dX7_guest_83 : decode cX7_guest 83 = .ok (.ldc 63, 2) := by decide +kernel
theorem dX7_guest_85 : decode cX7_guest 85 = .ok (.ireturn, 1) := by decide +kernel
theorem dX7_dish_0 : decode cX7_dish 0 = .ok (.aload_n 0, 1) := by decide +kernel
theorem dX7_dish_1 : decode cX7_dish 1 = .ok (.getfield 30, 3) := by decide +kernel
theorem dX7_dish_4 : decode cX7_dish 4 = .ok (.iload_n 1, 1) := by decide +kernel
theorem dX7_dish_5 : decode cX7_dish 5 = .ok (.invokevirtual 163, 3) := by decide +kernel
theorem dX7_dish_8 : decode cX7_dish 8 = .ok (.ifCond .ne 6, 3) := by decide +kernel
theorem dX7_dish_11 : decode cX7_dish 11 = .ok (.ldc 63, 2) := by decide +kernel
theorem dX7_dish_13 : decode cX7_dish 13 = .ok (.ireturn, 1) := by decide +kernel
theorem dX7_dish_14 : decode cX7_dish 14 = .ok (.iload_n 2, 1) := by decide +kernel
theorem dX7_dish_15 : decode cX7_dish 15 = .ok (.lookupswitch 45 #[(0, 25), (1, 35)], 25) := by decide +kernel
theorem dX7_dish_40 : decode cX7_dish 40 = .ok (.aload_n 0, 1) := by decide +kernel
theorem dX7_dish_41 : decode cX7_dish 41 = .ok (.getfield 30, 3) := by decide +kernel
theorem dX7_dish_44 : decode cX7_dish 44 = .ok (.iconst 4, 1) := by decide +kernel
theorem dX7_dish_45 : decode cX7_dish 45 = .ok (.iload_n 1, 1) := by decide +kernel
theorem dX7_dish_46 : decode cX7_dish 46 = .ok (.invokevirtual 167, 3) := by decide +kernel
theorem dX7_dish_49 : decode cX7_dish 49 = .ok (.ireturn, 1) := by decide +kernel
theorem dX7_dish_50 : decode cX7_dish 50 = .ok (.aload_n 0, 1) := by decide +kernel
theorem dX7_dish_51 : decode cX7_dish 51 = .ok (.getfield 30, 3) := by decide +kernel
theorem dX7_dish_54 : decode cX7_dish 54 = .ok (.iconst 5, 1) := by decide +kernel
theorem dX7_dish_55 : decode cX7_dish 55 = .ok (.iload_n 1, 1) := by decide +kernel
theorem dX7_dish_56 : decode cX7_dish 56 = .ok (.invokevirtual 167, 3) := by decide +kernel
theorem dX7_dish_59 : decode cX7_dish 59 = .ok (.ireturn, 1) := by decide +kernel
theorem dX7_dish_60 : decode cX7_dish 60 = .ok (.ldc 63, 2) := by decide +kernel
theorem dX7_dish_62 : decode cX7_dish 62 = .ok (.ireturn, 1) := by decide +kernel
theorem dX7_ahead_0 : decode cX7_ahead 0 = .ok (.aload_n 0, 1) := by decide +kernel
theorem dX7_ahead_1 : decode cX7_ahead 1 = .ok (.getfield 30, 3) := by decide +kernel
theorem dX7_ahead_4 : decode cX7_ahead 4 = .ok (.invokevirtual 144, 3) := by decide +kernel
theorem dX7_ahead_7 : decode cX7_ahead 7 = .ok (.ifCond .ne 6, 3) := by decide +kernel
theorem dX7_ahead_10 : decode cX7_ahead 10 = .ok (.ldc 147, 2) := by decide +kernel
theorem dX7_ahead_12 : decode cX7_ahead 12 = .ok (.ireturn, 1) := by decide +kernel
theorem dX7_ahead_13 : decode cX7_ahead 13 = .ok (.iload_n 1, 1) := by decide +kernel
theorem dX7_ahead_14 : decode cX7_ahead 14 = .ok (.iconst 0, 1) := by decide +kernel
theorem dX7_ahead_15 : decode cX7_ahead 15 = .ok (.bipush 99, 2) := by decide +kernel
theorem dX7_ahead_17 : decode cX7_ahead 17 = .ok (.invokestatic 59, 3) := by decide +kernel
theorem dX7_ahead_20 : decode cX7_ahead 20 = .ok (.ifCond .eq 12, 3) := by decide +kernel
theorem dX7_ahead_23 : decode cX7_ahead 23 = .ok (.iload_n 2, 1) := by decide +kernel
theorem dX7_ahead_24 : decode cX7_ahead 24 = .ok (.iconst 0, 1) := by decide +kernel
theorem dX7_ahead_25 : decode cX7_ahead 25 = .ok (.iconst 1, 1) := by decide +kernel
theorem dX7_ahead_26 : decode cX7_ahead 26 = .ok (.invokestatic 59, 3) := by decide +kernel
theorem dX7_ahead_29 : decode cX7_ahead 29 = .ok (.ifCond .ne 6, 3) := by decide +kernel
theorem dX7_ahead_32 : decode cX7_ahead 32 = .ok (.ldc 63, 2) := by decide +kernel
theorem dX7_ahead_34 : decode cX7_ahead 34 = .ok (.ireturn, 1) := by decide +kernel
theorem dX7_ahead_35 : decode cX7_ahead 35 = .ok (.aload_n 0, 1) := by decide +kernel
theorem dX7_ahead_36 : decode cX7_ahead 36 = .ok (.getfield 44, 3) := by decide +kernel
theorem dX7_ahead_39 : decode cX7_ahead 39 = .ok (.aload_n 0, 1) := by decide +kernel
theorem dX7_ahead_40 : decode cX7_ahead 40 = .ok (.getfield 30, 3) := by decide +kernel
theorem dX7_ahead_43 : decode cX7_ahead 43 = .ok (.iload_n 1, 1) := by decide +kernel
theorem dX7_ahead_44 : decode cX7_ahead 44 = .ok (.invokevirtual 189, 3) := by decide +kernel
theorem dX7_ahead_47 : decode cX7_ahead 47 = .ok (.istore_n 3, 1) := by decide +kernel
theorem dX7_ahead_48 : decode cX7_ahead 48 = .ok (.iload_n 2, 1) := by decide +kernel
theorem dX7_ahead_49 : decode cX7_ahead 49 = .ok (.ifCond .ne 16, 3) := by decide +kernel
theorem dX7_ahead_52 : decode cX7_ahead 52 = .ok (.aload_n 0, 1) := by decide +kernel
theorem dX7_ahead_53 : decode cX7_ahead 53 = .ok (.getfield 44, 3) := by decide +kernel
theorem dX7_ahead_56 : decode cX7_ahead 56 = .ok (.getfield 193, 3) := by decide +kernel
theorem dX7_ahead_59 : decode cX7_ahead 59 = .ok (.getfield 157, 3) := by decide +kernel
theorem dX7_ahead_62 : decode cX7_ahead 62 = .ok (.goto 4, 3) := by decide +kernel
theorem dX7_ahead_65 : decode cX7_ahead 65 = .ok (.iload_n 3, 1) := by decide +kernel
theorem dX7_ahead_66 : decode cX7_ahead 66 = .ok (.ireturn, 1) := by decide +kernel
theorem dX7_dishAhead_0 : decode cX7_dishAhead 0 = .ok (.aload_n 0, 1) := by decide +kernel
theorem dX7_dishAhead_1 : decode cX7_dishAhead 1 = .ok (.getfield 30, 3) := by decide +kernel
theorem dX7_dishAhead_4 : decode cX7_dishAhead 4 = .ok (.iload_n 1, 1) := by decide +kernel
theorem dX7_dishAhead_5 : decode cX7_dishAhead 5 = .ok (.invokevirtual 163, 3) := by decide +kernel
theorem dX7_dishAhead_8 : decode cX7_dishAhead 8 = .ok (.ifCond .eq 13, 3) := by decide +kernel
theorem dX7_dishAhead_11 : decode cX7_dishAhead 11 = .ok (.iload_n 2, 1) := by decide +kernel
theorem dX7_dishAhead_12 : decode cX7_dishAhead 12 = .ok (.iconst 0, 1) := by decide +kernel
theorem dX7_dishAhead_13 : decode cX7_dishAhead 13 = .ok (.bipush 99, 2) := by decide +kernel
theorem dX7_dishAhead_15 : decode cX7_dishAhead 15 = .ok (.invokestatic 59, 3) := by decide +kernel
theorem dX7_dishAhead_18 : decode cX7_dishAhead 18 = .ok (.ifCond .ne 6, 3) := by decide +kernel
theorem dX7_dishAhead_21 : decode cX7_dishAhead 21 = .ok (.ldc 63, 2) := by decide +kernel
theorem dX7_dishAhead_23 : decode cX7_dishAhead 23 = .ok (.ireturn, 1) := by decide +kernel
theorem dX7_dishAhead_24 : decode cX7_dishAhead 24 = .ok (.aload_n 0, 1) := by decide +kernel
theorem dX7_dishAhead_25 : decode cX7_dishAhead 25 = .ok (.getfield 44, 3) := by decide +kernel
theorem dX7_dishAhead_28 : decode cX7_dishAhead 28 = .ok (.aload_n 0, 1) := by decide +kernel
theorem dX7_dishAhead_29 : decode cX7_dishAhead 29 = .ok (.getfield 30, 3) := by decide +kernel
theorem dX7_dishAhead_32 : decode cX7_dishAhead 32 = .ok (.iload_n 2, 1) := by decide +kernel
theorem dX7_dishAhead_33 : decode cX7_dishAhead 33 = .ok (.invokevirtual 189, 3) := by decide +kernel
theorem dX7_dishAhead_36 : decode cX7_dishAhead 36 = .ok (.pop, 1) := by decide +kernel
theorem dX7_dishAhead_37 : decode cX7_dishAhead 37 = .ok (.aload_n 0, 1) := by decide +kernel
theorem dX7_dishAhead_38 : decode cX7_dishAhead 38 = .ok (.getfield 44, 3) := by decide +kernel
theorem dX7_dishAhead_41 : decode cX7_dishAhead 41 = .ok (.getfield 193, 3) := by decide +kernel
theorem dX7_dishAhead_44 : decode cX7_dishAhead 44 = .ok (.iconst 4, 1) := by decide +kernel
theorem dX7_dishAhead_45 : decode cX7_dishAhead 45 = .ok (.iload_n 1, 1) := by decide +kernel
theorem dX7_dishAhead_46 : decode cX7_dishAhead 46 = .ok (.invokevirtual 167, 3) := by decide +kernel
theorem dX7_dishAhead_49 : decode cX7_dishAhead 49 = .ok (.ireturn, 1) := by decide +kernel
theorem dX7_guestAhead_0 : decode cX7_guestAhead 0 = .ok (.aload_n 0, 1) := by decide +kernel
theorem dX7_guestAhead_1 : decode cX7_guestAhead 1 = .ok (.getfield 30, 3) := by decide +kernel
theorem dX7_guestAhead_4 : decode cX7_guestAhead 4 = .ok (.iload_n 1, 1) := by decide +kernel
theorem dX7_guestAhead_5 : decode cX7_guestAhead 5 = .ok (.invokevirtual 163, 3) := by decide +kernel
theorem dX7_guestAhead_8 : decode cX7_guestAhead 8 = .ok (.ifCond .eq 13, 3) := by decide +kernel
theorem dX7_guestAhead_11 : decode cX7_guestAhead 11 = .ok (.iload_n 2, 1) := by decide +kernel
theorem dX7_guestAhead_12 : decode cX7_guestAhead 12 = .ok (.iconst 0, 1) := by decide +kernel
theorem dX7_guestAhead_13 : decode cX7_guestAhead 13 = .ok (.bipush 99, 2) := by decide +kernel
theorem dX7_guestAhead_15 : decode cX7_guestAhead 15 = .ok (.invokestatic 59, 3) := by decide +kernel
theorem dX7_guestAhead_18 : decode cX7_guestAhead 18 = .ok (.ifCond .ne 6, 3) := by decide +kernel
theorem dX7_guestAhead_21 : decode cX7_guestAhead 21 = .ok (.ldc 63, 2) := by decide +kernel
theorem dX7_guestAhead_23 : decode cX7_guestAhead 23 = .ok (.ireturn, 1) := by decide +kernel
theorem dX7_guestAhead_24 : decode cX7_guestAhead 24 = .ok (.aload_n 0, 1) := by decide +kernel
theorem dX7_guestAhead_25 : decode cX7_guestAhead 25 = .ok (.getfield 44, 3) := by decide +kernel
theorem dX7_guestAhead_28 : decode cX7_guestAhead 28 = .ok (.aload_n 0, 1) := by decide +kernel
theorem dX7_guestAhead_29 : decode cX7_guestAhead 29 = .ok (.getfield 30, 3) := by decide +kernel
theorem dX7_guestAhead_32 : decode cX7_guestAhead 32 = .ok (.iload_n 1, 1) := by decide +kernel
theorem dX7_guestAhead_33 : decode cX7_guestAhead 33 = .ok (.iload_n 1, 1) := by decide +kernel
theorem dX7_guestAhead_34 : decode cX7_guestAhead 34 = .ok (.iload_n 2, 1) := by decide +kernel
theorem dX7_guestAhead_35 : decode cX7_guestAhead 35 = .ok (.invokevirtual 196, 3) := by decide +kernel
theorem dX7_guestAhead_38 : decode cX7_guestAhead 38 = .ok (.ireturn, 1) := by decide +kernel
theorem dX7_last_0 : decode cX7_last 0 = .ok (.aload_n 0, 1) := by decide +kernel
theorem dX7_last_1 : decode cX7_last 1 = .ok (.getfield 30, 3) := by decide +kernel
theorem dX7_last_4 : decode cX7_last 4 = .ok (.iload_n 1, 1) := by decide +kernel
theorem dX7_last_5 : decode cX7_last 5 = .ok (.invokevirtual 163, 3) := by decide +kernel
theorem dX7_last_8 : decode cX7_last 8 = .ok (.ifCond .eq 12, 3) := by decide +kernel
theorem dX7_last_11 : decode cX7_last 11 = .ok (.iload_n 2, 1) := by decide +kernel
theorem dX7_last_12 : decode cX7_last 12 = .ok (.iconst 0, 1) := by decide +kernel
theorem dX7_last_13 : decode cX7_last 13 = .ok (.iconst 1, 1) := by decide +kernel
theorem dX7_last_14 : decode cX7_last 14 = .ok (.invokestatic 59, 3) := by decide +kernel
theorem dX7_last_17 : decode cX7_last 17 = .ok (.ifCond .ne 6, 3) := by decide +kernel
theorem dX7_last_20 : decode cX7_last 20 = .ok (.ldc 63, 2) := by decide +kernel
theorem dX7_last_22 : decode cX7_last 22 = .ok (.ireturn, 1) := by decide +kernel
theorem dX7_last_23 : decode cX7_last 23 = .ok (.aload_n 0, 1) := by decide +kernel
theorem dX7_last_24 : decode cX7_last 24 = .ok (.getfield 44, 3) := by decide +kernel
theorem dX7_last_27 : decode cX7_last 27 = .ok (.aload_n 0, 1) := by decide +kernel
theorem dX7_last_28 : decode cX7_last 28 = .ok (.getfield 30, 3) := by decide +kernel
theorem dX7_last_31 : decode cX7_last 31 = .ok (.iload_n 1, 1) := by decide +kernel
theorem dX7_last_32 : decode cX7_last 32 = .ok (.invokevirtual 200, 3) := by decide +kernel
theorem dX7_last_35 : decode cX7_last 35 = .ok (.istore_n 3, 1) := by decide +kernel
theorem dX7_last_36 : decode cX7_last 36 = .ok (.iload_n 2, 1) := by decide +kernel
theorem dX7_last_37 : decode cX7_last 37 = .ok (.iconst 1, 1) := by decide +kernel
theorem dX7_last_38 : decode cX7_last 38 = .ok (.if_icmp .eq 9, 3) := by decide +kernel
theorem dX7_last_41 : decode cX7_last 41 = .ok (.iload_n 3, 1) := by decide +kernel
theorem dX7_last_42 : decode cX7_last 42 = .ok (.ldc 203, 2) := by decide +kernel
theorem dX7_last_44 : decode cX7_last 44 = .ok (.if_icmp .ne 7, 3) := by decide +kernel
theorem dX7_last_47 : decode cX7_last 47 = .ok (.iload_n 3, 1) := by decide +kernel
theorem dX7_last_48 : decode cX7_last 48 = .ok (.goto 13, 3) := by decide +kernel
theorem dX7_last_51 : decode cX7_last 51 = .ok (.aload_n 0, 1) := by decide +kernel
theorem dX7_last_52 : decode cX7_last 52 = .ok (.getfield 44, 3) := by decide +kernel
theorem dX7_last_55 : decode cX7_last 55 = .ok (.getfield 193, 3) := by decide +kernel
theorem dX7_last_58 : decode cX7_last 58 = .ok (.getfield 204, 3) := by decide +kernel
theorem dX7_last_61 : decode cX7_last 61 = .ok (.ireturn, 1) := by decide +kernel
theorem dX7_hungry_0 : decode cX7_hungry 0 = .ok (.aload_n 0, 1) := by decide +kernel
theorem dX7_hungry_1 : decode cX7_hungry 1 = .ok (.getfield 30, 3) := by decide +kernel
theorem dX7_hungry_4 : decode cX7_hungry 4 = .ok (.invokevirtual 144, 3) := by decide +kernel
theorem dX7_hungry_7 : decode cX7_hungry 7 = .ok (.ifCond .ne 6, 3) := by decide +kernel
theorem dX7_hungry_10 : decode cX7_hungry 10 = .ok (.ldc 147, 2) := by decide +kernel
theorem dX7_hungry_12 : decode cX7_hungry 12 = .ok (.ireturn, 1) := by decide +kernel
theorem dX7_hungry_13 : decode cX7_hungry 13 = .ok (.iload_n 1, 1) := by decide +kernel
theorem dX7_hungry_14 : decode cX7_hungry 14 = .ok (.iconst 0, 1) := by decide +kernel
theorem dX7_hungry_15 : decode cX7_hungry 15 = .ok (.bipush 99, 2) := by decide +kernel
theorem dX7_hungry_17 : decode cX7_hungry 17 = .ok (.invokestatic 59, 3) := by decide +kernel
theorem dX7_hungry_20 : decode cX7_hungry 20 = .ok (.ifCond .ne 6, 3) := by decide +kernel
theorem dX7_hungry_23 : decode cX7_hungry 23 = .ok (.ldc 63, 2) := by decide +kernel
theorem dX7_hungry_25 : decode cX7_hungry 25 = .ok (.ireturn, 1) := by decide +kernel
theorem dX7_hungry_26 : decode cX7_hungry 26 = .ok (.aload_n 0, 1) := by decide +kernel
theorem dX7_hungry_27 : decode cX7_hungry 27 = .ok (.getfield 44, 3) := by decide +kernel
theorem dX7_hungry_30 : decode cX7_hungry 30 = .ok (.aload_n 0, 1) := by decide +kernel
theorem dX7_hungry_31 : decode cX7_hungry 31 = .ok (.getfield 30, 3) := by decide +kernel
theorem dX7_hungry_34 : decode cX7_hungry 34 = .ok (.iload_n 1, 1) := by decide +kernel
theorem dX7_hungry_35 : decode cX7_hungry 35 = .ok (.invokevirtual 189, 3) := by decide +kernel
theorem dX7_hungry_38 : decode cX7_hungry 38 = .ok (.pop, 1) := by decide +kernel
theorem dX7_hungry_39 : decode cX7_hungry 39 = .ok (.aload_n 0, 1) := by decide +kernel
theorem dX7_hungry_40 : decode cX7_hungry 40 = .ok (.getfield 44, 3) := by decide +kernel
theorem dX7_hungry_43 : decode cX7_hungry 43 = .ok (.getfield 193, 3) := by decide +kernel
theorem dX7_hungry_46 : decode cX7_hungry 46 = .ok (.invokevirtual 207, 3) := by decide +kernel
theorem dX7_hungry_49 : decode cX7_hungry 49 = .ok (.ireturn, 1) := by decide +kernel
theorem dX7_rest_0 : decode cX7_rest 0 = .ok (.aload_n 0, 1) := by decide +kernel
theorem dX7_rest_1 : decode cX7_rest 1 = .ok (.getfield 30, 3) := by decide +kernel
theorem dX7_rest_4 : decode cX7_rest 4 = .ok (.invokevirtual 144, 3) := by decide +kernel
theorem dX7_rest_7 : decode cX7_rest 7 = .ok (.ifCond .eq 17, 3) := by decide +kernel
theorem dX7_rest_10 : decode cX7_rest 10 = .ok (.aload_n 0, 1) := by decide +kernel
theorem dX7_rest_11 : decode cX7_rest 11 = .ok (.getfield 44, 3) := by decide +kernel
theorem dX7_rest_14 : decode cX7_rest 14 = .ok (.aload_n 0, 1) := by decide +kernel
theorem dX7_rest_15 : decode cX7_rest 15 = .ok (.getfield 30, 3) := by decide +kernel
theorem dX7_rest_18 : decode cX7_rest 18 = .ok (.invokevirtual 211, 3) := by decide +kernel
theorem dX7_rest_21 : decode cX7_rest 21 = .ok (.goto 5, 3) := by decide +kernel
theorem dX7_rest_24 : decode cX7_rest 24 = .ok (.ldc 147, 2) := by decide +kernel
theorem dX7_rest_26 : decode cX7_rest 26 = .ok (.ireturn, 1) := by decide +kernel
theorem dX7_served_0 : decode cX7_served 0 = .ok (.aload_n 0, 1) := by decide +kernel
theorem dX7_served_1 : decode cX7_served 1 = .ok (.getfield 30, 3) := by decide +kernel
theorem dX7_served_4 : decode cX7_served 4 = .ok (.invokevirtual 144, 3) := by decide +kernel
theorem dX7_served_7 : decode cX7_served 7 = .ok (.ifCond .eq 17, 3) := by decide +kernel
theorem dX7_served_10 : decode cX7_served 10 = .ok (.aload_n 0, 1) := by decide +kernel
theorem dX7_served_11 : decode cX7_served 11 = .ok (.getfield 44, 3) := by decide +kernel
theorem dX7_served_14 : decode cX7_served 14 = .ok (.aload_n 0, 1) := by decide +kernel
theorem dX7_served_15 : decode cX7_served 15 = .ok (.getfield 30, 3) := by decide +kernel
theorem dX7_served_18 : decode cX7_served 18 = .ok (.invokevirtual 215, 3) := by decide +kernel
theorem dX7_served_21 : decode cX7_served 21 = .ok (.goto 5, 3) := by decide +kernel
theorem dX7_served_24 : decode cX7_served 24 = .ok (.ldc 147, 2) := by decide +kernel
theorem dX7_served_26 : decode cX7_served 26 = .ok (.ireturn, 1) := by decide +kernel
theorem dX7_laid_0 : decode cX7_laid 0 = .ok (.aload_n 0, 1) := by decide +kernel
theorem dX7_laid_1 : decode cX7_laid 1 = .ok (.getfield 30, 3) := by decide +kernel
theorem dX7_laid_4 : decode cX7_laid 4 = .ok (.invokevirtual 144, 3) := by decide +kernel
theorem dX7_laid_7 : decode cX7_laid 7 = .ok (.ifCond .ne 6, 3) := by decide +kernel
theorem dX7_laid_10 : decode cX7_laid 10 = .ok (.ldc 147, 2) := by decide +kernel
theorem dX7_laid_12 : decode cX7_laid 12 = .ok (.ireturn, 1) := by decide +kernel
theorem dX7_laid_13 : decode cX7_laid 13 = .ok (.iload_n 1, 1) := by decide +kernel
theorem dX7_laid_14 : decode cX7_laid 14 = .ok (.iconst 1, 1) := by decide +kernel
theorem dX7_laid_15 : decode cX7_laid 15 = .ok (.bipush 20, 2) := by decide +kernel
theorem dX7_laid_17 : decode cX7_laid 17 = .ok (.invokestatic 59, 3) := by decide +kernel
theorem dX7_laid_20 : decode cX7_laid 20 = .ok (.ifCond .eq 19, 3) := by decide +kernel
theorem dX7_laid_23 : decode cX7_laid 23 = .ok (.iload_n 2, 1) := by decide +kernel
theorem dX7_laid_24 : decode cX7_laid 24 = .ok (.iconst (-1), 1) := by decide +kernel
theorem dX7_laid_25 : decode cX7_laid 25 = .ok (.if_icmp .eq 17, 3) := by decide +kernel
theorem dX7_laid_28 : decode cX7_laid 28 = .ok (.aload_n 0, 1) := by decide +kernel
theorem dX7_laid_29 : decode cX7_laid 29 = .ok (.getfield 30, 3) := by decide +kernel
theorem dX7_laid_32 : decode cX7_laid 32 = .ok (.iload_n 2, 1) := by decide +kernel
theorem dX7_laid_33 : decode cX7_laid 33 = .ok (.invokevirtual 163, 3) := by decide +kernel
theorem dX7_laid_36 : decode cX7_laid 36 = .ok (.ifCond .ne 6, 3) := by decide +kernel
theorem dX7_laid_39 : decode cX7_laid 39 = .ok (.ldc 63, 2) := by decide +kernel
theorem dX7_laid_41 : decode cX7_laid 41 = .ok (.ireturn, 1) := by decide +kernel
theorem dX7_laid_42 : decode cX7_laid 42 = .ok (.aload_n 0, 1) := by decide +kernel
theorem dX7_laid_43 : decode cX7_laid 43 = .ok (.getfield 44, 3) := by decide +kernel
theorem dX7_laid_46 : decode cX7_laid 46 = .ok (.aload_n 0, 1) := by decide +kernel
theorem dX7_laid_47 : decode cX7_laid 47 = .ok (.getfield 30, 3) := by decide +kernel
theorem dX7_laid_50 : decode cX7_laid 50 = .ok (.iload_n 1, 1) := by decide +kernel
theorem dX7_laid_51 : decode cX7_laid 51 = .ok (.invokevirtual 218, 3) := by decide +kernel
theorem dX7_laid_54 : decode cX7_laid 54 = .ok (.istore_n 3, 1) := by decide +kernel
theorem dX7_laid_55 : decode cX7_laid 55 = .ok (.iload_n 2, 1) := by decide +kernel
theorem dX7_laid_56 : decode cX7_laid 56 = .ok (.iconst (-1), 1) := by decide +kernel
theorem dX7_laid_57 : decode cX7_laid 57 = .ok (.if_icmp .ne 7, 3) := by decide +kernel
theorem dX7_laid_60 : decode cX7_laid 60 = .ok (.iload_n 3, 1) := by decide +kernel
theorem dX7_laid_61 : decode cX7_laid 61 = .ok (.goto 11, 3) := by decide +kernel
theorem dX7_laid_64 : decode cX7_laid 64 = .ok (.aload_n 0, 1) := by decide +kernel
theorem dX7_laid_65 : decode cX7_laid 65 = .ok (.getfield 44, 3) := by decide +kernel
theorem dX7_laid_68 : decode cX7_laid 68 = .ok (.iload_n 2, 1) := by decide +kernel
theorem dX7_laid_69 : decode cX7_laid 69 = .ok (.invokevirtual 221, 3) := by decide +kernel
theorem dX7_laid_72 : decode cX7_laid 72 = .ok (.ireturn, 1) := by decide +kernel
theorem dX7_wanted_0 : decode cX7_wanted 0 = .ok (.aload_n 0, 1) := by decide +kernel
theorem dX7_wanted_1 : decode cX7_wanted 1 = .ok (.iload_n 3, 1) := by decide +kernel
theorem dX7_wanted_2 : decode cX7_wanted 2 = .ok (.invokevirtual 55, 3) := by decide +kernel
theorem dX7_wanted_5 : decode cX7_wanted 5 = .ok (.astore 5, 2) := by decide +kernel
theorem dX7_wanted_7 : decode cX7_wanted 7 = .ok (.aload 5, 2) := by decide +kernel
theorem dX7_wanted_9 : decode cX7_wanted 9 = .ok (.ifnull 24, 3) := by decide +kernel
theorem dX7_wanted_12 : decode cX7_wanted 12 = .ok (.aload_n 0, 1) := by decide +kernel
theorem dX7_wanted_13 : decode cX7_wanted 13 = .ok (.getfield 30, 3) := by decide +kernel
theorem dX7_wanted_16 : decode cX7_wanted 16 = .ok (.iload_n 1, 1) := by decide +kernel
theorem dX7_wanted_17 : decode cX7_wanted 17 = .ok (.invokevirtual 163, 3) := by decide +kernel
theorem dX7_wanted_20 : decode cX7_wanted 20 = .ok (.ifCond .eq 13, 3) := by decide +kernel
theorem dX7_wanted_23 : decode cX7_wanted 23 = .ok (.iload_n 2, 1) := by decide +kernel
theorem dX7_wanted_24 : decode cX7_wanted 24 = .ok (.iconst 0, 1) := by decide +kernel
theorem dX7_wanted_25 : decode cX7_wanted 25 = .ok (.bipush 99, 2) := by decide +kernel
theorem dX7_wanted_27 : decode cX7_wanted 27 = .ok (.invokestatic 59, 3) := by decide +kernel
theorem dX7_wanted_30 : decode cX7_wanted 30 = .ok (.ifCond .ne 6, 3) := by decide +kernel
theorem dX7_wanted_33 : decode cX7_wanted 33 = .ok (.ldc 63, 2) := by decide +kernel
theorem dX7_wanted_35 : decode cX7_wanted 35 = .ok (.ireturn, 1) := by decide +kernel
theorem dX7_wanted_36 : decode cX7_wanted 36 = .ok (.aload 5, 2) := by decide +kernel
theorem dX7_wanted_38 : decode cX7_wanted 38 = .ok (.invokevirtual 75, 3) := by decide +kernel
theorem dX7_wanted_41 : decode cX7_wanted 41 = .ok (.ifCond .eq 9, 3) := by decide +kernel
theorem dX7_wanted_44 : decode cX7_wanted 44 = .ok (.aload_n 0, 1) := by decide +kernel
theorem dX7_wanted_45 : decode cX7_wanted 45 = .ok (.iconst 1, 1) := by decide +kernel
theorem dX7_wanted_46 : decode cX7_wanted 46 = .ok (.invokevirtual 64, 3) := by decide +kernel
theorem dX7_wanted_49 : decode cX7_wanted 49 = .ok (.ireturn, 1) := by decide +kernel
theorem dX7_wanted_50 : decode cX7_wanted 50 = .ok (.aload 5, 2) := by decide +kernel
theorem dX7_wanted_52 : decode cX7_wanted 52 = .ok (.iload 4, 2) := by decide +kernel
theorem dX7_wanted_54 : decode cX7_wanted 54 = .ok (.aload_n 0, 1) := by decide +kernel
theorem dX7_wanted_55 : decode cX7_wanted 55 = .ok (.getfield 30, 3) := by decide +kernel
theorem dX7_wanted_58 : decode cX7_wanted 58 = .ok (.getfield 141, 3) := by decide +kernel
theorem dX7_wanted_61 : decode cX7_wanted 61 = .ok (.invokevirtual 79, 3) := by decide +kernel
theorem dX7_wanted_64 : decode cX7_wanted 64 = .ok (.ifCond .ne 9, 3) := by decide +kernel
theorem dX7_wanted_67 : decode cX7_wanted 67 = .ok (.aload_n 0, 1) := by decide +kernel
theorem dX7_wanted_68 : decode cX7_wanted 68 = .ok (.iconst 2, 1) := by decide +kernel
theorem dX7_wanted_69 : decode cX7_wanted 69 = .ok (.invokevirtual 64, 3) := by decide +kernel
theorem dX7_wanted_72 : decode cX7_wanted 72 = .ok (.ireturn, 1) := by decide +kernel
theorem dX7_wanted_73 : decode cX7_wanted 73 = .ok (.aload_n 0, 1) := by decide +kernel
theorem dX7_wanted_74 : decode cX7_wanted 74 = .ok (.aload_n 0, 1) := by decide +kernel
theorem dX7_wanted_75 : decode cX7_wanted 75 = .ok (.getfield 44, 3) := by decide +kernel
theorem dX7_wanted_78 : decode cX7_wanted 78 = .ok (.aload_n 0, 1) := by decide +kernel
theorem dX7_wanted_79 : decode cX7_wanted 79 = .ok (.getfield 30, 3) := by decide +kernel
theorem dX7_wanted_82 : decode cX7_wanted 82 = .ok (.iload_n 1, 1) := by decide +kernel
theorem dX7_wanted_83 : decode cX7_wanted 83 = .ok (.iload_n 2, 1) := by decide +kernel
theorem dX7_wanted_84 : decode cX7_wanted 84 = .ok (.aload 5, 2) := by decide +kernel
theorem dX7_wanted_86 : decode cX7_wanted 86 = .ok (.iload 4, 2) := by decide +kernel
theorem dX7_wanted_88 : decode cX7_wanted 88 = .ok (.invokevirtual 224, 3) := by decide +kernel
theorem dX7_wanted_91 : decode cX7_wanted 91 = .ok (.invokevirtual 72, 3) := by decide +kernel
theorem dX7_wanted_94 : decode cX7_wanted 94 = .ok (.ireturn, 1) := by decide +kernel
theorem dX7_seated_0 : decode cX7_seated 0 = .ok (.aload_n 0, 1) := by decide +kernel
theorem dX7_seated_1 : decode cX7_seated 1 = .ok (.getfield 30, 3) := by decide +kernel
theorem dX7_seated_4 : decode cX7_seated 4 = .ok (.iload_n 1, 1) := by decide +kernel
theorem dX7_seated_5 : decode cX7_seated 5 = .ok (.invokevirtual 163, 3) := by decide +kernel
theorem dX7_seated_8 : decode cX7_seated 8 = .ok (.ifCond .eq 22, 3) := by decide +kernel
theorem dX7_seated_11 : decode cX7_seated 11 = .ok (.iload_n 2, 1) := by decide +kernel
theorem dX7_seated_12 : decode cX7_seated 12 = .ok (.iconst 0, 1) := by decide +kernel
theorem dX7_seated_13 : decode cX7_seated 13 = .ok (.bipush 99, 2) := by decide +kernel
theorem dX7_seated_15 : decode cX7_seated 15 = .ok (.invokestatic 59, 3) := by decide +kernel
theorem dX7_seated_18 : decode cX7_seated 18 = .ok (.ifCond .eq 12, 3) := by decide +kernel
theorem dX7_seated_21 : decode cX7_seated 21 = .ok (.iload_n 3, 1) := by decide +kernel
theorem dX7_seated_22 : decode cX7_seated 22 = .ok (.iconst 0, 1) := by decide +kernel
theorem dX7_seated_23 : decode cX7_seated 23 = .ok (.iconst 1, 1) := by decide +kernel
theorem dX7_seated_24 : decode cX7_seated 24 = .ok (.invokestatic 59, 3) := by decide +kernel
theorem dX7_seated_27 : decode cX7_seated 27 = .ok (.ifCond .ne 6, 3) := by decide +kernel
theorem dX7_seated_30 : decode cX7_seated 30 = .ok (.ldc 63, 2) := by decide +kernel
theorem dX7_seated_32 : decode cX7_seated 32 = .ok (.ireturn, 1) := by decide +kernel
theorem dX7_seated_33 : decode cX7_seated 33 = .ok (.aload_n 0, 1) := by decide +kernel
theorem dX7_seated_34 : decode cX7_seated 34 = .ok (.getfield 44, 3) := by decide +kernel
theorem dX7_seated_37 : decode cX7_seated 37 = .ok (.aload_n 0, 1) := by decide +kernel
theorem dX7_seated_38 : decode cX7_seated 38 = .ok (.getfield 30, 3) := by decide +kernel
theorem dX7_seated_41 : decode cX7_seated 41 = .ok (.iload_n 1, 1) := by decide +kernel
theorem dX7_seated_42 : decode cX7_seated 42 = .ok (.iload_n 2, 1) := by decide +kernel
theorem dX7_seated_43 : decode cX7_seated 43 = .ok (.invokevirtual 228, 3) := by decide +kernel
theorem dX7_seated_46 : decode cX7_seated 46 = .ok (.istore 4, 2) := by decide +kernel
theorem dX7_seated_48 : decode cX7_seated 48 = .ok (.iload_n 3, 1) := by decide +kernel
theorem dX7_seated_49 : decode cX7_seated 49 = .ok (.ifCond .ne 8, 3) := by decide +kernel
theorem dX7_seated_52 : decode cX7_seated 52 = .ok (.iload 4, 2) := by decide +kernel
theorem dX7_seated_54 : decode cX7_seated 54 = .ok (.goto 18, 3) := by decide +kernel
theorem dX7_seated_57 : decode cX7_seated 57 = .ok (.aload_n 0, 1) := by decide +kernel
theorem dX7_seated_58 : decode cX7_seated 58 = .ok (.getfield 44, 3) := by decide +kernel
theorem dX7_seated_61 : decode cX7_seated 61 = .ok (.aload_n 0, 1) := by decide +kernel
theorem dX7_seated_62 : decode cX7_seated 62 = .ok (.getfield 30, 3) := by decide +kernel
theorem dX7_seated_65 : decode cX7_seated 65 = .ok (.iload_n 1, 1) := by decide +kernel
theorem dX7_seated_66 : decode cX7_seated 66 = .ok (.iload 4, 2) := by decide +kernel
theorem dX7_seated_68 : decode cX7_seated 68 = .ok (.iload_n 2, 1) := by decide +kernel
theorem dX7_seated_69 : decode cX7_seated 69 = .ok (.invokevirtual 196, 3) := by decide +kernel
theorem dX7_seated_72 : decode cX7_seated 72 = .ok (.ireturn, 1) := by decide +kernel
theorem dX7_image_0 : decode cX7_image 0 = .ok (.aload_n 0, 1) := by decide +kernel
theorem dX7_image_1 : decode cX7_image 1 = .ok (.iload_n 1, 1) := by decide +kernel
theorem dX7_image_2 : decode cX7_image 2 = .ok (.invokevirtual 232, 3) := by decide +kernel
theorem dX7_image_5 : decode cX7_image 5 = .ok (.astore_n 2, 1) := by decide +kernel
theorem dX7_image_6 : decode cX7_image 6 = .ok (.aload_n 2, 1) := by decide +kernel
theorem dX7_image_7 : decode cX7_image 7 = .ok (.ifnonnull 6, 3) := by decide +kernel
theorem dX7_image_10 : decode cX7_image 10 = .ok (.ldc 63, 2) := by decide +kernel
theorem dX7_image_12 : decode cX7_image 12 = .ok (.ireturn, 1) := by decide +kernel
theorem dX7_image_13 : decode cX7_image 13 = .ok (.aload_n 0, 1) := by decide +kernel
theorem dX7_image_14 : decode cX7_image 14 = .ok (.getfield 30, 3) := by decide +kernel
theorem dX7_image_17 : decode cX7_image 17 = .ok (.invokevirtual 144, 3) := by decide +kernel
theorem dX7_image_20 : decode cX7_image 20 = .ok (.ifCond .ne 6, 3) := by decide +kernel
theorem dX7_image_23 : decode cX7_image 23 = .ok (.ldc 147, 2) := by decide +kernel
theorem dX7_image_25 : decode cX7_image 25 = .ok (.ireturn, 1) := by decide +kernel
theorem dX7_image_26 : decode cX7_image 26 = .ok (.aload_n 2, 1) := by decide +kernel
theorem dX7_image_27 : decode cX7_image 27 = .ok (.aload_n 0, 1) := by decide +kernel
theorem dX7_image_28 : decode cX7_image 28 = .ok (.getfield 30, 3) := by decide +kernel
theorem dX7_image_31 : decode cX7_image 31 = .ok (.invokevirtual 134, 3) := by decide +kernel
theorem dX7_image_34 : decode cX7_image 34 = .ok (.iconst 1, 1) := by decide +kernel
theorem dX7_image_35 : decode cX7_image 35 = .ok (.ireturn, 1) := by decide +kernel
theorem dX7_restore_0 : decode cX7_restore 0 = .ok (.aload_n 0, 1) := by decide +kernel
theorem dX7_restore_1 : decode cX7_restore 1 = .ok (.iload_n 1, 1) := by decide +kernel
theorem dX7_restore_2 : decode cX7_restore 2 = .ok (.invokevirtual 232, 3) := by decide +kernel
theorem dX7_restore_5 : decode cX7_restore 5 = .ok (.astore_n 2, 1) := by decide +kernel
theorem dX7_restore_6 : decode cX7_restore 6 = .ok (.aload_n 2, 1) := by decide +kernel
theorem dX7_restore_7 : decode cX7_restore 7 = .ok (.ifnonnull 6, 3) := by decide +kernel
theorem dX7_restore_10 : decode cX7_restore 10 = .ok (.ldc 63, 2) := by decide +kernel
theorem dX7_restore_12 : decode cX7_restore 12 = .ok (.ireturn, 1) := by decide +kernel
theorem dX7_restore_13 : decode cX7_restore 13 = .ok (.aload_n 2, 1) := by decide +kernel
theorem dX7_restore_14 : decode cX7_restore 14 = .ok (.invokevirtual 144, 3) := by decide +kernel
theorem dX7_restore_17 : decode cX7_restore 17 = .ok (.ifCond .ne 6, 3) := by decide +kernel
theorem dX7_restore_20 : decode cX7_restore 20 = .ok (.ldc 147, 2) := by decide +kernel
theorem dX7_restore_22 : decode cX7_restore 22 = .ok (.ireturn, 1) := by decide +kernel
theorem dX7_restore_23 : decode cX7_restore 23 = .ok (.aload_n 0, 1) := by decide +kernel
theorem dX7_restore_24 : decode cX7_restore 24 = .ok (.getfield 30, 3) := by decide +kernel
theorem dX7_restore_27 : decode cX7_restore 27 = .ok (.aload_n 2, 1) := by decide +kernel
theorem dX7_restore_28 : decode cX7_restore 28 = .ok (.invokevirtual 134, 3) := by decide +kernel
theorem dX7_restore_31 : decode cX7_restore 31 = .ok (.aload_n 0, 1) := by decide +kernel
theorem dX7_restore_32 : decode cX7_restore 32 = .ok (.getfield 37, 3) := by decide +kernel
theorem dX7_restore_35 : decode cX7_restore 35 = .ok (.invokevirtual 138, 3) := by decide +kernel
theorem dX7_restore_38 : decode cX7_restore 38 = .ok (.iconst 1, 1) := by decide +kernel
theorem dX7_restore_39 : decode cX7_restore 39 = .ok (.ireturn, 1) := by decide +kernel
theorem dX7_kind_0 : decode cX7_kind 0 = .ok (.aload_n 0, 1) := by decide +kernel
theorem dX7_kind_1 : decode cX7_kind 1 = .ok (.getfield 30, 3) := by decide +kernel
theorem dX7_kind_4 : decode cX7_kind 4 = .ok (.iload_n 1, 1) := by decide +kernel
theorem dX7_kind_5 : decode cX7_kind 5 = .ok (.invokevirtual 163, 3) := by decide +kernel
theorem dX7_kind_8 : decode cX7_kind 8 = .ok (.ifCond .eq 15, 3) := by decide +kernel
theorem dX7_kind_11 : decode cX7_kind 11 = .ok (.aload_n 0, 1) := by decide +kernel
theorem dX7_kind_12 : decode cX7_kind 12 = .ok (.getfield 30, 3) := by decide +kernel
theorem dX7_kind_15 : decode cX7_kind 15 = .ok (.iconst 0, 1) := by decide +kernel
theorem dX7_kind_16 : decode cX7_kind 16 = .ok (.iload_n 1, 1) := by decide +kernel
theorem dX7_kind_17 : decode cX7_kind 17 = .ok (.invokevirtual 167, 3) := by decide +kernel
theorem dX7_kind_20 : decode cX7_kind 20 = .ok (.goto 5, 3) := by decide +kernel
theorem dX7_kind_23 : decode cX7_kind 23 = .ok (.ldc 63, 2) := by decide +kernel
theorem dX7_kind_25 : decode cX7_kind 25 = .ok (.ireturn, 1) := by decide +kernel
theorem dX7_as_0 : decode cX7_as 0 = .ok (.aload_n 0, 1) := by decide +kernel
theorem dX7_as_1 : decode cX7_as 1 = .ok (.getfield 30, 3) := by decide +kernel
theorem dX7_as_4 : decode cX7_as 4 = .ok (.iload_n 1, 1) := by decide +kernel
theorem dX7_as_5 : decode cX7_as 5 = .ok (.invokevirtual 163, 3) := by decide +kernel
theorem dX7_as_8 : decode cX7_as 8 = .ok (.ifCond .eq 12, 3) := by decide +kernel
theorem dX7_as_11 : decode cX7_as 11 = .ok (.iload_n 2, 1) := by decide +kernel
theorem dX7_as_12 : decode cX7_as 12 = .ok (.iconst 0, 1) := by decide +kernel
theorem dX7_as_13 : decode cX7_as 13 = .ok (.iconst 5, 1) := by decide +kernel
theorem dX7_as_14 : decode cX7_as 14 = .ok (.invokestatic 59, 3) := by decide +kernel
theorem dX7_as_17 : decode cX7_as 17 = .ok (.ifCond .ne 6, 3) := by decide +kernel
theorem dX7_as_20 : decode cX7_as 20 = .ok (.ldc 63, 2) := by decide +kernel
theorem dX7_as_22 : decode cX7_as 22 = .ok (.ireturn, 1) := by decide +kernel
theorem dX7_as_23 : decode cX7_as 23 = .ok (.aload_n 0, 1) := by decide +kernel
theorem dX7_as_24 : decode cX7_as 24 = .ok (.getfield 30, 3) := by decide +kernel
theorem dX7_as_27 : decode cX7_as 27 = .ok (.iconst 0, 1) := by decide +kernel
theorem dX7_as_28 : decode cX7_as 28 = .ok (.iload_n 1, 1) := by decide +kernel
theorem dX7_as_29 : decode cX7_as 29 = .ok (.invokevirtual 167, 3) := by decide +kernel
theorem dX7_as_32 : decode cX7_as 32 = .ok (.iload_n 2, 1) := by decide +kernel
theorem dX7_as_33 : decode cX7_as 33 = .ok (.invokestatic 236, 3) := by decide +kernel
theorem dX7_as_36 : decode cX7_as 36 = .ok (.ifCond .eq 11, 3) := by decide +kernel
theorem dX7_as_39 : decode cX7_as 39 = .ok (.aload_n 0, 1) := by decide +kernel
theorem dX7_as_40 : decode cX7_as 40 = .ok (.iload_n 1, 1) := by decide +kernel
theorem dX7_as_41 : decode cX7_as 41 = .ok (.invokevirtual 72, 3) := by decide +kernel
theorem dX7_as_44 : decode cX7_as 44 = .ok (.goto 8, 3) := by decide +kernel
theorem dX7_as_47 : decode cX7_as 47 = .ok (.aload_n 0, 1) := by decide +kernel
theorem dX7_as_48 : decode cX7_as 48 = .ok (.iconst 3, 1) := by decide +kernel
theorem dX7_as_49 : decode cX7_as 49 = .ok (.invokevirtual 64, 3) := by decide +kernel
theorem dX7_as_52 : decode cX7_as 52 = .ok (.ireturn, 1) := by decide +kernel
theorem dX7_ask_0 : decode cX7_ask 0 = .ok (.aload_n 0, 1) := by decide +kernel
theorem dX7_ask_1 : decode cX7_ask 1 = .ok (.getfield 30, 3) := by decide +kernel
theorem dX7_ask_4 : decode cX7_ask 4 = .ok (.iload_n 1, 1) := by decide +kernel
theorem dX7_ask_5 : decode cX7_ask 5 = .ok (.invokevirtual 163, 3) := by decide +kernel
theorem dX7_ask_8 : decode cX7_ask 8 = .ok (.ifCond .eq 12, 3) := by decide +kernel
theorem dX7_ask_11 : decode cX7_ask 11 = .ok (.iload_n 2, 1) := by decide +kernel
theorem dX7_ask_12 : decode cX7_ask 12 = .ok (.iconst 0, 1) := by decide +kernel
theorem dX7_ask_13 : decode cX7_ask 13 = .ok (.iconst 1, 1) := by decide +kernel
theorem dX7_ask_14 : decode cX7_ask 14 = .ok (.invokestatic 59, 3) := by decide +kernel
theorem dX7_ask_17 : decode cX7_ask 17 = .ok (.ifCond .ne 6, 3) := by decide +kernel
theorem dX7_ask_20 : decode cX7_ask 20 = .ok (.ldc 63, 2) := by decide +kernel
theorem dX7_ask_22 : decode cX7_ask 22 = .ok (.ireturn, 1) := by decide +kernel
theorem dX7_ask_23 : decode cX7_ask 23 = .ok (.aload_n 0, 1) := by decide +kernel
theorem dX7_ask_24 : decode cX7_ask 24 = .ok (.getfield 51, 3) := by decide +kernel
theorem dX7_ask_27 : decode cX7_ask 27 = .ok (.aload_n 0, 1) := by decide +kernel
theorem dX7_ask_28 : decode cX7_ask 28 = .ok (.getfield 30, 3) := by decide +kernel
theorem dX7_ask_31 : decode cX7_ask 31 = .ok (.iload_n 1, 1) := by decide +kernel
theorem dX7_ask_32 : decode cX7_ask 32 = .ok (.invokevirtual 239, 3) := by decide +kernel
theorem dX7_ask_35 : decode cX7_ask 35 = .ok (.iload_n 2, 1) := by decide +kernel
theorem dX7_ask_36 : decode cX7_ask 36 = .ok (.ifCond .ne 13, 3) := by decide +kernel
theorem dX7_ask_39 : decode cX7_ask 39 = .ok (.aload_n 0, 1) := by decide +kernel
theorem dX7_ask_40 : decode cX7_ask 40 = .ok (.getfield 51, 3) := by decide +kernel
theorem dX7_ask_43 : decode cX7_ask 43 = .ok (.invokevirtual 242, 3) := by decide +kernel
theorem dX7_ask_46 : decode cX7_ask 46 = .ok (.goto 10, 3) := by decide +kernel
theorem dX7_ask_49 : decode cX7_ask 49 = .ok (.aload_n 0, 1) := by decide +kernel
theorem dX7_ask_50 : decode cX7_ask 50 = .ok (.getfield 51, 3) := by decide +kernel
theorem dX7_ask_53 : decode cX7_ask 53 = .ok (.invokevirtual 245, 3) := by decide +kernel
theorem dX7_ask_56 : decode cX7_ask 56 = .ok (.ireturn, 1) := by decide +kernel
theorem dX7_trace_0 : decode cX7_trace 0 = .ok (.aload_n 0, 1) := by decide +kernel
theorem dX7_trace_1 : decode cX7_trace 1 = .ok (.getfield 51, 3) := by decide +kernel
theorem dX7_trace_4 : decode cX7_trace 4 = .ok (.iload_n 1, 1) := by decide +kernel
theorem dX7_trace_5 : decode cX7_trace 5 = .ok (.invokevirtual 248, 3) := by decide +kernel
theorem dX7_trace_8 : decode cX7_trace 8 = .ok (.ireturn, 1) := by decide +kernel
theorem dX7_count_0 : decode cX7_count 0 = .ok (.iload_n 1, 1) := by decide +kernel
theorem dX7_count_1 : decode cX7_count 1 = .ok (.tableswitch 99 0 6 #[43, 48, 56, 64, 72, 80, 88], 43) := by decide +kernel
theorem dX7_count_44 : decode cX7_count 44 = .ok (.aload_n 0, 1) := by decide +kernel
theorem dX7_count_45 : decode cX7_count 45 = .ok (.invokevirtual 251, 3) := by decide +kernel
theorem dX7_count_48 : decode cX7_count 48 = .ok (.ireturn, 1) := by decide +kernel
theorem dX7_count_49 : decode cX7_count 49 = .ok (.aload_n 0, 1) := by decide +kernel
theorem dX7_count_50 : decode cX7_count 50 = .ok (.getfield 30, 3) := by decide +kernel
theorem dX7_count_53 : decode cX7_count 53 = .ok (.getfield 141, 3) := by decide +kernel
theorem dX7_count_56 : decode cX7_count 56 = .ok (.ireturn, 1) := by decide +kernel
theorem dX7_count_57 : decode cX7_count 57 = .ok (.aload_n 0, 1) := by decide +kernel
theorem dX7_count_58 : decode cX7_count 58 = .ok (.getfield 30, 3) := by decide +kernel
theorem dX7_count_61 : decode cX7_count 61 = .ok (.getfield 148, 3) := by decide +kernel
theorem dX7_count_64 : decode cX7_count 64 = .ok (.ireturn, 1) := by decide +kernel
theorem dX7_count_65 : decode cX7_count 65 = .ok (.aload_n 0, 1) := by decide +kernel
theorem dX7_count_66 : decode cX7_count 66 = .ok (.getfield 30, 3) := by decide +kernel
theorem dX7_count_69 : decode cX7_count 69 = .ok (.getfield 157, 3) := by decide +kernel
theorem dX7_count_72 : decode cX7_count 72 = .ok (.ireturn, 1) := by decide +kernel
theorem dX7_count_73 : decode cX7_count 73 = .ok (.aload_n 0, 1) := by decide +kernel
theorem dX7_count_74 : decode cX7_count 74 = .ok (.getfield 30, 3) := by decide +kernel
theorem dX7_count_77 : decode cX7_count 77 = .ok (.invokevirtual 254, 3) := by decide +kernel
theorem dX7_count_80 : decode cX7_count 80 = .ok (.ireturn, 1) := by decide +kernel
theorem dX7_count_81 : decode cX7_count 81 = .ok (.aload_n 0, 1) := by decide +kernel
theorem dX7_count_82 : decode cX7_count 82 = .ok (.getfield 37, 3) := by decide +kernel
theorem dX7_count_85 : decode cX7_count 85 = .ok (.getfield 180, 3) := by decide +kernel
theorem dX7_count_88 : decode cX7_count 88 = .ok (.ireturn, 1) := by decide +kernel
theorem dX7_count_89 : decode cX7_count 89 = .ok (.aload_n 0, 1) := by decide +kernel
theorem dX7_count_90 : decode cX7_count 90 = .ok (.getfield 26, 3) := by decide +kernel
theorem dX7_count_93 : decode cX7_count 93 = .ok (.getfield 103, 3) := by decide +kernel
theorem dX7_count_96 : decode cX7_count 96 = .ok (.getfield 107, 3) := by decide +kernel
theorem dX7_count_99 : decode cX7_count 99 = .ok (.ireturn, 1) := by decide +kernel
theorem dX7_count_100 : decode cX7_count 100 = .ok (.ldc 63, 2) := by decide +kernel
theorem dX7_count_102 : decode cX7_count 102 = .ok (.ireturn, 1) := by decide +kernel
theorem dX7_status_0 : decode cX7_status 0 = .ok (.aload_n 0, 1) := by decide +kernel
theorem dX7_status_1 : decode cX7_status 1 = .ok (.getfield 257, 3) := by decide +kernel
theorem dX7_status_4 : decode cX7_status 4 = .ok (.ireturn, 1) := by decide +kernel
theorem dX7_rowAt_0 : decode cX7_rowAt 0 = .ok (.iload_n 1, 1) := by decide +kernel
theorem dX7_rowAt_1 : decode cX7_rowAt 1 = .ok (.ifCond .lt 21, 3) := by decide +kernel
theorem dX7_rowAt_4 : decode cX7_rowAt 4 = .ok (.iload_n 1, 1) := by decide +kernel
theorem dX7_rowAt_5 : decode cX7_rowAt 5 = .ok (.aload_n 0, 1) := by decide +kernel
theorem dX7_rowAt_6 : decode cX7_rowAt 6 = .ok (.getfield 11, 3) := by decide +kernel
theorem dX7_rowAt_9 : decode cX7_rowAt 9 = .ok (.arraylength, 1) := by decide +kernel
theorem dX7_rowAt_10 : decode cX7_rowAt 10 = .ok (.if_icmp .ge 12, 3) := by decide +kernel
theorem dX7_rowAt_13 : decode cX7_rowAt 13 = .ok (.aload_n 0, 1) := by decide +kernel
theorem dX7_rowAt_14 : decode cX7_rowAt 14 = .ok (.getfield 11, 3) := by decide +kernel
theorem dX7_rowAt_17 : decode cX7_rowAt 17 = .ok (.iload_n 1, 1) := by decide +kernel
theorem dX7_rowAt_18 : decode cX7_rowAt 18 = .ok (.aaload, 1) := by decide +kernel
theorem dX7_rowAt_19 : decode cX7_rowAt 19 = .ok (.goto 4, 3) := by decide +kernel
theorem dX7_rowAt_22 : decode cX7_rowAt 22 = .ok (.aconst_null, 1) := by decide +kernel
theorem dX7_rowAt_23 : decode cX7_rowAt 23 = .ok (.areturn, 1) := by decide +kernel
theorem dX7_imageAt_0 : decode cX7_imageAt 0 = .ok (.iload_n 1, 1) := by decide +kernel
theorem dX7_imageAt_1 : decode cX7_imageAt 1 = .ok (.ifCond .lt 21, 3) := by decide +kernel
theorem dX7_imageAt_4 : decode cX7_imageAt 4 = .ok (.iload_n 1, 1) := by decide +kernel
theorem dX7_imageAt_5 : decode cX7_imageAt 5 = .ok (.aload_n 0, 1) := by decide +kernel
theorem dX7_imageAt_6 : decode cX7_imageAt 6 = .ok (.getfield 18, 3) := by decide +kernel
theorem dX7_imageAt_9 : decode cX7_imageAt 9 = .ok (.arraylength, 1) := by decide +kernel
theorem dX7_imageAt_10 : decode cX7_imageAt 10 = .ok (.if_icmp .ge 12, 3) := by decide +kernel
theorem dX7_imageAt_13 : decode cX7_imageAt 13 = .ok (.aload_n 0, 1) := by decide +kernel
theorem dX7_imageAt_14 : decode cX7_imageAt 14 = .ok (.getfield 18, 3) := by decide +kernel
theorem dX7_imageAt_17 : decode cX7_imageAt 17 = .ok (.iload_n 1, 1) := by decide +kernel
theorem dX7_imageAt_18 : decode cX7_imageAt 18 = .ok (.aaload, 1) := by decide +kernel
theorem dX7_imageAt_19 : decode cX7_imageAt 19 = .ok (.goto 4, 3) := by decide +kernel
theorem dX7_imageAt_22 : decode cX7_imageAt 22 = .ok (.aconst_null, 1) := by decide +kernel
theorem dX7_imageAt_23 : decode cX7_imageAt 23 = .ok (.areturn, 1) := by decide +kernel
theorem dX7_rowsThere_0 : decode cX7_rowsThere 0 = .ok (.iconst 0, 1) := by decide +kernel
theorem dX7_rowsThere_1 : decode cX7_rowsThere 1 = .ok (.istore_n 1, 1) := by decide +kernel
theorem dX7_rowsThere_2 : decode cX7_rowsThere 2 = .ok (.iconst 0, 1) := by decide +kernel
theorem dX7_rowsThere_3 : decode cX7_rowsThere 3 = .ok (.istore_n 2, 1) := by decide +kernel
theorem dX7_rowsThere_4 : decode cX7_rowsThere 4 = .ok (.iload_n 2, 1) := by decide +kernel
theorem dX7_rowsThere_5 : decode cX7_rowsThere 5 = .ok (.aload_n 0, 1) := by decide +kernel
theorem dX7_rowsThere_6 : decode cX7_rowsThere 6 = .ok (.getfield 11, 3) := by decide +kernel
theorem dX7_rowsThere_9 : decode cX7_rowsThere 9 = .ok (.arraylength, 1) := by decide +kernel
theorem dX7_rowsThere_10 : decode cX7_rowsThere 10 = .ok (.if_icmp .ge 30, 3) := by decide +kernel
theorem dX7_rowsThere_13 : decode cX7_rowsThere 13 = .ok (.aload_n 0, 1) := by decide +kernel
theorem dX7_rowsThere_14 : decode cX7_rowsThere 14 = .ok (.getfield 11, 3) := by decide +kernel
theorem dX7_rowsThere_17 : decode cX7_rowsThere 17 = .ok (.iload_n 2, 1) := by decide +kernel
theorem dX7_rowsThere_18 : decode cX7_rowsThere 18 = .ok (.aaload, 1) := by decide +kernel
theorem dX7_rowsThere_19 : decode cX7_rowsThere 19 = .ok (.astore_n 3, 1) := by decide +kernel
theorem dX7_rowsThere_20 : decode cX7_rowsThere 20 = .ok (.aload_n 3, 1) := by decide +kernel
theorem dX7_rowsThere_21 : decode cX7_rowsThere 21 = .ok (.ifnull 13, 3) := by decide +kernel
theorem dX7_rowsThere_24 : decode cX7_rowsThere 24 = .ok (.aload_n 3, 1) := by decide +kernel
theorem dX7_rowsThere_25 : decode cX7_rowsThere 25 = .ok (.invokevirtual 75, 3) := by decide +kernel
theorem dX7_rowsThere_28 : decode cX7_rowsThere 28 = .ok (.ifCond .ne 6, 3) := by decide +kernel
theorem dX7_rowsThere_31 : decode cX7_rowsThere 31 = .ok (.iinc 1 1, 3) := by decide +kernel
theorem dX7_rowsThere_34 : decode cX7_rowsThere 34 = .ok (.iinc 2 1, 3) := by decide +kernel
theorem dX7_rowsThere_37 : decode cX7_rowsThere 37 = .ok (.goto (-33), 3) := by decide +kernel
theorem dX7_rowsThere_40 : decode cX7_rowsThere 40 = .ok (.iload_n 1, 1) := by decide +kernel
theorem dX7_rowsThere_41 : decode cX7_rowsThere 41 = .ok (.ireturn, 1) := by decide +kernel
theorem dX7_found_0 : decode cX7_found 0 = .ok (.aload_n 0, 1) := by decide +kernel
theorem dX7_found_1 : decode cX7_found 1 = .ok (.iload_n 1, 1) := by decide +kernel
theorem dX7_found_2 : decode cX7_found 2 = .ok (.putfield 257, 3) := by decide +kernel
theorem dX7_found_5 : decode cX7_found 5 = .ok (.ldc_w 260, 3) := by decide +kernel
theorem dX7_found_8 : decode cX7_found 8 = .ok (.iload_n 1, 1) := by decide +kernel
theorem dX7_found_9 : decode cX7_found 9 = .ok (.isub, 1) := by decide +kernel
theorem dX7_found_10 : decode cX7_found 10 = .ok (.ireturn, 1) := by decide +kernel
theorem dX7_fine_0 : decode cX7_fine 0 = .ok (.aload_n 0, 1) := by decide +kernel
theorem dX7_fine_1 : decode cX7_fine 1 = .ok (.iconst 0, 1) := by decide +kernel
theorem dX7_fine_2 : decode cX7_fine 2 = .ok (.putfield 257, 3) := by decide +kernel
theorem dX7_fine_5 : decode cX7_fine 5 = .ok (.iload_n 1, 1) := by decide +kernel
theorem dX7_fine_6 : decode cX7_fine 6 = .ok (.ireturn, 1) := by decide +kernel
theorem dX7_within_0 : decode cX7_within 0 = .ok (.iload_n 0, 1) := by decide +kernel
theorem dX7_within_1 : decode cX7_within 1 = .ok (.iload_n 1, 1) := by decide +kernel
theorem dX7_within_2 : decode cX7_within 2 = .ok (.if_icmp .lt 12, 3) := by decide +kernel
theorem dX7_within_5 : decode cX7_within 5 = .ok (.iload_n 0, 1) := by decide +kernel
theorem dX7_within_6 : decode cX7_within 6 = .ok (.iload_n 2, 1) := by decide +kernel
theorem dX7_within_7 : decode cX7_within 7 = .ok (.if_icmp .gt 7, 3) := by decide +kernel
theorem dX7_within_10 : decode cX7_within 10 = .ok (.iconst 1, 1) := by decide +kernel
theorem dX7_within_11 : decode cX7_within 11 = .ok (.goto 4, 3) := by decide +kernel
theorem dX7_within_14 : decode cX7_within 14 = .ok (.iconst 0, 1) := by decide +kernel
theorem dX7_within_15 : decode cX7_within 15 = .ok (.ireturn, 1) := by decide +kernel
theorem dX7_leftOver_0 : decode cX7_leftOver 0 = .ok (.iload_n 1, 1) := by decide +kernel
theorem dX7_leftOver_1 : decode cX7_leftOver 1 = .ok (.ifCond .gt 5, 3) := by decide +kernel
theorem dX7_leftOver_4 : decode cX7_leftOver 4 = .ok (.iconst 0, 1) := by decide +kernel
theorem dX7_leftOver_5 : decode cX7_leftOver 5 = .ok (.ireturn, 1) := by decide +kernel
theorem dX7_leftOver_6 : decode cX7_leftOver 6 = .ok (.iload_n 0, 1) := by decide +kernel
theorem dX7_leftOver_7 : decode cX7_leftOver 7 = .ok (.iload_n 1, 1) := by decide +kernel
theorem dX7_leftOver_8 : decode cX7_leftOver 8 = .ok (.irem, 1) := by decide +kernel
theorem dX7_leftOver_9 : decode cX7_leftOver 9 = .ok (.istore_n 2, 1) := by decide +kernel
theorem dX7_leftOver_10 : decode cX7_leftOver 10 = .ok (.iload_n 2, 1) := by decide +kernel
theorem dX7_leftOver_11 : decode cX7_leftOver 11 = .ok (.ifCond .ge 9, 3) := by decide +kernel
theorem dX7_leftOver_14 : decode cX7_leftOver 14 = .ok (.iload_n 2, 1) := by decide +kernel
theorem dX7_leftOver_15 : decode cX7_leftOver 15 = .ok (.iload_n 1, 1) := by decide +kernel
theorem dX7_leftOver_16 : decode cX7_leftOver 16 = .ok (.iadd, 1) := by decide +kernel
theorem dX7_leftOver_17 : decode cX7_leftOver 17 = .ok (.goto 4, 3) := by decide +kernel
theorem dX7_leftOver_20 : decode cX7_leftOver 20 = .ok (.iload_n 2, 1) := by decide +kernel
theorem dX7_leftOver_21 : decode cX7_leftOver 21 = .ok (.ireturn, 1) := by decide +kernel
theorem dX7_isOne_0 : decode cX7_isOne 0 = .ok (.iload_n 1, 1) := by decide +kernel
theorem dX7_isOne_1 : decode cX7_isOne 1 = .ok (.tableswitch 74 0 4 #[35, 37, 74, 74, 58], 35) := by decide +kernel
theorem dX7_isOne_36 : decode cX7_isOne 36 = .ok (.iconst 1, 1) := by decide +kernel
theorem dX7_isOne_37 : decode cX7_isOne 37 = .ok (.ireturn, 1) := by decide +kernel
theorem dX7_isOne_38 : decode cX7_isOne 38 = .ok (.iload_n 0, 1) := by decide +kernel
theorem dX7_isOne_39 : decode cX7_isOne 39 = .ok (.iconst 1, 1) := by decide +kernel
theorem dX7_isOne_40 : decode cX7_isOne 40 = .ok (.if_icmp .eq 13, 3) := by decide +kernel
theorem dX7_isOne_43 : decode cX7_isOne 43 = .ok (.iload_n 0, 1) := by decide +kernel
theorem dX7_isOne_44 : decode cX7_isOne 44 = .ok (.iconst 2, 1) := by decide +kernel
theorem dX7_isOne_45 : decode cX7_isOne 45 = .ok (.if_icmp .eq 8, 3) := by decide +kernel
theorem dX7_isOne_48 : decode cX7_isOne 48 = .ok (.iload_n 0, 1) := by decide +kernel
theorem dX7_isOne_49 : decode cX7_isOne 49 = .ok (.iconst 3, 1) := by decide +kernel
theorem dX7_isOne_50 : decode cX7_isOne 50 = .ok (.if_icmp .ne 7, 3) := by decide +kernel
theorem dX7_isOne_53 : decode cX7_isOne 53 = .ok (.iconst 1, 1) := by decide +kernel
theorem dX7_isOne_54 : decode cX7_isOne 54 = .ok (.goto 4, 3) := by decide +kernel
theorem dX7_isOne_57 : decode cX7_isOne 57 = .ok (.iconst 0, 1) := by decide +kernel
theorem dX7_isOne_58 : decode cX7_isOne 58 = .ok (.ireturn, 1) := by decide +kernel
theorem dX7_isOne_59 : decode cX7_isOne 59 = .ok (.iload_n 0, 1) := by decide +kernel
theorem dX7_isOne_60 : decode cX7_isOne 60 = .ok (.iconst 4, 1) := by decide +kernel
theorem dX7_isOne_61 : decode cX7_isOne 61 = .ok (.if_icmp .eq 8, 3) := by decide +kernel
theorem dX7_isOne_64 : decode cX7_isOne 64 = .ok (.iload_n 0, 1) := by decide +kernel
theorem dX7_isOne_65 : decode cX7_isOne 65 = .ok (.iconst 5, 1) := by decide +kernel
theorem dX7_isOne_66 : decode cX7_isOne 66 = .ok (.if_icmp .ne 7, 3) := by decide +kernel
theorem dX7_isOne_69 : decode cX7_isOne 69 = .ok (.iconst 1, 1) := by decide +kernel
theorem dX7_isOne_70 : decode cX7_isOne 70 = .ok (.goto 4, 3) := by decide +kernel
theorem dX7_isOne_73 : decode cX7_isOne 73 = .ok (.iconst 0, 1) := by decide +kernel
theorem dX7_isOne_74 : decode cX7_isOne 74 = .ok (.ireturn, 1) := by decide +kernel
theorem dX7_isOne_75 : decode cX7_isOne 75 = .ok (.iload_n 0, 1) := by decide +kernel
theorem dX7_isOne_76 : decode cX7_isOne 76 = .ok (.iload_n 1, 1) := by decide +kernel
theorem dX7_isOne_77 : decode cX7_isOne 77 = .ok (.if_icmp .ne 7, 3) := by decide +kernel
theorem dX7_isOne_80 : decode cX7_isOne 80 = .ok (.iconst 1, 1) := by decide +kernel
theorem dX7_isOne_81 : decode cX7_isOne 81 = .ok (.goto 4, 3) := by decide +kernel
theorem dX7_isOne_84 : decode cX7_isOne 84 = .ok (.iconst 0, 1) := by decide +kernel
theorem dX7_isOne_85 : decode cX7_isOne 85 = .ok (.ireturn, 1) := by decide +kernel
end
section
theorem dX8_init_0 : decode cX8_init 0 = .ok (.aload_n 0, 1) := by decide +kernel
theorem dX8_init_1 : decode cX8_init 1 = .ok (.invokespecial 1, 3) := by decide +kernel
theorem dX8_init_4 : decode cX8_init 4 = .ok (.aload_n 0, 1) := by decide +kernel
theorem dX8_init_5 : decode cX8_init 5 = .ok (.sipush 1131, 3) := by decide +kernel
theorem dX8_init_8 : decode cX8_init 8 = .ok (.newarray .int, 2) := by decide +kernel
theorem dX8_init_10 : decode cX8_init 10 = .ok (.putfield 7, 3) := by decide +kernel
theorem dX8_init_13 : decode cX8_init 13 = .ok (.aload_n 0, 1) := by decide +kernel
theorem dX8_init_14 : decode cX8_init 14 = .ok (.sipush 300, 3) := by decide +kernel
theorem dX8_init_17 : decode cX8_init 17 = .ok (.newarray .int, 2) := by decide +kernel
theorem dX8_init_19 : decode cX8_init 19 = .ok (.putfield 13, 3) := by decide +kernel
theorem dX8_init_22 : decode cX8_init 22 = .ok (.aload_n 0, 1) := by decide +kernel
theorem dX8_init_23 : decode cX8_init 23 = .ok (.bipush 8, 2) := by decide +kernel
theorem dX8_init_25 : decode cX8_init 25 = .ok (.newarray .int, 2) := by decide +kernel
theorem dX8_init_27 : decode cX8_init 27 = .ok (.putfield 16, 3) := by decide +kernel
theorem dX8_init_30 : decode cX8_init 30 = .ok (.aload_n 0, 1) := by decide +kernel
theorem dX8_init_31 : decode cX8_init 31 = .ok (.bipush 8, 2) := by decide +kernel
theorem dX8_init_33 : decode cX8_init 33 = .ok (.newarray .int, 2) := by decide +kernel
theorem dX8_init_35 : decode cX8_init 35 = .ok (.putfield 19, 3) := by decide +kernel
theorem dX8_init_38 : decode cX8_init 38 = .ok (.aload_n 0, 1) := by decide +kernel
theorem dX8_init_39 : decode cX8_init 39 = .ok (.sipush 320, 3) := by decide +kernel
theorem dX8_init_42 : decode cX8_init 42 = .ok (.newarray .int, 2) := by decide +kernel
theorem dX8_init_44 : decode cX8_init 44 = .ok (.putfield 22, 3) := by decide +kernel
theorem dX8_init_47 : decode cX8_init 47 = .ok (.aload_n 0, 1) := by decide +kernel
theorem dX8_init_48 : decode cX8_init 48 = .ok (.bipush 40, 2) := by decide +kernel
theorem dX8_init_50 : decode cX8_init 50 = .ok (.newarray .int, 2) := by decide +kernel
theorem dX8_init_52 : decode cX8_init 52 = .ok (.putfield 25, 3) := by decide +kernel
theorem dX8_init_55 : decode cX8_init 55 = .ok (.aload_n 0, 1) := by decide +kernel
theorem dX8_init_56 : decode cX8_init 56 = .ok (.iconst 2, 1) := by decide +kernel
theorem dX8_init_57 : decode cX8_init 57 = .ok (.newarray .boolean, 2) := by decide +kernel
theorem dX8_init_59 : decode cX8_init 59 = .ok (.putfield 28, 3) := by decide +kernel
theorem dX8_init_62 : decode cX8_init 62 = .ok (.aload_n 0, 1) := by decide +kernel
theorem dX8_init_63 : decode cX8_init 63 = .ok (.bipush 16, 2) := by decide +kernel
theorem dX8_init_65 : decode cX8_init 65 = .ok (.newarray .int, 2) := by decide +kernel
theorem dX8_init_67 : decode cX8_init 67 = .ok (.putfield 32, 3) := by decide +kernel
theorem dX8_init_70 : decode cX8_init 70 = .ok (.iconst 0, 1) := by decide +kernel
theorem dX8_init_71 : decode cX8_init 71 = .ok (.istore_n 1, 1) := by decide +kernel
theorem dX8_init_72 : decode cX8_init 72 = .ok (.iload_n 1, 1) := by decide +kernel
theorem dX8_init_73 : decode cX8_init 73 = .ok (.bipush 8, 2) := by decide +kernel
theorem dX8_init_75 : decode cX8_init 75 = .ok (.if_icmp .ge 16, 3) := by decide +kernel
theorem dX8_init_78 : decode cX8_init 78 = .ok (.aload_n 0, 1) := by decide +kernel
theorem dX8_init_79 : decode cX8_init 79 = .ok (.getfield 16, 3) := by decide +kernel
theorem dX8_init_82 : decode cX8_init 82 = .ok (.iload_n 1, 1) := by decide +kernel
theorem dX8_init_83 : decode cX8_init 83 = .ok (.iconst (-1), 1) := by decide +kernel
theorem dX8_init_84 : decode cX8_init 84 = .ok (.iastore, 1) := by decide +kernel
theorem dX8_init_85 : decode cX8_init 85 = .ok (.iinc 1 1, 3) := by decide +kernel
theorem dX8_init_88 : decode cX8_init 88 = .ok (.goto (-16), 3) := by decide +kernel
theorem dX8_init_91 : decode cX8_init 91 = .ok (.return_, 1) := by decide +kernel
theorem dX8_in_0 : decode cX8_in 0 = .ok (.lload_n 0, 1) := by decide +kernel
theorem dX8_in_1 : decode cX8_in 1 = .ok (.lload_n 2, 1) := by decide +kernel
theorem dX8_in_2 : decode cX8_in 2 = .ok (.lcmp, 1) := by decide +kernel
theorem dX8_in_3 : decode cX8_in 3 = .ok (.ifCond .lt 14, 3) := by decide +kernel
theorem dX8_in_6 : decode cX8_in 6 = .ok (.lload_n 0, 1) := by decide +kernel
theorem dX8_in_7 : decode cX8_in 7 = .ok (.lload 4, 2) := by decide +kernel
theorem dX8_in_9 : decode cX8_in 9 = .ok (.lcmp, 1) := by decide +kernel
theorem dX8_in_10 : decode cX8_in 10 = .ok (.ifCond .gt 7, 3) := by decide +kernel
theorem dX8_in_13 : decode cX8_in 13 = .ok (.iconst 1, 1) := by decide +kernel
theorem dX8_in_14 : decode cX8_in 14 = .ok (.goto 4, 3) := by decide +kernel
theorem dX8_in_17 : decode cX8_in 17 = .ok (.iconst 0, 1) := by decide +kernel
theorem dX8_in_18 : decode cX8_in 18 = .ok (.ireturn, 1) := by decide +kernel
theorem dX8_copyRow_0 : decode cX8_copyRow 0 = .ok (.iconst 0, 1) := by decide +kernel
theorem dX8_copyRow_1 : decode cX8_copyRow 1 = .ok (.istore_n 3, 1) := by decide +kernel
theorem dX8_copyRow_2 : decode cX8_copyRow 2 = .ok (.iload_n 3, 1) := by decide +kernel
theorem dX8_copyRow_3 : decode cX8_copyRow 3 = .ok (.bipush 39, 2) := by decide +kernel
theorem dX8_copyRow_5 : decode cX8_copyRow 5 = .ok (.if_icmp .ge 25, 3) := by decide +kernel
theorem dX8_copyRow_8 : decode cX8_copyRow 8 = .ok (.aload_n 0, 1) := by decide +kernel
theorem dX8_copyRow_9 : decode cX8_copyRow 9 = .ok (.getfield 7, 3) := by decide +kernel
theorem dX8_copyRow_12 : decode cX8_copyRow 12 = .ok (.iload_n 2, 1) := by decide +kernel
theorem dX8_copyRow_13 : decode cX8_copyRow 13 = .ok (.iload_n 3, 1) := by decide +kernel
theorem dX8_copyRow_14 : decode cX8_copyRow 14 = .ok (.iadd, 1) := by decide +kernel
theorem dX8_copyRow_15 : decode cX8_copyRow 15 = .ok (.aload_n 0, 1) := by decide +kernel
theorem dX8_copyRow_16 : decode cX8_copyRow 16 = .ok (.getfield 7, 3) := by decide +kernel
theorem dX8_copyRow_19 : decode cX8_copyRow 19 = .ok (.iload_n 1, 1) := by decide +kernel
theorem dX8_copyRow_20 : decode cX8_copyRow 20 = .ok (.iload_n 3, 1) := by decide +kernel
theorem dX8_copyRow_21 : decode cX8_copyRow 21 = .ok (.iadd, 1) := by decide +kernel
theorem dX8_copyRow_22 : decode cX8_copyRow 22 = .ok (.iaload, 1) := by decide +kernel
theorem dX8_copyRow_23 : decode cX8_copyRow 23 = .ok (.iastore, 1) := by decide +kernel
theorem dX8_copyRow_24 : decode cX8_copyRow 24 = .ok (.iinc 3 1, 3) := by decide +kernel
theorem dX8_copyRow_27 : decode cX8_copyRow 27 = .ok (.goto (-25), 3) := by decide +kernel
theorem dX8_copyRow_30 : decode cX8_copyRow 30 = .ok (.return_, 1) := by decide +kernel
theorem dX8_isRow_0 : decode cX8_isRow 0 = .ok (.iload_n 0, 1) := by decide +kernel
theorem dX8_isRow_1 : decode cX8_isRow 1 = .ok (.i2l, 1) := by decide +kernel
theorem dX8_isRow_2 : decode cX8_isRow 2 = .ok (.lconst 0, 1) := by decide +kernel
theorem dX8_isRow_3 : decode cX8_isRow 3 = .ok (.ldc2_w 35, 3) := by decide +kernel
theorem dX8_isRow_6 : decode cX8_isRow 6 = .ok (.invokestatic 37, 3) := by decide +kernel
theorem dX8_isRow_9 : decode cX8_isRow 9 = .ok (.ireturn, 1) := by decide +kernel
theorem dX8_found_0 : decode cX8_found 0 = .ok (.aload_n 0, 1) := by decide +kernel
theorem dX8_found_1 : decode cX8_found 1 = .ok (.iload_n 1, 1) := by decide +kernel
theorem dX8_found_2 : decode cX8_found 2 = .ok (.putfield 41, 3) := by decide +kernel
theorem dX8_found_5 : decode cX8_found 5 = .ok (.ldc 45, 2) := by decide +kernel
theorem dX8_found_7 : decode cX8_found 7 = .ok (.iload_n 1, 1) := by decide +kernel
theorem dX8_found_8 : decode cX8_found 8 = .ok (.isub, 1) := by decide +kernel
theorem dX8_found_9 : decode cX8_found 9 = .ok (.ireturn, 1) := by decide +kernel
theorem dX8_well_0 : decode cX8_well 0 = .ok (.aload_n 0, 1) := by decide +kernel
theorem dX8_well_1 : decode cX8_well 1 = .ok (.iconst 0, 1) := by decide +kernel
theorem dX8_well_2 : decode cX8_well 2 = .ok (.putfield 41, 3) := by decide +kernel
theorem dX8_well_5 : decode cX8_well 5 = .ok (.iload_n 1, 1) := by decide +kernel
theorem dX8_well_6 : decode cX8_well 6 = .ok (.ireturn, 1) := by decide +kernel
theorem dX8_row_0 : decode cX8_row 0 = .ok (.iload_n 1, 1) := by decide +kernel
theorem dX8_row_1 : decode cX8_row 1 = .ok (.invokestatic 46, 3) := by decide +kernel
theorem dX8_row_4 : decode cX8_row 4 = .ok (.ifCond .eq 21, 3) := by decide +kernel
theorem dX8_row_7 : decode cX8_row 7 = .ok (.iload_n 2, 1) := by decide +kernel
theorem dX8_row_8 : decode cX8_row 8 = .ok (.i2l, 1) := by decide +kernel
theorem dX8_row_9 : decode cX8_row 9 = .ok (.lconst 0, 1) := by decide +kernel
theorem dX8_row_10 : decode cX8_row 10 = .ok (.ldc2_w 50, 3) := by decide +kernel
theorem dX8_row_13 : decode cX8_row 13 = .ok (.invokestatic 37, 3) := by decide +kernel
theorem dX8_row_16 : decode cX8_row 16 = .ok (.ifCond .eq 9, 3) := by decide +kernel
theorem dX8_row_19 : decode cX8_row 19 = .ok (.iload_n 3, 1) := by decide +kernel
theorem dX8_row_20 : decode cX8_row 20 = .ok (.bipush 40, 2) := by decide +kernel
theorem dX8_row_22 : decode cX8_row 22 = .ok (.if_icmp .le 6, 3) := by decide +kernel
theorem dX8_row_25 : decode cX8_row 25 = .ok (.ldc 52, 2) := by decide +kernel
theorem dX8_row_27 : decode cX8_row 27 = .ok (.ireturn, 1) := by decide +kernel
theorem dX8_row_28 : decode cX8_row 28 = .ok (.iload_n 3, 1) := by decide +kernel
theorem dX8_row_29 : decode cX8_row 29 = .ok (.ifCond .ge 9, 3) := by decide +kernel
theorem dX8_row_32 : decode cX8_row 32 = .ok (.aload_n 0, 1) := by decide +kernel
theorem dX8_row_33 : decode cX8_row 33 = .ok (.iconst 4, 1) := by decide +kernel
theorem dX8_row_34 : decode cX8_row 34 = .ok (.invokevirtual 53, 3) := by decide +kernel
theorem dX8_row_37 : decode cX8_row 37 = .ok (.ireturn, 1) := by decide +kernel
theorem dX8_row_38 : decode cX8_row 38 = .ok (.aload_n 0, 1) := by decide +kernel
theorem dX8_row_39 : decode cX8_row 39 = .ok (.getfield 16, 3) := by decide +kernel
theorem dX8_row_42 : decode cX8_row 42 = .ok (.iload_n 1, 1) := by decide +kernel
theorem dX8_row_43 : decode cX8_row 43 = .ok (.iload_n 2, 1) := by decide +kernel
theorem dX8_row_44 : decode cX8_row 44 = .ok (.iastore, 1) := by decide +kernel
theorem dX8_row_45 : decode cX8_row 45 = .ok (.aload_n 0, 1) := by decide +kernel
theorem dX8_row_46 : decode cX8_row 46 = .ok (.getfield 19, 3) := by decide +kernel
theorem dX8_row_49 : decode cX8_row 49 = .ok (.iload_n 1, 1) := by decide +kernel
theorem dX8_row_50 : decode cX8_row 50 = .ok (.iload_n 3, 1) := by decide +kernel
theorem dX8_row_51 : decode cX8_row 51 = .ok (.iastore, 1) := by decide +kernel
theorem dX8_row_52 : decode cX8_row 52 = .ok (.iconst 0, 1) := by decide +kernel
theorem dX8_row_53 : decode cX8_row 53 = .ok (.istore 4, 2) := by decide +kernel
theorem dX8_row_55 : decode cX8_row 55 = .ok (.iload 4, 2) := by decide +kernel
theorem dX8_row_57 : decode cX8_row 57 = .ok (.bipush 40, 2) := by decide +kernel
theorem dX8_row_59 : decode cX8_row 59 = .ok (.if_icmp .ge 22, 3) := by decide +kernel
theorem dX8_row_62 : decode cX8_row 62 = .ok (.aload_n 0, 1) := by decide +kernel
theorem dX8_row_63 : decode cX8_row 63 = .ok (.getfield 22, 3) := by decide +kernel
theorem dX8_row_66 : decode cX8_row 66 = .ok (.bipush 40, 2) := by decide +kernel
theorem dX8_row_68 : decode cX8_row 68 = .ok (.iload_n 1, 1) := by decide +kernel
theorem dX8_row_69 : decode cX8_row 69 = .ok (.imul, 1) := by decide +kernel
theorem dX8_row_70 : decode cX8_row 70 = .ok (.iload 4, 2) := by decide +kernel
theorem dX8_row_72 : decode cX8_row 72 = .ok (.iadd, 1) := by decide +kernel
theorem dX8_row_73 : decode cX8_row 73 = .ok (.iconst 0, 1) := by decide +kernel
theorem dX8_row_74 : decode cX8_row 74 = .ok (.iastore, 1) := by decide +kernel
theorem dX8_row_75 : decode cX8_row 75 = .ok (.iinc 4 1, 3) := by decide +kernel
theorem dX8_row_78 : decode cX8_row 78 = .ok (.goto (-23), 3) := by decide +kernel
theorem dX8_row_81 : decode cX8_row 81 = .ok (.aload_n 0, 1) := by decide +kernel
theorem dX8_row_82 : decode cX8_row 82 = .ok (.iload_n 3, 1) := by decide +kernel
theorem dX8_row_83 : decode cX8_row 83 = .ok (.invokevirtual 57, 3) := by decide +kernel
theorem dX8_row_86 : decode cX8_row 86 = .ok (.ireturn, 1) := by decide +kernel
theorem dX8_set_0 : decode cX8_set 0 = .ok (.iload_n 1, 1) := by decide +kernel
theorem dX8_set_1 : decode cX8_set 1 = .ok (.invokestatic 46, 3) := by decide +kernel
theorem dX8_set_4 : decode cX8_set 4 = .ok (.ifCond .ne 6, 3) := by decide +kernel
theorem dX8_set_7 : decode cX8_set 7 = .ok (.ldc 52, 2) := by decide +kernel
theorem dX8_set_9 : decode cX8_set 9 = .ok (.ireturn, 1) := by decide +kernel
theorem dX8_set_10 : decode cX8_set 10 = .ok (.aload_n 0, 1) := by decide +kernel
theorem dX8_set_11 : decode cX8_set 11 = .ok (.getfield 16, 3) := by decide +kernel
theorem dX8_set_14 : decode cX8_set 14 = .ok (.iload_n 1, 1) := by decide +kernel
theorem dX8_set_15 : decode cX8_set 15 = .ok (.iaload, 1) := by decide +kernel
theorem dX8_set_16 : decode cX8_set 16 = .ok (.ifCond .ge 9, 3) := by decide +kernel
theorem dX8_set_19 : decode cX8_set 19 = .ok (.aload_n 0, 1) := by decide +kernel
theorem dX8_set_20 : decode cX8_set 20 = .ok (.iconst 1, 1) := by decide +kernel
theorem dX8_set_21 : decode cX8_set 21 = .ok (.invokevirtual 53, 3) := by decide +kernel
theorem dX8_set_24 : decode cX8_set 24 = .ok (.ireturn, 1) := by decide +kernel
theorem dX8_set_25 : decode cX8_set 25 = .ok (.iload_n 2, 1) := by decide +kernel
theorem dX8_set_26 : decode cX8_set 26 = .ok (.i2l, 1) := by decide +kernel
theorem dX8_set_27 : decode cX8_set 27 = .ok (.lconst 0, 1) := by decide +kernel
theorem dX8_set_28 : decode cX8_set 28 = .ok (.aload_n 0, 1) := by decide +kernel
theorem dX8_set_29 : decode cX8_set 29 = .ok (.getfield 19, 3) := by decide +kernel
theorem dX8_set_32 : decode cX8_set 32 = .ok (.iload_n 1, 1) := by decide +kernel
theorem dX8_set_33 : decode cX8_set 33 = .ok (.iaload, 1) := by decide +kernel
theorem dX8_set_34 : decode cX8_set 34 = .ok (.iconst 1, 1) := by decide +kernel
theorem dX8_set_35 : decode cX8_set 35 = .ok (.isub, 1) := by decide +kernel
theorem dX8_set_36 : decode cX8_set 36 = .ok (.i2l, 1) := by decide +kernel
theorem dX8_set_37 : decode cX8_set 37 = .ok (.invokestatic 37, 3) := by decide +kernel
theorem dX8_set_40 : decode cX8_set 40 = .ok (.ifCond .ne 9, 3) := by decide +kernel
theorem dX8_set_43 : decode cX8_set 43 = .ok (.aload_n 0, 1) := by decide +kernel
theorem dX8_set_44 : decode cX8_set 44 = .ok (.iconst 2, 1) := by decide +kernel
theorem dX8_set_45 : decode cX8_set 45 = .ok (.invokevirtual 53, 3) := by decide +kernel
theorem dX8_set_48 : decode cX8_set 48 = .ok (.ireturn, 1) := by decide +kernel
theorem dX8_set_49 : decode cX8_set 49 = .ok (.aload_n 0, 1) := by decide +kernel
theorem dX8_set_50 : decode cX8_set 50 = .ok (.getfield 22, 3) := by decide +kernel
theorem dX8_set_53 : decode cX8_set 53 = .ok (.bipush 40, 2) := by decide +kernel
theorem dX8_set_55 : decode cX8_set 55 = .ok (.iload_n 1, 1) := by decide +kernel
theorem dX8_set_56 : decode cX8_set 56 = .ok (.imul, 1) := by decide +kernel
theorem dX8_set_57 : decode cX8_set 57 = .ok (.iload_n 2, 1) := by decide +kernel
theorem dX8_set_58 : decode cX8_set 58 = .ok (.iadd, 1) := by decide +kernel
theorem dX8_set_59 : decode cX8_set 59 = .ok (.aload_n 0, 1) := by decide +kernel
theorem dX8_set_60 : decode cX8_set 60 = .ok (.getfield 16, 3) := by decide +kernel
theorem dX8_set_63 : decode cX8_set 63 = .ok (.iload_n 1, 1) := by decide +kernel
theorem dX8_set_64 : decode cX8_set 64 = .ok (.iaload, 1) := by decide +kernel
theorem dX8_set_65 : decode cX8_set 65 = .ok (.ifCond .ne 8, 3) := by decide +kernel
theorem dX8_set_68 : decode cX8_set 68 = .ok (.iload_n 3, 1) := by decide +kernel
theorem dX8_set_69 : decode cX8_set 69 = .ok (.i2b, 1) := by decide +kernel
theorem dX8_set_70 : decode cX8_set 70 = .ok (.goto 19, 3) := by decide +kernel
theorem dX8_set_73 : decode cX8_set 73 = .ok (.aload_n 0, 1) := by decide +kernel
theorem dX8_set_74 : decode cX8_set 74 = .ok (.getfield 16, 3) := by decide +kernel
theorem dX8_set_77 : decode cX8_set 77 = .ok (.iload_n 1, 1) := by decide +kernel
theorem dX8_set_78 : decode cX8_set 78 = .ok (.iaload, 1) := by decide +kernel
theorem dX8_set_79 : decode cX8_set 79 = .ok (.iconst 1, 1) := by decide +kernel
theorem dX8_set_80 : decode cX8_set 80 = .ok (.if_icmp .ne 8, 3) := by decide +kernel
theorem dX8_set_83 : decode cX8_set 83 = .ok (.iload_n 3, 1) := by decide +kernel
theorem dX8_set_84 : decode cX8_set 84 = .ok (.i2s, 1) := by decide +kernel
theorem dX8_set_85 : decode cX8_set 85 = .ok (.goto 4, 3) := by decide +kernel
theorem dX8_set_88 : decode cX8_set 88 = .ok (.iload_n 3, 1) := by decide +kernel
theorem dX8_set_89 : decode cX8_set 89 = .ok (.iastore, 1) := by decide +kernel
theorem dX8_set_90 : decode cX8_set 90 = .ok (.aload_n 0, 1) := by decide +kernel
theorem dX8_set_91 : decode cX8_set 91 = .ok (.aload_n 0, 1) := by decide +kernel
theorem dX8_set_92 : decode cX8_set 92 = .ok (.getfield 22, 3) := by decide +kernel
theorem dX8_set_95 : decode cX8_set 95 = .ok (.bipush 40, 2) := by decide +kernel
theorem dX8_set_97 : decode cX8_set 97 = .ok (.iload_n 1, 1) := by decide +kernel
theorem dX8_set_98 : decode cX8_set 98 = .ok (.imul, 1) := by decide +kernel
theorem dX8_set_99 : decode cX8_set 99 = .ok (.iload_n 2, 1) := by decide +kernel
theorem dX8_set_100 : decode cX8_set 100 = .ok (.iadd, 1) := by decide +kernel
theorem dX8_set_101 : decode cX8_set 101 = .ok (.iaload, 1) := by decide +kernel
theorem dX8_set_102 : decode cX8_set 102 = .ok (.invokevirtual 57, 3) := by decide +kernel
theorem dX8_set_105 : decode cX8_set 105 = .ok (.ireturn, 1) := by decide +kernel
theorem dX8_isPart_0 : decode cX8_isPart 0 = .ok (.iload_n 0, 1) := by decide +kernel
theorem dX8_isPart_1 : decode cX8_isPart 1 = .ok (.ifCond .lt 22, 3) := by decide +kernel
theorem dX8_isPart_4 : decode cX8_isPart 4 = .ok (.iload_n 1, 1) := by decide +kernel
theorem dX8_isPart_5 : decode cX8_isPart 5 = .ok (.ifCond .lt 18, 3) := by decide +kernel
theorem dX8_isPart_8 : decode cX8_isPart 8 = .ok (.iload_n 0, 1) := by decide +kernel
theorem dX8_isPart_9 : decode cX8_isPart 9 = .ok (.i2l, 1) := by decide +kernel
theorem dX8_isPart_10 : decode cX8_isPart 10 = .ok (.iload_n 1, 1) := by decide +kernel
theorem dX8_isPart_11 : decode cX8_isPart 11 = .ok (.i2l, 1) := by decide +kernel
theorem dX8_isPart_12 : decode cX8_isPart 12 = .ok (.ladd, 1) := by decide +kernel
theorem dX8_isPart_13 : decode cX8_isPart 13 = .ok (.iload_n 2, 1) := by decide +kernel
theorem dX8_isPart_14 : decode cX8_isPart 14 = .ok (.i2l, 1) := by decide +kernel
theorem dX8_isPart_15 : decode cX8_isPart 15 = .ok (.lcmp, 1) := by decide +kernel
theorem dX8_isPart_16 : decode cX8_isPart 16 = .ok (.ifCond .gt 7, 3) := by decide +kernel
theorem dX8_isPart_19 : decode cX8_isPart 19 = .ok (.iconst 1, 1) := by decide +kernel
theorem dX8_isPart_20 : decode cX8_isPart 20 = .ok (.goto 4, 3) := by decide +kernel
theorem dX8_isPart_23 : decode cX8_isPart 23 = .ok (.iconst 0, 1) := by decide +kernel
theorem dX8_isPart_24 : decode cX8_isPart 24 = .ok (.ireturn, 1) := by decide +kernel
theorem dX8_copy_0 : decode cX8_copy 0 = .ok (.iload_n 1, 1) := by decide +kernel
theorem dX8_copy_1 : decode cX8_copy 1 = .ok (.invokestatic 46, 3) := by decide +kernel
theorem dX8_copy_4 : decode cX8_copy 4 = .ok (.ifCond .eq 10, 3) := by decide +kernel
theorem dX8_copy_7 : decode cX8_copy 7 = .ok (.iload_n 3, 1) := by decide +kernel
theorem dX8_copy_8 : decode cX8_copy 8 = .ok (.invokestatic 46, 3) := by decide +kernel
theorem dX8_copy_11 : decode cX8_copy 11 = .ok (.ifCond .ne 6, 3) := by decide +kernel
theorem dX8_copy_14 : decode cX8_copy 14 = .ok (.ldc 52, 2) := by decide +kernel
theorem dX8_copy_16 : decode cX8_copy 16 = .ok (.ireturn, 1) := by decide +kernel
theorem dX8_copy_17 : decode cX8_copy 17 = .ok (.aload_n 0, 1) := by decide +kernel
theorem dX8_copy_18 : decode cX8_copy 18 = .ok (.getfield 16, 3) := by decide +kernel
theorem dX8_copy_21 : decode cX8_copy 21 = .ok (.iload_n 1, 1) := by decide +kernel
theorem dX8_copy_22 : decode cX8_copy 22 = .ok (.iaload, 1) := by decide +kernel
theorem dX8_copy_23 : decode cX8_copy 23 = .ok (.ifCond .lt 12, 3) := by decide +kernel
theorem dX8_copy_26 : decode cX8_copy 26 = .ok (.aload_n 0, 1) := by decide +kernel
theorem dX8_copy_27 : decode cX8_copy 27 = .ok (.getfield 16, 3) := by decide +kernel
theorem dX8_copy_30 : decode cX8_copy 30 = .ok (.iload_n 3, 1) := by decide +kernel
theorem dX8_copy_31 : decode cX8_copy 31 = .ok (.iaload, 1) := by decide +kernel
theorem dX8_copy_32 : decode cX8_copy 32 = .ok (.ifCond .ge 9, 3) := by decide +kernel
theorem dX8_copy_35 : decode cX8_copy 35 = .ok (.aload_n 0, 1) := by decide +kernel
theorem dX8_copy_36 : decode cX8_copy 36 = .ok (.iconst 1, 1) := by decide +kernel
theorem dX8_copy_37 : decode cX8_copy 37 = .ok (.invokevirtual 53, 3) := by decide +kernel
theorem dX8_copy_40 : decode cX8_copy 40 = .ok (.ireturn, 1) := by decide +kernel
theorem dX8_copy_41 : decode cX8_copy 41 = .ok (.aload_n 0, 1) := by decide +kernel
theorem dX8_copy_42 : decode cX8_copy 42 = .ok (.getfield 16, 3) := by decide +kernel
theorem dX8_copy_45 : decode cX8_copy 45 = .ok (.iload_n 1, 1) := by decide +kernel
theorem dX8_copy_46 : decode cX8_copy 46 = .ok (.iaload, 1) := by decide +kernel
theorem dX8_copy_47 : decode cX8_copy 47 = .ok (.aload_n 0, 1) := by decide +kernel
theorem dX8_copy_48 : decode cX8_copy 48 = .ok (.getfield 16, 3) := by decide +kernel
theorem dX8_copy_51 : decode cX8_copy 51 = .ok (.iload_n 3, 1) := by decide +kernel
theorem dX8_copy_52 : decode cX8_copy 52 = .ok (.iaload, 1) := by decide +kernel
theorem dX8_copy_53 : decode cX8_copy 53 = .ok (.if_icmp .eq 9, 3) := by decide +kernel
theorem dX8_copy_56 : decode cX8_copy 56 = .ok (.aload_n 0, 1) := by decide +kernel
theorem dX8_copy_57 : decode cX8_copy 57 = .ok (.iconst 5, 1) := by decide +kernel
theorem dX8_copy_58 : decode cX8_copy 58 = .ok (.invokevirtual 53, 3) := by decide +kernel
theorem dX8_copy_61 : decode cX8_copy 61 = .ok (.ireturn, 1) := by decide +kernel
theorem dX8_copy_62 : decode cX8_copy 62 = .ok (.iload_n 2, 1) := by decide +kernel
theorem dX8_copy_63 : decode cX8_copy 63 = .ok (.iload 5, 2) := by decide +kernel
theorem dX8_copy_65 : decode cX8_copy 65 = .ok (.aload_n 0, 1) := by decide +kernel
theorem dX8_copy_66 : decode cX8_copy 66 = .ok (.getfield 19, 3) := by decide +kernel
theorem dX8_copy_69 : decode cX8_copy 69 = .ok (.iload_n 1, 1) := by decide +kernel
theorem dX8_copy_70 : decode cX8_copy 70 = .ok (.iaload, 1) := by decide +kernel
theorem dX8_copy_71 : decode cX8_copy 71 = .ok (.invokestatic 60, 3) := by decide +kernel
theorem dX8_copy_74 : decode cX8_copy 74 = .ok (.ifCond .eq 19, 3) := by decide +kernel
theorem dX8_copy_77 : decode cX8_copy 77 = .ok (.iload 4, 2) := by decide +kernel
theorem dX8_copy_79 : decode cX8_copy 79 = .ok (.iload 5, 2) := by decide +kernel
theorem dX8_copy_81 : decode cX8_copy 81 = .ok (.aload_n 0, 1) := by decide +kernel
theorem dX8_copy_82 : decode cX8_copy 82 = .ok (.getfield 19, 3) := by decide +kernel
theorem dX8_copy_85 : decode cX8_copy 85 = .ok (.iload_n 3, 1) := by decide +kernel
theorem dX8_copy_86 : decode cX8_copy 86 = .ok (.iaload, 1) := by decide +kernel
theorem dX8_copy_87 : decode cX8_copy 87 = .ok (.invokestatic 60, 3) := by decide +kernel
theorem dX8_copy_90 : decode cX8_copy 90 = .ok (.ifCond .ne 9, 3) := by decide +kernel
theorem dX8_copy_93 : decode cX8_copy 93 = .ok (.aload_n 0, 1) := by decide +kernel
theorem dX8_copy_94 : decode cX8_copy 94 = .ok (.iconst 2, 1) := by decide +kernel
theorem dX8_copy_95 : decode cX8_copy 95 = .ok (.invokevirtual 53, 3) := by decide +kernel
theorem dX8_copy_98 : decode cX8_copy 98 = .ok (.ireturn, 1) := by decide +kernel
theorem dX8_copy_99 : decode cX8_copy 99 = .ok (.iconst 0, 1) := by decide +kernel
theorem dX8_copy_100 : decode cX8_copy 100 = .ok (.istore 6, 2) := by decide +kernel
theorem dX8_copy_102 : decode cX8_copy 102 = .ok (.iload 6, 2) := by decide +kernel
theorem dX8_copy_104 : decode cX8_copy 104 = .ok (.iload 5, 2) := by decide +kernel
theorem dX8_copy_106 : decode cX8_copy 106 = .ok (.if_icmp .ge 30, 3) := by decide +kernel
theorem dX8_copy_109 : decode cX8_copy 109 = .ok (.aload_n 0, 1) := by decide +kernel
theorem dX8_copy_110 : decode cX8_copy 110 = .ok (.getfield 25, 3) := by decide +kernel
theorem dX8_copy_113 : decode cX8_copy 113 = .ok (.iload 6, 2) := by decide +kernel
theorem dX8_copy_115 : decode cX8_copy 115 = .ok (.aload_n 0, 1) := by decide +kernel
theorem dX8_copy_116 : decode cX8_copy 116 = .ok (.getfield 22, 3) := by decide +kernel
theorem dX8_copy_119 : decode cX8_copy 119 = .ok (.bipush 40, 2) := by decide +kernel
theorem dX8_copy_121 : decode cX8_copy 121 = .ok (.iload_n 1, 1) := by decide +kernel
theorem dX8_copy_122 : decode cX8_copy 122 = .ok (.imul, 1) := by decide +kernel
theorem dX8_copy_123 : decode cX8_copy 123 = .ok (.iload_n 2, 1) := by decide +kernel
theorem dX8_copy_124 : decode cX8_copy 124 = .ok (.iadd, 1) := by decide +kernel
theorem dX8_copy_125 : decode cX8_copy 125 = .ok (.iload 6, 2) := by decide +kernel
theorem dX8_copy_127 : decode cX8_copy 127 = .ok (.iadd, 1) := by decide +kernel
theorem dX8_copy_128 : decode cX8_copy 128 = .ok (.iaload, 1) := by decide +kernel
theorem dX8_copy_129 : decode cX8_copy 129 = .ok (.iastore, 1) := by decide +kernel
theorem dX8_copy_130 : decode cX8_copy 130 = .ok (.iinc 6 1, 3) := by decide +kernel
theorem dX8_copy_133 : decode cX8_copy 133 = .ok (.goto (-31), 3) := by decide +kernel
theorem dX8_copy_136 : decode cX8_copy 136 = .ok (.iconst 0, 1) := by decide +kernel
theorem dX8_copy_137 : decode cX8_copy 137 = .ok (.istore 6, 2) := by decide +kernel
theorem dX8_copy_139 : decode cX8_copy 139 = .ok (.iload 6, 2) := by decide +kernel
theorem dX8_copy_141 : decode cX8_copy 141 = .ok (.iload 5, 2) := by decide +kernel
theorem dX8_copy_143 : decode cX8_copy 143 = .ok (.if_icmp .ge 31, 3) := by decide +kernel
theorem dX8_copy_146 : decode cX8_copy 146 = .ok (.aload_n 0, 1) := by decide +kernel
theorem dX8_copy_147 : decode cX8_copy 147 = .ok (.getfield 22, 3) := by decide +kernel
theorem dX8_copy_150 : decode cX8_copy 150 = .ok (.bipush 40, 2) := by decide +kernel
theorem dX8_copy_152 : decode cX8_copy 152 = .ok (.iload_n 3, 1) := by decide +kernel
theorem dX8_copy_153 : decode cX8_copy 153 = .ok (.imul, 1) := by decide +kernel
theorem dX8_copy_154 : decode cX8_copy 154 = .ok (.iload 4, 2) := by decide +kernel
theorem dX8_copy_156 : decode cX8_copy 156 = .ok (.iadd, 1) := by decide +kernel
theorem dX8_copy_157 : decode cX8_copy 157 = .ok (.iload 6, 2) := by decide +kernel
theorem dX8_copy_159 : decode cX8_copy 159 = .ok (.iadd, 1) := by decide +kernel
theorem dX8_copy_160 : decode cX8_copy 160 = .ok (.aload_n 0, 1) := by decide +kernel
theorem dX8_copy_161 : decode cX8_copy 161 = .ok (.getfield 25, 3) := by decide +kernel
theorem dX8_copy_164 : decode cX8_copy 164 = .ok (.iload 6, 2) := by decide +kernel
theorem dX8_copy_166 : decode cX8_copy 166 = .ok (.iaload, 1) := by decide +kernel
theorem dX8_copy_167 : decode cX8_copy 167 = .ok (.iastore, 1) := by decide +kernel
theorem dX8_copy_168 : decode cX8_copy 168 = .ok (.iinc 6 1, 3) := by decide +kernel
theorem dX8_copy_171 : decode cX8_copy 171 = .ok (.goto (-32), 3) := by decide +kernel
theorem dX8_copy_174 : decode cX8_copy 174 = .ok (.aload_n 0, 1) := by decide +kernel
theorem dX8_copy_175 : decode cX8_copy 175 = .ok (.iload 5, 2) := by decide +kernel
theorem dX8_copy_177 : decode cX8_copy 177 = .ok (.invokevirtual 57, 3) := by decide +kernel
theorem dX8_copy_180 : decode cX8_copy 180 = .ok (.ireturn, 1) := by decide +kernel
theorem dX8_drop_0 : decode cX8_drop 0 = .ok (.iload_n 1, 1) := by decide +kernel
theorem dX8_drop_1 : decode cX8_drop 1 = .ok (.invokestatic 46, 3) := by decide +kernel
theorem dX8_drop_4 : decode cX8_drop 4 = .ok (.ifCond .ne 6, 3) := by decide +kernel
theorem dX8_drop_7 : decode cX8_drop 7 = .ok (.ldc 52, 2) := by decide +kernel
theorem dX8_drop_9 : decode cX8_drop 9 = .ok (.ireturn, 1) := by decide +kernel
theorem dX8_drop_10 : decode cX8_drop 10 = .ok (.aload_n 0, 1) := by decide +kernel
theorem dX8_drop_11 : decode cX8_drop 11 = .ok (.getfield 16, 3) := by decide +kernel
theorem dX8_drop_14 : decode cX8_drop 14 = .ok (.iload_n 1, 1) := by decide +kernel
theorem dX8_drop_15 : decode cX8_drop 15 = .ok (.iaload, 1) := by decide +kernel
theorem dX8_drop_16 : decode cX8_drop 16 = .ok (.ifCond .ge 9, 3) := by decide +kernel
theorem dX8_drop_19 : decode cX8_drop 19 = .ok (.aload_n 0, 1) := by decide +kernel
theorem dX8_drop_20 : decode cX8_drop 20 = .ok (.iconst 1, 1) := by decide +kernel
theorem dX8_drop_21 : decode cX8_drop 21 = .ok (.invokevirtual 53, 3) := by decide +kernel
theorem dX8_drop_24 : decode cX8_drop 24 = .ok (.ireturn, 1) := by decide +kernel
theorem dX8_drop_25 : decode cX8_drop 25 = .ok (.aload_n 0, 1) := by decide +kernel
theorem dX8_drop_26 : decode cX8_drop 26 = .ok (.getfield 16, 3) := by decide +kernel
theorem dX8_drop_29 : decode cX8_drop 29 = .ok (.iload_n 1, 1) := by decide +kernel
theorem dX8_drop_30 : decode cX8_drop 30 = .ok (.iconst (-1), 1) := by decide +kernel
theorem dX8_drop_31 : decode cX8_drop 31 = .ok (.iastore, 1) := by decide +kernel
theorem dX8_drop_32 : decode cX8_drop 32 = .ok (.aload_n 0, 1) := by decide +kernel
theorem dX8_drop_33 : decode cX8_drop 33 = .ok (.aload_n 0, 1) := by decide +kernel
theorem dX8_drop_34 : decode cX8_drop 34 = .ok (.getfield 19, 3) := by decide +kernel
theorem dX8_drop_37 : decode cX8_drop 37 = .ok (.iload_n 1, 1) := by decide +kernel
theorem dX8_drop_38 : decode cX8_drop 38 = .ok (.iaload, 1) := by decide +kernel
theorem dX8_drop_39 : decode cX8_drop 39 = .ok (.invokevirtual 57, 3) := by decide +kernel
theorem dX8_drop_42 : decode cX8_drop 42 = .ok (.ireturn, 1) := by decide +kernel
theorem dX8_feed_0 : decode cX8_feed 0 = .ok (.iload_n 3, 1) := by decide +kernel
theorem dX8_feed_1 : decode cX8_feed 1 = .ok (.i2l, 1) := by decide +kernel
theorem dX8_feed_2 : decode cX8_feed 2 = .ok (.lconst 1, 1) := by decide +kernel
theorem dX8_feed_3 : decode cX8_feed 3 = .ok (.ldc2_w 64, 3) := by decide +kernel
theorem dX8_feed_6 : decode cX8_feed 6 = .ok (.invokestatic 37, 3) := by decide +kernel
theorem dX8_feed_9 : decode cX8_feed 9 = .ok (.ifCond .ne 6, 3) := by decide +kernel
theorem dX8_feed_12 : decode cX8_feed 12 = .ok (.ldc 52, 2) := by decide +kernel
theorem dX8_feed_14 : decode cX8_feed 14 = .ok (.ireturn, 1) := by decide +kernel
theorem dX8_feed_15 : decode cX8_feed 15 = .ok (.aload_n 0, 1) := by decide +kernel
theorem dX8_feed_16 : decode cX8_feed 16 = .ok (.getfield 66, 3) := by decide +kernel
theorem dX8_feed_19 : decode cX8_feed 19 = .ok (.iload_n 3, 1) := by decide +kernel
theorem dX8_feed_20 : decode cX8_feed 20 = .ok (.iadd, 1) := by decide +kernel
theorem dX8_feed_21 : decode cX8_feed 21 = .ok (.sipush 300, 3) := by decide +kernel
theorem dX8_feed_24 : decode cX8_feed 24 = .ok (.if_icmp .le 6, 3) := by decide +kernel
theorem dX8_feed_27 : decode cX8_feed 27 = .ok (.ldc 69, 2) := by decide +kernel
theorem dX8_feed_29 : decode cX8_feed 29 = .ok (.ireturn, 1) := by decide +kernel
theorem dX8_feed_30 : decode cX8_feed 30 = .ok (.iload_n 3, 1) := by decide +kernel
theorem dX8_feed_31 : decode cX8_feed 31 = .ok (.iconst 1, 1) := by decide +kernel
theorem dX8_feed_32 : decode cX8_feed 32 = .ok (.isub, 1) := by decide +kernel
theorem dX8_feed_33 : decode cX8_feed 33 = .ok (.istore 4, 2) := by decide +kernel
theorem dX8_feed_35 : decode cX8_feed 35 = .ok (.iload 4, 2) := by decide +kernel
theorem dX8_feed_37 : decode cX8_feed 37 = .ok (.ifCond .lt 40, 3) := by decide +kernel
theorem dX8_feed_40 : decode cX8_feed 40 = .ok (.aload_n 0, 1) := by decide +kernel
theorem dX8_feed_41 : decode cX8_feed 41 = .ok (.getfield 13, 3) := by decide +kernel
theorem dX8_feed_44 : decode cX8_feed 44 = .ok (.aload_n 0, 1) := by decide +kernel
theorem dX8_feed_45 : decode cX8_feed 45 = .ok (.getfield 66, 3) := by decide +kernel
theorem dX8_feed_48 : decode cX8_feed 48 = .ok (.lload_n 1, 1) := by decide +kernel
theorem dX8_feed_49 : decode cX8_feed 49 = .ok (.bipush 8, 2) := by decide +kernel
theorem dX8_feed_51 : decode cX8_feed 51 = .ok (.iload 4, 2) := by decide +kernel
theorem dX8_feed_53 : decode cX8_feed 53 = .ok (.imul, 1) := by decide +kernel
theorem dX8_feed_54 : decode cX8_feed 54 = .ok (.lshr, 1) := by decide +kernel
theorem dX8_feed_55 : decode cX8_feed 55 = .ok (.ldc2_w 70, 3) := by decide +kernel
theorem dX8_feed_58 : decode cX8_feed 58 = .ok (.land, 1) := by decide +kernel
theorem dX8_feed_59 : decode cX8_feed 59 = .ok (.l2i, 1) := by decide +kernel
theorem dX8_feed_60 : decode cX8_feed 60 = .ok (.iastore, 1) := by decide +kernel
theorem dX8_feed_61 : decode cX8_feed 61 = .ok (.aload_n 0, 1) := by decide +kernel
theorem dX8_feed_62 : decode cX8_feed 62 = .ok (.dup, 1) := by decide +kernel
theorem dX8_feed_63 : decode cX8_feed 63 = .ok (.getfield 66, 3) := by decide +kernel
theorem dX8_feed_66 : decode cX8_feed 66 = .ok (.iconst 1, 1) := by decide +kernel
theorem dX8_feed_67 : decode cX8_feed 67 = .ok (.iadd, 1) := by decide +kernel
theorem dX8_feed_68 : decode cX8_feed 68 = .ok (.putfield 66, 3) := by decide +kernel
theorem dX8_feed_71 : decode cX8_feed 71 = .ok (.iinc 4 (-1), 3) := by decide +kernel
theorem dX8_feed_74 : decode cX8_feed 74 = .ok (.goto (-39), 3) := by decide +kernel
theorem dX8_feed_77 : decode cX8_feed 77 = .ok (.aload_n 0, 1) := by decide +kernel
theorem dX8_feed_78 : decode cX8_feed 78 = .ok (.getfield 66, 3) := by decide +kernel
theorem dX8_feed_81 : decode cX8_feed 81 = .ok (.ireturn, 1) := by decide +kernel
theorem dX8_byteAt_0 : decode cX8_byteAt 0 = .ok (.iload_n 1, 1) := by decide +kernel
theorem dX8_byteAt_1 : decode cX8_byteAt 1 = .ok (.aload_n 0, 1) := by decide +kernel
theorem dX8_byteAt_2 : decode cX8_byteAt 2 = .ok (.getfield 66, 3) := by decide +kernel
theorem dX8_byteAt_5 : decode cX8_byteAt 5 = .ok (.if_icmp .ge 12, 3) := by decide +kernel
theorem dX8_byteAt_8 : decode cX8_byteAt 8 = .ok (.aload_n 0, 1) := by decide +kernel
theorem dX8_byteAt_9 : decode cX8_byteAt 9 = .ok (.getfield 13, 3) := by decide +kernel
theorem dX8_byteAt_12 : decode cX8_byteAt 12 = .ok (.iload_n 1, 1) := by decide +kernel
theorem dX8_byteAt_13 : decode cX8_byteAt 13 = .ok (.iaload, 1) := by decide +kernel
theorem dX8_byteAt_14 : decode cX8_byteAt 14 = .ok (.goto 4, 3) := by decide +kernel
theorem dX8_byteAt_17 : decode cX8_byteAt 17 = .ok (.iconst (-1), 1) := by decide +kernel
theorem dX8_byteAt_18 : decode cX8_byteAt 18 = .ok (.ireturn, 1) := by decide +kernel
theorem dX8_sortOf_0 : decode cX8_sortOf 0 = .ok (.iload_n 0, 1) := by decide +kernel
theorem dX8_sortOf_1 : decode cX8_sortOf 1 = .ok (.ifCond .ge 7, 3) := by decide +kernel
theorem dX8_sortOf_4 : decode cX8_sortOf 4 = .ok (.iconst 0, 1) := by decide +kernel
theorem dX8_sortOf_5 : decode cX8_sortOf 5 = .ok (.goto 50, 3) := by decide +kernel
theorem dX8_sortOf_8 : decode cX8_sortOf 8 = .ok (.iload_n 0, 1) := by decide +kernel
theorem dX8_sortOf_9 : decode cX8_sortOf 9 = .ok (.i2l, 1) := by decide +kernel
theorem dX8_sortOf_10 : decode cX8_sortOf 10 = .ok (.ldc2_w 72, 3) := by decide +kernel
theorem dX8_sortOf_13 : decode cX8_sortOf 13 = .ok (.ldc2_w 74, 3) := by decide +kernel
theorem dX8_sortOf_16 : decode cX8_sortOf 16 = .ok (.invokestatic 37, 3) := by decide +kernel
theorem dX8_sortOf_19 : decode cX8_sortOf 19 = .ok (.ifCond .eq 7, 3) := by decide +kernel
theorem dX8_sortOf_22 : decode cX8_sortOf 22 = .ok (.iconst 1, 1) := by decide +kernel
theorem dX8_sortOf_23 : decode cX8_sortOf 23 = .ok (.goto 32, 3) := by decide +kernel
theorem dX8_sortOf_26 : decode cX8_sortOf 26 = .ok (.iload_n 0, 1) := by decide +kernel
theorem dX8_sortOf_27 : decode cX8_sortOf 27 = .ok (.i2l, 1) := by decide +kernel
theorem dX8_sortOf_28 : decode cX8_sortOf 28 = .ok (.ldc2_w 76, 3) := by decide +kernel
theorem dX8_sortOf_31 : decode cX8_sortOf 31 = .ok (.ldc2_w 78, 3) := by decide +kernel
theorem dX8_sortOf_34 : decode cX8_sortOf 34 = .ok (.invokestatic 37, 3) := by decide +kernel
theorem dX8_sortOf_37 : decode cX8_sortOf 37 = .ok (.ifCond .eq 7, 3) := by decide +kernel
theorem dX8_sortOf_40 : decode cX8_sortOf 40 = .ok (.iconst 2, 1) := by decide +kernel
theorem dX8_sortOf_41 : decode cX8_sortOf 41 = .ok (.goto 14, 3) := by decide +kernel
theorem dX8_sortOf_44 : decode cX8_sortOf 44 = .ok (.iload_n 0, 1) := by decide +kernel
theorem dX8_sortOf_45 : decode cX8_sortOf 45 = .ok (.bipush 59, 2) := by decide +kernel
theorem dX8_sortOf_47 : decode cX8_sortOf 47 = .ok (.if_icmp .ne 7, 3) := by decide +kernel
theorem dX8_sortOf_50 : decode cX8_sortOf 50 = .ok (.iconst 3, 1) := by decide +kernel
theorem dX8_sortOf_51 : decode cX8_sortOf 51 = .ok (.goto 4, 3) := by decide +kernel
theorem dX8_sortOf_54 : decode cX8_sortOf 54 = .ok (.iconst 4, 1) := by decide +kernel
theorem dX8_sortOf_55 : decode cX8_sortOf 55 = .ok (.ireturn, 1) := by decide +kernel
theorem dX8_token_0 : decode cX8_token 0 = .ok (.aload_n 0, 1) := by decide +kernel
theorem dX8_token_1 : decode cX8_token 1 = .ok (.aload_n 0, 1) := by decide +kernel
theorem dX8_token_2 : decode cX8_token 2 = .ok (.getfield 80, 3) := by decide +kernel
theorem dX8_token_5 : decode cX8_token 5 = .ok (.putfield 83, 3) := by decide +kernel
theorem dX8_token_8 : decode cX8_token 8 = .ok (.aload_n 0, 1) := by decide +kernel
theorem dX8_token_9 : decode cX8_token 9 = .ok (.aload_n 0, 1) := by decide +kernel
theorem dX8_token_10 : decode cX8_token 10 = .ok (.getfield 83, 3) := by decide +kernel
theorem dX8_token_13 : decode cX8_token 13 = .ok (.invokevirtual 86, 3) := by decide +kernel
theorem dX8_token_16 : decode cX8_token 16 = .ok (.bipush 32, 2) := by decide +kernel
theorem dX8_token_18 : decode cX8_token 18 = .ok (.if_icmp .eq 16, 3) := by decide +kernel
theorem dX8_token_21 : decode cX8_token 21 = .ok (.aload_n 0, 1) := by decide +kernel
theorem dX8_token_22 : decode cX8_token 22 = .ok (.aload_n 0, 1) := by decide +kernel
theorem dX8_token_23 : decode cX8_token 23 = .ok (.getfield 83, 3) := by decide +kernel
theorem dX8_token_26 : decode cX8_token 26 = .ok (.invokevirtual 86, 3) := by decide +kernel
theorem dX8_token_29 : decode cX8_token 29 = .ok (.bipush 10, 2) := by decide +kernel
theorem dX8_token_31 : decode cX8_token 31 = .ok (.if_icmp .ne 16, 3) := by decide +kernel
theorem dX8_token_34 : decode cX8_token 34 = .ok (.aload_n 0, 1) := by decide +kernel
theorem dX8_token_35 : decode cX8_token 35 = .ok (.dup, 1) := by decide +kernel
theorem dX8_token_36 : decode cX8_token 36 = .ok (.getfield 83, 3) := by decide +kernel
theorem dX8_token_39 : decode cX8_token 39 = .ok (.iconst 1, 1) := by decide +kernel
theorem dX8_token_40 : decode cX8_token 40 = .ok (.iadd, 1) := by decide +kernel
theorem dX8_token_41 : decode cX8_token 41 = .ok (.putfield 83, 3) := by decide +kernel
theorem dX8_token_44 : decode cX8_token 44 = .ok (.goto (-36), 3) := by decide +kernel
theorem dX8_token_47 : decode cX8_token 47 = .ok (.aload_n 0, 1) := by decide +kernel
theorem dX8_token_48 : decode cX8_token 48 = .ok (.aload_n 0, 1) := by decide +kernel
theorem dX8_token_49 : decode cX8_token 49 = .ok (.aload_n 0, 1) := by decide +kernel
theorem dX8_token_50 : decode cX8_token 50 = .ok (.getfield 83, 3) := by decide +kernel
theorem dX8_token_53 : decode cX8_token 53 = .ok (.invokevirtual 86, 3) := by decide +kernel
theorem dX8_token_56 : decode cX8_token 56 = .ok (.invokestatic 89, 3) := by decide +kernel
theorem dX8_token_59 : decode cX8_token 59 = .ok (.putfield 92, 3) := by decide +kernel
theorem dX8_token_62 : decode cX8_token 62 = .ok (.aload_n 0, 1) := by decide +kernel
theorem dX8_token_63 : decode cX8_token 63 = .ok (.aload_n 0, 1) := by decide +kernel
theorem dX8_token_64 : decode cX8_token 64 = .ok (.getfield 92, 3) := by decide +kernel
theorem dX8_token_67 : decode cX8_token 67 = .ok (.ifCond .ne 10, 3) := by decide +kernel
theorem dX8_token_70 : decode cX8_token 70 = .ok (.aload_n 0, 1) := by decide +kernel
theorem dX8_token_71 : decode cX8_token 71 = .ok (.getfield 83, 3) := by decide +kernel
theorem dX8_token_74 : decode cX8_token 74 = .ok (.goto 9, 3) := by decide +kernel
theorem dX8_token_77 : decode cX8_token 77 = .ok (.aload_n 0, 1) := by decide +kernel
theorem dX8_token_78 : decode cX8_token 78 = .ok (.getfield 83, 3) := by decide +kernel
theorem dX8_token_81 : decode cX8_token 81 = .ok (.iconst 1, 1) := by decide +kernel
theorem dX8_token_82 : decode cX8_token 82 = .ok (.iadd, 1) := by decide +kernel
theorem dX8_token_83 : decode cX8_token 83 = .ok (.putfield 80, 3) := by decide +kernel
theorem dX8_token_86 : decode cX8_token 86 = .ok (.aload_n 0, 1) := by decide +kernel
theorem dX8_token_87 : decode cX8_token 87 = .ok (.getfield 92, 3) := by decide +kernel
theorem dX8_token_90 : decode cX8_token 90 = .ok (.iconst 1, 1) := by decide +kernel
theorem dX8_token_91 : decode cX8_token 91 = .ok (.if_icmp .eq 11, 3) := by decide +kernel
theorem dX8_token_94 : decode cX8_token 94 = .ok (.aload_n 0, 1) := by decide +kernel
theorem dX8_token_95 : decode cX8_token 95 = .ok (.getfield 92, 3) := by decide +kernel
theorem dX8_token_98 : decode cX8_token 98 = .ok (.iconst 2, 1) := by decide +kernel
theorem dX8_token_99 : decode cX8_token 99 = .ok (.if_icmp .ne 34, 3) := by decide +kernel
theorem dX8_token_102 : decode cX8_token 102 = .ok (.aload_n 0, 1) := by decide +kernel
theorem dX8_token_103 : decode cX8_token 103 = .ok (.aload_n 0, 1) := by decide +kernel
theorem dX8_token_104 : decode cX8_token 104 = .ok (.getfield 80, 3) := by decide +kernel
theorem dX8_token_107 : decode cX8_token 107 = .ok (.invokevirtual 86, 3) := by decide +kernel
theorem dX8_token_110 : decode cX8_token 110 = .ok (.invokestatic 89, 3) := by decide +kernel
theorem dX8_token_113 : decode cX8_token 113 = .ok (.aload_n 0, 1) := by decide +kernel
theorem dX8_token_114 : decode cX8_token 114 = .ok (.getfield 92, 3) := by decide +kernel
theorem dX8_token_117 : decode cX8_token 117 = .ok (.if_icmp .ne 16, 3) := by decide +kernel
theorem dX8_token_120 : decode cX8_token 120 = .ok (.aload_n 0, 1) := by decide +kernel
theorem dX8_token_121 : decode cX8_token 121 = .ok (.dup, 1) := by decide +kernel
theorem dX8_token_122 : decode cX8_token 122 = .ok (.getfield 80, 3) := by decide +kernel
theorem dX8_token_125 : decode cX8_token 125 = .ok (.iconst 1, 1) := by decide +kernel
theorem dX8_token_126 : decode cX8_token 126 = .ok (.iadd, 1) := by decide +kernel
theorem dX8_token_127 : decode cX8_token 127 = .ok (.putfield 80, 3) := by decide +kernel
theorem dX8_token_130 : decode cX8_token 130 = .ok (.goto (-44), 3) := by decide +kernel
theorem dX8_token_133 : decode cX8_token 133 = .ok (.return_, 1) := by decide +kernel
theorem dX8_wrong_0 : decode cX8_wrong 0 = .ok (.aload_n 0, 1) := by decide +kernel
theorem dX8_wrong_1 : decode cX8_wrong 1 = .ok (.iload_n 1, 1) := by decide +kernel
theorem dX8_wrong_2 : decode cX8_wrong 2 = .ok (.putfield 95, 3) := by decide +kernel
theorem dX8_wrong_5 : decode cX8_wrong 5 = .ok (.iconst 0, 1) := by decide +kernel
theorem dX8_wrong_6 : decode cX8_wrong 6 = .ok (.ireturn, 1) := by decide +kernel
theorem dX8_isWord_0 : decode cX8_isWord 0 = .ok (.aload_n 0, 1) := by decide +kernel
theorem dX8_isWord_1 : decode cX8_isWord 1 = .ok (.getfield 92, 3) := by decide +kernel
theorem dX8_isWord_4 : decode cX8_isWord 4 = .ok (.iconst 1, 1) := by decide +kernel
theorem dX8_isWord_5 : decode cX8_isWord 5 = .ok (.if_icmp .ne 76, 3) := by decide +kernel
theorem dX8_isWord_8 : decode cX8_isWord 8 = .ok (.aload_n 0, 1) := by decide +kernel
theorem dX8_isWord_9 : decode cX8_isWord 9 = .ok (.getfield 80, 3) := by decide +kernel
theorem dX8_isWord_12 : decode cX8_isWord 12 = .ok (.aload_n 0, 1) := by decide +kernel
theorem dX8_isWord_13 : decode cX8_isWord 13 = .ok (.getfield 83, 3) := by decide +kernel
theorem dX8_isWord_16 : decode cX8_isWord 16 = .ok (.isub, 1) := by decide +kernel
theorem dX8_isWord_17 : decode cX8_isWord 17 = .ok (.iload_n 1, 1) := by decide +kernel
theorem dX8_isWord_18 : decode cX8_isWord 18 = .ok (.if_icmp .ne 63, 3) := by decide +kernel
theorem dX8_isWord_21 : decode cX8_isWord 21 = .ok (.aload_n 0, 1) := by decide +kernel
theorem dX8_isWord_22 : decode cX8_isWord 22 = .ok (.aload_n 0, 1) := by decide +kernel
theorem dX8_isWord_23 : decode cX8_isWord 23 = .ok (.getfield 83, 3) := by decide +kernel
theorem dX8_isWord_26 : decode cX8_isWord 26 = .ok (.invokevirtual 86, 3) := by decide +kernel
theorem dX8_isWord_29 : decode cX8_isWord 29 = .ok (.iload_n 2, 1) := by decide +kernel
theorem dX8_isWord_30 : decode cX8_isWord 30 = .ok (.if_icmp .ne 51, 3) := by decide +kernel
theorem dX8_isWord_33 : decode cX8_isWord 33 = .ok (.aload_n 0, 1) := by decide +kernel
theorem dX8_isWord_34 : decode cX8_isWord 34 = .ok (.aload_n 0, 1) := by decide +kernel
theorem dX8_isWord_35 : decode cX8_isWord 35 = .ok (.getfield 83, 3) := by decide +kernel
theorem dX8_isWord_38 : decode cX8_isWord 38 = .ok (.iconst 1, 1) := by decide +kernel
theorem dX8_isWord_39 : decode cX8_isWord 39 = .ok (.iadd, 1) := by decide +kernel
theorem dX8_isWord_40 : decode cX8_isWord 40 = .ok (.invokevirtual 86, 3) := by decide +kernel
theorem dX8_isWord_43 : decode cX8_isWord 43 = .ok (.iload_n 3, 1) := by decide +kernel
theorem dX8_isWord_44 : decode cX8_isWord 44 = .ok (.if_icmp .ne 37, 3) := by decide +kernel
theorem dX8_isWord_47 : decode cX8_isWord 47 = .ok (.aload_n 0, 1) := by decide +kernel
theorem dX8_isWord_48 : decode cX8_isWord 48 = .ok (.aload_n 0, 1) := by decide +kernel
theorem dX8_isWord_49 : decode cX8_isWord 49 = .ok (.getfield 83, 3) := by decide +kernel
theorem dX8_isWord_52 : decode cX8_isWord 52 = .ok (.iconst 2, 1) := by decide +kernel
theorem dX8_isWord_53 : decode cX8_isWord 53 = .ok (.iadd, 1) := by decide +kernel
theorem dX8_isWord_54 : decode cX8_isWord 54 = .ok (.invokevirtual 86, 3) := by decide +kernel
theorem dX8_isWord_57 : decode cX8_isWord 57 = .ok (.iload 4, 2) := by decide +kernel
theorem dX8_isWord_59 : decode cX8_isWord 59 = .ok (.if_icmp .ne 22, 3) := by decide +kernel
theorem dX8_isWord_62 : decode cX8_isWord 62 = .ok (.aload_n 0, 1) := by decide +kernel
theorem dX8_isWord_63 : decode cX8_isWord 63 = .ok (.aload_n 0, 1) := by decide +kernel
theorem dX8_isWord_64 : decode cX8_isWord 64 = .ok (.getfield 80, 3) := by decide +kernel
theorem dX8_isWord_67 : decode cX8_isWord 67 = .ok (.iconst 1, 1) := by decide +kernel
theorem dX8_isWord_68 : decode cX8_isWord 68 = .ok (.isub, 1) := by decide +kernel
theorem dX8_isWord_69 : decode cX8_isWord 69 = .ok (.invokevirtual 86, 3) := by decide +kernel
theorem dX8_isWord_72 : decode cX8_isWord 72 = .ok (.iload 5, 2) := by decide +kernel
theorem dX8_isWord_74 : decode cX8_isWord 74 = .ok (.if_icmp .ne 7, 3) := by decide +kernel
theorem dX8_isWord_77 : decode cX8_isWord 77 = .ok (.iconst 1, 1) := by decide +kernel
theorem dX8_isWord_78 : decode cX8_isWord 78 = .ok (.goto 4, 3) := by decide +kernel
theorem dX8_isWord_81 : decode cX8_isWord 81 = .ok (.iconst 0, 1) := by decide +kernel
theorem dX8_isWord_82 : decode cX8_isWord 82 = .ok (.ireturn, 1) := by decide +kernel
theorem dX8_isFourth_0 : decode cX8_isFourth 0 = .ok (.aload_n 0, 1) := by decide +kernel
theorem dX8_isFourth_1 : decode cX8_isFourth 1 = .ok (.aload_n 0, 1) := by decide +kernel
theorem dX8_isFourth_2 : decode cX8_isFourth 2 = .ok (.getfield 83, 3) := by decide +kernel
theorem dX8_isFourth_5 : decode cX8_isFourth 5 = .ok (.iconst 3, 1) := by decide +kernel
theorem dX8_isFourth_6 : decode cX8_isFourth 6 = .ok (.iadd, 1) := by decide +kernel
theorem dX8_isFourth_7 : decode cX8_isFourth 7 = .ok (.invokevirtual 86, 3) := by decide +kernel
theorem dX8_isFourth_10 : decode cX8_isFourth 10 = .ok (.iload_n 1, 1) := by decide +kernel
theorem dX8_isFourth_11 : decode cX8_isFourth 11 = .ok (.if_icmp .ne 7, 3) := by decide +kernel
theorem dX8_isFourth_14 : decode cX8_isFourth 14 = .ok (.iconst 1, 1) := by decide +kernel
theorem dX8_isFourth_15 : decode cX8_isFourth 15 = .ok (.goto 4, 3) := by decide +kernel
theorem dX8_isFourth_18 : decode cX8_isFourth 18 = .ok (.iconst 0, 1) := by decide +kernel
theorem dX8_isFourth_19 : decode cX8_isFourth 19 = .ok (.ireturn, 1) := by decide +kernel
theorem dX8_isGuestWord_0 : decode cX8_isGuestWord 0 = .ok (.aload_n 0, 1) := by decide +kernel
theorem dX8_isGuestWord_1 : decode cX8_isGuestWord 1 = .ok (.iconst 5, 1) := by decide +kernel
theorem dX8_isGuestWord_2 : decode cX8_isGuestWord 2 = .ok (.bipush 103, 2) := by decide +kernel
theorem dX8_isGuestWord_4 : decode cX8_isGuestWord 4 = .ok (.bipush 117, 2) := by decide +kernel
theorem dX8_isGuestWord_6 : decode cX8_isGuestWord 6 = .ok (.bipush 101, 2) := by decide +kernel
theorem dX8_isGuestWord_8 : decode cX8_isGuestWord 8 = .ok (.bipush 116, 2) := by decide +kernel
theorem dX8_isGuestWord_10 : decode cX8_isGuestWord 10 = .ok (.invokevirtual 98, 3) := by decide +kernel
theorem dX8_isGuestWord_13 : decode cX8_isGuestWord 13 = .ok (.ifCond .eq 16, 3) := by decide +kernel
theorem dX8_isGuestWord_16 : decode cX8_isGuestWord 16 = .ok (.aload_n 0, 1) := by decide +kernel
theorem dX8_isGuestWord_17 : decode cX8_isGuestWord 17 = .ok (.bipush 115, 2) := by decide +kernel
theorem dX8_isGuestWord_19 : decode cX8_isGuestWord 19 = .ok (.invokevirtual 102, 3) := by decide +kernel
theorem dX8_isGuestWord_22 : decode cX8_isGuestWord 22 = .ok (.ifCond .eq 7, 3) := by decide +kernel
theorem dX8_isGuestWord_25 : decode cX8_isGuestWord 25 = .ok (.iconst 1, 1) := by decide +kernel
theorem dX8_isGuestWord_26 : decode cX8_isGuestWord 26 = .ok (.goto 4, 3) := by decide +kernel
theorem dX8_isGuestWord_29 : decode cX8_isGuestWord 29 = .ok (.iconst 0, 1) := by decide +kernel
theorem dX8_isGuestWord_30 : decode cX8_isGuestWord 30 = .ok (.ireturn, 1) := by decide +kernel
theorem dX8_isDishWord_0 : decode cX8_isDishWord 0 = .ok (.aload_n 0, 1) := by decide +kernel
theorem dX8_isDishWord_1 : decode cX8_isDishWord 1 = .ok (.iconst 4, 1) := by decide +kernel
theorem dX8_isDishWord_2 : decode cX8_isDishWord 2 = .ok (.bipush 100, 2) := by decide +kernel
theorem dX8_isDishWord_4 : decode cX8_isDishWord 4 = .ok (.bipush 105, 2) := by decide +kernel
theorem dX8_isDishWord_6 : decode cX8_isDishWord 6 = .ok (.bipush 115, 2) := by decide +kernel
theorem dX8_isDishWord_8 : decode cX8_isDishWord 8 = .ok (.bipush 104, 2) := by decide +kernel
theorem dX8_isDishWord_10 : decode cX8_isDishWord 10 = .ok (.invokevirtual 98, 3) := by decide +kernel
theorem dX8_isDishWord_13 : decode cX8_isDishWord 13 = .ok (.ireturn, 1) := by decide +kernel
theorem dX8_sortNow_0 : decode cX8_sortNow 0 = .ok (.aload_n 0, 1) := by decide +kernel
theorem dX8_sortNow_1 : decode cX8_sortNow 1 = .ok (.iconst 5, 1) := by decide +kernel
theorem dX8_sortNow_2 : decode cX8_sortNow 2 = .ok (.bipush 101, 2) := by decide +kernel
theorem dX8_sortNow_4 : decode cX8_sortNow 4 = .ok (.bipush 97, 2) := by decide +kernel
theorem dX8_sortNow_6 : decode cX8_sortNow 6 = .ok (.bipush 116, 2) := by decide +kernel
theorem dX8_sortNow_8 : decode cX8_sortNow 8 = .ok (.bipush 114, 2) := by decide +kernel
theorem dX8_sortNow_10 : decode cX8_sortNow 10 = .ok (.invokevirtual 98, 3) := by decide +kernel
theorem dX8_sortNow_13 : decode cX8_sortNow 13 = .ok (.ifCond .eq 14, 3) := by decide +kernel
theorem dX8_sortNow_16 : decode cX8_sortNow 16 = .ok (.aload_n 0, 1) := by decide +kernel
theorem dX8_sortNow_17 : decode cX8_sortNow 17 = .ok (.bipush 101, 2) := by decide +kernel
theorem dX8_sortNow_19 : decode cX8_sortNow 19 = .ok (.invokevirtual 102, 3) := by decide +kernel
theorem dX8_sortNow_22 : decode cX8_sortNow 22 = .ok (.ifCond .eq 5, 3) := by decide +kernel
theorem dX8_sortNow_25 : decode cX8_sortNow 25 = .ok (.iconst 1, 1) := by decide +kernel
theorem dX8_sortNow_26 : decode cX8_sortNow 26 = .ok (.ireturn, 1) := by decide +kernel
theorem dX8_sortNow_27 : decode cX8_sortNow 27 = .ok (.aload_n 0, 1) := by decide +kernel
theorem dX8_sortNow_28 : decode cX8_sortNow 28 = .ok (.iconst 4, 1) := by decide +kernel
theorem dX8_sortNow_29 : decode cX8_sortNow 29 = .ok (.bipush 102, 2) := by decide +kernel
theorem dX8_sortNow_31 : decode cX8_sortNow 31 = .ok (.bipush 97, 2) := by decide +kernel
theorem dX8_sortNow_33 : decode cX8_sortNow 33 = .ok (.bipush 115, 2) := by decide +kernel
theorem dX8_sortNow_35 : decode cX8_sortNow 35 = .ok (.bipush 116, 2) := by decide +kernel
theorem dX8_sortNow_37 : decode cX8_sortNow 37 = .ok (.invokevirtual 98, 3) := by decide +kernel
theorem dX8_sortNow_40 : decode cX8_sortNow 40 = .ok (.ifCond .eq 5, 3) := by decide +kernel
theorem dX8_sortNow_43 : decode cX8_sortNow 43 = .ok (.iconst 2, 1) := by decide +kernel
theorem dX8_sortNow_44 : decode cX8_sortNow 44 = .ok (.ireturn, 1) := by decide +kernel
theorem dX8_sortNow_45 : decode cX8_sortNow 45 = .ok (.aload_n 0, 1) := by decide +kernel
theorem dX8_sortNow_46 : decode cX8_sortNow 46 = .ok (.bipush 6, 2) := by decide +kernel
theorem dX8_sortNow_48 : decode cX8_sortNow 48 = .ok (.bipush 103, 2) := by decide +kernel
theorem dX8_sortNow_50 : decode cX8_sortNow 50 = .ok (.bipush 114, 2) := by decide +kernel
theorem dX8_sortNow_52 : decode cX8_sortNow 52 = .ok (.bipush 101, 2) := by decide +kernel
theorem dX8_sortNow_54 : decode cX8_sortNow 54 = .ok (.bipush 121, 2) := by decide +kernel
theorem dX8_sortNow_56 : decode cX8_sortNow 56 = .ok (.invokevirtual 98, 3) := by decide +kernel
theorem dX8_sortNow_59 : decode cX8_sortNow 59 = .ok (.ifCond .eq 29, 3) := by decide +kernel
theorem dX8_sortNow_62 : decode cX8_sortNow 62 = .ok (.aload_n 0, 1) := by decide +kernel
theorem dX8_sortNow_63 : decode cX8_sortNow 63 = .ok (.bipush 101, 2) := by decide +kernel
theorem dX8_sortNow_65 : decode cX8_sortNow 65 = .ok (.invokevirtual 102, 3) := by decide +kernel
theorem dX8_sortNow_68 : decode cX8_sortNow 68 = .ok (.ifCond .eq 20, 3) := by decide +kernel
theorem dX8_sortNow_71 : decode cX8_sortNow 71 = .ok (.aload_n 0, 1) := by decide +kernel
theorem dX8_sortNow_72 : decode cX8_sortNow 72 = .ok (.aload_n 0, 1) := by decide +kernel
theorem dX8_sortNow_73 : decode cX8_sortNow 73 = .ok (.getfield 83, 3) := by decide +kernel
theorem dX8_sortNow_76 : decode cX8_sortNow 76 = .ok (.iconst 4, 1) := by decide +kernel
theorem dX8_sortNow_77 : decode cX8_sortNow 77 = .ok (.iadd, 1) := by decide +kernel
theorem dX8_sortNow_78 : decode cX8_sortNow 78 = .ok (.invokevirtual 86, 3) := by decide +kernel
theorem dX8_sortNow_81 : decode cX8_sortNow 81 = .ok (.bipush 100, 2) := by decide +kernel
theorem dX8_sortNow_83 : decode cX8_sortNow 83 = .ok (.if_icmp .ne 5, 3) := by decide +kernel
theorem dX8_sortNow_86 : decode cX8_sortNow 86 = .ok (.iconst 3, 1) := by decide +kernel
theorem dX8_sortNow_87 : decode cX8_sortNow 87 = .ok (.ireturn, 1) := by decide +kernel
theorem dX8_sortNow_88 : decode cX8_sortNow 88 = .ok (.aload_n 0, 1) := by decide +kernel
theorem dX8_sortNow_89 : decode cX8_sortNow 89 = .ok (.iconst 4, 1) := by decide +kernel
theorem dX8_sortNow_90 : decode cX8_sortNow 90 = .ok (.bipush 100, 2) := by decide +kernel
theorem dX8_sortNow_92 : decode cX8_sortNow 92 = .ok (.bipush 101, 2) := by decide +kernel
theorem dX8_sortNow_94 : decode cX8_sortNow 94 = .ok (.bipush 97, 2) := by decide +kernel
theorem dX8_sortNow_96 : decode cX8_sortNow 96 = .ok (.bipush 102, 2) := by decide +kernel
theorem dX8_sortNow_98 : decode cX8_sortNow 98 = .ok (.invokevirtual 98, 3) := by decide +kernel
theorem dX8_sortNow_101 : decode cX8_sortNow 101 = .ok (.ifCond .eq 5, 3) := by decide +kernel
theorem dX8_sortNow_104 : decode cX8_sortNow 104 = .ok (.iconst 4, 1) := by decide +kernel
theorem dX8_sortNow_105 : decode cX8_sortNow 105 = .ok (.ireturn, 1) := by decide +kernel
theorem dX8_sortNow_106 : decode cX8_sortNow 106 = .ok (.aload_n 0, 1) := by decide +kernel
theorem dX8_sortNow_107 : decode cX8_sortNow 107 = .ok (.iconst 5, 1) := by decide +kernel
theorem dX8_sortNow_108 : decode cX8_sortNow 108 = .ok (.bipush 100, 2) := by decide +kernel
theorem dX8_sortNow_110 : decode cX8_sortNow 110 = .ok (.bipush 114, 2) := by decide +kernel
theorem dX8_sortNow_112 : decode cX8_sortNow 112 = .ok (.bipush 117, 2) := by decide +kernel
theorem dX8_sortNow_114 : decode cX8_sortNow 114 = .ok (.bipush 107, 2) := by decide +kernel
theorem dX8_sortNow_116 : decode cX8_sortNow 116 = .ok (.invokevirtual 98, 3) := by decide +kernel
theorem dX8_sortNow_119 : decode cX8_sortNow 119 = .ok (.ifCond .eq 16, 3) := by decide +kernel
theorem dX8_sortNow_122 : decode cX8_sortNow 122 = .ok (.aload_n 0, 1) := by decide +kernel
theorem dX8_sortNow_123 : decode cX8_sortNow 123 = .ok (.bipush 110, 2) := by decide +kernel
theorem dX8_sortNow_125 : decode cX8_sortNow 125 = .ok (.invokevirtual 102, 3) := by decide +kernel
theorem dX8_sortNow_128 : decode cX8_sortNow 128 = .ok (.ifCond .eq 7, 3) := by decide +kernel
theorem dX8_sortNow_131 : decode cX8_sortNow 131 = .ok (.iconst 5, 1) := by decide +kernel
theorem dX8_sortNow_132 : decode cX8_sortNow 132 = .ok (.goto 4, 3) := by decide +kernel
theorem dX8_sortNow_135 : decode cX8_sortNow 135 = .ok (.iconst 0, 1) := by decide +kernel
theorem dX8_sortNow_136 : decode cX8_sortNow 136 = .ok (.ireturn, 1) := by decide +kernel
theorem dX8_takesNumber_0 : decode cX8_takesNumber 0 = .ok (.aload_n 0, 1) := by decide +kernel
theorem dX8_takesNumber_1 : decode cX8_takesNumber 1 = .ok (.invokevirtual 105, 3) := by decide +kernel
theorem dX8_takesNumber_4 : decode cX8_takesNumber 4 = .ok (.aload_n 0, 1) := by decide +kernel
theorem dX8_takesNumber_5 : decode cX8_takesNumber 5 = .ok (.getfield 92, 3) := by decide +kernel
theorem dX8_takesNumber_8 : decode cX8_takesNumber 8 = .ok (.iconst 2, 1) := by decide +kernel
theorem dX8_takesNumber_9 : decode cX8_takesNumber 9 = .ok (.if_icmp .ne 16, 3) := by decide +kernel
theorem dX8_takesNumber_12 : decode cX8_takesNumber 12 = .ok (.aload_n 0, 1) := by decide +kernel
theorem dX8_takesNumber_13 : decode cX8_takesNumber 13 = .ok (.getfield 80, 3) := by decide +kernel
theorem dX8_takesNumber_16 : decode cX8_takesNumber 16 = .ok (.aload_n 0, 1) := by decide +kernel
theorem dX8_takesNumber_17 : decode cX8_takesNumber 17 = .ok (.getfield 83, 3) := by decide +kernel
theorem dX8_takesNumber_20 : decode cX8_takesNumber 20 = .ok (.isub, 1) := by decide +kernel
theorem dX8_takesNumber_21 : decode cX8_takesNumber 21 = .ok (.iconst 3, 1) := by decide +kernel
theorem dX8_takesNumber_22 : decode cX8_takesNumber 22 = .ok (.if_icmp .le 9, 3) := by decide +kernel
theorem dX8_takesNumber_25 : decode cX8_takesNumber 25 = .ok (.aload_n 0, 1) := by decide +kernel
theorem dX8_takesNumber_26 : decode cX8_takesNumber 26 = .ok (.iconst 1, 1) := by decide +kernel
theorem dX8_takesNumber_27 : decode cX8_takesNumber 27 = .ok (.invokevirtual 108, 3) := by decide +kernel
theorem dX8_takesNumber_30 : decode cX8_takesNumber 30 = .ok (.ireturn, 1) := by decide +kernel
theorem dX8_takesNumber_31 : decode cX8_takesNumber 31 = .ok (.iconst 0, 1) := by decide +kernel
theorem dX8_takesNumber_32 : decode cX8_takesNumber 32 = .ok (.istore_n 3, 1) := by decide +kernel
theorem dX8_takesNumber_33 : decode cX8_takesNumber 33 = .ok (.aload_n 0, 1) := by decide +kernel
theorem dX8_takesNumber_34 : decode cX8_takesNumber 34 = .ok (.getfield 83, 3) := by decide +kernel
theorem dX8_takesNumber_37 : decode cX8_takesNumber 37 = .ok (.istore 4, 2) := by decide +kernel
theorem dX8_takesNumber_39 : decode cX8_takesNumber 39 = .ok (.iload 4, 2) := by decide +kernel
theorem dX8_takesNumber_41 : decode cX8_takesNumber 41 = .ok (.aload_n 0, 1) := by decide +kernel
theorem dX8_takesNumber_42 : decode cX8_takesNumber 42 = .ok (.getfield 80, 3) := by decide +kernel
theorem dX8_takesNumber_45 : decode cX8_takesNumber 45 = .ok (.if_icmp .ge 24, 3) := by decide +kernel
theorem dX8_takesNumber_48 : decode cX8_takesNumber 48 = .ok (.bipush 10, 2) := by decide +kernel
theorem dX8_takesNumber_50 : decode cX8_takesNumber 50 = .ok (.iload_n 3, 1) := by decide +kernel
theorem dX8_takesNumber_51 : decode cX8_takesNumber 51 = .ok (.imul, 1) := by decide +kernel
theorem dX8_takesNumber_52 : decode cX8_takesNumber 52 = .ok (.aload_n 0, 1) := by decide +kernel
theorem dX8_takesNumber_53 : decode cX8_takesNumber 53 = .ok (.iload 4, 2) := by decide +kernel
theorem dX8_takesNumber_55 : decode cX8_takesNumber 55 = .ok (.invokevirtual 86, 3) := by decide +kernel
theorem dX8_takesNumber_58 : decode cX8_takesNumber 58 = .ok (.iadd, 1) := by decide +kernel
theorem dX8_takesNumber_59 : decode cX8_takesNumber 59 = .ok (.bipush 48, 2) := by decide +kernel
theorem dX8_takesNumber_61 : decode cX8_takesNumber 61 = .ok (.isub, 1) := by decide +kernel
theorem dX8_takesNumber_62 : decode cX8_takesNumber 62 = .ok (.istore_n 3, 1) := by decide +kernel
theorem dX8_takesNumber_63 : decode cX8_takesNumber 63 = .ok (.iinc 4 1, 3) := by decide +kernel
theorem dX8_takesNumber_66 : decode cX8_takesNumber 66 = .ok (.goto (-27), 3) := by decide +kernel
theorem dX8_takesNumber_69 : decode cX8_takesNumber 69 = .ok (.aload_n 0, 1) := by decide +kernel
theorem dX8_takesNumber_70 : decode cX8_takesNumber 70 = .ok (.getfield 7, 3) := by decide +kernel
theorem dX8_takesNumber_73 : decode cX8_takesNumber 73 = .ok (.iload_n 1, 1) := by decide +kernel
theorem dX8_takesNumber_74 : decode cX8_takesNumber 74 = .ok (.iload_n 3, 1) := by decide +kernel
theorem dX8_takesNumber_75 : decode cX8_takesNumber 75 = .ok (.iastore, 1) := by decide +kernel
theorem dX8_takesNumber_76 : decode cX8_takesNumber 76 = .ok (.iload_n 3, 1) := by decide +kernel
theorem dX8_takesNumber_77 : decode cX8_takesNumber 77 = .ok (.iload_n 2, 1) := by decide +kernel
theorem dX8_takesNumber_78 : decode cX8_takesNumber 78 = .ok (.if_icmp .le 11, 3) := by decide +kernel
theorem dX8_takesNumber_81 : decode cX8_takesNumber 81 = .ok (.aload_n 0, 1) := by decide +kernel
theorem dX8_takesNumber_82 : decode cX8_takesNumber 82 = .ok (.iconst 2, 1) := by decide +kernel
theorem dX8_takesNumber_83 : decode cX8_takesNumber 83 = .ok (.invokevirtual 108, 3) := by decide +kernel
theorem dX8_takesNumber_86 : decode cX8_takesNumber 86 = .ok (.ifCond .eq 7, 3) := by decide +kernel
theorem dX8_takesNumber_89 : decode cX8_takesNumber 89 = .ok (.iconst 1, 1) := by decide +kernel
theorem dX8_takesNumber_90 : decode cX8_takesNumber 90 = .ok (.goto 4, 3) := by decide +kernel
theorem dX8_takesNumber_93 : decode cX8_takesNumber 93 = .ok (.iconst 0, 1) := by decide +kernel
theorem dX8_takesNumber_94 : decode cX8_takesNumber 94 = .ok (.ireturn, 1) := by decide +kernel
theorem dX8_stops_0 : decode cX8_stops 0 = .ok (.aload_n 0, 1) := by decide +kernel
theorem dX8_stops_1 : decode cX8_stops 1 = .ok (.invokevirtual 105, 3) := by decide +kernel
theorem dX8_stops_4 : decode cX8_stops 4 = .ok (.aload_n 0, 1) := by decide +kernel
theorem dX8_stops_5 : decode cX8_stops 5 = .ok (.getfield 92, 3) := by decide +kernel
theorem dX8_stops_8 : decode cX8_stops 8 = .ok (.iconst 3, 1) := by decide +kernel
theorem dX8_stops_9 : decode cX8_stops 9 = .ok (.if_icmp .eq 11, 3) := by decide +kernel
theorem dX8_stops_12 : decode cX8_stops 12 = .ok (.aload_n 0, 1) := by decide +kernel
theorem dX8_stops_13 : decode cX8_stops 13 = .ok (.iconst 1, 1) := by decide +kernel
theorem dX8_stops_14 : decode cX8_stops 14 = .ok (.invokevirtual 108, 3) := by decide +kernel
theorem dX8_stops_17 : decode cX8_stops 17 = .ok (.ifCond .eq 7, 3) := by decide +kernel
theorem dX8_stops_20 : decode cX8_stops 20 = .ok (.iconst 1, 1) := by decide +kernel
theorem dX8_stops_21 : decode cX8_stops 21 = .ok (.goto 4, 3) := by decide +kernel
theorem dX8_stops_24 : decode cX8_stops 24 = .ok (.iconst 0, 1) := by decide +kernel
theorem dX8_stops_25 : decode cX8_stops 25 = .ok (.ireturn, 1) := by decide +kernel
theorem dX8_readsGuest_0 : decode cX8_readsGuest 0 = .ok (.aload_n 0, 1) := by decide +kernel
theorem dX8_readsGuest_1 : decode cX8_readsGuest 1 = .ok (.getfield 7, 3) := by decide +kernel
theorem dX8_readsGuest_4 : decode cX8_readsGuest 4 = .ok (.sipush 1092, 3) := by decide +kernel
theorem dX8_readsGuest_7 : decode cX8_readsGuest 7 = .ok (.iaload, 1) := by decide +kernel
theorem dX8_readsGuest_8 : decode cX8_readsGuest 8 = .ok (.istore_n 1, 1) := by decide +kernel
theorem dX8_readsGuest_9 : decode cX8_readsGuest 9 = .ok (.iload_n 1, 1) := by decide +kernel
theorem dX8_readsGuest_10 : decode cX8_readsGuest 10 = .ok (.bipush 6, 2) := by decide +kernel
theorem dX8_readsGuest_12 : decode cX8_readsGuest 12 = .ok (.if_icmp .ne 9, 3) := by decide +kernel
theorem dX8_readsGuest_15 : decode cX8_readsGuest 15 = .ok (.aload_n 0, 1) := by decide +kernel
theorem dX8_readsGuest_16 : decode cX8_readsGuest 16 = .ok (.iconst 3, 1) := by decide +kernel
theorem dX8_readsGuest_17 : decode cX8_readsGuest 17 = .ok (.invokevirtual 108, 3) := by decide +kernel
theorem dX8_readsGuest_20 : decode cX8_readsGuest 20 = .ok (.ireturn, 1) := by decide +kernel
theorem dX8_readsGuest_21 : decode cX8_readsGuest 21 = .ok (.aload_n 0, 1) := by decide +kernel
theorem dX8_readsGuest_22 : decode cX8_readsGuest 22 = .ok (.getfield 7, 3) := by decide +kernel
theorem dX8_readsGuest_25 : decode cX8_readsGuest 25 = .ok (.sipush 1092, 3) := by decide +kernel
theorem dX8_readsGuest_28 : decode cX8_readsGuest 28 = .ok (.dup2, 1) := by decide +kernel
theorem dX8_readsGuest_29 : decode cX8_readsGuest 29 = .ok (.iaload, 1) := by decide +kernel
theorem dX8_readsGuest_30 : decode cX8_readsGuest 30 = .ok (.iconst 1, 1) := by decide +kernel
theorem dX8_readsGuest_31 : decode cX8_readsGuest 31 = .ok (.iadd, 1) := by decide +kernel
theorem dX8_readsGuest_32 : decode cX8_readsGuest 32 = .ok (.iastore, 1) := by decide +kernel
theorem dX8_readsGuest_33 : decode cX8_readsGuest 33 = .ok (.aload_n 0, 1) := by decide +kernel
theorem dX8_readsGuest_34 : decode cX8_readsGuest 34 = .ok (.invokevirtual 105, 3) := by decide +kernel
theorem dX8_readsGuest_37 : decode cX8_readsGuest 37 = .ok (.aload_n 0, 1) := by decide +kernel
theorem dX8_readsGuest_38 : decode cX8_readsGuest 38 = .ok (.getfield 7, 3) := by decide +kernel
theorem dX8_readsGuest_41 : decode cX8_readsGuest 41 = .ok (.sipush 1095, 3) := by decide +kernel
theorem dX8_readsGuest_44 : decode cX8_readsGuest 44 = .ok (.iload_n 1, 1) := by decide +kernel
theorem dX8_readsGuest_45 : decode cX8_readsGuest 45 = .ok (.iadd, 1) := by decide +kernel
theorem dX8_readsGuest_46 : decode cX8_readsGuest 46 = .ok (.aload_n 0, 1) := by decide +kernel
theorem dX8_readsGuest_47 : decode cX8_readsGuest 47 = .ok (.invokevirtual 111, 3) := by decide +kernel
theorem dX8_readsGuest_50 : decode cX8_readsGuest 50 = .ok (.iastore, 1) := by decide +kernel
theorem dX8_readsGuest_51 : decode cX8_readsGuest 51 = .ok (.aload_n 0, 1) := by decide +kernel
theorem dX8_readsGuest_52 : decode cX8_readsGuest 52 = .ok (.getfield 7, 3) := by decide +kernel
theorem dX8_readsGuest_55 : decode cX8_readsGuest 55 = .ok (.sipush 1095, 3) := by decide +kernel
theorem dX8_readsGuest_58 : decode cX8_readsGuest 58 = .ok (.iload_n 1, 1) := by decide +kernel
theorem dX8_readsGuest_59 : decode cX8_readsGuest 59 = .ok (.iadd, 1) := by decide +kernel
theorem dX8_readsGuest_60 : decode cX8_readsGuest 60 = .ok (.iaload, 1) := by decide +kernel
theorem dX8_readsGuest_61 : decode cX8_readsGuest 61 = .ok (.ifCond .ne 9, 3) := by decide +kernel
theorem dX8_readsGuest_64 : decode cX8_readsGuest 64 = .ok (.aload_n 0, 1) := by decide +kernel
theorem dX8_readsGuest_65 : decode cX8_readsGuest 65 = .ok (.iconst 1, 1) := by decide +kernel
theorem dX8_readsGuest_66 : decode cX8_readsGuest 66 = .ok (.invokevirtual 108, 3) := by decide +kernel
theorem dX8_readsGuest_69 : decode cX8_readsGuest 69 = .ok (.ireturn, 1) := by decide +kernel
theorem dX8_readsGuest_70 : decode cX8_readsGuest 70 = .ok (.aload_n 0, 1) := by decide +kernel
theorem dX8_readsGuest_71 : decode cX8_readsGuest 71 = .ok (.getfield 7, 3) := by decide +kernel
theorem dX8_readsGuest_74 : decode cX8_readsGuest 74 = .ok (.sipush 1113, 3) := by decide +kernel
theorem dX8_readsGuest_77 : decode cX8_readsGuest 77 = .ok (.iload_n 1, 1) := by decide +kernel
theorem dX8_readsGuest_78 : decode cX8_readsGuest 78 = .ok (.iadd, 1) := by decide +kernel
theorem dX8_readsGuest_79 : decode cX8_readsGuest 79 = .ok (.iload_n 1, 1) := by decide +kernel
theorem dX8_readsGuest_80 : decode cX8_readsGuest 80 = .ok (.iastore, 1) := by decide +kernel
theorem dX8_readsGuest_81 : decode cX8_readsGuest 81 = .ok (.aload_n 0, 1) := by decide +kernel
theorem dX8_readsGuest_82 : decode cX8_readsGuest 82 = .ok (.getfield 7, 3) := by decide +kernel
theorem dX8_readsGuest_85 : decode cX8_readsGuest 85 = .ok (.sipush 1125, 3) := by decide +kernel
theorem dX8_readsGuest_88 : decode cX8_readsGuest 88 = .ok (.iload_n 1, 1) := by decide +kernel
theorem dX8_readsGuest_89 : decode cX8_readsGuest 89 = .ok (.iadd, 1) := by decide +kernel
theorem dX8_readsGuest_90 : decode cX8_readsGuest 90 = .ok (.iload_n 1, 1) := by decide +kernel
theorem dX8_readsGuest_91 : decode cX8_readsGuest 91 = .ok (.iastore, 1) := by decide +kernel
theorem dX8_readsGuest_92 : decode cX8_readsGuest 92 = .ok (.aload_n 0, 1) := by decide +kernel
theorem dX8_readsGuest_93 : decode cX8_readsGuest 93 = .ok (.sipush 1101, 3) := by decide +kernel
theorem dX8_readsGuest_96 : decode cX8_readsGuest 96 = .ok (.iload_n 1, 1) := by decide +kernel
theorem dX8_readsGuest_97 : decode cX8_readsGuest 97 = .ok (.iadd, 1) := by decide +kernel
theorem dX8_readsGuest_98 : decode cX8_readsGuest 98 = .ok (.iconst 5, 1) := by decide +kernel
theorem dX8_readsGuest_99 : decode cX8_readsGuest 99 = .ok (.invokevirtual 115, 3) := by decide +kernel
theorem dX8_readsGuest_102 : decode cX8_readsGuest 102 = .ok (.ifCond .eq 14, 3) := by decide +kernel
theorem dX8_readsGuest_105 : decode cX8_readsGuest 105 = .ok (.aload_n 0, 1) := by decide +kernel
theorem dX8_readsGuest_106 : decode cX8_readsGuest 106 = .ok (.invokevirtual 119, 3) := by decide +kernel
theorem dX8_readsGuest_109 : decode cX8_readsGuest 109 = .ok (.ifCond .eq 7, 3) := by decide +kernel
theorem dX8_readsGuest_112 : decode cX8_readsGuest 112 = .ok (.iconst 1, 1) := by decide +kernel
theorem dX8_readsGuest_113 : decode cX8_readsGuest 113 = .ok (.goto 4, 3) := by decide +kernel
theorem dX8_readsGuest_116 : decode cX8_readsGuest 116 = .ok (.iconst 0, 1) := by decide +kernel
theorem dX8_readsGuest_117 : decode cX8_readsGuest 117 = .ok (.ireturn, 1) := by decide +kernel
theorem dX8_readsDish_0 : decode cX8_readsDish 0 = .ok (.aload_n 0, 1) := by decide +kernel
theorem dX8_readsDish_1 : decode cX8_readsDish 1 = .ok (.getfield 123, 3) := by decide +kernel
theorem dX8_readsDish_4 : decode cX8_readsDish 4 = .ok (.aload_n 0, 1) := by decide +kernel
theorem dX8_readsDish_5 : decode cX8_readsDish 5 = .ok (.getfield 7, 3) := by decide +kernel
theorem dX8_readsDish_8 : decode cX8_readsDish 8 = .ok (.sipush 1092, 3) := by decide +kernel
theorem dX8_readsDish_11 : decode cX8_readsDish 11 = .ok (.iaload, 1) := by decide +kernel
theorem dX8_readsDish_12 : decode cX8_readsDish 12 = .ok (.if_icmp .ne 9, 3) := by decide +kernel
theorem dX8_readsDish_15 : decode cX8_readsDish 15 = .ok (.aload_n 0, 1) := by decide +kernel
theorem dX8_readsDish_16 : decode cX8_readsDish 16 = .ok (.iconst 3, 1) := by decide +kernel
theorem dX8_readsDish_17 : decode cX8_readsDish 17 = .ok (.invokevirtual 108, 3) := by decide +kernel
theorem dX8_readsDish_20 : decode cX8_readsDish 20 = .ok (.ireturn, 1) := by decide +kernel
theorem dX8_readsDish_21 : decode cX8_readsDish 21 = .ok (.aload_n 0, 1) := by decide +kernel
theorem dX8_readsDish_22 : decode cX8_readsDish 22 = .ok (.dup, 1) := by decide +kernel
theorem dX8_readsDish_23 : decode cX8_readsDish 23 = .ok (.getfield 123, 3) := by decide +kernel
theorem dX8_readsDish_26 : decode cX8_readsDish 26 = .ok (.iconst 1, 1) := by decide +kernel
theorem dX8_readsDish_27 : decode cX8_readsDish 27 = .ok (.iadd, 1) := by decide +kernel
theorem dX8_readsDish_28 : decode cX8_readsDish 28 = .ok (.putfield 123, 3) := by decide +kernel
theorem dX8_readsDish_31 : decode cX8_readsDish 31 = .ok (.aload_n 0, 1) := by decide +kernel
theorem dX8_readsDish_32 : decode cX8_readsDish 32 = .ok (.sipush 1119, 3) := by decide +kernel
theorem dX8_readsDish_35 : decode cX8_readsDish 35 = .ok (.aload_n 0, 1) := by decide +kernel
theorem dX8_readsDish_36 : decode cX8_readsDish 36 = .ok (.getfield 123, 3) := by decide +kernel
theorem dX8_readsDish_39 : decode cX8_readsDish 39 = .ok (.iadd, 1) := by decide +kernel
theorem dX8_readsDish_40 : decode cX8_readsDish 40 = .ok (.iconst 1, 1) := by decide +kernel
theorem dX8_readsDish_41 : decode cX8_readsDish 41 = .ok (.isub, 1) := by decide +kernel
theorem dX8_readsDish_42 : decode cX8_readsDish 42 = .ok (.bipush 30, 2) := by decide +kernel
theorem dX8_readsDish_44 : decode cX8_readsDish 44 = .ok (.invokevirtual 115, 3) := by decide +kernel
theorem dX8_readsDish_47 : decode cX8_readsDish 47 = .ok (.ifCond .eq 14, 3) := by decide +kernel
theorem dX8_readsDish_50 : decode cX8_readsDish 50 = .ok (.aload_n 0, 1) := by decide +kernel
theorem dX8_readsDish_51 : decode cX8_readsDish 51 = .ok (.invokevirtual 119, 3) := by decide +kernel
theorem dX8_readsDish_54 : decode cX8_readsDish 54 = .ok (.ifCond .eq 7, 3) := by decide +kernel
theorem dX8_readsDish_57 : decode cX8_readsDish 57 = .ok (.iconst 1, 1) := by decide +kernel
theorem dX8_readsDish_58 : decode cX8_readsDish 58 = .ok (.goto 4, 3) := by decide +kernel
theorem dX8_readsDish_61 : decode cX8_readsDish 61 = .ok (.iconst 0, 1) := by decide +kernel
theorem dX8_readsDish_62 : decode cX8_readsDish 62 = .ok (.ireturn, 1) := by decide +kernel
theorem dX8_reads_0 : decode cX8_reads 0 = .ok (.iconst 0, 1) := by decide +kernel
theorem dX8_reads_1 : decode cX8_reads 1 = .ok (.istore_n 1, 1) := by decide +kernel
theorem dX8_reads_2 : decode cX8_reads 2 = .ok (.iload_n 1, 1) := by decide +kernel
theorem dX8_reads_3 : decode cX8_reads 3 = .ok (.bipush 39, 2) := by decide +kernel
theorem dX8_reads_5 : decode cX8_reads 5 = .ok (.if_icmp .ge 20, 3) := by decide +kernel
theorem dX8_reads_8 : decode cX8_reads 8 = .ok (.aload_n 0, 1) := by decide +kernel
theorem dX8_reads_9 : decode cX8_reads 9 = .ok (.getfield 7, 3) := by decide +kernel
theorem dX8_reads_12 : decode cX8_reads 12 = .ok (.sipush 1092, 3) := by decide +kernel
theorem dX8_reads_15 : decode cX8_reads 15 = .ok (.iload_n 1, 1) := by decide +kernel
theorem dX8_reads_16 : decode cX8_reads 16 = .ok (.iadd, 1) := by decide +kernel
theorem dX8_reads_17 : decode cX8_reads 17 = .ok (.iconst 0, 1) := by decide +kernel
theorem dX8_reads_18 : decode cX8_reads 18 = .ok (.iastore, 1) := by decide +kernel
theorem dX8_reads_19 : decode cX8_reads 19 = .ok (.iinc 1 1, 3) := by decide +kernel
theorem dX8_reads_22 : decode cX8_reads 22 = .ok (.goto (-20), 3) := by decide +kernel
theorem dX8_reads_25 : decode cX8_reads 25 = .ok (.aload_n 0, 1) := by decide +kernel
theorem dX8_reads_26 : decode cX8_reads 26 = .ok (.iconst 0, 1) := by decide +kernel
theorem dX8_reads_27 : decode cX8_reads 27 = .ok (.putfield 123, 3) := by decide +kernel
theorem dX8_reads_30 : decode cX8_reads 30 = .ok (.aload_n 0, 1) := by decide +kernel
theorem dX8_reads_31 : decode cX8_reads 31 = .ok (.iconst 0, 1) := by decide +kernel
theorem dX8_reads_32 : decode cX8_reads 32 = .ok (.putfield 80, 3) := by decide +kernel
theorem dX8_reads_35 : decode cX8_reads 35 = .ok (.aload_n 0, 1) := by decide +kernel
theorem dX8_reads_36 : decode cX8_reads 36 = .ok (.invokevirtual 105, 3) := by decide +kernel
theorem dX8_reads_39 : decode cX8_reads 39 = .ok (.aload_n 0, 1) := by decide +kernel
theorem dX8_reads_40 : decode cX8_reads 40 = .ok (.getfield 92, 3) := by decide +kernel
theorem dX8_reads_43 : decode cX8_reads 43 = .ok (.ifCond .ne 9, 3) := by decide +kernel
theorem dX8_reads_46 : decode cX8_reads 46 = .ok (.aload_n 0, 1) := by decide +kernel
theorem dX8_reads_47 : decode cX8_reads 47 = .ok (.iconst 1, 1) := by decide +kernel
theorem dX8_reads_48 : decode cX8_reads 48 = .ok (.invokevirtual 108, 3) := by decide +kernel
theorem dX8_reads_51 : decode cX8_reads 51 = .ok (.ireturn, 1) := by decide +kernel
theorem dX8_reads_52 : decode cX8_reads 52 = .ok (.iconst 1, 1) := by decide +kernel
theorem dX8_reads_53 : decode cX8_reads 53 = .ok (.istore_n 1, 1) := by decide +kernel
theorem dX8_reads_54 : decode cX8_reads 54 = .ok (.iload_n 1, 1) := by decide +kernel
theorem dX8_reads_55 : decode cX8_reads 55 = .ok (.ifCond .eq 93, 3) := by decide +kernel
theorem dX8_reads_58 : decode cX8_reads 58 = .ok (.aload_n 0, 1) := by decide +kernel
theorem dX8_reads_59 : decode cX8_reads 59 = .ok (.getfield 92, 3) := by decide +kernel
theorem dX8_reads_62 : decode cX8_reads 62 = .ok (.ifCond .eq 86, 3) := by decide +kernel
theorem dX8_reads_65 : decode cX8_reads 65 = .ok (.aload_n 0, 1) := by decide +kernel
theorem dX8_reads_66 : decode cX8_reads 66 = .ok (.invokevirtual 126, 3) := by decide +kernel
theorem dX8_reads_69 : decode cX8_reads 69 = .ok (.ifCond .eq 14, 3) := by decide +kernel
theorem dX8_reads_72 : decode cX8_reads 72 = .ok (.aload_n 0, 1) := by decide +kernel
theorem dX8_reads_73 : decode cX8_reads 73 = .ok (.getfield 123, 3) := by decide +kernel
theorem dX8_reads_76 : decode cX8_reads 76 = .ok (.ifCond .ne 7, 3) := by decide +kernel
theorem dX8_reads_79 : decode cX8_reads 79 = .ok (.iconst 1, 1) := by decide +kernel
theorem dX8_reads_80 : decode cX8_reads 80 = .ok (.goto 4, 3) := by decide +kernel
theorem dX8_reads_83 : decode cX8_reads 83 = .ok (.iconst 0, 1) := by decide +kernel
theorem dX8_reads_84 : decode cX8_reads 84 = .ok (.istore_n 2, 1) := by decide +kernel
theorem dX8_reads_85 : decode cX8_reads 85 = .ok (.aload_n 0, 1) := by decide +kernel
theorem dX8_reads_86 : decode cX8_reads 86 = .ok (.invokevirtual 129, 3) := by decide +kernel
theorem dX8_reads_89 : decode cX8_reads 89 = .ok (.ifCond .eq 18, 3) := by decide +kernel
theorem dX8_reads_92 : decode cX8_reads 92 = .ok (.aload_n 0, 1) := by decide +kernel
theorem dX8_reads_93 : decode cX8_reads 93 = .ok (.getfield 7, 3) := by decide +kernel
theorem dX8_reads_96 : decode cX8_reads 96 = .ok (.sipush 1092, 3) := by decide +kernel
theorem dX8_reads_99 : decode cX8_reads 99 = .ok (.iaload, 1) := by decide +kernel
theorem dX8_reads_100 : decode cX8_reads 100 = .ok (.ifCond .le 7, 3) := by decide +kernel
theorem dX8_reads_103 : decode cX8_reads 103 = .ok (.iconst 1, 1) := by decide +kernel
theorem dX8_reads_104 : decode cX8_reads 104 = .ok (.goto 4, 3) := by decide +kernel
theorem dX8_reads_107 : decode cX8_reads 107 = .ok (.iconst 0, 1) := by decide +kernel
theorem dX8_reads_108 : decode cX8_reads 108 = .ok (.istore_n 3, 1) := by decide +kernel
theorem dX8_reads_109 : decode cX8_reads 109 = .ok (.iload_n 2, 1) := by decide +kernel
theorem dX8_reads_110 : decode cX8_reads 110 = .ok (.ifCond .eq 10, 3) := by decide +kernel
theorem dX8_reads_113 : decode cX8_reads 113 = .ok (.aload_n 0, 1) := by decide +kernel
theorem dX8_reads_114 : decode cX8_reads 114 = .ok (.invokevirtual 132, 3) := by decide +kernel
theorem dX8_reads_117 : decode cX8_reads 117 = .ok (.goto 19, 3) := by decide +kernel
theorem dX8_reads_120 : decode cX8_reads 120 = .ok (.iload_n 3, 1) := by decide +kernel
theorem dX8_reads_121 : decode cX8_reads 121 = .ok (.ifCond .eq 10, 3) := by decide +kernel
theorem dX8_reads_124 : decode cX8_reads 124 = .ok (.aload_n 0, 1) := by decide +kernel
theorem dX8_reads_125 : decode cX8_reads 125 = .ok (.invokevirtual 135, 3) := by decide +kernel
theorem dX8_reads_128 : decode cX8_reads 128 = .ok (.goto 8, 3) := by decide +kernel
theorem dX8_reads_131 : decode cX8_reads 131 = .ok (.aload_n 0, 1) := by decide +kernel
theorem dX8_reads_132 : decode cX8_reads 132 = .ok (.iconst 1, 1) := by decide +kernel
theorem dX8_reads_133 : decode cX8_reads 133 = .ok (.invokevirtual 108, 3) := by decide +kernel
theorem dX8_reads_136 : decode cX8_reads 136 = .ok (.istore_n 1, 1) := by decide +kernel
theorem dX8_reads_137 : decode cX8_reads 137 = .ok (.iload_n 1, 1) := by decide +kernel
theorem dX8_reads_138 : decode cX8_reads 138 = .ok (.ifCond .eq 7, 3) := by decide +kernel
theorem dX8_reads_141 : decode cX8_reads 141 = .ok (.aload_n 0, 1) := by decide +kernel
theorem dX8_reads_142 : decode cX8_reads 142 = .ok (.invokevirtual 105, 3) := by decide +kernel
theorem dX8_reads_145 : decode cX8_reads 145 = .ok (.goto (-91), 3) := by decide +kernel
theorem dX8_reads_148 : decode cX8_reads 148 = .ok (.iload_n 1, 1) := by decide +kernel
theorem dX8_reads_149 : decode cX8_reads 149 = .ok (.ireturn, 1) := by decide +kernel
theorem dX8_table_0 : decode cX8_table 0 = .ok (.aload_n 0, 1) := by decide +kernel
theorem dX8_table_1 : decode cX8_table 1 = .ok (.invokevirtual 138, 3) := by decide +kernel
theorem dX8_table_4 : decode cX8_table 4 = .ok (.istore_n 1, 1) := by decide +kernel
theorem dX8_table_5 : decode cX8_table 5 = .ok (.aload_n 0, 1) := by decide +kernel
theorem dX8_table_6 : decode cX8_table 6 = .ok (.iconst 0, 1) := by decide +kernel
theorem dX8_table_7 : decode cX8_table 7 = .ok (.putfield 66, 3) := by decide +kernel
theorem dX8_table_10 : decode cX8_table 10 = .ok (.iload_n 1, 1) := by decide +kernel
theorem dX8_table_11 : decode cX8_table 11 = .ok (.ifCond .ne 11, 3) := by decide +kernel
theorem dX8_table_14 : decode cX8_table 14 = .ok (.ldc 141, 2) := by decide +kernel
theorem dX8_table_16 : decode cX8_table 16 = .ok (.aload_n 0, 1) := by decide +kernel
theorem dX8_table_17 : decode cX8_table 17 = .ok (.getfield 83, 3) := by decide +kernel
theorem dX8_table_20 : decode cX8_table 20 = .ok (.isub, 1) := by decide +kernel
theorem dX8_table_21 : decode cX8_table 21 = .ok (.ireturn, 1) := by decide +kernel
theorem dX8_table_22 : decode cX8_table 22 = .ok (.aload_n 0, 1) := by decide +kernel
theorem dX8_table_23 : decode cX8_table 23 = .ok (.sipush 1092, 3) := by decide +kernel
theorem dX8_table_26 : decode cX8_table 26 = .ok (.iconst 0, 1) := by decide +kernel
theorem dX8_table_27 : decode cX8_table 27 = .ok (.invokevirtual 142, 3) := by decide +kernel
theorem dX8_table_30 : decode cX8_table 30 = .ok (.aload_n 0, 1) := by decide +kernel
theorem dX8_table_31 : decode cX8_table 31 = .ok (.iconst 0, 1) := by decide +kernel
theorem dX8_table_32 : decode cX8_table 32 = .ok (.putfield 146, 3) := by decide +kernel
theorem dX8_table_35 : decode cX8_table 35 = .ok (.aload_n 0, 1) := by decide +kernel
theorem dX8_table_36 : decode cX8_table 36 = .ok (.getfield 7, 3) := by decide +kernel
theorem dX8_table_39 : decode cX8_table 39 = .ok (.iconst 0, 1) := by decide +kernel
theorem dX8_table_40 : decode cX8_table 40 = .ok (.iaload, 1) := by decide +kernel
theorem dX8_table_41 : decode cX8_table 41 = .ok (.ireturn, 1) := by decide +kernel
theorem dX8_fault_0 : decode cX8_fault 0 = .ok (.aload_n 0, 1) := by decide +kernel
theorem dX8_fault_1 : decode cX8_fault 1 = .ok (.getfield 95, 3) := by decide +kernel
theorem dX8_fault_4 : decode cX8_fault 4 = .ok (.ireturn, 1) := by decide +kernel
theorem dX8_guestAt_0 : decode cX8_guestAt 0 = .ok (.iconst 0, 1) := by decide +kernel
theorem dX8_guestAt_1 : decode cX8_guestAt 1 = .ok (.istore_n 3, 1) := by decide +kernel
theorem dX8_guestAt_2 : decode cX8_guestAt 2 = .ok (.aload_n 0, 1) := by decide +kernel
theorem dX8_guestAt_3 : decode cX8_guestAt 3 = .ok (.getfield 7, 3) := by decide +kernel
theorem dX8_guestAt_6 : decode cX8_guestAt 6 = .ok (.iload_n 1, 1) := by decide +kernel
theorem dX8_guestAt_7 : decode cX8_guestAt 7 = .ok (.bipush 21, 2) := by decide +kernel
theorem dX8_guestAt_9 : decode cX8_guestAt 9 = .ok (.iadd, 1) := by decide +kernel
theorem dX8_guestAt_10 : decode cX8_guestAt 10 = .ok (.iload_n 3, 1) := by decide +kernel
theorem dX8_guestAt_11 : decode cX8_guestAt 11 = .ok (.iadd, 1) := by decide +kernel
theorem dX8_guestAt_12 : decode cX8_guestAt 12 = .ok (.iaload, 1) := by decide +kernel
theorem dX8_guestAt_13 : decode cX8_guestAt 13 = .ok (.iload_n 2, 1) := by decide +kernel
theorem dX8_guestAt_14 : decode cX8_guestAt 14 = .ok (.if_icmp .eq 9, 3) := by decide +kernel
theorem dX8_guestAt_17 : decode cX8_guestAt 17 = .ok (.iinc 3 1, 3) := by decide +kernel
theorem dX8_guestAt_20 : decode cX8_guestAt 20 = .ok (.goto (-18), 3) := by decide +kernel
theorem dX8_guestAt_23 : decode cX8_guestAt 23 = .ok (.iload_n 3, 1) := by decide +kernel
theorem dX8_guestAt_24 : decode cX8_guestAt 24 = .ok (.ireturn, 1) := by decide +kernel
theorem dX8_dishBefore_0 : decode cX8_dishBefore 0 = .ok (.aload_n 0, 1) := by decide +kernel
theorem dX8_dishBefore_1 : decode cX8_dishBefore 1 = .ok (.getfield 7, 3) := by decide +kernel
theorem dX8_dishBefore_4 : decode cX8_dishBefore 4 = .ok (.iload_n 1, 1) := by decide +kernel
theorem dX8_dishBefore_5 : decode cX8_dishBefore 5 = .ok (.bipush 21, 2) := by decide +kernel
theorem dX8_dishBefore_7 : decode cX8_dishBefore 7 = .ok (.iadd, 1) := by decide +kernel
theorem dX8_dishBefore_8 : decode cX8_dishBefore 8 = .ok (.iload_n 2, 1) := by decide +kernel
theorem dX8_dishBefore_9 : decode cX8_dishBefore 9 = .ok (.iadd, 1) := by decide +kernel
theorem dX8_dishBefore_10 : decode cX8_dishBefore 10 = .ok (.iaload, 1) := by decide +kernel
theorem dX8_dishBefore_11 : decode cX8_dishBefore 11 = .ok (.aload_n 0, 1) := by decide +kernel
theorem dX8_dishBefore_12 : decode cX8_dishBefore 12 = .ok (.getfield 7, 3) := by decide +kernel
theorem dX8_dishBefore_15 : decode cX8_dishBefore 15 = .ok (.iload_n 1, 1) := by decide +kernel
theorem dX8_dishBefore_16 : decode cX8_dishBefore 16 = .ok (.iconst 1, 1) := by decide +kernel
theorem dX8_dishBefore_17 : decode cX8_dishBefore 17 = .ok (.iadd, 1) := by decide +kernel
theorem dX8_dishBefore_18 : decode cX8_dishBefore 18 = .ok (.iaload, 1) := by decide +kernel
theorem dX8_dishBefore_19 : decode cX8_dishBefore 19 = .ok (.iadd, 1) := by decide +kernel
theorem dX8_dishBefore_20 : decode cX8_dishBefore 20 = .ok (.aload_n 0, 1) := by decide +kernel
theorem dX8_dishBefore_21 : decode cX8_dishBefore 21 = .ok (.getfield 7, 3) := by decide +kernel
theorem dX8_dishBefore_24 : decode cX8_dishBefore 24 = .ok (.iload_n 1, 1) := by decide +kernel
theorem dX8_dishBefore_25 : decode cX8_dishBefore 25 = .ok (.iconst 0, 1) := by decide +kernel
theorem dX8_dishBefore_26 : decode cX8_dishBefore 26 = .ok (.iadd, 1) := by decide +kernel
theorem dX8_dishBefore_27 : decode cX8_dishBefore 27 = .ok (.iaload, 1) := by decide +kernel
theorem dX8_dishBefore_28 : decode cX8_dishBefore 28 = .ok (.irem, 1) := by decide +kernel
theorem dX8_dishBefore_29 : decode cX8_dishBefore 29 = .ok (.istore_n 3, 1) := by decide +kernel
theorem dX8_dishBefore_30 : decode cX8_dishBefore 30 = .ok (.iconst 0, 1) := by decide +kernel
theorem dX8_dishBefore_31 : decode cX8_dishBefore 31 = .ok (.istore 4, 2) := by decide +kernel
theorem dX8_dishBefore_33 : decode cX8_dishBefore 33 = .ok (.aload_n 0, 1) := by decide +kernel
theorem dX8_dishBefore_34 : decode cX8_dishBefore 34 = .ok (.getfield 7, 3) := by decide +kernel
theorem dX8_dishBefore_37 : decode cX8_dishBefore 37 = .ok (.iload_n 1, 1) := by decide +kernel
theorem dX8_dishBefore_38 : decode cX8_dishBefore 38 = .ok (.bipush 33, 2) := by decide +kernel
theorem dX8_dishBefore_40 : decode cX8_dishBefore 40 = .ok (.iadd, 1) := by decide +kernel
theorem dX8_dishBefore_41 : decode cX8_dishBefore 41 = .ok (.iload 4, 2) := by decide +kernel
theorem dX8_dishBefore_43 : decode cX8_dishBefore 43 = .ok (.iadd, 1) := by decide +kernel
theorem dX8_dishBefore_44 : decode cX8_dishBefore 44 = .ok (.iaload, 1) := by decide +kernel
theorem dX8_dishBefore_45 : decode cX8_dishBefore 45 = .ok (.iload_n 3, 1) := by decide +kernel
theorem dX8_dishBefore_46 : decode cX8_dishBefore 46 = .ok (.if_icmp .eq 9, 3) := by decide +kernel
theorem dX8_dishBefore_49 : decode cX8_dishBefore 49 = .ok (.iinc 4 1, 3) := by decide +kernel
theorem dX8_dishBefore_52 : decode cX8_dishBefore 52 = .ok (.goto (-19), 3) := by decide +kernel
theorem dX8_dishBefore_55 : decode cX8_dishBefore 55 = .ok (.iload 4, 2) := by decide +kernel
theorem dX8_dishBefore_57 : decode cX8_dishBefore 57 = .ok (.ireturn, 1) := by decide +kernel
theorem dX8_turnBy_0 : decode cX8_turnBy 0 = .ok (.aload_n 0, 1) := by decide +kernel
theorem dX8_turnBy_1 : decode cX8_turnBy 1 = .ok (.getfield 7, 3) := by decide +kernel
theorem dX8_turnBy_4 : decode cX8_turnBy 4 = .ok (.iload_n 1, 1) := by decide +kernel
theorem dX8_turnBy_5 : decode cX8_turnBy 5 = .ok (.iconst 0, 1) := by decide +kernel
theorem dX8_turnBy_6 : decode cX8_turnBy 6 = .ok (.iadd, 1) := by decide +kernel
theorem dX8_turnBy_7 : decode cX8_turnBy 7 = .ok (.iaload, 1) := by decide +kernel
theorem dX8_turnBy_8 : decode cX8_turnBy 8 = .ok (.istore_n 3, 1) := by decide +kernel
theorem dX8_turnBy_9 : decode cX8_turnBy 9 = .ok (.aload_n 0, 1) := by decide +kernel
theorem dX8_turnBy_10 : decode cX8_turnBy 10 = .ok (.getfield 7, 3) := by decide +kernel
theorem dX8_turnBy_13 : decode cX8_turnBy 13 = .ok (.iload_n 1, 1) := by decide +kernel
theorem dX8_turnBy_14 : decode cX8_turnBy 14 = .ok (.iconst 1, 1) := by decide +kernel
theorem dX8_turnBy_15 : decode cX8_turnBy 15 = .ok (.iadd, 1) := by decide +kernel
theorem dX8_turnBy_16 : decode cX8_turnBy 16 = .ok (.aload_n 0, 1) := by decide +kernel
theorem dX8_turnBy_17 : decode cX8_turnBy 17 = .ok (.getfield 7, 3) := by decide +kernel
theorem dX8_turnBy_20 : decode cX8_turnBy 20 = .ok (.iload_n 1, 1) := by decide +kernel
theorem dX8_turnBy_21 : decode cX8_turnBy 21 = .ok (.iconst 1, 1) := by decide +kernel
theorem dX8_turnBy_22 : decode cX8_turnBy 22 = .ok (.iadd, 1) := by decide +kernel
theorem dX8_turnBy_23 : decode cX8_turnBy 23 = .ok (.iaload, 1) := by decide +kernel
theorem dX8_turnBy_24 : decode cX8_turnBy 24 = .ok (.iload_n 2, 1) := by decide +kernel
theorem dX8_turnBy_25 : decode cX8_turnBy 25 = .ok (.iadd, 1) := by decide +kernel
theorem dX8_turnBy_26 : decode cX8_turnBy 26 = .ok (.iload_n 3, 1) := by decide +kernel
theorem dX8_turnBy_27 : decode cX8_turnBy 27 = .ok (.irem, 1) := by decide +kernel
theorem dX8_turnBy_28 : decode cX8_turnBy 28 = .ok (.iload_n 3, 1) := by decide +kernel
theorem dX8_turnBy_29 : decode cX8_turnBy 29 = .ok (.iadd, 1) := by decide +kernel
theorem dX8_turnBy_30 : decode cX8_turnBy 30 = .ok (.iload_n 3, 1) := by decide +kernel
theorem dX8_turnBy_31 : decode cX8_turnBy 31 = .ok (.irem, 1) := by decide +kernel
theorem dX8_turnBy_32 : decode cX8_turnBy 32 = .ok (.iastore, 1) := by decide +kernel
theorem dX8_turnBy_33 : decode cX8_turnBy 33 = .ok (.return_, 1) := by decide +kernel
theorem dX8_leftTo_0 : decode cX8_leftTo 0 = .ok (.aload_n 0, 1) := by decide +kernel
theorem dX8_leftTo_1 : decode cX8_leftTo 1 = .ok (.getfield 7, 3) := by decide +kernel
theorem dX8_leftTo_4 : decode cX8_leftTo 4 = .ok (.iload_n 1, 1) := by decide +kernel
theorem dX8_leftTo_5 : decode cX8_leftTo 5 = .ok (.iconst 0, 1) := by decide +kernel
theorem dX8_leftTo_6 : decode cX8_leftTo 6 = .ok (.iadd, 1) := by decide +kernel
theorem dX8_leftTo_7 : decode cX8_leftTo 7 = .ok (.iaload, 1) := by decide +kernel
theorem dX8_leftTo_8 : decode cX8_leftTo 8 = .ok (.istore_n 3, 1) := by decide +kernel
theorem dX8_leftTo_9 : decode cX8_leftTo 9 = .ok (.aload_n 0, 1) := by decide +kernel
theorem dX8_leftTo_10 : decode cX8_leftTo 10 = .ok (.getfield 7, 3) := by decide +kernel
theorem dX8_leftTo_13 : decode cX8_leftTo 13 = .ok (.iload_n 1, 1) := by decide +kernel
theorem dX8_leftTo_14 : decode cX8_leftTo 14 = .ok (.bipush 33, 2) := by decide +kernel
theorem dX8_leftTo_16 : decode cX8_leftTo 16 = .ok (.iadd, 1) := by decide +kernel
theorem dX8_leftTo_17 : decode cX8_leftTo 17 = .ok (.aload_n 0, 1) := by decide +kernel
theorem dX8_leftTo_18 : decode cX8_leftTo 18 = .ok (.getfield 7, 3) := by decide +kernel
theorem dX8_leftTo_21 : decode cX8_leftTo 21 = .ok (.iload_n 1, 1) := by decide +kernel
theorem dX8_leftTo_22 : decode cX8_leftTo 22 = .ok (.bipush 9, 2) := by decide +kernel
theorem dX8_leftTo_24 : decode cX8_leftTo 24 = .ok (.iadd, 1) := by decide +kernel
theorem dX8_leftTo_25 : decode cX8_leftTo 25 = .ok (.iload_n 2, 1) := by decide +kernel
theorem dX8_leftTo_26 : decode cX8_leftTo 26 = .ok (.iadd, 1) := by decide +kernel
theorem dX8_leftTo_27 : decode cX8_leftTo 27 = .ok (.iaload, 1) := by decide +kernel
theorem dX8_leftTo_28 : decode cX8_leftTo 28 = .ok (.iadd, 1) := by decide +kernel
theorem dX8_leftTo_29 : decode cX8_leftTo 29 = .ok (.iaload, 1) := by decide +kernel
theorem dX8_leftTo_30 : decode cX8_leftTo 30 = .ok (.iconst 2, 1) := by decide +kernel
theorem dX8_leftTo_31 : decode cX8_leftTo 31 = .ok (.iload_n 3, 1) := by decide +kernel
theorem dX8_leftTo_32 : decode cX8_leftTo 32 = .ok (.imul, 1) := by decide +kernel
theorem dX8_leftTo_33 : decode cX8_leftTo 33 = .ok (.iadd, 1) := by decide +kernel
theorem dX8_leftTo_34 : decode cX8_leftTo 34 = .ok (.aload_n 0, 1) := by decide +kernel
theorem dX8_leftTo_35 : decode cX8_leftTo 35 = .ok (.getfield 7, 3) := by decide +kernel
theorem dX8_leftTo_38 : decode cX8_leftTo 38 = .ok (.iload_n 1, 1) := by decide +kernel
theorem dX8_leftTo_39 : decode cX8_leftTo 39 = .ok (.bipush 21, 2) := by decide +kernel
theorem dX8_leftTo_41 : decode cX8_leftTo 41 = .ok (.iadd, 1) := by decide +kernel
theorem dX8_leftTo_42 : decode cX8_leftTo 42 = .ok (.iload_n 2, 1) := by decide +kernel
theorem dX8_leftTo_43 : decode cX8_leftTo 43 = .ok (.iadd, 1) := by decide +kernel
theorem dX8_leftTo_44 : decode cX8_leftTo 44 = .ok (.iaload, 1) := by decide +kernel
theorem dX8_leftTo_45 : decode cX8_leftTo 45 = .ok (.isub, 1) := by decide +kernel
theorem dX8_leftTo_46 : decode cX8_leftTo 46 = .ok (.aload_n 0, 1) := by decide +kernel
theorem dX8_leftTo_47 : decode cX8_leftTo 47 = .ok (.getfield 7, 3) := by decide +kernel
theorem dX8_leftTo_50 : decode cX8_leftTo 50 = .ok (.iload_n 1, 1) := by decide +kernel
theorem dX8_leftTo_51 : decode cX8_leftTo 51 = .ok (.iconst 1, 1) := by decide +kernel
theorem dX8_leftTo_52 : decode cX8_leftTo 52 = .ok (.iadd, 1) := by decide +kernel
theorem dX8_leftTo_53 : decode cX8_leftTo 53 = .ok (.iaload, 1) := by decide +kernel
theorem dX8_leftTo_54 : decode cX8_leftTo 54 = .ok (.isub, 1) := by decide +kernel
theorem dX8_leftTo_55 : decode cX8_leftTo 55 = .ok (.iload_n 3, 1) := by decide +kernel
theorem dX8_leftTo_56 : decode cX8_leftTo 56 = .ok (.irem, 1) := by decide +kernel
theorem dX8_leftTo_57 : decode cX8_leftTo 57 = .ok (.ireturn, 1) := by decide +kernel
theorem dX8_pushes_0 : decode cX8_pushes 0 = .ok (.aload_n 0, 1) := by decide +kernel
theorem dX8_pushes_1 : decode cX8_pushes 1 = .ok (.getfield 7, 3) := by decide +kernel
theorem dX8_pushes_4 : decode cX8_pushes 4 = .ok (.iload_n 1, 1) := by decide +kernel
theorem dX8_pushes_5 : decode cX8_pushes 5 = .ok (.iconst 0, 1) := by decide +kernel
theorem dX8_pushes_6 : decode cX8_pushes 6 = .ok (.iadd, 1) := by decide +kernel
theorem dX8_pushes_7 : decode cX8_pushes 7 = .ok (.iaload, 1) := by decide +kernel
theorem dX8_pushes_8 : decode cX8_pushes 8 = .ok (.istore_n 3, 1) := by decide +kernel
theorem dX8_pushes_9 : decode cX8_pushes 9 = .ok (.aload_n 0, 1) := by decide +kernel
theorem dX8_pushes_10 : decode cX8_pushes 10 = .ok (.getfield 7, 3) := by decide +kernel
theorem dX8_pushes_13 : decode cX8_pushes 13 = .ok (.iload_n 1, 1) := by decide +kernel
theorem dX8_pushes_14 : decode cX8_pushes 14 = .ok (.iconst 3, 1) := by decide +kernel
theorem dX8_pushes_15 : decode cX8_pushes 15 = .ok (.iadd, 1) := by decide +kernel
theorem dX8_pushes_16 : decode cX8_pushes 16 = .ok (.iload_n 2, 1) := by decide +kernel
theorem dX8_pushes_17 : decode cX8_pushes 17 = .ok (.iadd, 1) := by decide +kernel
theorem dX8_pushes_18 : decode cX8_pushes 18 = .ok (.iaload, 1) := by decide +kernel
theorem dX8_pushes_19 : decode cX8_pushes 19 = .ok (.istore 4, 2) := by decide +kernel
theorem dX8_pushes_21 : decode cX8_pushes 21 = .ok (.aload_n 0, 1) := by decide +kernel
theorem dX8_pushes_22 : decode cX8_pushes 22 = .ok (.iconst 0, 1) := by decide +kernel
theorem dX8_pushes_23 : decode cX8_pushes 23 = .ok (.putfield 149, 3) := by decide +kernel
theorem dX8_pushes_26 : decode cX8_pushes 26 = .ok (.iload 4, 2) := by decide +kernel
theorem dX8_pushes_28 : decode cX8_pushes 28 = .ok (.iconst 5, 1) := by decide +kernel
theorem dX8_pushes_29 : decode cX8_pushes 29 = .ok (.if_icmp .ne 15, 3) := by decide +kernel
theorem dX8_pushes_32 : decode cX8_pushes 32 = .ok (.aload_n 0, 1) := by decide +kernel
theorem dX8_pushes_33 : decode cX8_pushes 33 = .ok (.iconst 1, 1) := by decide +kernel
theorem dX8_pushes_34 : decode cX8_pushes 34 = .ok (.putfield 149, 3) := by decide +kernel
theorem dX8_pushes_37 : decode cX8_pushes 37 = .ok (.aload_n 0, 1) := by decide +kernel
theorem dX8_pushes_38 : decode cX8_pushes 38 = .ok (.iload_n 1, 1) := by decide +kernel
theorem dX8_pushes_39 : decode cX8_pushes 39 = .ok (.iconst 1, 1) := by decide +kernel
theorem dX8_pushes_40 : decode cX8_pushes 40 = .ok (.invokevirtual 152, 3) := by decide +kernel
theorem dX8_pushes_43 : decode cX8_pushes 43 = .ok (.return_, 1) := by decide +kernel
theorem dX8_pushes_44 : decode cX8_pushes 44 = .ok (.aload_n 0, 1) := by decide +kernel
theorem dX8_pushes_45 : decode cX8_pushes 45 = .ok (.getfield 7, 3) := by decide +kernel
theorem dX8_pushes_48 : decode cX8_pushes 48 = .ok (.iload_n 1, 1) := by decide +kernel
theorem dX8_pushes_49 : decode cX8_pushes 49 = .ok (.bipush 9, 2) := by decide +kernel
theorem dX8_pushes_51 : decode cX8_pushes 51 = .ok (.iadd, 1) := by decide +kernel
theorem dX8_pushes_52 : decode cX8_pushes 52 = .ok (.iload_n 2, 1) := by decide +kernel
theorem dX8_pushes_53 : decode cX8_pushes 53 = .ok (.iadd, 1) := by decide +kernel
theorem dX8_pushes_54 : decode cX8_pushes 54 = .ok (.iaload, 1) := by decide +kernel
theorem dX8_pushes_55 : decode cX8_pushes 55 = .ok (.istore 5, 2) := by decide +kernel
theorem dX8_pushes_57 : decode cX8_pushes 57 = .ok (.iload 4, 2) := by decide +kernel
theorem dX8_pushes_59 : decode cX8_pushes 59 = .ok (.iconst 4, 1) := by decide +kernel
theorem dX8_pushes_60 : decode cX8_pushes 60 = .ok (.if_icmp .eq 24, 3) := by decide +kernel
theorem dX8_pushes_63 : decode cX8_pushes 63 = .ok (.iload 5, 2) := by decide +kernel
theorem dX8_pushes_65 : decode cX8_pushes 65 = .ok (.iload_n 3, 1) := by decide +kernel
theorem dX8_pushes_66 : decode cX8_pushes 66 = .ok (.if_icmp .ge 18, 3) := by decide +kernel
theorem dX8_pushes_69 : decode cX8_pushes 69 = .ok (.aload_n 0, 1) := by decide +kernel
theorem dX8_pushes_70 : decode cX8_pushes 70 = .ok (.getfield 7, 3) := by decide +kernel
theorem dX8_pushes_73 : decode cX8_pushes 73 = .ok (.iload_n 1, 1) := by decide +kernel
theorem dX8_pushes_74 : decode cX8_pushes 74 = .ok (.bipush 27, 2) := by decide +kernel
theorem dX8_pushes_76 : decode cX8_pushes 76 = .ok (.iadd, 1) := by decide +kernel
theorem dX8_pushes_77 : decode cX8_pushes 77 = .ok (.iload 5, 2) := by decide +kernel
theorem dX8_pushes_79 : decode cX8_pushes 79 = .ok (.iadd, 1) := by decide +kernel
theorem dX8_pushes_80 : decode cX8_pushes 80 = .ok (.iaload, 1) := by decide +kernel
theorem dX8_pushes_81 : decode cX8_pushes 81 = .ok (.ifCond .ne 4, 3) := by decide +kernel
theorem dX8_pushes_84 : decode cX8_pushes 84 = .ok (.return_, 1) := by decide +kernel
theorem dX8_pushes_85 : decode cX8_pushes 85 = .ok (.aload_n 0, 1) := by decide +kernel
theorem dX8_pushes_86 : decode cX8_pushes 86 = .ok (.iload_n 1, 1) := by decide +kernel
theorem dX8_pushes_87 : decode cX8_pushes 87 = .ok (.iload_n 2, 1) := by decide +kernel
theorem dX8_pushes_88 : decode cX8_pushes 88 = .ok (.invokevirtual 155, 3) := by decide +kernel
theorem dX8_pushes_91 : decode cX8_pushes 91 = .ok (.istore 6, 2) := by decide +kernel
theorem dX8_pushes_93 : decode cX8_pushes 93 = .ok (.iload_n 3, 1) := by decide +kernel
theorem dX8_pushes_94 : decode cX8_pushes 94 = .ok (.iconst 4, 1) := by decide +kernel
theorem dX8_pushes_95 : decode cX8_pushes 95 = .ok (.idiv, 1) := by decide +kernel
theorem dX8_pushes_96 : decode cX8_pushes 96 = .ok (.iconst 1, 1) := by decide +kernel
theorem dX8_pushes_97 : decode cX8_pushes 97 = .ok (.if_icmp .le 9, 3) := by decide +kernel
theorem dX8_pushes_100 : decode cX8_pushes 100 = .ok (.iload_n 3, 1) := by decide +kernel
theorem dX8_pushes_101 : decode cX8_pushes 101 = .ok (.iconst 4, 1) := by decide +kernel
theorem dX8_pushes_102 : decode cX8_pushes 102 = .ok (.idiv, 1) := by decide +kernel
theorem dX8_pushes_103 : decode cX8_pushes 103 = .ok (.goto 4, 3) := by decide +kernel
theorem dX8_pushes_106 : decode cX8_pushes 106 = .ok (.iconst 1, 1) := by decide +kernel
theorem dX8_pushes_107 : decode cX8_pushes 107 = .ok (.istore 7, 2) := by decide +kernel
theorem dX8_pushes_109 : decode cX8_pushes 109 = .ok (.iload 6, 2) := by decide +kernel
theorem dX8_pushes_111 : decode cX8_pushes 111 = .ok (.iload_n 3, 1) := by decide +kernel
theorem dX8_pushes_112 : decode cX8_pushes 112 = .ok (.iload 6, 2) := by decide +kernel
theorem dX8_pushes_114 : decode cX8_pushes 114 = .ok (.isub, 1) := by decide +kernel
theorem dX8_pushes_115 : decode cX8_pushes 115 = .ok (.if_icmp .gt 8, 3) := by decide +kernel
theorem dX8_pushes_118 : decode cX8_pushes 118 = .ok (.iload 6, 2) := by decide +kernel
theorem dX8_pushes_120 : decode cX8_pushes 120 = .ok (.goto 7, 3) := by decide +kernel
theorem dX8_pushes_123 : decode cX8_pushes 123 = .ok (.iload_n 3, 1) := by decide +kernel
theorem dX8_pushes_124 : decode cX8_pushes 124 = .ok (.iload 6, 2) := by decide +kernel
theorem dX8_pushes_126 : decode cX8_pushes 126 = .ok (.isub, 1) := by decide +kernel
theorem dX8_pushes_127 : decode cX8_pushes 127 = .ok (.istore 8, 2) := by decide +kernel
theorem dX8_pushes_129 : decode cX8_pushes 129 = .ok (.aload_n 0, 1) := by decide +kernel
theorem dX8_pushes_130 : decode cX8_pushes 130 = .ok (.iload 8, 2) := by decide +kernel
theorem dX8_pushes_132 : decode cX8_pushes 132 = .ok (.iload 7, 2) := by decide +kernel
theorem dX8_pushes_134 : decode cX8_pushes 134 = .ok (.if_icmp .ge 8, 3) := by decide +kernel
theorem dX8_pushes_137 : decode cX8_pushes 137 = .ok (.iload 8, 2) := by decide +kernel
theorem dX8_pushes_139 : decode cX8_pushes 139 = .ok (.goto 5, 3) := by decide +kernel
theorem dX8_pushes_142 : decode cX8_pushes 142 = .ok (.iload 7, 2) := by decide +kernel
theorem dX8_pushes_144 : decode cX8_pushes 144 = .ok (.putfield 149, 3) := by decide +kernel
theorem dX8_pushes_147 : decode cX8_pushes 147 = .ok (.aload_n 0, 1) := by decide +kernel
theorem dX8_pushes_148 : decode cX8_pushes 148 = .ok (.iload_n 1, 1) := by decide +kernel
theorem dX8_pushes_149 : decode cX8_pushes 149 = .ok (.iload 6, 2) := by decide +kernel
theorem dX8_pushes_151 : decode cX8_pushes 151 = .ok (.iload_n 3, 1) := by decide +kernel
theorem dX8_pushes_152 : decode cX8_pushes 152 = .ok (.iload 6, 2) := by decide +kernel
theorem dX8_pushes_154 : decode cX8_pushes 154 = .ok (.isub, 1) := by decide +kernel
theorem dX8_pushes_155 : decode cX8_pushes 155 = .ok (.if_icmp .gt 10, 3) := by decide +kernel
theorem dX8_pushes_158 : decode cX8_pushes 158 = .ok (.aload_n 0, 1) := by decide +kernel
theorem dX8_pushes_159 : decode cX8_pushes 159 = .ok (.getfield 149, 3) := by decide +kernel
theorem dX8_pushes_162 : decode cX8_pushes 162 = .ok (.goto 8, 3) := by decide +kernel
theorem dX8_pushes_165 : decode cX8_pushes 165 = .ok (.aload_n 0, 1) := by decide +kernel
theorem dX8_pushes_166 : decode cX8_pushes 166 = .ok (.getfield 149, 3) := by decide +kernel
theorem dX8_pushes_169 : decode cX8_pushes 169 = .ok (.ineg, 1) := by decide +kernel
theorem dX8_pushes_170 : decode cX8_pushes 170 = .ok (.invokevirtual 152, 3) := by decide +kernel
theorem dX8_pushes_173 : decode cX8_pushes 173 = .ok (.return_, 1) := by decide +kernel
theorem dX8_goMinute_0 : decode cX8_goMinute 0 = .ok (.aload_n 0, 1) := by decide +kernel
theorem dX8_goMinute_1 : decode cX8_goMinute 1 = .ok (.iload_n 1, 1) := by decide +kernel
theorem dX8_goMinute_2 : decode cX8_goMinute 2 = .ok (.aload_n 0, 1) := by decide +kernel
theorem dX8_goMinute_3 : decode cX8_goMinute 3 = .ok (.getfield 7, 3) := by decide +kernel
theorem dX8_goMinute_6 : decode cX8_goMinute 6 = .ok (.iload_n 1, 1) := by decide +kernel
theorem dX8_goMinute_7 : decode cX8_goMinute 7 = .ok (.iconst 2, 1) := by decide +kernel
theorem dX8_goMinute_8 : decode cX8_goMinute 8 = .ok (.iadd, 1) := by decide +kernel
theorem dX8_goMinute_9 : decode cX8_goMinute 9 = .ok (.iaload, 1) := by decide +kernel
theorem dX8_goMinute_10 : decode cX8_goMinute 10 = .ok (.aload_n 0, 1) := by decide +kernel
theorem dX8_goMinute_11 : decode cX8_goMinute 11 = .ok (.getfield 7, 3) := by decide +kernel
theorem dX8_goMinute_14 : decode cX8_goMinute 14 = .ok (.iload_n 1, 1) := by decide +kernel
theorem dX8_goMinute_15 : decode cX8_goMinute 15 = .ok (.iconst 0, 1) := by decide +kernel
theorem dX8_goMinute_16 : decode cX8_goMinute 16 = .ok (.iadd, 1) := by decide +kernel
theorem dX8_goMinute_17 : decode cX8_goMinute 17 = .ok (.iaload, 1) := by decide +kernel
theorem dX8_goMinute_18 : decode cX8_goMinute 18 = .ok (.irem, 1) := by decide +kernel
theorem dX8_goMinute_19 : decode cX8_goMinute 19 = .ok (.invokevirtual 159, 3) := by decide +kernel
theorem dX8_goMinute_22 : decode cX8_goMinute 22 = .ok (.istore_n 2, 1) := by decide +kernel
theorem dX8_goMinute_23 : decode cX8_goMinute 23 = .ok (.aload_n 0, 1) := by decide +kernel
theorem dX8_goMinute_24 : decode cX8_goMinute 24 = .ok (.iload_n 1, 1) := by decide +kernel
theorem dX8_goMinute_25 : decode cX8_goMinute 25 = .ok (.iload_n 2, 1) := by decide +kernel
theorem dX8_goMinute_26 : decode cX8_goMinute 26 = .ok (.invokevirtual 162, 3) := by decide +kernel
theorem dX8_goMinute_29 : decode cX8_goMinute 29 = .ok (.aload_n 0, 1) := by decide +kernel
theorem dX8_goMinute_30 : decode cX8_goMinute 30 = .ok (.iload_n 1, 1) := by decide +kernel
theorem dX8_goMinute_31 : decode cX8_goMinute 31 = .ok (.iload_n 2, 1) := by decide +kernel
theorem dX8_goMinute_32 : decode cX8_goMinute 32 = .ok (.invokevirtual 165, 3) := by decide +kernel
theorem dX8_goMinute_35 : decode cX8_goMinute 35 = .ok (.istore_n 3, 1) := by decide +kernel
theorem dX8_goMinute_36 : decode cX8_goMinute 36 = .ok (.aload_n 0, 1) := by decide +kernel
theorem dX8_goMinute_37 : decode cX8_goMinute 37 = .ok (.getfield 7, 3) := by decide +kernel
theorem dX8_goMinute_40 : decode cX8_goMinute 40 = .ok (.iload_n 1, 1) := by decide +kernel
theorem dX8_goMinute_41 : decode cX8_goMinute 41 = .ok (.iconst 3, 1) := by decide +kernel
theorem dX8_goMinute_42 : decode cX8_goMinute 42 = .ok (.iadd, 1) := by decide +kernel
theorem dX8_goMinute_43 : decode cX8_goMinute 43 = .ok (.iload_n 2, 1) := by decide +kernel
theorem dX8_goMinute_44 : decode cX8_goMinute 44 = .ok (.iadd, 1) := by decide +kernel
theorem dX8_goMinute_45 : decode cX8_goMinute 45 = .ok (.iaload, 1) := by decide +kernel
theorem dX8_goMinute_46 : decode cX8_goMinute 46 = .ok (.istore 4, 2) := by decide +kernel
theorem dX8_goMinute_48 : decode cX8_goMinute 48 = .ok (.iload 4, 2) := by decide +kernel
theorem dX8_goMinute_50 : decode cX8_goMinute 50 = .ok (.iconst 3, 1) := by decide +kernel
theorem dX8_goMinute_51 : decode cX8_goMinute 51 = .ok (.if_icmp .eq 24, 3) := by decide +kernel
theorem dX8_goMinute_54 : decode cX8_goMinute 54 = .ok (.iload 4, 2) := by decide +kernel
theorem dX8_goMinute_56 : decode cX8_goMinute 56 = .ok (.iconst 5, 1) := by decide +kernel
theorem dX8_goMinute_57 : decode cX8_goMinute 57 = .ok (.if_icmp .eq 18, 3) := by decide +kernel
theorem dX8_goMinute_60 : decode cX8_goMinute 60 = .ok (.aload_n 0, 1) := by decide +kernel
theorem dX8_goMinute_61 : decode cX8_goMinute 61 = .ok (.getfield 7, 3) := by decide +kernel
theorem dX8_goMinute_64 : decode cX8_goMinute 64 = .ok (.iload_n 1, 1) := by decide +kernel
theorem dX8_goMinute_65 : decode cX8_goMinute 65 = .ok (.bipush 9, 2) := by decide +kernel
theorem dX8_goMinute_67 : decode cX8_goMinute 67 = .ok (.iadd, 1) := by decide +kernel
theorem dX8_goMinute_68 : decode cX8_goMinute 68 = .ok (.iload_n 2, 1) := by decide +kernel
theorem dX8_goMinute_69 : decode cX8_goMinute 69 = .ok (.iadd, 1) := by decide +kernel
theorem dX8_goMinute_70 : decode cX8_goMinute 70 = .ok (.iaload, 1) := by decide +kernel
theorem dX8_goMinute_71 : decode cX8_goMinute 71 = .ok (.iload_n 3, 1) := by decide +kernel
theorem dX8_goMinute_72 : decode cX8_goMinute 72 = .ok (.if_icmp .ne 7, 3) := by decide +kernel
theorem dX8_goMinute_75 : decode cX8_goMinute 75 = .ok (.iconst 1, 1) := by decide +kernel
theorem dX8_goMinute_76 : decode cX8_goMinute 76 = .ok (.goto 4, 3) := by decide +kernel
theorem dX8_goMinute_79 : decode cX8_goMinute 79 = .ok (.iconst 0, 1) := by decide +kernel
theorem dX8_goMinute_80 : decode cX8_goMinute 80 = .ok (.istore 5, 2) := by decide +kernel
theorem dX8_goMinute_82 : decode cX8_goMinute 82 = .ok (.iload 5, 2) := by decide +kernel
theorem dX8_goMinute_84 : decode cX8_goMinute 84 = .ok (.ifCond .ne 7, 3) := by decide +kernel
theorem dX8_goMinute_87 : decode cX8_goMinute 87 = .ok (.iconst 0, 1) := by decide +kernel
theorem dX8_goMinute_88 : decode cX8_goMinute 88 = .ok (.goto 14, 3) := by decide +kernel
theorem dX8_goMinute_91 : decode cX8_goMinute 91 = .ok (.iload 4, 2) := by decide +kernel
theorem dX8_goMinute_93 : decode cX8_goMinute 93 = .ok (.iconst 2, 1) := by decide +kernel
theorem dX8_goMinute_94 : decode cX8_goMinute 94 = .ok (.if_icmp .ne 7, 3) := by decide +kernel
theorem dX8_goMinute_97 : decode cX8_goMinute 97 = .ok (.iconst 2, 1) := by decide +kernel
theorem dX8_goMinute_98 : decode cX8_goMinute 98 = .ok (.goto 4, 3) := by decide +kernel
theorem dX8_goMinute_101 : decode cX8_goMinute 101 = .ok (.iconst 1, 1) := by decide +kernel
theorem dX8_goMinute_102 : decode cX8_goMinute 102 = .ok (.istore 6, 2) := by decide +kernel
theorem dX8_goMinute_104 : decode cX8_goMinute 104 = .ok (.aload_n 0, 1) := by decide +kernel
theorem dX8_goMinute_105 : decode cX8_goMinute 105 = .ok (.aload_n 0, 1) := by decide +kernel
theorem dX8_goMinute_106 : decode cX8_goMinute 106 = .ok (.getfield 7, 3) := by decide +kernel
theorem dX8_goMinute_109 : decode cX8_goMinute 109 = .ok (.iload_n 1, 1) := by decide +kernel
theorem dX8_goMinute_110 : decode cX8_goMinute 110 = .ok (.bipush 27, 2) := by decide +kernel
theorem dX8_goMinute_112 : decode cX8_goMinute 112 = .ok (.iadd, 1) := by decide +kernel
theorem dX8_goMinute_113 : decode cX8_goMinute 113 = .ok (.iload_n 3, 1) := by decide +kernel
theorem dX8_goMinute_114 : decode cX8_goMinute 114 = .ok (.iadd, 1) := by decide +kernel
theorem dX8_goMinute_115 : decode cX8_goMinute 115 = .ok (.iaload, 1) := by decide +kernel
theorem dX8_goMinute_116 : decode cX8_goMinute 116 = .ok (.iload 6, 2) := by decide +kernel
theorem dX8_goMinute_118 : decode cX8_goMinute 118 = .ok (.if_icmp .ge 17, 3) := by decide +kernel
theorem dX8_goMinute_121 : decode cX8_goMinute 121 = .ok (.aload_n 0, 1) := by decide +kernel
theorem dX8_goMinute_122 : decode cX8_goMinute 122 = .ok (.getfield 7, 3) := by decide +kernel
theorem dX8_goMinute_125 : decode cX8_goMinute 125 = .ok (.iload_n 1, 1) := by decide +kernel
theorem dX8_goMinute_126 : decode cX8_goMinute 126 = .ok (.bipush 27, 2) := by decide +kernel
theorem dX8_goMinute_128 : decode cX8_goMinute 128 = .ok (.iadd, 1) := by decide +kernel
theorem dX8_goMinute_129 : decode cX8_goMinute 129 = .ok (.iload_n 3, 1) := by decide +kernel
theorem dX8_goMinute_130 : decode cX8_goMinute 130 = .ok (.iadd, 1) := by decide +kernel
theorem dX8_goMinute_131 : decode cX8_goMinute 131 = .ok (.iaload, 1) := by decide +kernel
theorem dX8_goMinute_132 : decode cX8_goMinute 132 = .ok (.goto 5, 3) := by decide +kernel
theorem dX8_goMinute_135 : decode cX8_goMinute 135 = .ok (.iload 6, 2) := by decide +kernel
theorem dX8_goMinute_137 : decode cX8_goMinute 137 = .ok (.putfield 168, 3) := by decide +kernel
theorem dX8_goMinute_140 : decode cX8_goMinute 140 = .ok (.aload_n 0, 1) := by decide +kernel
theorem dX8_goMinute_141 : decode cX8_goMinute 141 = .ok (.getfield 7, 3) := by decide +kernel
theorem dX8_goMinute_144 : decode cX8_goMinute 144 = .ok (.iload_n 1, 1) := by decide +kernel
theorem dX8_goMinute_145 : decode cX8_goMinute 145 = .ok (.bipush 27, 2) := by decide +kernel
theorem dX8_goMinute_147 : decode cX8_goMinute 147 = .ok (.iadd, 1) := by decide +kernel
theorem dX8_goMinute_148 : decode cX8_goMinute 148 = .ok (.iload_n 3, 1) := by decide +kernel
theorem dX8_goMinute_149 : decode cX8_goMinute 149 = .ok (.iadd, 1) := by decide +kernel
theorem dX8_goMinute_150 : decode cX8_goMinute 150 = .ok (.dup2, 1) := by decide +kernel
theorem dX8_goMinute_151 : decode cX8_goMinute 151 = .ok (.iaload, 1) := by decide +kernel
theorem dX8_goMinute_152 : decode cX8_goMinute 152 = .ok (.aload_n 0, 1) := by decide +kernel
theorem dX8_goMinute_153 : decode cX8_goMinute 153 = .ok (.getfield 168, 3) := by decide +kernel
theorem dX8_goMinute_156 : decode cX8_goMinute 156 = .ok (.isub, 1) := by decide +kernel
theorem dX8_goMinute_157 : decode cX8_goMinute 157 = .ok (.iastore, 1) := by decide +kernel
theorem dX8_goMinute_158 : decode cX8_goMinute 158 = .ok (.aload_n 0, 1) := by decide +kernel
theorem dX8_goMinute_159 : decode cX8_goMinute 159 = .ok (.getfield 7, 3) := by decide +kernel
theorem dX8_goMinute_162 : decode cX8_goMinute 162 = .ok (.iload_n 1, 1) := by decide +kernel
theorem dX8_goMinute_163 : decode cX8_goMinute 163 = .ok (.bipush 15, 2) := by decide +kernel
theorem dX8_goMinute_165 : decode cX8_goMinute 165 = .ok (.iadd, 1) := by decide +kernel
theorem dX8_goMinute_166 : decode cX8_goMinute 166 = .ok (.iload_n 2, 1) := by decide +kernel
theorem dX8_goMinute_167 : decode cX8_goMinute 167 = .ok (.iadd, 1) := by decide +kernel
theorem dX8_goMinute_168 : decode cX8_goMinute 168 = .ok (.dup2, 1) := by decide +kernel
theorem dX8_goMinute_169 : decode cX8_goMinute 169 = .ok (.iaload, 1) := by decide +kernel
theorem dX8_goMinute_170 : decode cX8_goMinute 170 = .ok (.aload_n 0, 1) := by decide +kernel
theorem dX8_goMinute_171 : decode cX8_goMinute 171 = .ok (.getfield 168, 3) := by decide +kernel
theorem dX8_goMinute_174 : decode cX8_goMinute 174 = .ok (.iadd, 1) := by decide +kernel
theorem dX8_goMinute_175 : decode cX8_goMinute 175 = .ok (.iastore, 1) := by decide +kernel
theorem dX8_goMinute_176 : decode cX8_goMinute 176 = .ok (.aload_n 0, 1) := by decide +kernel
theorem dX8_goMinute_177 : decode cX8_goMinute 177 = .ok (.getfield 7, 3) := by decide +kernel
theorem dX8_goMinute_180 : decode cX8_goMinute 180 = .ok (.iload_n 1, 1) := by decide +kernel
theorem dX8_goMinute_181 : decode cX8_goMinute 181 = .ok (.iconst 2, 1) := by decide +kernel
theorem dX8_goMinute_182 : decode cX8_goMinute 182 = .ok (.iadd, 1) := by decide +kernel
theorem dX8_goMinute_183 : decode cX8_goMinute 183 = .ok (.dup2, 1) := by decide +kernel
theorem dX8_goMinute_184 : decode cX8_goMinute 184 = .ok (.iaload, 1) := by decide +kernel
theorem dX8_goMinute_185 : decode cX8_goMinute 185 = .ok (.iconst 1, 1) := by decide +kernel
theorem dX8_goMinute_186 : decode cX8_goMinute 186 = .ok (.iadd, 1) := by decide +kernel
theorem dX8_goMinute_187 : decode cX8_goMinute 187 = .ok (.iastore, 1) := by decide +kernel
theorem dX8_goMinute_188 : decode cX8_goMinute 188 = .ok (.aload_n 0, 1) := by decide +kernel
theorem dX8_goMinute_189 : decode cX8_goMinute 189 = .ok (.iload_n 2, 1) := by decide +kernel
theorem dX8_goMinute_190 : decode cX8_goMinute 190 = .ok (.putfield 171, 3) := by decide +kernel
theorem dX8_goMinute_193 : decode cX8_goMinute 193 = .ok (.aload_n 0, 1) := by decide +kernel
theorem dX8_goMinute_194 : decode cX8_goMinute 194 = .ok (.iload_n 3, 1) := by decide +kernel
theorem dX8_goMinute_195 : decode cX8_goMinute 195 = .ok (.putfield 174, 3) := by decide +kernel
theorem dX8_goMinute_198 : decode cX8_goMinute 198 = .ok (.return_, 1) := by decide +kernel
theorem dX8_minds_0 : decode cX8_minds 0 = .ok (.aload_n 0, 1) := by decide +kernel
theorem dX8_minds_1 : decode cX8_minds 1 = .ok (.getfield 146, 3) := by decide +kernel
theorem dX8_minds_4 : decode cX8_minds 4 = .ok (.bipush 24, 2) := by decide +kernel
theorem dX8_minds_6 : decode cX8_minds 6 = .ok (.if_icmp .ne 49, 3) := by decide +kernel
theorem dX8_minds_9 : decode cX8_minds 9 = .ok (.iconst 0, 1) := by decide +kernel
theorem dX8_minds_10 : decode cX8_minds 10 = .ok (.istore_n 1, 1) := by decide +kernel
theorem dX8_minds_11 : decode cX8_minds 11 = .ok (.iload_n 1, 1) := by decide +kernel
theorem dX8_minds_12 : decode cX8_minds 12 = .ok (.sipush 897, 3) := by decide +kernel
theorem dX8_minds_15 : decode cX8_minds 15 = .ok (.if_icmp .ge 30, 3) := by decide +kernel
theorem dX8_minds_18 : decode cX8_minds 18 = .ok (.aload_n 0, 1) := by decide +kernel
theorem dX8_minds_19 : decode cX8_minds 19 = .ok (.getfield 7, 3) := by decide +kernel
theorem dX8_minds_22 : decode cX8_minds 22 = .ok (.bipush 117, 2) := by decide +kernel
theorem dX8_minds_24 : decode cX8_minds 24 = .ok (.iload_n 1, 1) := by decide +kernel
theorem dX8_minds_25 : decode cX8_minds 25 = .ok (.iadd, 1) := by decide +kernel
theorem dX8_minds_26 : decode cX8_minds 26 = .ok (.aload_n 0, 1) := by decide +kernel
theorem dX8_minds_27 : decode cX8_minds 27 = .ok (.getfield 7, 3) := by decide +kernel
theorem dX8_minds_30 : decode cX8_minds 30 = .ok (.bipush 117, 2) := by decide +kernel
theorem dX8_minds_32 : decode cX8_minds 32 = .ok (.iload_n 1, 1) := by decide +kernel
theorem dX8_minds_33 : decode cX8_minds 33 = .ok (.iadd, 1) := by decide +kernel
theorem dX8_minds_34 : decode cX8_minds 34 = .ok (.bipush 39, 2) := by decide +kernel
theorem dX8_minds_36 : decode cX8_minds 36 = .ok (.iadd, 1) := by decide +kernel
theorem dX8_minds_37 : decode cX8_minds 37 = .ok (.iaload, 1) := by decide +kernel
theorem dX8_minds_38 : decode cX8_minds 38 = .ok (.iastore, 1) := by decide +kernel
theorem dX8_minds_39 : decode cX8_minds 39 = .ok (.iinc 1 1, 3) := by decide +kernel
theorem dX8_minds_42 : decode cX8_minds 42 = .ok (.goto (-31), 3) := by decide +kernel
theorem dX8_minds_45 : decode cX8_minds 45 = .ok (.aload_n 0, 1) := by decide +kernel
theorem dX8_minds_46 : decode cX8_minds 46 = .ok (.dup, 1) := by decide +kernel
theorem dX8_minds_47 : decode cX8_minds 47 = .ok (.getfield 146, 3) := by decide +kernel
theorem dX8_minds_50 : decode cX8_minds 50 = .ok (.iconst 1, 1) := by decide +kernel
theorem dX8_minds_51 : decode cX8_minds 51 = .ok (.isub, 1) := by decide +kernel
theorem dX8_minds_52 : decode cX8_minds 52 = .ok (.putfield 146, 3) := by decide +kernel
theorem dX8_minds_55 : decode cX8_minds 55 = .ok (.aload_n 0, 1) := by decide +kernel
theorem dX8_minds_56 : decode cX8_minds 56 = .ok (.iconst 0, 1) := by decide +kernel
theorem dX8_minds_57 : decode cX8_minds 57 = .ok (.bipush 117, 2) := by decide +kernel
theorem dX8_minds_59 : decode cX8_minds 59 = .ok (.bipush 39, 2) := by decide +kernel
theorem dX8_minds_61 : decode cX8_minds 61 = .ok (.aload_n 0, 1) := by decide +kernel
theorem dX8_minds_62 : decode cX8_minds 62 = .ok (.getfield 146, 3) := by decide +kernel
theorem dX8_minds_65 : decode cX8_minds 65 = .ok (.imul, 1) := by decide +kernel
theorem dX8_minds_66 : decode cX8_minds 66 = .ok (.iadd, 1) := by decide +kernel
theorem dX8_minds_67 : decode cX8_minds 67 = .ok (.invokevirtual 142, 3) := by decide +kernel
theorem dX8_minds_70 : decode cX8_minds 70 = .ok (.aload_n 0, 1) := by decide +kernel
theorem dX8_minds_71 : decode cX8_minds 71 = .ok (.dup, 1) := by decide +kernel
theorem dX8_minds_72 : decode cX8_minds 72 = .ok (.getfield 146, 3) := by decide +kernel
theorem dX8_minds_75 : decode cX8_minds 75 = .ok (.iconst 1, 1) := by decide +kernel
theorem dX8_minds_76 : decode cX8_minds 76 = .ok (.iadd, 1) := by decide +kernel
theorem dX8_minds_77 : decode cX8_minds 77 = .ok (.putfield 146, 3) := by decide +kernel
theorem dX8_minds_80 : decode cX8_minds 80 = .ok (.return_, 1) := by decide +kernel
theorem dX8_isNone_0 : decode cX8_isNone 0 = .ok (.aload_n 0, 1) := by decide +kernel
theorem dX8_isNone_1 : decode cX8_isNone 1 = .ok (.getfield 7, 3) := by decide +kernel
theorem dX8_isNone_4 : decode cX8_isNone 4 = .ok (.iconst 0, 1) := by decide +kernel
theorem dX8_isNone_5 : decode cX8_isNone 5 = .ok (.iaload, 1) := by decide +kernel
theorem dX8_isNone_6 : decode cX8_isNone 6 = .ok (.ifCond .ne 7, 3) := by decide +kernel
theorem dX8_isNone_9 : decode cX8_isNone 9 = .ok (.iconst 1, 1) := by decide +kernel
theorem dX8_isNone_10 : decode cX8_isNone 10 = .ok (.goto 4, 3) := by decide +kernel
theorem dX8_isNone_13 : decode cX8_isNone 13 = .ok (.iconst 0, 1) := by decide +kernel
theorem dX8_isNone_14 : decode cX8_isNone 14 = .ok (.ireturn, 1) := by decide +kernel
theorem dX8_isOne_0 : decode cX8_isOne 0 = .ok (.iload_n 1, 1) := by decide +kernel
theorem dX8_isOne_1 : decode cX8_isOne 1 = .ok (.i2l, 1) := by decide +kernel
theorem dX8_isOne_2 : decode cX8_isOne 2 = .ok (.lconst 0, 1) := by decide +kernel
theorem dX8_isOne_3 : decode cX8_isOne 3 = .ok (.aload_n 0, 1) := by decide +kernel
theorem dX8_isOne_4 : decode cX8_isOne 4 = .ok (.getfield 7, 3) := by decide +kernel
theorem dX8_isOne_7 : decode cX8_isOne 7 = .ok (.iconst 0, 1) := by decide +kernel
theorem dX8_isOne_8 : decode cX8_isOne 8 = .ok (.iaload, 1) := by decide +kernel
theorem dX8_isOne_9 : decode cX8_isOne 9 = .ok (.iconst 1, 1) := by decide +kernel
theorem dX8_isOne_10 : decode cX8_isOne 10 = .ok (.isub, 1) := by decide +kernel
theorem dX8_isOne_11 : decode cX8_isOne 11 = .ok (.i2l, 1) := by decide +kernel
theorem dX8_isOne_12 : decode cX8_isOne 12 = .ok (.invokestatic 37, 3) := by decide +kernel
theorem dX8_isOne_15 : decode cX8_isOne 15 = .ok (.ireturn, 1) := by decide +kernel
theorem dX8_minutes_0 : decode cX8_minutes 0 = .ok (.aload_n 0, 1) := by decide +kernel
theorem dX8_minutes_1 : decode cX8_minutes 1 = .ok (.invokevirtual 177, 3) := by decide +kernel
theorem dX8_minutes_4 : decode cX8_minutes 4 = .ok (.ifCond .eq 6, 3) := by decide +kernel
theorem dX8_minutes_7 : decode cX8_minutes 7 = .ok (.ldc 180, 2) := by decide +kernel
theorem dX8_minutes_9 : decode cX8_minutes 9 = .ok (.ireturn, 1) := by decide +kernel
theorem dX8_minutes_10 : decode cX8_minutes 10 = .ok (.iload_n 1, 1) := by decide +kernel
theorem dX8_minutes_11 : decode cX8_minutes 11 = .ok (.i2l, 1) := by decide +kernel
theorem dX8_minutes_12 : decode cX8_minutes 12 = .ok (.lconst 1, 1) := by decide +kernel
theorem dX8_minutes_13 : decode cX8_minutes 13 = .ok (.ldc2_w 181, 3) := by decide +kernel
theorem dX8_minutes_16 : decode cX8_minutes 16 = .ok (.invokestatic 37, 3) := by decide +kernel
theorem dX8_minutes_19 : decode cX8_minutes 19 = .ok (.ifCond .ne 6, 3) := by decide +kernel
theorem dX8_minutes_22 : decode cX8_minutes 22 = .ok (.ldc 52, 2) := by decide +kernel
theorem dX8_minutes_24 : decode cX8_minutes 24 = .ok (.ireturn, 1) := by decide +kernel
theorem dX8_minutes_25 : decode cX8_minutes 25 = .ok (.aload_n 0, 1) := by decide +kernel
theorem dX8_minutes_26 : decode cX8_minutes 26 = .ok (.getfield 7, 3) := by decide +kernel
theorem dX8_minutes_29 : decode cX8_minutes 29 = .ok (.iconst 2, 1) := by decide +kernel
theorem dX8_minutes_30 : decode cX8_minutes 30 = .ok (.iaload, 1) := by decide +kernel
theorem dX8_minutes_31 : decode cX8_minutes 31 = .ok (.iload_n 1, 1) := by decide +kernel
theorem dX8_minutes_32 : decode cX8_minutes 32 = .ok (.iadd, 1) := by decide +kernel
theorem dX8_minutes_33 : decode cX8_minutes 33 = .ok (.sipush 999, 3) := by decide +kernel
theorem dX8_minutes_36 : decode cX8_minutes 36 = .ok (.if_icmp .le 6, 3) := by decide +kernel
theorem dX8_minutes_39 : decode cX8_minutes 39 = .ok (.ldc 69, 2) := by decide +kernel
theorem dX8_minutes_41 : decode cX8_minutes 41 = .ok (.ireturn, 1) := by decide +kernel
theorem dX8_minutes_42 : decode cX8_minutes 42 = .ok (.iconst 0, 1) := by decide +kernel
end
section
theorem dX8_minutes_43 : decode cX8_minutes 43 = .ok (.istore_n 2, 1) := by decide +kernel
theorem dX8_minutes_44 : decode cX8_minutes 44 = .ok (.iload_n 2, 1) := by decide +kernel
theorem dX8_minutes_45 : decode cX8_minutes 45 = .ok (.iload_n 1, 1) := by decide +kernel
theorem dX8_minutes_46 : decode cX8_minutes 46 = .ok (.if_icmp .ge 18, 3) := by decide +kernel
theorem dX8_minutes_49 : decode cX8_minutes 49 = .ok (.aload_n 0, 1) := by decide +kernel
theorem dX8_minutes_50 : decode cX8_minutes 50 = .ok (.invokevirtual 183, 3) := by decide +kernel
theorem dX8_minutes_53 : decode cX8_minutes 53 = .ok (.aload_n 0, 1) := by decide +kernel
theorem dX8_minutes_54 : decode cX8_minutes 54 = .ok (.iconst 0, 1) := by decide +kernel
theorem dX8_minutes_55 : decode cX8_minutes 55 = .ok (.invokevirtual 186, 3) := by decide +kernel
theorem dX8_minutes_58 : decode cX8_minutes 58 = .ok (.iinc 2 1, 3) := by decide +kernel
theorem dX8_minutes_61 : decode cX8_minutes 61 = .ok (.goto (-17), 3) := by decide +kernel
theorem dX8_minutes_64 : decode cX8_minutes 64 = .ok (.aload_n 0, 1) := by decide +kernel
theorem dX8_minutes_65 : decode cX8_minutes 65 = .ok (.getfield 7, 3) := by decide +kernel
theorem dX8_minutes_68 : decode cX8_minutes 68 = .ok (.iconst 1, 1) := by decide +kernel
theorem dX8_minutes_69 : decode cX8_minutes 69 = .ok (.iaload, 1) := by decide +kernel
theorem dX8_minutes_70 : decode cX8_minutes 70 = .ok (.ireturn, 1) := by decide +kernel
theorem dX8_turn_0 : decode cX8_turn 0 = .ok (.aload_n 0, 1) := by decide +kernel
theorem dX8_turn_1 : decode cX8_turn 1 = .ok (.invokevirtual 177, 3) := by decide +kernel
theorem dX8_turn_4 : decode cX8_turn 4 = .ok (.ifCond .eq 6, 3) := by decide +kernel
theorem dX8_turn_7 : decode cX8_turn 7 = .ok (.ldc 180, 2) := by decide +kernel
theorem dX8_turn_9 : decode cX8_turn 9 = .ok (.ireturn, 1) := by decide +kernel
theorem dX8_turn_10 : decode cX8_turn 10 = .ok (.iload_n 1, 1) := by decide +kernel
theorem dX8_turn_11 : decode cX8_turn 11 = .ok (.i2l, 1) := by decide +kernel
theorem dX8_turn_12 : decode cX8_turn 12 = .ok (.ldc2_w 190, 3) := by decide +kernel
theorem dX8_turn_15 : decode cX8_turn 15 = .ok (.ldc2_w 192, 3) := by decide +kernel
theorem dX8_turn_18 : decode cX8_turn 18 = .ok (.invokestatic 37, 3) := by decide +kernel
theorem dX8_turn_21 : decode cX8_turn 21 = .ok (.ifCond .ne 6, 3) := by decide +kernel
theorem dX8_turn_24 : decode cX8_turn 24 = .ok (.ldc 52, 2) := by decide +kernel
theorem dX8_turn_26 : decode cX8_turn 26 = .ok (.ireturn, 1) := by decide +kernel
theorem dX8_turn_27 : decode cX8_turn 27 = .ok (.aload_n 0, 1) := by decide +kernel
theorem dX8_turn_28 : decode cX8_turn 28 = .ok (.invokevirtual 183, 3) := by decide +kernel
theorem dX8_turn_31 : decode cX8_turn 31 = .ok (.aload_n 0, 1) := by decide +kernel
theorem dX8_turn_32 : decode cX8_turn 32 = .ok (.iconst 0, 1) := by decide +kernel
theorem dX8_turn_33 : decode cX8_turn 33 = .ok (.iload_n 1, 1) := by decide +kernel
theorem dX8_turn_34 : decode cX8_turn 34 = .ok (.invokevirtual 152, 3) := by decide +kernel
theorem dX8_turn_37 : decode cX8_turn 37 = .ok (.aload_n 0, 1) := by decide +kernel
theorem dX8_turn_38 : decode cX8_turn 38 = .ok (.getfield 7, 3) := by decide +kernel
theorem dX8_turn_41 : decode cX8_turn 41 = .ok (.iconst 1, 1) := by decide +kernel
theorem dX8_turn_42 : decode cX8_turn 42 = .ok (.iaload, 1) := by decide +kernel
theorem dX8_turn_43 : decode cX8_turn 43 = .ok (.ireturn, 1) := by decide +kernel
theorem dX8_fill_0 : decode cX8_fill 0 = .ok (.aload_n 0, 1) := by decide +kernel
theorem dX8_fill_1 : decode cX8_fill 1 = .ok (.iload_n 1, 1) := by decide +kernel
theorem dX8_fill_2 : decode cX8_fill 2 = .ok (.invokevirtual 194, 3) := by decide +kernel
theorem dX8_fill_5 : decode cX8_fill 5 = .ok (.ifCond .eq 15, 3) := by decide +kernel
theorem dX8_fill_8 : decode cX8_fill 8 = .ok (.iload_n 2, 1) := by decide +kernel
theorem dX8_fill_9 : decode cX8_fill 9 = .ok (.i2l, 1) := by decide +kernel
theorem dX8_fill_10 : decode cX8_fill 10 = .ok (.lconst 1, 1) := by decide +kernel
theorem dX8_fill_11 : decode cX8_fill 11 = .ok (.ldc2_w 197, 3) := by decide +kernel
theorem dX8_fill_14 : decode cX8_fill 14 = .ok (.invokestatic 37, 3) := by decide +kernel
theorem dX8_fill_17 : decode cX8_fill 17 = .ok (.ifCond .ne 6, 3) := by decide +kernel
theorem dX8_fill_20 : decode cX8_fill 20 = .ok (.ldc 52, 2) := by decide +kernel
theorem dX8_fill_22 : decode cX8_fill 22 = .ok (.ireturn, 1) := by decide +kernel
theorem dX8_fill_23 : decode cX8_fill 23 = .ok (.aload_n 0, 1) := by decide +kernel
theorem dX8_fill_24 : decode cX8_fill 24 = .ok (.getfield 7, 3) := by decide +kernel
theorem dX8_fill_27 : decode cX8_fill 27 = .ok (.bipush 27, 2) := by decide +kernel
theorem dX8_fill_29 : decode cX8_fill 29 = .ok (.iload_n 1, 1) := by decide +kernel
theorem dX8_fill_30 : decode cX8_fill 30 = .ok (.iadd, 1) := by decide +kernel
theorem dX8_fill_31 : decode cX8_fill 31 = .ok (.iaload, 1) := by decide +kernel
theorem dX8_fill_32 : decode cX8_fill 32 = .ok (.iload_n 2, 1) := by decide +kernel
theorem dX8_fill_33 : decode cX8_fill 33 = .ok (.iadd, 1) := by decide +kernel
theorem dX8_fill_34 : decode cX8_fill 34 = .ok (.bipush 99, 2) := by decide +kernel
theorem dX8_fill_36 : decode cX8_fill 36 = .ok (.if_icmp .le 6, 3) := by decide +kernel
theorem dX8_fill_39 : decode cX8_fill 39 = .ok (.ldc 69, 2) := by decide +kernel
theorem dX8_fill_41 : decode cX8_fill 41 = .ok (.ireturn, 1) := by decide +kernel
theorem dX8_fill_42 : decode cX8_fill 42 = .ok (.aload_n 0, 1) := by decide +kernel
theorem dX8_fill_43 : decode cX8_fill 43 = .ok (.invokevirtual 183, 3) := by decide +kernel
theorem dX8_fill_46 : decode cX8_fill 46 = .ok (.aload_n 0, 1) := by decide +kernel
theorem dX8_fill_47 : decode cX8_fill 47 = .ok (.getfield 7, 3) := by decide +kernel
theorem dX8_fill_50 : decode cX8_fill 50 = .ok (.bipush 27, 2) := by decide +kernel
theorem dX8_fill_52 : decode cX8_fill 52 = .ok (.iload_n 1, 1) := by decide +kernel
theorem dX8_fill_53 : decode cX8_fill 53 = .ok (.iadd, 1) := by decide +kernel
theorem dX8_fill_54 : decode cX8_fill 54 = .ok (.dup2, 1) := by decide +kernel
theorem dX8_fill_55 : decode cX8_fill 55 = .ok (.iaload, 1) := by decide +kernel
theorem dX8_fill_56 : decode cX8_fill 56 = .ok (.iload_n 2, 1) := by decide +kernel
theorem dX8_fill_57 : decode cX8_fill 57 = .ok (.iadd, 1) := by decide +kernel
theorem dX8_fill_58 : decode cX8_fill 58 = .ok (.iastore, 1) := by decide +kernel
theorem dX8_fill_59 : decode cX8_fill 59 = .ok (.aload_n 0, 1) := by decide +kernel
theorem dX8_fill_60 : decode cX8_fill 60 = .ok (.getfield 7, 3) := by decide +kernel
theorem dX8_fill_63 : decode cX8_fill 63 = .ok (.bipush 27, 2) := by decide +kernel
theorem dX8_fill_65 : decode cX8_fill 65 = .ok (.iload_n 1, 1) := by decide +kernel
theorem dX8_fill_66 : decode cX8_fill 66 = .ok (.iadd, 1) := by decide +kernel
theorem dX8_fill_67 : decode cX8_fill 67 = .ok (.iaload, 1) := by decide +kernel
theorem dX8_fill_68 : decode cX8_fill 68 = .ok (.ireturn, 1) := by decide +kernel
theorem dX8_swaps_0 : decode cX8_swaps 0 = .ok (.aload_n 0, 1) := by decide +kernel
theorem dX8_swaps_1 : decode cX8_swaps 1 = .ok (.invokevirtual 183, 3) := by decide +kernel
theorem dX8_swaps_4 : decode cX8_swaps 4 = .ok (.aload_n 0, 1) := by decide +kernel
theorem dX8_swaps_5 : decode cX8_swaps 5 = .ok (.getfield 7, 3) := by decide +kernel
theorem dX8_swaps_8 : decode cX8_swaps 8 = .ok (.iload_n 1, 1) := by decide +kernel
theorem dX8_swaps_9 : decode cX8_swaps 9 = .ok (.iload_n 2, 1) := by decide +kernel
theorem dX8_swaps_10 : decode cX8_swaps 10 = .ok (.iadd, 1) := by decide +kernel
theorem dX8_swaps_11 : decode cX8_swaps 11 = .ok (.iaload, 1) := by decide +kernel
theorem dX8_swaps_12 : decode cX8_swaps 12 = .ok (.istore 4, 2) := by decide +kernel
theorem dX8_swaps_14 : decode cX8_swaps 14 = .ok (.aload_n 0, 1) := by decide +kernel
theorem dX8_swaps_15 : decode cX8_swaps 15 = .ok (.getfield 7, 3) := by decide +kernel
theorem dX8_swaps_18 : decode cX8_swaps 18 = .ok (.iload_n 1, 1) := by decide +kernel
theorem dX8_swaps_19 : decode cX8_swaps 19 = .ok (.iload_n 2, 1) := by decide +kernel
theorem dX8_swaps_20 : decode cX8_swaps 20 = .ok (.iadd, 1) := by decide +kernel
theorem dX8_swaps_21 : decode cX8_swaps 21 = .ok (.aload_n 0, 1) := by decide +kernel
theorem dX8_swaps_22 : decode cX8_swaps 22 = .ok (.getfield 7, 3) := by decide +kernel
theorem dX8_swaps_25 : decode cX8_swaps 25 = .ok (.iload_n 1, 1) := by decide +kernel
theorem dX8_swaps_26 : decode cX8_swaps 26 = .ok (.iload_n 3, 1) := by decide +kernel
theorem dX8_swaps_27 : decode cX8_swaps 27 = .ok (.iadd, 1) := by decide +kernel
theorem dX8_swaps_28 : decode cX8_swaps 28 = .ok (.iaload, 1) := by decide +kernel
theorem dX8_swaps_29 : decode cX8_swaps 29 = .ok (.iastore, 1) := by decide +kernel
theorem dX8_swaps_30 : decode cX8_swaps 30 = .ok (.aload_n 0, 1) := by decide +kernel
theorem dX8_swaps_31 : decode cX8_swaps 31 = .ok (.getfield 7, 3) := by decide +kernel
theorem dX8_swaps_34 : decode cX8_swaps 34 = .ok (.iload_n 1, 1) := by decide +kernel
theorem dX8_swaps_35 : decode cX8_swaps 35 = .ok (.iload_n 3, 1) := by decide +kernel
theorem dX8_swaps_36 : decode cX8_swaps 36 = .ok (.iadd, 1) := by decide +kernel
theorem dX8_swaps_37 : decode cX8_swaps 37 = .ok (.iload 4, 2) := by decide +kernel
theorem dX8_swaps_39 : decode cX8_swaps 39 = .ok (.iastore, 1) := by decide +kernel
theorem dX8_swaps_40 : decode cX8_swaps 40 = .ok (.aload_n 0, 1) := by decide +kernel
theorem dX8_swaps_41 : decode cX8_swaps 41 = .ok (.getfield 7, 3) := by decide +kernel
theorem dX8_swaps_44 : decode cX8_swaps 44 = .ok (.iload_n 1, 1) := by decide +kernel
theorem dX8_swaps_45 : decode cX8_swaps 45 = .ok (.iload_n 2, 1) := by decide +kernel
theorem dX8_swaps_46 : decode cX8_swaps 46 = .ok (.iadd, 1) := by decide +kernel
theorem dX8_swaps_47 : decode cX8_swaps 47 = .ok (.iaload, 1) := by decide +kernel
theorem dX8_swaps_48 : decode cX8_swaps 48 = .ok (.ireturn, 1) := by decide +kernel
theorem dX8_change_0 : decode cX8_change 0 = .ok (.aload_n 0, 1) := by decide +kernel
theorem dX8_change_1 : decode cX8_change 1 = .ok (.iload_n 1, 1) := by decide +kernel
theorem dX8_change_2 : decode cX8_change 2 = .ok (.invokevirtual 194, 3) := by decide +kernel
theorem dX8_change_5 : decode cX8_change 5 = .ok (.ifCond .eq 27, 3) := by decide +kernel
theorem dX8_change_8 : decode cX8_change 8 = .ok (.aload_n 0, 1) := by decide +kernel
theorem dX8_change_9 : decode cX8_change 9 = .ok (.iload_n 2, 1) := by decide +kernel
theorem dX8_change_10 : decode cX8_change 10 = .ok (.invokevirtual 194, 3) := by decide +kernel
theorem dX8_change_13 : decode cX8_change 13 = .ok (.ifCond .eq 19, 3) := by decide +kernel
theorem dX8_change_16 : decode cX8_change 16 = .ok (.iload_n 1, 1) := by decide +kernel
theorem dX8_change_17 : decode cX8_change 17 = .ok (.iload_n 2, 1) := by decide +kernel
theorem dX8_change_18 : decode cX8_change 18 = .ok (.if_icmp .eq 14, 3) := by decide +kernel
theorem dX8_change_21 : decode cX8_change 21 = .ok (.aload_n 0, 1) := by decide +kernel
theorem dX8_change_22 : decode cX8_change 22 = .ok (.bipush 21, 2) := by decide +kernel
theorem dX8_change_24 : decode cX8_change 24 = .ok (.iload_n 1, 1) := by decide +kernel
theorem dX8_change_25 : decode cX8_change 25 = .ok (.iload_n 2, 1) := by decide +kernel
theorem dX8_change_26 : decode cX8_change 26 = .ok (.invokevirtual 199, 3) := by decide +kernel
theorem dX8_change_29 : decode cX8_change 29 = .ok (.goto 5, 3) := by decide +kernel
theorem dX8_change_32 : decode cX8_change 32 = .ok (.ldc 52, 2) := by decide +kernel
theorem dX8_change_34 : decode cX8_change 34 = .ok (.ireturn, 1) := by decide +kernel
theorem dX8_lay_0 : decode cX8_lay 0 = .ok (.aload_n 0, 1) := by decide +kernel
theorem dX8_lay_1 : decode cX8_lay 1 = .ok (.iload_n 1, 1) := by decide +kernel
theorem dX8_lay_2 : decode cX8_lay 2 = .ok (.invokevirtual 194, 3) := by decide +kernel
theorem dX8_lay_5 : decode cX8_lay 5 = .ok (.ifCond .eq 27, 3) := by decide +kernel
theorem dX8_lay_8 : decode cX8_lay 8 = .ok (.aload_n 0, 1) := by decide +kernel
theorem dX8_lay_9 : decode cX8_lay 9 = .ok (.iload_n 2, 1) := by decide +kernel
theorem dX8_lay_10 : decode cX8_lay 10 = .ok (.invokevirtual 194, 3) := by decide +kernel
theorem dX8_lay_13 : decode cX8_lay 13 = .ok (.ifCond .eq 19, 3) := by decide +kernel
theorem dX8_lay_16 : decode cX8_lay 16 = .ok (.iload_n 1, 1) := by decide +kernel
theorem dX8_lay_17 : decode cX8_lay 17 = .ok (.iload_n 2, 1) := by decide +kernel
theorem dX8_lay_18 : decode cX8_lay 18 = .ok (.if_icmp .eq 14, 3) := by decide +kernel
theorem dX8_lay_21 : decode cX8_lay 21 = .ok (.aload_n 0, 1) := by decide +kernel
theorem dX8_lay_22 : decode cX8_lay 22 = .ok (.bipush 33, 2) := by decide +kernel
theorem dX8_lay_24 : decode cX8_lay 24 = .ok (.iload_n 1, 1) := by decide +kernel
theorem dX8_lay_25 : decode cX8_lay 25 = .ok (.iload_n 2, 1) := by decide +kernel
theorem dX8_lay_26 : decode cX8_lay 26 = .ok (.invokevirtual 199, 3) := by decide +kernel
theorem dX8_lay_29 : decode cX8_lay 29 = .ok (.goto 5, 3) := by decide +kernel
theorem dX8_lay_32 : decode cX8_lay 32 = .ok (.ldc 52, 2) := by decide +kernel
theorem dX8_lay_34 : decode cX8_lay 34 = .ok (.ireturn, 1) := by decide +kernel
theorem dX8_undo_0 : decode cX8_undo 0 = .ok (.aload_n 0, 1) := by decide +kernel
theorem dX8_undo_1 : decode cX8_undo 1 = .ok (.getfield 146, 3) := by decide +kernel
theorem dX8_undo_4 : decode cX8_undo 4 = .ok (.ifCond .ne 6, 3) := by decide +kernel
theorem dX8_undo_7 : decode cX8_undo 7 = .ok (.ldc 180, 2) := by decide +kernel
theorem dX8_undo_9 : decode cX8_undo 9 = .ok (.ireturn, 1) := by decide +kernel
theorem dX8_undo_10 : decode cX8_undo 10 = .ok (.aload_n 0, 1) := by decide +kernel
theorem dX8_undo_11 : decode cX8_undo 11 = .ok (.dup, 1) := by decide +kernel
theorem dX8_undo_12 : decode cX8_undo 12 = .ok (.getfield 146, 3) := by decide +kernel
theorem dX8_undo_15 : decode cX8_undo 15 = .ok (.iconst 1, 1) := by decide +kernel
theorem dX8_undo_16 : decode cX8_undo 16 = .ok (.isub, 1) := by decide +kernel
theorem dX8_undo_17 : decode cX8_undo 17 = .ok (.putfield 146, 3) := by decide +kernel
theorem dX8_undo_20 : decode cX8_undo 20 = .ok (.aload_n 0, 1) := by decide +kernel
theorem dX8_undo_21 : decode cX8_undo 21 = .ok (.bipush 117, 2) := by decide +kernel
theorem dX8_undo_23 : decode cX8_undo 23 = .ok (.bipush 39, 2) := by decide +kernel
theorem dX8_undo_25 : decode cX8_undo 25 = .ok (.aload_n 0, 1) := by decide +kernel
theorem dX8_undo_26 : decode cX8_undo 26 = .ok (.getfield 146, 3) := by decide +kernel
theorem dX8_undo_29 : decode cX8_undo 29 = .ok (.imul, 1) := by decide +kernel
theorem dX8_undo_30 : decode cX8_undo 30 = .ok (.iadd, 1) := by decide +kernel
theorem dX8_undo_31 : decode cX8_undo 31 = .ok (.iconst 0, 1) := by decide +kernel
theorem dX8_undo_32 : decode cX8_undo 32 = .ok (.invokevirtual 142, 3) := by decide +kernel
theorem dX8_undo_35 : decode cX8_undo 35 = .ok (.aload_n 0, 1) := by decide +kernel
theorem dX8_undo_36 : decode cX8_undo 36 = .ok (.getfield 146, 3) := by decide +kernel
theorem dX8_undo_39 : decode cX8_undo 39 = .ok (.ireturn, 1) := by decide +kernel
theorem dX8_guest_0 : decode cX8_guest 0 = .ok (.aload_n 0, 1) := by decide +kernel
theorem dX8_guest_1 : decode cX8_guest 1 = .ok (.iload_n 1, 1) := by decide +kernel
theorem dX8_guest_2 : decode cX8_guest 2 = .ok (.invokevirtual 194, 3) := by decide +kernel
theorem dX8_guest_5 : decode cX8_guest 5 = .ok (.ifCond .eq 15, 3) := by decide +kernel
theorem dX8_guest_8 : decode cX8_guest 8 = .ok (.iload_n 2, 1) := by decide +kernel
theorem dX8_guest_9 : decode cX8_guest 9 = .ok (.i2l, 1) := by decide +kernel
theorem dX8_guest_10 : decode cX8_guest 10 = .ok (.lconst 0, 1) := by decide +kernel
theorem dX8_guest_11 : decode cX8_guest 11 = .ok (.ldc2_w 203, 3) := by decide +kernel
theorem dX8_guest_14 : decode cX8_guest 14 = .ok (.invokestatic 37, 3) := by decide +kernel
theorem dX8_guest_17 : decode cX8_guest 17 = .ok (.ifCond .ne 6, 3) := by decide +kernel
theorem dX8_guest_20 : decode cX8_guest 20 = .ok (.ldc 52, 2) := by decide +kernel
theorem dX8_guest_22 : decode cX8_guest 22 = .ok (.ireturn, 1) := by decide +kernel
theorem dX8_guest_23 : decode cX8_guest 23 = .ok (.iload_n 2, 1) := by decide +kernel
theorem dX8_guest_24 : decode cX8_guest 24 = .ok (.ifCond .ne 15, 3) := by decide +kernel
theorem dX8_guest_27 : decode cX8_guest 27 = .ok (.aload_n 0, 1) := by decide +kernel
theorem dX8_guest_28 : decode cX8_guest 28 = .ok (.getfield 7, 3) := by decide +kernel
theorem dX8_guest_31 : decode cX8_guest 31 = .ok (.bipush 21, 2) := by decide +kernel
theorem dX8_guest_33 : decode cX8_guest 33 = .ok (.iload_n 1, 1) := by decide +kernel
theorem dX8_guest_34 : decode cX8_guest 34 = .ok (.iadd, 1) := by decide +kernel
theorem dX8_guest_35 : decode cX8_guest 35 = .ok (.iaload, 1) := by decide +kernel
theorem dX8_guest_36 : decode cX8_guest 36 = .ok (.goto 43, 3) := by decide +kernel
theorem dX8_guest_39 : decode cX8_guest 39 = .ok (.iload_n 2, 1) := by decide +kernel
theorem dX8_guest_40 : decode cX8_guest 40 = .ok (.iconst 1, 1) := by decide +kernel
theorem dX8_guest_41 : decode cX8_guest 41 = .ok (.if_icmp .ne 15, 3) := by decide +kernel
theorem dX8_guest_44 : decode cX8_guest 44 = .ok (.aload_n 0, 1) := by decide +kernel
theorem dX8_guest_45 : decode cX8_guest 45 = .ok (.getfield 7, 3) := by decide +kernel
theorem dX8_guest_48 : decode cX8_guest 48 = .ok (.bipush 9, 2) := by decide +kernel
theorem dX8_guest_50 : decode cX8_guest 50 = .ok (.iload_n 1, 1) := by decide +kernel
theorem dX8_guest_51 : decode cX8_guest 51 = .ok (.iadd, 1) := by decide +kernel
theorem dX8_guest_52 : decode cX8_guest 52 = .ok (.iaload, 1) := by decide +kernel
theorem dX8_guest_53 : decode cX8_guest 53 = .ok (.goto 26, 3) := by decide +kernel
theorem dX8_guest_56 : decode cX8_guest 56 = .ok (.iload_n 2, 1) := by decide +kernel
theorem dX8_guest_57 : decode cX8_guest 57 = .ok (.iconst 2, 1) := by decide +kernel
theorem dX8_guest_58 : decode cX8_guest 58 = .ok (.if_icmp .ne 15, 3) := by decide +kernel
theorem dX8_guest_61 : decode cX8_guest 61 = .ok (.aload_n 0, 1) := by decide +kernel
theorem dX8_guest_62 : decode cX8_guest 62 = .ok (.getfield 7, 3) := by decide +kernel
theorem dX8_guest_65 : decode cX8_guest 65 = .ok (.bipush 15, 2) := by decide +kernel
theorem dX8_guest_67 : decode cX8_guest 67 = .ok (.iload_n 1, 1) := by decide +kernel
theorem dX8_guest_68 : decode cX8_guest 68 = .ok (.iadd, 1) := by decide +kernel
theorem dX8_guest_69 : decode cX8_guest 69 = .ok (.iaload, 1) := by decide +kernel
theorem dX8_guest_70 : decode cX8_guest 70 = .ok (.goto 9, 3) := by decide +kernel
theorem dX8_guest_73 : decode cX8_guest 73 = .ok (.aload_n 0, 1) := by decide +kernel
theorem dX8_guest_74 : decode cX8_guest 74 = .ok (.iconst 0, 1) := by decide +kernel
theorem dX8_guest_75 : decode cX8_guest 75 = .ok (.iload_n 1, 1) := by decide +kernel
theorem dX8_guest_76 : decode cX8_guest 76 = .ok (.invokevirtual 165, 3) := by decide +kernel
theorem dX8_guest_79 : decode cX8_guest 79 = .ok (.ireturn, 1) := by decide +kernel
theorem dX8_dish_0 : decode cX8_dish 0 = .ok (.aload_n 0, 1) := by decide +kernel
theorem dX8_dish_1 : decode cX8_dish 1 = .ok (.iload_n 1, 1) := by decide +kernel
theorem dX8_dish_2 : decode cX8_dish 2 = .ok (.invokevirtual 194, 3) := by decide +kernel
theorem dX8_dish_5 : decode cX8_dish 5 = .ok (.ifCond .eq 13, 3) := by decide +kernel
theorem dX8_dish_8 : decode cX8_dish 8 = .ok (.iload_n 2, 1) := by decide +kernel
theorem dX8_dish_9 : decode cX8_dish 9 = .ok (.i2l, 1) := by decide +kernel
theorem dX8_dish_10 : decode cX8_dish 10 = .ok (.lconst 0, 1) := by decide +kernel
theorem dX8_dish_11 : decode cX8_dish 11 = .ok (.lconst 1, 1) := by decide +kernel
theorem dX8_dish_12 : decode cX8_dish 12 = .ok (.invokestatic 37, 3) := by decide +kernel
theorem dX8_dish_15 : decode cX8_dish 15 = .ok (.ifCond .ne 6, 3) := by decide +kernel
theorem dX8_dish_18 : decode cX8_dish 18 = .ok (.ldc 52, 2) := by decide +kernel
theorem dX8_dish_20 : decode cX8_dish 20 = .ok (.ireturn, 1) := by decide +kernel
theorem dX8_dish_21 : decode cX8_dish 21 = .ok (.iload_n 2, 1) := by decide +kernel
theorem dX8_dish_22 : decode cX8_dish 22 = .ok (.ifCond .ne 15, 3) := by decide +kernel
theorem dX8_dish_25 : decode cX8_dish 25 = .ok (.aload_n 0, 1) := by decide +kernel
theorem dX8_dish_26 : decode cX8_dish 26 = .ok (.getfield 7, 3) := by decide +kernel
theorem dX8_dish_29 : decode cX8_dish 29 = .ok (.bipush 27, 2) := by decide +kernel
theorem dX8_dish_31 : decode cX8_dish 31 = .ok (.iload_n 1, 1) := by decide +kernel
theorem dX8_dish_32 : decode cX8_dish 32 = .ok (.iadd, 1) := by decide +kernel
theorem dX8_dish_33 : decode cX8_dish 33 = .ok (.iaload, 1) := by decide +kernel
theorem dX8_dish_34 : decode cX8_dish 34 = .ok (.goto 12, 3) := by decide +kernel
theorem dX8_dish_37 : decode cX8_dish 37 = .ok (.aload_n 0, 1) := by decide +kernel
theorem dX8_dish_38 : decode cX8_dish 38 = .ok (.getfield 7, 3) := by decide +kernel
theorem dX8_dish_41 : decode cX8_dish 41 = .ok (.bipush 33, 2) := by decide +kernel
theorem dX8_dish_43 : decode cX8_dish 43 = .ok (.iload_n 1, 1) := by decide +kernel
theorem dX8_dish_44 : decode cX8_dish 44 = .ok (.iadd, 1) := by decide +kernel
theorem dX8_dish_45 : decode cX8_dish 45 = .ok (.iaload, 1) := by decide +kernel
theorem dX8_dish_46 : decode cX8_dish 46 = .ok (.ireturn, 1) := by decide +kernel
theorem dX8_goMinutes_0 : decode cX8_goMinutes 0 = .ok (.aload_n 0, 1) := by decide +kernel
theorem dX8_goMinutes_1 : decode cX8_goMinutes 1 = .ok (.iconst 0, 1) := by decide +kernel
theorem dX8_goMinutes_2 : decode cX8_goMinutes 2 = .ok (.putfield 205, 3) := by decide +kernel
theorem dX8_goMinutes_5 : decode cX8_goMinutes 5 = .ok (.iconst 0, 1) := by decide +kernel
theorem dX8_goMinutes_6 : decode cX8_goMinutes 6 = .ok (.istore_n 2, 1) := by decide +kernel
theorem dX8_goMinutes_7 : decode cX8_goMinutes 7 = .ok (.iload_n 2, 1) := by decide +kernel
theorem dX8_goMinutes_8 : decode cX8_goMinutes 8 = .ok (.iload_n 1, 1) := by decide +kernel
theorem dX8_goMinutes_9 : decode cX8_goMinutes 9 = .ok (.if_icmp .ge 29, 3) := by decide +kernel
theorem dX8_goMinutes_12 : decode cX8_goMinutes 12 = .ok (.aload_n 0, 1) := by decide +kernel
theorem dX8_goMinutes_13 : decode cX8_goMinutes 13 = .ok (.sipush 1053, 3) := by decide +kernel
theorem dX8_goMinutes_16 : decode cX8_goMinutes 16 = .ok (.invokevirtual 186, 3) := by decide +kernel
theorem dX8_goMinutes_19 : decode cX8_goMinutes 19 = .ok (.aload_n 0, 1) := by decide +kernel
theorem dX8_goMinutes_20 : decode cX8_goMinutes 20 = .ok (.dup, 1) := by decide +kernel
theorem dX8_goMinutes_21 : decode cX8_goMinutes 21 = .ok (.getfield 205, 3) := by decide +kernel
theorem dX8_goMinutes_24 : decode cX8_goMinutes 24 = .ok (.aload_n 0, 1) := by decide +kernel
theorem dX8_goMinutes_25 : decode cX8_goMinutes 25 = .ok (.getfield 149, 3) := by decide +kernel
theorem dX8_goMinutes_28 : decode cX8_goMinutes 28 = .ok (.iadd, 1) := by decide +kernel
theorem dX8_goMinutes_29 : decode cX8_goMinutes 29 = .ok (.putfield 205, 3) := by decide +kernel
theorem dX8_goMinutes_32 : decode cX8_goMinutes 32 = .ok (.iinc 2 1, 3) := by decide +kernel
theorem dX8_goMinutes_35 : decode cX8_goMinutes 35 = .ok (.goto (-28), 3) := by decide +kernel
theorem dX8_goMinutes_38 : decode cX8_goMinutes 38 = .ok (.return_, 1) := by decide +kernel
theorem dX8_isLater_0 : decode cX8_isLater 0 = .ok (.iload_n 0, 1) := by decide +kernel
theorem dX8_isLater_1 : decode cX8_isLater 1 = .ok (.i2l, 1) := by decide +kernel
theorem dX8_isLater_2 : decode cX8_isLater 2 = .ok (.lconst 0, 1) := by decide +kernel
theorem dX8_isLater_3 : decode cX8_isLater 3 = .ok (.ldc2_w 208, 3) := by decide +kernel
theorem dX8_isLater_6 : decode cX8_isLater 6 = .ok (.invokestatic 37, 3) := by decide +kernel
theorem dX8_isLater_9 : decode cX8_isLater 9 = .ok (.ireturn, 1) := by decide +kernel
theorem dX8_ahead_0 : decode cX8_ahead 0 = .ok (.aload_n 0, 1) := by decide +kernel
theorem dX8_ahead_1 : decode cX8_ahead 1 = .ok (.invokevirtual 177, 3) := by decide +kernel
theorem dX8_ahead_4 : decode cX8_ahead 4 = .ok (.ifCond .eq 6, 3) := by decide +kernel
theorem dX8_ahead_7 : decode cX8_ahead 7 = .ok (.ldc 180, 2) := by decide +kernel
theorem dX8_ahead_9 : decode cX8_ahead 9 = .ok (.ireturn, 1) := by decide +kernel
theorem dX8_ahead_10 : decode cX8_ahead 10 = .ok (.iload_n 1, 1) := by decide +kernel
theorem dX8_ahead_11 : decode cX8_ahead 11 = .ok (.invokestatic 210, 3) := by decide +kernel
theorem dX8_ahead_14 : decode cX8_ahead 14 = .ok (.ifCond .eq 13, 3) := by decide +kernel
theorem dX8_ahead_17 : decode cX8_ahead 17 = .ok (.iload_n 2, 1) := by decide +kernel
theorem dX8_ahead_18 : decode cX8_ahead 18 = .ok (.i2l, 1) := by decide +kernel
theorem dX8_ahead_19 : decode cX8_ahead 19 = .ok (.lconst 0, 1) := by decide +kernel
theorem dX8_ahead_20 : decode cX8_ahead 20 = .ok (.lconst 1, 1) := by decide +kernel
theorem dX8_ahead_21 : decode cX8_ahead 21 = .ok (.invokestatic 37, 3) := by decide +kernel
theorem dX8_ahead_24 : decode cX8_ahead 24 = .ok (.ifCond .ne 6, 3) := by decide +kernel
theorem dX8_ahead_27 : decode cX8_ahead 27 = .ok (.ldc 52, 2) := by decide +kernel
theorem dX8_ahead_29 : decode cX8_ahead 29 = .ok (.ireturn, 1) := by decide +kernel
theorem dX8_ahead_30 : decode cX8_ahead 30 = .ok (.aload_n 0, 1) := by decide +kernel
theorem dX8_ahead_31 : decode cX8_ahead 31 = .ok (.iconst 0, 1) := by decide +kernel
theorem dX8_ahead_32 : decode cX8_ahead 32 = .ok (.sipush 1053, 3) := by decide +kernel
theorem dX8_ahead_35 : decode cX8_ahead 35 = .ok (.invokevirtual 142, 3) := by decide +kernel
theorem dX8_ahead_38 : decode cX8_ahead 38 = .ok (.aload_n 0, 1) := by decide +kernel
theorem dX8_ahead_39 : decode cX8_ahead 39 = .ok (.iload_n 1, 1) := by decide +kernel
theorem dX8_ahead_40 : decode cX8_ahead 40 = .ok (.invokevirtual 213, 3) := by decide +kernel
theorem dX8_ahead_43 : decode cX8_ahead 43 = .ok (.iload_n 2, 1) := by decide +kernel
theorem dX8_ahead_44 : decode cX8_ahead 44 = .ok (.ifCond .ne 14, 3) := by decide +kernel
theorem dX8_ahead_47 : decode cX8_ahead 47 = .ok (.aload_n 0, 1) := by decide +kernel
theorem dX8_ahead_48 : decode cX8_ahead 48 = .ok (.getfield 7, 3) := by decide +kernel
theorem dX8_ahead_51 : decode cX8_ahead 51 = .ok (.sipush 1054, 3) := by decide +kernel
theorem dX8_ahead_54 : decode cX8_ahead 54 = .ok (.iaload, 1) := by decide +kernel
theorem dX8_ahead_55 : decode cX8_ahead 55 = .ok (.goto 7, 3) := by decide +kernel
theorem dX8_ahead_58 : decode cX8_ahead 58 = .ok (.aload_n 0, 1) := by decide +kernel
theorem dX8_ahead_59 : decode cX8_ahead 59 = .ok (.getfield 205, 3) := by decide +kernel
theorem dX8_ahead_62 : decode cX8_ahead 62 = .ok (.ireturn, 1) := by decide +kernel
theorem dX8_dishAhead_0 : decode cX8_dishAhead 0 = .ok (.aload_n 0, 1) := by decide +kernel
theorem dX8_dishAhead_1 : decode cX8_dishAhead 1 = .ok (.iload_n 1, 1) := by decide +kernel
theorem dX8_dishAhead_2 : decode cX8_dishAhead 2 = .ok (.invokevirtual 194, 3) := by decide +kernel
theorem dX8_dishAhead_5 : decode cX8_dishAhead 5 = .ok (.ifCond .eq 10, 3) := by decide +kernel
theorem dX8_dishAhead_8 : decode cX8_dishAhead 8 = .ok (.iload_n 2, 1) := by decide +kernel
theorem dX8_dishAhead_9 : decode cX8_dishAhead 9 = .ok (.invokestatic 210, 3) := by decide +kernel
theorem dX8_dishAhead_12 : decode cX8_dishAhead 12 = .ok (.ifCond .ne 6, 3) := by decide +kernel
theorem dX8_dishAhead_15 : decode cX8_dishAhead 15 = .ok (.ldc 52, 2) := by decide +kernel
theorem dX8_dishAhead_17 : decode cX8_dishAhead 17 = .ok (.ireturn, 1) := by decide +kernel
theorem dX8_dishAhead_18 : decode cX8_dishAhead 18 = .ok (.aload_n 0, 1) := by decide +kernel
theorem dX8_dishAhead_19 : decode cX8_dishAhead 19 = .ok (.iconst 0, 1) := by decide +kernel
theorem dX8_dishAhead_20 : decode cX8_dishAhead 20 = .ok (.sipush 1053, 3) := by decide +kernel
theorem dX8_dishAhead_23 : decode cX8_dishAhead 23 = .ok (.invokevirtual 142, 3) := by decide +kernel
theorem dX8_dishAhead_26 : decode cX8_dishAhead 26 = .ok (.aload_n 0, 1) := by decide +kernel
theorem dX8_dishAhead_27 : decode cX8_dishAhead 27 = .ok (.iload_n 2, 1) := by decide +kernel
theorem dX8_dishAhead_28 : decode cX8_dishAhead 28 = .ok (.invokevirtual 213, 3) := by decide +kernel
theorem dX8_dishAhead_31 : decode cX8_dishAhead 31 = .ok (.aload_n 0, 1) := by decide +kernel
theorem dX8_dishAhead_32 : decode cX8_dishAhead 32 = .ok (.getfield 7, 3) := by decide +kernel
theorem dX8_dishAhead_35 : decode cX8_dishAhead 35 = .ok (.sipush 1080, 3) := by decide +kernel
theorem dX8_dishAhead_38 : decode cX8_dishAhead 38 = .ok (.iload_n 1, 1) := by decide +kernel
theorem dX8_dishAhead_39 : decode cX8_dishAhead 39 = .ok (.iadd, 1) := by decide +kernel
theorem dX8_dishAhead_40 : decode cX8_dishAhead 40 = .ok (.iaload, 1) := by decide +kernel
theorem dX8_dishAhead_41 : decode cX8_dishAhead 41 = .ok (.ireturn, 1) := by decide +kernel
theorem dX8_guestAhead_0 : decode cX8_guestAhead 0 = .ok (.aload_n 0, 1) := by decide +kernel
theorem dX8_guestAhead_1 : decode cX8_guestAhead 1 = .ok (.iload_n 1, 1) := by decide +kernel
theorem dX8_guestAhead_2 : decode cX8_guestAhead 2 = .ok (.invokevirtual 194, 3) := by decide +kernel
theorem dX8_guestAhead_5 : decode cX8_guestAhead 5 = .ok (.ifCond .eq 10, 3) := by decide +kernel
theorem dX8_guestAhead_8 : decode cX8_guestAhead 8 = .ok (.iload_n 2, 1) := by decide +kernel
theorem dX8_guestAhead_9 : decode cX8_guestAhead 9 = .ok (.invokestatic 210, 3) := by decide +kernel
theorem dX8_guestAhead_12 : decode cX8_guestAhead 12 = .ok (.ifCond .ne 6, 3) := by decide +kernel
theorem dX8_guestAhead_15 : decode cX8_guestAhead 15 = .ok (.ldc 52, 2) := by decide +kernel
theorem dX8_guestAhead_17 : decode cX8_guestAhead 17 = .ok (.ireturn, 1) := by decide +kernel
theorem dX8_guestAhead_18 : decode cX8_guestAhead 18 = .ok (.aload_n 0, 1) := by decide +kernel
theorem dX8_guestAhead_19 : decode cX8_guestAhead 19 = .ok (.iconst 0, 1) := by decide +kernel
theorem dX8_guestAhead_20 : decode cX8_guestAhead 20 = .ok (.sipush 1053, 3) := by decide +kernel
theorem dX8_guestAhead_23 : decode cX8_guestAhead 23 = .ok (.invokevirtual 142, 3) := by decide +kernel
theorem dX8_guestAhead_26 : decode cX8_guestAhead 26 = .ok (.aload_n 0, 1) := by decide +kernel
theorem dX8_guestAhead_27 : decode cX8_guestAhead 27 = .ok (.iload_n 2, 1) := by decide +kernel
theorem dX8_guestAhead_28 : decode cX8_guestAhead 28 = .ok (.invokevirtual 213, 3) := by decide +kernel
theorem dX8_guestAhead_31 : decode cX8_guestAhead 31 = .ok (.aload_n 0, 1) := by decide +kernel
theorem dX8_guestAhead_32 : decode cX8_guestAhead 32 = .ok (.getfield 7, 3) := by decide +kernel
theorem dX8_guestAhead_35 : decode cX8_guestAhead 35 = .ok (.sipush 1068, 3) := by decide +kernel
theorem dX8_guestAhead_38 : decode cX8_guestAhead 38 = .ok (.iload_n 1, 1) := by decide +kernel
theorem dX8_guestAhead_39 : decode cX8_guestAhead 39 = .ok (.iadd, 1) := by decide +kernel
theorem dX8_guestAhead_40 : decode cX8_guestAhead 40 = .ok (.iaload, 1) := by decide +kernel
theorem dX8_guestAhead_41 : decode cX8_guestAhead 41 = .ok (.aload_n 0, 1) := by decide +kernel
theorem dX8_guestAhead_42 : decode cX8_guestAhead 42 = .ok (.getfield 7, 3) := by decide +kernel
theorem dX8_guestAhead_45 : decode cX8_guestAhead 45 = .ok (.bipush 15, 2) := by decide +kernel
theorem dX8_guestAhead_47 : decode cX8_guestAhead 47 = .ok (.iload_n 1, 1) := by decide +kernel
theorem dX8_guestAhead_48 : decode cX8_guestAhead 48 = .ok (.iadd, 1) := by decide +kernel
theorem dX8_guestAhead_49 : decode cX8_guestAhead 49 = .ok (.iaload, 1) := by decide +kernel
theorem dX8_guestAhead_50 : decode cX8_guestAhead 50 = .ok (.isub, 1) := by decide +kernel
theorem dX8_guestAhead_51 : decode cX8_guestAhead 51 = .ok (.ireturn, 1) := by decide +kernel
theorem dX8_last_0 : decode cX8_last 0 = .ok (.aload_n 0, 1) := by decide +kernel
theorem dX8_last_1 : decode cX8_last 1 = .ok (.iload_n 1, 1) := by decide +kernel
theorem dX8_last_2 : decode cX8_last 2 = .ok (.invokevirtual 194, 3) := by decide +kernel
theorem dX8_last_5 : decode cX8_last 5 = .ok (.ifCond .eq 13, 3) := by decide +kernel
theorem dX8_last_8 : decode cX8_last 8 = .ok (.iload_n 2, 1) := by decide +kernel
theorem dX8_last_9 : decode cX8_last 9 = .ok (.i2l, 1) := by decide +kernel
theorem dX8_last_10 : decode cX8_last 10 = .ok (.lconst 0, 1) := by decide +kernel
theorem dX8_last_11 : decode cX8_last 11 = .ok (.lconst 1, 1) := by decide +kernel
theorem dX8_last_12 : decode cX8_last 12 = .ok (.invokestatic 37, 3) := by decide +kernel
theorem dX8_last_15 : decode cX8_last 15 = .ok (.ifCond .ne 6, 3) := by decide +kernel
theorem dX8_last_18 : decode cX8_last 18 = .ok (.ldc 52, 2) := by decide +kernel
theorem dX8_last_20 : decode cX8_last 20 = .ok (.ireturn, 1) := by decide +kernel
theorem dX8_last_21 : decode cX8_last 21 = .ok (.aload_n 0, 1) := by decide +kernel
theorem dX8_last_22 : decode cX8_last 22 = .ok (.iconst 0, 1) := by decide +kernel
theorem dX8_last_23 : decode cX8_last 23 = .ok (.sipush 1053, 3) := by decide +kernel
theorem dX8_last_26 : decode cX8_last 26 = .ok (.invokevirtual 142, 3) := by decide +kernel
theorem dX8_last_29 : decode cX8_last 29 = .ok (.iconst 1, 1) := by decide +kernel
theorem dX8_last_30 : decode cX8_last 30 = .ok (.istore_n 3, 1) := by decide +kernel
theorem dX8_last_31 : decode cX8_last 31 = .ok (.iload_n 3, 1) := by decide +kernel
theorem dX8_last_32 : decode cX8_last 32 = .ok (.sipush 200, 3) := by decide +kernel
theorem dX8_last_35 : decode cX8_last 35 = .ok (.if_icmp .gt 57, 3) := by decide +kernel
theorem dX8_last_38 : decode cX8_last 38 = .ok (.aload_n 0, 1) := by decide +kernel
theorem dX8_last_39 : decode cX8_last 39 = .ok (.sipush 1053, 3) := by decide +kernel
theorem dX8_last_42 : decode cX8_last 42 = .ok (.invokevirtual 186, 3) := by decide +kernel
theorem dX8_last_45 : decode cX8_last 45 = .ok (.aload_n 0, 1) := by decide +kernel
theorem dX8_last_46 : decode cX8_last 46 = .ok (.getfield 168, 3) := by decide +kernel
theorem dX8_last_49 : decode cX8_last 49 = .ok (.ifCond .le 37, 3) := by decide +kernel
theorem dX8_last_52 : decode cX8_last 52 = .ok (.aload_n 0, 1) := by decide +kernel
theorem dX8_last_53 : decode cX8_last 53 = .ok (.getfield 174, 3) := by decide +kernel
theorem dX8_last_56 : decode cX8_last 56 = .ok (.iload_n 1, 1) := by decide +kernel
theorem dX8_last_57 : decode cX8_last 57 = .ok (.if_icmp .ne 29, 3) := by decide +kernel
theorem dX8_last_60 : decode cX8_last 60 = .ok (.aload_n 0, 1) := by decide +kernel
theorem dX8_last_61 : decode cX8_last 61 = .ok (.getfield 7, 3) := by decide +kernel
theorem dX8_last_64 : decode cX8_last 64 = .ok (.sipush 1080, 3) := by decide +kernel
theorem dX8_last_67 : decode cX8_last 67 = .ok (.iload_n 1, 1) := by decide +kernel
theorem dX8_last_68 : decode cX8_last 68 = .ok (.iadd, 1) := by decide +kernel
theorem dX8_last_69 : decode cX8_last 69 = .ok (.iaload, 1) := by decide +kernel
theorem dX8_last_70 : decode cX8_last 70 = .ok (.ifCond .ne 16, 3) := by decide +kernel
theorem dX8_last_73 : decode cX8_last 73 = .ok (.iload_n 2, 1) := by decide +kernel
theorem dX8_last_74 : decode cX8_last 74 = .ok (.ifCond .ne 10, 3) := by decide +kernel
theorem dX8_last_77 : decode cX8_last 77 = .ok (.aload_n 0, 1) := by decide +kernel
theorem dX8_last_78 : decode cX8_last 78 = .ok (.getfield 171, 3) := by decide +kernel
theorem dX8_last_81 : decode cX8_last 81 = .ok (.goto 4, 3) := by decide +kernel
theorem dX8_last_84 : decode cX8_last 84 = .ok (.iload_n 3, 1) := by decide +kernel
theorem dX8_last_85 : decode cX8_last 85 = .ok (.ireturn, 1) := by decide +kernel
theorem dX8_last_86 : decode cX8_last 86 = .ok (.iinc 3 1, 3) := by decide +kernel
theorem dX8_last_89 : decode cX8_last 89 = .ok (.goto (-58), 3) := by decide +kernel
theorem dX8_last_92 : decode cX8_last 92 = .ok (.ldc 216, 2) := by decide +kernel
theorem dX8_last_94 : decode cX8_last 94 = .ok (.ireturn, 1) := by decide +kernel
theorem dX8_hungry_0 : decode cX8_hungry 0 = .ok (.aload_n 0, 1) := by decide +kernel
theorem dX8_hungry_1 : decode cX8_hungry 1 = .ok (.invokevirtual 177, 3) := by decide +kernel
theorem dX8_hungry_4 : decode cX8_hungry 4 = .ok (.ifCond .eq 6, 3) := by decide +kernel
theorem dX8_hungry_7 : decode cX8_hungry 7 = .ok (.ldc 180, 2) := by decide +kernel
theorem dX8_hungry_9 : decode cX8_hungry 9 = .ok (.ireturn, 1) := by decide +kernel
theorem dX8_hungry_10 : decode cX8_hungry 10 = .ok (.iload_n 1, 1) := by decide +kernel
theorem dX8_hungry_11 : decode cX8_hungry 11 = .ok (.invokestatic 210, 3) := by decide +kernel
theorem dX8_hungry_14 : decode cX8_hungry 14 = .ok (.ifCond .ne 6, 3) := by decide +kernel
theorem dX8_hungry_17 : decode cX8_hungry 17 = .ok (.ldc 52, 2) := by decide +kernel
theorem dX8_hungry_19 : decode cX8_hungry 19 = .ok (.ireturn, 1) := by decide +kernel
theorem dX8_hungry_20 : decode cX8_hungry 20 = .ok (.aload_n 0, 1) := by decide +kernel
theorem dX8_hungry_21 : decode cX8_hungry 21 = .ok (.iconst 0, 1) := by decide +kernel
theorem dX8_hungry_22 : decode cX8_hungry 22 = .ok (.sipush 1053, 3) := by decide +kernel
theorem dX8_hungry_25 : decode cX8_hungry 25 = .ok (.invokevirtual 142, 3) := by decide +kernel
theorem dX8_hungry_28 : decode cX8_hungry 28 = .ok (.aload_n 0, 1) := by decide +kernel
theorem dX8_hungry_29 : decode cX8_hungry 29 = .ok (.iload_n 1, 1) := by decide +kernel
theorem dX8_hungry_30 : decode cX8_hungry 30 = .ok (.invokevirtual 213, 3) := by decide +kernel
theorem dX8_hungry_33 : decode cX8_hungry 33 = .ok (.iconst 0, 1) := by decide +kernel
theorem dX8_hungry_34 : decode cX8_hungry 34 = .ok (.istore_n 2, 1) := by decide +kernel
theorem dX8_hungry_35 : decode cX8_hungry 35 = .ok (.iconst 0, 1) := by decide +kernel
theorem dX8_hungry_36 : decode cX8_hungry 36 = .ok (.istore_n 3, 1) := by decide +kernel
theorem dX8_hungry_37 : decode cX8_hungry 37 = .ok (.iload_n 3, 1) := by decide +kernel
theorem dX8_hungry_38 : decode cX8_hungry 38 = .ok (.aload_n 0, 1) := by decide +kernel
theorem dX8_hungry_39 : decode cX8_hungry 39 = .ok (.getfield 7, 3) := by decide +kernel
theorem dX8_hungry_42 : decode cX8_hungry 42 = .ok (.iconst 0, 1) := by decide +kernel
theorem dX8_hungry_43 : decode cX8_hungry 43 = .ok (.iaload, 1) := by decide +kernel
theorem dX8_hungry_44 : decode cX8_hungry 44 = .ok (.if_icmp .ge 32, 3) := by decide +kernel
theorem dX8_hungry_47 : decode cX8_hungry 47 = .ok (.iload_n 2, 1) := by decide +kernel
theorem dX8_hungry_48 : decode cX8_hungry 48 = .ok (.aload_n 0, 1) := by decide +kernel
theorem dX8_hungry_49 : decode cX8_hungry 49 = .ok (.getfield 7, 3) := by decide +kernel
theorem dX8_hungry_52 : decode cX8_hungry 52 = .ok (.sipush 1068, 3) := by decide +kernel
theorem dX8_hungry_55 : decode cX8_hungry 55 = .ok (.iload_n 3, 1) := by decide +kernel
theorem dX8_hungry_56 : decode cX8_hungry 56 = .ok (.iadd, 1) := by decide +kernel
theorem dX8_hungry_57 : decode cX8_hungry 57 = .ok (.iaload, 1) := by decide +kernel
theorem dX8_hungry_58 : decode cX8_hungry 58 = .ok (.ifCond .ne 9, 3) := by decide +kernel
theorem dX8_hungry_61 : decode cX8_hungry 61 = .ok (.iconst 1, 1) := by decide +kernel
theorem dX8_hungry_62 : decode cX8_hungry 62 = .ok (.iload_n 3, 1) := by decide +kernel
theorem dX8_hungry_63 : decode cX8_hungry 63 = .ok (.ishl, 1) := by decide +kernel
theorem dX8_hungry_64 : decode cX8_hungry 64 = .ok (.goto 4, 3) := by decide +kernel
theorem dX8_hungry_67 : decode cX8_hungry 67 = .ok (.iconst 0, 1) := by decide +kernel
theorem dX8_hungry_68 : decode cX8_hungry 68 = .ok (.ior, 1) := by decide +kernel
theorem dX8_hungry_69 : decode cX8_hungry 69 = .ok (.istore_n 2, 1) := by decide +kernel
theorem dX8_hungry_70 : decode cX8_hungry 70 = .ok (.iinc 3 1, 3) := by decide +kernel
theorem dX8_hungry_73 : decode cX8_hungry 73 = .ok (.goto (-36), 3) := by decide +kernel
theorem dX8_hungry_76 : decode cX8_hungry 76 = .ok (.iload_n 2, 1) := by decide +kernel
theorem dX8_hungry_77 : decode cX8_hungry 77 = .ok (.ireturn, 1) := by decide +kernel
theorem dX8_rest_0 : decode cX8_rest 0 = .ok (.aload_n 0, 1) := by decide +kernel
theorem dX8_rest_1 : decode cX8_rest 1 = .ok (.invokevirtual 177, 3) := by decide +kernel
theorem dX8_rest_4 : decode cX8_rest 4 = .ok (.ifCond .eq 6, 3) := by decide +kernel
theorem dX8_rest_7 : decode cX8_rest 7 = .ok (.ldc 180, 2) := by decide +kernel
theorem dX8_rest_9 : decode cX8_rest 9 = .ok (.ireturn, 1) := by decide +kernel
theorem dX8_rest_10 : decode cX8_rest 10 = .ok (.aload_n 0, 1) := by decide +kernel
theorem dX8_rest_11 : decode cX8_rest 11 = .ok (.iconst 0, 1) := by decide +kernel
theorem dX8_rest_12 : decode cX8_rest 12 = .ok (.sipush 1053, 3) := by decide +kernel
theorem dX8_rest_15 : decode cX8_rest 15 = .ok (.invokevirtual 142, 3) := by decide +kernel
theorem dX8_rest_18 : decode cX8_rest 18 = .ok (.iconst 0, 1) := by decide +kernel
theorem dX8_rest_19 : decode cX8_rest 19 = .ok (.istore_n 1, 1) := by decide +kernel
theorem dX8_rest_20 : decode cX8_rest 20 = .ok (.iconst 1, 1) := by decide +kernel
theorem dX8_rest_21 : decode cX8_rest 21 = .ok (.istore_n 2, 1) := by decide +kernel
theorem dX8_rest_22 : decode cX8_rest 22 = .ok (.iload_n 2, 1) := by decide +kernel
theorem dX8_rest_23 : decode cX8_rest 23 = .ok (.sipush 200, 3) := by decide +kernel
theorem dX8_rest_26 : decode cX8_rest 26 = .ok (.aload_n 0, 1) := by decide +kernel
theorem dX8_rest_27 : decode cX8_rest 27 = .ok (.getfield 7, 3) := by decide +kernel
theorem dX8_rest_30 : decode cX8_rest 30 = .ok (.iconst 0, 1) := by decide +kernel
theorem dX8_rest_31 : decode cX8_rest 31 = .ok (.iaload, 1) := by decide +kernel
theorem dX8_rest_32 : decode cX8_rest 32 = .ok (.iadd, 1) := by decide +kernel
theorem dX8_rest_33 : decode cX8_rest 33 = .ok (.if_icmp .gt 57, 3) := by decide +kernel
theorem dX8_rest_36 : decode cX8_rest 36 = .ok (.aload_n 0, 1) := by decide +kernel
theorem dX8_rest_37 : decode cX8_rest 37 = .ok (.sipush 1053, 3) := by decide +kernel
theorem dX8_rest_40 : decode cX8_rest 40 = .ok (.invokevirtual 186, 3) := by decide +kernel
theorem dX8_rest_43 : decode cX8_rest 43 = .ok (.aload_n 0, 1) := by decide +kernel
theorem dX8_rest_44 : decode cX8_rest 44 = .ok (.getfield 149, 3) := by decide +kernel
theorem dX8_rest_47 : decode cX8_rest 47 = .ok (.ifCond .ne 16, 3) := by decide +kernel
theorem dX8_rest_50 : decode cX8_rest 50 = .ok (.aload_n 0, 1) := by decide +kernel
theorem dX8_rest_51 : decode cX8_rest 51 = .ok (.getfield 168, 3) := by decide +kernel
theorem dX8_rest_54 : decode cX8_rest 54 = .ok (.ifCond .ne 9, 3) := by decide +kernel
theorem dX8_rest_57 : decode cX8_rest 57 = .ok (.iload_n 1, 1) := by decide +kernel
theorem dX8_rest_58 : decode cX8_rest 58 = .ok (.iconst 1, 1) := by decide +kernel
theorem dX8_rest_59 : decode cX8_rest 59 = .ok (.iadd, 1) := by decide +kernel
theorem dX8_rest_60 : decode cX8_rest 60 = .ok (.goto 4, 3) := by decide +kernel
theorem dX8_rest_63 : decode cX8_rest 63 = .ok (.iconst 0, 1) := by decide +kernel
theorem dX8_rest_64 : decode cX8_rest 64 = .ok (.istore_n 1, 1) := by decide +kernel
theorem dX8_rest_65 : decode cX8_rest 65 = .ok (.iload_n 1, 1) := by decide +kernel
theorem dX8_rest_66 : decode cX8_rest 66 = .ok (.aload_n 0, 1) := by decide +kernel
theorem dX8_rest_67 : decode cX8_rest 67 = .ok (.getfield 7, 3) := by decide +kernel
theorem dX8_rest_70 : decode cX8_rest 70 = .ok (.iconst 0, 1) := by decide +kernel
theorem dX8_rest_71 : decode cX8_rest 71 = .ok (.iaload, 1) := by decide +kernel
theorem dX8_rest_72 : decode cX8_rest 72 = .ok (.if_icmp .ne 12, 3) := by decide +kernel
theorem dX8_rest_75 : decode cX8_rest 75 = .ok (.iload_n 2, 1) := by decide +kernel
theorem dX8_rest_76 : decode cX8_rest 76 = .ok (.aload_n 0, 1) := by decide +kernel
theorem dX8_rest_77 : decode cX8_rest 77 = .ok (.getfield 7, 3) := by decide +kernel
theorem dX8_rest_80 : decode cX8_rest 80 = .ok (.iconst 0, 1) := by decide +kernel
theorem dX8_rest_81 : decode cX8_rest 81 = .ok (.iaload, 1) := by decide +kernel
theorem dX8_rest_82 : decode cX8_rest 82 = .ok (.isub, 1) := by decide +kernel
theorem dX8_rest_83 : decode cX8_rest 83 = .ok (.ireturn, 1) := by decide +kernel
theorem dX8_rest_84 : decode cX8_rest 84 = .ok (.iinc 2 1, 3) := by decide +kernel
theorem dX8_rest_87 : decode cX8_rest 87 = .ok (.goto (-65), 3) := by decide +kernel
theorem dX8_rest_90 : decode cX8_rest 90 = .ok (.ldc 216, 2) := by decide +kernel
theorem dX8_rest_92 : decode cX8_rest 92 = .ok (.ireturn, 1) := by decide +kernel
theorem dX8_served_0 : decode cX8_served 0 = .ok (.aload_n 0, 1) := by decide +kernel
theorem dX8_served_1 : decode cX8_served 1 = .ok (.invokevirtual 177, 3) := by decide +kernel
theorem dX8_served_4 : decode cX8_served 4 = .ok (.ifCond .eq 6, 3) := by decide +kernel
theorem dX8_served_7 : decode cX8_served 7 = .ok (.ldc 180, 2) := by decide +kernel
theorem dX8_served_9 : decode cX8_served 9 = .ok (.ireturn, 1) := by decide +kernel
theorem dX8_served_10 : decode cX8_served 10 = .ok (.aload_n 0, 1) := by decide +kernel
theorem dX8_served_11 : decode cX8_served 11 = .ok (.getfield 7, 3) := by decide +kernel
theorem dX8_served_14 : decode cX8_served 14 = .ok (.iconst 0, 1) := by decide +kernel
theorem dX8_served_15 : decode cX8_served 15 = .ok (.iaload, 1) := by decide +kernel
theorem dX8_served_16 : decode cX8_served 16 = .ok (.istore_n 1, 1) := by decide +kernel
theorem dX8_served_17 : decode cX8_served 17 = .ok (.ldc 217, 2) := by decide +kernel
theorem dX8_served_19 : decode cX8_served 19 = .ok (.istore_n 2, 1) := by decide +kernel
theorem dX8_served_20 : decode cX8_served 20 = .ok (.iconst 0, 1) := by decide +kernel
theorem dX8_served_21 : decode cX8_served 21 = .ok (.istore_n 3, 1) := by decide +kernel
theorem dX8_served_22 : decode cX8_served 22 = .ok (.iload_n 3, 1) := by decide +kernel
theorem dX8_served_23 : decode cX8_served 23 = .ok (.iload_n 1, 1) := by decide +kernel
theorem dX8_served_24 : decode cX8_served 24 = .ok (.if_icmp .ge 133, 3) := by decide +kernel
theorem dX8_served_27 : decode cX8_served 27 = .ok (.iconst 0, 1) := by decide +kernel
theorem dX8_served_28 : decode cX8_served 28 = .ok (.istore 4, 2) := by decide +kernel
theorem dX8_served_30 : decode cX8_served 30 = .ok (.iload 4, 2) := by decide +kernel
theorem dX8_served_32 : decode cX8_served 32 = .ok (.iload_n 1, 1) := by decide +kernel
theorem dX8_served_33 : decode cX8_served 33 = .ok (.if_icmp .ge 118, 3) := by decide +kernel
theorem dX8_served_36 : decode cX8_served 36 = .ok (.iconst 1, 1) := by decide +kernel
theorem dX8_served_37 : decode cX8_served 37 = .ok (.istore 5, 2) := by decide +kernel
theorem dX8_served_39 : decode cX8_served 39 = .ok (.iconst 0, 1) := by decide +kernel
theorem dX8_served_40 : decode cX8_served 40 = .ok (.istore 6, 2) := by decide +kernel
theorem dX8_served_42 : decode cX8_served 42 = .ok (.iload 6, 2) := by decide +kernel
theorem dX8_served_44 : decode cX8_served 44 = .ok (.iload_n 1, 1) := by decide +kernel
theorem dX8_served_45 : decode cX8_served 45 = .ok (.if_icmp .ge 63, 3) := by decide +kernel
theorem dX8_served_48 : decode cX8_served 48 = .ok (.aload_n 0, 1) := by decide +kernel
theorem dX8_served_49 : decode cX8_served 49 = .ok (.getfield 7, 3) := by decide +kernel
theorem dX8_served_52 : decode cX8_served 52 = .ok (.bipush 9, 2) := by decide +kernel
theorem dX8_served_54 : decode cX8_served 54 = .ok (.iload 6, 2) := by decide +kernel
theorem dX8_served_56 : decode cX8_served 56 = .ok (.iadd, 1) := by decide +kernel
theorem dX8_served_57 : decode cX8_served 57 = .ok (.iaload, 1) := by decide +kernel
theorem dX8_served_58 : decode cX8_served 58 = .ok (.iload_n 1, 1) := by decide +kernel
theorem dX8_served_59 : decode cX8_served 59 = .ok (.if_icmp .ge 13, 3) := by decide +kernel
theorem dX8_served_62 : decode cX8_served 62 = .ok (.aload_n 0, 1) := by decide +kernel
theorem dX8_served_63 : decode cX8_served 63 = .ok (.iconst 0, 1) := by decide +kernel
theorem dX8_served_64 : decode cX8_served 64 = .ok (.iload 6, 2) := by decide +kernel
theorem dX8_served_66 : decode cX8_served 66 = .ok (.invokevirtual 155, 3) := by decide +kernel
theorem dX8_served_69 : decode cX8_served 69 = .ok (.goto 4, 3) := by decide +kernel
theorem dX8_served_72 : decode cX8_served 72 = .ok (.iconst 0, 1) := by decide +kernel
theorem dX8_served_73 : decode cX8_served 73 = .ok (.istore 7, 2) := by decide +kernel
theorem dX8_served_75 : decode cX8_served 75 = .ok (.iload 5, 2) := by decide +kernel
theorem dX8_served_77 : decode cX8_served 77 = .ok (.ifCond .eq 22, 3) := by decide +kernel
theorem dX8_served_80 : decode cX8_served 80 = .ok (.iload 7, 2) := by decide +kernel
theorem dX8_served_82 : decode cX8_served 82 = .ok (.iload_n 3, 1) := by decide +kernel
theorem dX8_served_83 : decode cX8_served 83 = .ok (.if_icmp .le 12, 3) := by decide +kernel
theorem dX8_served_86 : decode cX8_served 86 = .ok (.iload_n 1, 1) := by decide +kernel
theorem dX8_served_87 : decode cX8_served 87 = .ok (.iload 7, 2) := by decide +kernel
theorem dX8_served_89 : decode cX8_served 89 = .ok (.isub, 1) := by decide +kernel
theorem dX8_served_90 : decode cX8_served 90 = .ok (.iload 4, 2) := by decide +kernel
theorem dX8_served_92 : decode cX8_served 92 = .ok (.if_icmp .gt 7, 3) := by decide +kernel
theorem dX8_served_95 : decode cX8_served 95 = .ok (.iconst 1, 1) := by decide +kernel
theorem dX8_served_96 : decode cX8_served 96 = .ok (.goto 4, 3) := by decide +kernel
theorem dX8_served_99 : decode cX8_served 99 = .ok (.iconst 0, 1) := by decide +kernel
theorem dX8_served_100 : decode cX8_served 100 = .ok (.istore 5, 2) := by decide +kernel
theorem dX8_served_102 : decode cX8_served 102 = .ok (.iinc 6 1, 3) := by decide +kernel
theorem dX8_served_105 : decode cX8_served 105 = .ok (.goto (-63), 3) := by decide +kernel
theorem dX8_served_108 : decode cX8_served 108 = .ok (.iload_n 3, 1) := by decide +kernel
theorem dX8_served_109 : decode cX8_served 109 = .ok (.iload 4, 2) := by decide +kernel
theorem dX8_served_111 : decode cX8_served 111 = .ok (.iadd, 1) := by decide +kernel
theorem dX8_served_112 : decode cX8_served 112 = .ok (.iload_n 3, 1) := by decide +kernel
theorem dX8_served_113 : decode cX8_served 113 = .ok (.iload 4, 2) := by decide +kernel
theorem dX8_served_115 : decode cX8_served 115 = .ok (.if_icmp .ge 7, 3) := by decide +kernel
theorem dX8_served_118 : decode cX8_served 118 = .ok (.iload_n 3, 1) := by decide +kernel
theorem dX8_served_119 : decode cX8_served 119 = .ok (.goto 5, 3) := by decide +kernel
theorem dX8_served_122 : decode cX8_served 122 = .ok (.iload 4, 2) := by decide +kernel
theorem dX8_served_124 : decode cX8_served 124 = .ok (.iadd, 1) := by decide +kernel
theorem dX8_served_125 : decode cX8_served 125 = .ok (.istore 6, 2) := by decide +kernel
theorem dX8_served_127 : decode cX8_served 127 = .ok (.iload 5, 2) := by decide +kernel
theorem dX8_served_129 : decode cX8_served 129 = .ok (.ifCond .eq 14, 3) := by decide +kernel
theorem dX8_served_132 : decode cX8_served 132 = .ok (.iload 6, 2) := by decide +kernel
theorem dX8_served_134 : decode cX8_served 134 = .ok (.iload_n 2, 1) := by decide +kernel
theorem dX8_served_135 : decode cX8_served 135 = .ok (.if_icmp .ge 8, 3) := by decide +kernel
theorem dX8_served_138 : decode cX8_served 138 = .ok (.iload 6, 2) := by decide +kernel
theorem dX8_served_140 : decode cX8_served 140 = .ok (.goto 4, 3) := by decide +kernel
theorem dX8_served_143 : decode cX8_served 143 = .ok (.iload_n 2, 1) := by decide +kernel
theorem dX8_served_144 : decode cX8_served 144 = .ok (.istore_n 2, 1) := by decide +kernel
theorem dX8_served_145 : decode cX8_served 145 = .ok (.iinc 4 1, 3) := by decide +kernel
theorem dX8_served_148 : decode cX8_served 148 = .ok (.goto (-118), 3) := by decide +kernel
theorem dX8_served_151 : decode cX8_served 151 = .ok (.iinc 3 1, 3) := by decide +kernel
theorem dX8_served_154 : decode cX8_served 154 = .ok (.goto (-132), 3) := by decide +kernel
theorem dX8_served_157 : decode cX8_served 157 = .ok (.iload_n 2, 1) := by decide +kernel
theorem dX8_served_158 : decode cX8_served 158 = .ok (.ireturn, 1) := by decide +kernel
theorem dX8_laysBy_0 : decode cX8_laysBy 0 = .ok (.iconst 0, 1) := by decide +kernel
theorem dX8_laysBy_1 : decode cX8_laysBy 1 = .ok (.istore_n 2, 1) := by decide +kernel
theorem dX8_laysBy_2 : decode cX8_laysBy 2 = .ok (.iload_n 1, 1) := by decide +kernel
theorem dX8_laysBy_3 : decode cX8_laysBy 3 = .ok (.istore_n 3, 1) := by decide +kernel
theorem dX8_laysBy_4 : decode cX8_laysBy 4 = .ok (.aload_n 0, 1) := by decide +kernel
theorem dX8_laysBy_5 : decode cX8_laysBy 5 = .ok (.getfield 7, 3) := by decide +kernel
theorem dX8_laysBy_8 : decode cX8_laysBy 8 = .ok (.iconst 0, 1) := by decide +kernel
theorem dX8_laysBy_9 : decode cX8_laysBy 9 = .ok (.iaload, 1) := by decide +kernel
theorem dX8_laysBy_10 : decode cX8_laysBy 10 = .ok (.iconst 1, 1) := by decide +kernel
theorem dX8_laysBy_11 : decode cX8_laysBy 11 = .ok (.isub, 1) := by decide +kernel
theorem dX8_laysBy_12 : decode cX8_laysBy 12 = .ok (.istore 4, 2) := by decide +kernel
theorem dX8_laysBy_14 : decode cX8_laysBy 14 = .ok (.iload 4, 2) := by decide +kernel
theorem dX8_laysBy_16 : decode cX8_laysBy 16 = .ok (.ifCond .lt 50, 3) := by decide +kernel
theorem dX8_laysBy_19 : decode cX8_laysBy 19 = .ok (.aload_n 0, 1) := by decide +kernel
theorem dX8_laysBy_20 : decode cX8_laysBy 20 = .ok (.getfield 7, 3) := by decide +kernel
theorem dX8_laysBy_23 : decode cX8_laysBy 23 = .ok (.sipush 1086, 3) := by decide +kernel
theorem dX8_laysBy_26 : decode cX8_laysBy 26 = .ok (.iload 4, 2) := by decide +kernel
theorem dX8_laysBy_28 : decode cX8_laysBy 28 = .ok (.iadd, 1) := by decide +kernel
theorem dX8_laysBy_29 : decode cX8_laysBy 29 = .ok (.iload_n 3, 1) := by decide +kernel
theorem dX8_laysBy_30 : decode cX8_laysBy 30 = .ok (.aload_n 0, 1) := by decide +kernel
theorem dX8_laysBy_31 : decode cX8_laysBy 31 = .ok (.getfield 7, 3) := by decide +kernel
theorem dX8_laysBy_34 : decode cX8_laysBy 34 = .ok (.iconst 0, 1) := by decide +kernel
theorem dX8_laysBy_35 : decode cX8_laysBy 35 = .ok (.iaload, 1) := by decide +kernel
theorem dX8_laysBy_36 : decode cX8_laysBy 36 = .ok (.irem, 1) := by decide +kernel
theorem dX8_laysBy_37 : decode cX8_laysBy 37 = .ok (.iastore, 1) := by decide +kernel
theorem dX8_laysBy_38 : decode cX8_laysBy 38 = .ok (.iload_n 2, 1) := by decide +kernel
theorem dX8_laysBy_39 : decode cX8_laysBy 39 = .ok (.iconst 1, 1) := by decide +kernel
theorem dX8_laysBy_40 : decode cX8_laysBy 40 = .ok (.iload_n 3, 1) := by decide +kernel
theorem dX8_laysBy_41 : decode cX8_laysBy 41 = .ok (.aload_n 0, 1) := by decide +kernel
theorem dX8_laysBy_42 : decode cX8_laysBy 42 = .ok (.getfield 7, 3) := by decide +kernel
theorem dX8_laysBy_45 : decode cX8_laysBy 45 = .ok (.iconst 0, 1) := by decide +kernel
theorem dX8_laysBy_46 : decode cX8_laysBy 46 = .ok (.iaload, 1) := by decide +kernel
theorem dX8_laysBy_47 : decode cX8_laysBy 47 = .ok (.irem, 1) := by decide +kernel
theorem dX8_laysBy_48 : decode cX8_laysBy 48 = .ok (.ishl, 1) := by decide +kernel
theorem dX8_laysBy_49 : decode cX8_laysBy 49 = .ok (.ior, 1) := by decide +kernel
theorem dX8_laysBy_50 : decode cX8_laysBy 50 = .ok (.istore_n 2, 1) := by decide +kernel
theorem dX8_laysBy_51 : decode cX8_laysBy 51 = .ok (.iload_n 3, 1) := by decide +kernel
theorem dX8_laysBy_52 : decode cX8_laysBy 52 = .ok (.aload_n 0, 1) := by decide +kernel
theorem dX8_laysBy_53 : decode cX8_laysBy 53 = .ok (.getfield 7, 3) := by decide +kernel
theorem dX8_laysBy_56 : decode cX8_laysBy 56 = .ok (.iconst 0, 1) := by decide +kernel
theorem dX8_laysBy_57 : decode cX8_laysBy 57 = .ok (.iaload, 1) := by decide +kernel
theorem dX8_laysBy_58 : decode cX8_laysBy 58 = .ok (.idiv, 1) := by decide +kernel
theorem dX8_laysBy_59 : decode cX8_laysBy 59 = .ok (.istore_n 3, 1) := by decide +kernel
theorem dX8_laysBy_60 : decode cX8_laysBy 60 = .ok (.iinc 4 (-1), 3) := by decide +kernel
theorem dX8_laysBy_63 : decode cX8_laysBy 63 = .ok (.goto (-49), 3) := by decide +kernel
theorem dX8_laysBy_66 : decode cX8_laysBy 66 = .ok (.iload_n 2, 1) := by decide +kernel
theorem dX8_laysBy_67 : decode cX8_laysBy 67 = .ok (.iconst 1, 1) := by decide +kernel
theorem dX8_laysBy_68 : decode cX8_laysBy 68 = .ok (.aload_n 0, 1) := by decide +kernel
theorem dX8_laysBy_69 : decode cX8_laysBy 69 = .ok (.getfield 7, 3) := by decide +kernel
theorem dX8_laysBy_72 : decode cX8_laysBy 72 = .ok (.iconst 0, 1) := by decide +kernel
theorem dX8_laysBy_73 : decode cX8_laysBy 73 = .ok (.iaload, 1) := by decide +kernel
theorem dX8_laysBy_74 : decode cX8_laysBy 74 = .ok (.ishl, 1) := by decide +kernel
theorem dX8_laysBy_75 : decode cX8_laysBy 75 = .ok (.iconst 1, 1) := by decide +kernel
theorem dX8_laysBy_76 : decode cX8_laysBy 76 = .ok (.isub, 1) := by decide +kernel
theorem dX8_laysBy_77 : decode cX8_laysBy 77 = .ok (.if_icmp .ne 7, 3) := by decide +kernel
theorem dX8_laysBy_80 : decode cX8_laysBy 80 = .ok (.iconst 1, 1) := by decide +kernel
theorem dX8_laysBy_81 : decode cX8_laysBy 81 = .ok (.goto 4, 3) := by decide +kernel
theorem dX8_laysBy_84 : decode cX8_laysBy 84 = .ok (.iconst 0, 1) := by decide +kernel
theorem dX8_laysBy_85 : decode cX8_laysBy 85 = .ok (.ireturn, 1) := by decide +kernel
theorem dX8_laid_0 : decode cX8_laid 0 = .ok (.aload_n 0, 1) := by decide +kernel
theorem dX8_laid_1 : decode cX8_laid 1 = .ok (.invokevirtual 177, 3) := by decide +kernel
theorem dX8_laid_4 : decode cX8_laid 4 = .ok (.ifCond .eq 6, 3) := by decide +kernel
theorem dX8_laid_7 : decode cX8_laid 7 = .ok (.ldc 180, 2) := by decide +kernel
theorem dX8_laid_9 : decode cX8_laid 9 = .ok (.ireturn, 1) := by decide +kernel
theorem dX8_laid_10 : decode cX8_laid 10 = .ok (.iload_n 1, 1) := by decide +kernel
theorem dX8_laid_11 : decode cX8_laid 11 = .ok (.i2l, 1) := by decide +kernel
theorem dX8_laid_12 : decode cX8_laid 12 = .ok (.lconst 1, 1) := by decide +kernel
theorem dX8_laid_13 : decode cX8_laid 13 = .ok (.ldc2_w 218, 3) := by decide +kernel
theorem dX8_laid_16 : decode cX8_laid 16 = .ok (.invokestatic 37, 3) := by decide +kernel
theorem dX8_laid_19 : decode cX8_laid 19 = .ok (.ifCond .eq 23, 3) := by decide +kernel
theorem dX8_laid_22 : decode cX8_laid 22 = .ok (.iload_n 2, 1) := by decide +kernel
theorem dX8_laid_23 : decode cX8_laid 23 = .ok (.i2l, 1) := by decide +kernel
theorem dX8_laid_24 : decode cX8_laid 24 = .ok (.ldc2_w 220, 3) := by decide +kernel
theorem dX8_laid_27 : decode cX8_laid 27 = .ok (.aload_n 0, 1) := by decide +kernel
theorem dX8_laid_28 : decode cX8_laid 28 = .ok (.getfield 7, 3) := by decide +kernel
theorem dX8_laid_31 : decode cX8_laid 31 = .ok (.iconst 0, 1) := by decide +kernel
theorem dX8_laid_32 : decode cX8_laid 32 = .ok (.iaload, 1) := by decide +kernel
theorem dX8_laid_33 : decode cX8_laid 33 = .ok (.iconst 1, 1) := by decide +kernel
theorem dX8_laid_34 : decode cX8_laid 34 = .ok (.isub, 1) := by decide +kernel
theorem dX8_laid_35 : decode cX8_laid 35 = .ok (.i2l, 1) := by decide +kernel
theorem dX8_laid_36 : decode cX8_laid 36 = .ok (.invokestatic 37, 3) := by decide +kernel
theorem dX8_laid_39 : decode cX8_laid 39 = .ok (.ifCond .ne 6, 3) := by decide +kernel
theorem dX8_laid_42 : decode cX8_laid 42 = .ok (.ldc 52, 2) := by decide +kernel
theorem dX8_laid_44 : decode cX8_laid 44 = .ok (.ireturn, 1) := by decide +kernel
theorem dX8_laid_45 : decode cX8_laid 45 = .ok (.iconst 1, 1) := by decide +kernel
theorem dX8_laid_46 : decode cX8_laid 46 = .ok (.istore_n 3, 1) := by decide +kernel
theorem dX8_laid_47 : decode cX8_laid 47 = .ok (.iconst 0, 1) := by decide +kernel
theorem dX8_laid_48 : decode cX8_laid 48 = .ok (.istore 4, 2) := by decide +kernel
theorem dX8_laid_50 : decode cX8_laid 50 = .ok (.iload 4, 2) := by decide +kernel
theorem dX8_laid_52 : decode cX8_laid 52 = .ok (.aload_n 0, 1) := by decide +kernel
theorem dX8_laid_53 : decode cX8_laid 53 = .ok (.getfield 7, 3) := by decide +kernel
theorem dX8_laid_56 : decode cX8_laid 56 = .ok (.iconst 0, 1) := by decide +kernel
theorem dX8_laid_57 : decode cX8_laid 57 = .ok (.iaload, 1) := by decide +kernel
theorem dX8_laid_58 : decode cX8_laid 58 = .ok (.if_icmp .ge 18, 3) := by decide +kernel
theorem dX8_laid_61 : decode cX8_laid 61 = .ok (.iload_n 3, 1) := by decide +kernel
theorem dX8_laid_62 : decode cX8_laid 62 = .ok (.aload_n 0, 1) := by decide +kernel
theorem dX8_laid_63 : decode cX8_laid 63 = .ok (.getfield 7, 3) := by decide +kernel
theorem dX8_laid_66 : decode cX8_laid 66 = .ok (.iconst 0, 1) := by decide +kernel
theorem dX8_laid_67 : decode cX8_laid 67 = .ok (.iaload, 1) := by decide +kernel
theorem dX8_laid_68 : decode cX8_laid 68 = .ok (.imul, 1) := by decide +kernel
theorem dX8_laid_69 : decode cX8_laid 69 = .ok (.istore_n 3, 1) := by decide +kernel
theorem dX8_laid_70 : decode cX8_laid 70 = .ok (.iinc 4 1, 3) := by decide +kernel
theorem dX8_laid_73 : decode cX8_laid 73 = .ok (.goto (-23), 3) := by decide +kernel
theorem dX8_laid_76 : decode cX8_laid 76 = .ok (.ldc 217, 2) := by decide +kernel
theorem dX8_laid_78 : decode cX8_laid 78 = .ok (.istore 4, 2) := by decide +kernel
theorem dX8_laid_80 : decode cX8_laid 80 = .ok (.iconst 0, 1) := by decide +kernel
theorem dX8_laid_81 : decode cX8_laid 81 = .ok (.istore 5, 2) := by decide +kernel
theorem dX8_laid_83 : decode cX8_laid 83 = .ok (.iconst 0, 1) := by decide +kernel
theorem dX8_laid_84 : decode cX8_laid 84 = .ok (.istore 6, 2) := by decide +kernel
theorem dX8_laid_86 : decode cX8_laid 86 = .ok (.iload 6, 2) := by decide +kernel
theorem dX8_laid_88 : decode cX8_laid 88 = .ok (.iload_n 3, 1) := by decide +kernel
theorem dX8_laid_89 : decode cX8_laid 89 = .ok (.if_icmp .ge 69, 3) := by decide +kernel
theorem dX8_laid_92 : decode cX8_laid 92 = .ok (.aload_n 0, 1) := by decide +kernel
theorem dX8_laid_93 : decode cX8_laid 93 = .ok (.iconst 0, 1) := by decide +kernel
theorem dX8_laid_94 : decode cX8_laid 94 = .ok (.sipush 1053, 3) := by decide +kernel
theorem dX8_laid_97 : decode cX8_laid 97 = .ok (.invokevirtual 142, 3) := by decide +kernel
theorem dX8_laid_100 : decode cX8_laid 100 = .ok (.aload_n 0, 1) := by decide +kernel
theorem dX8_laid_101 : decode cX8_laid 101 = .ok (.iload 6, 2) := by decide +kernel
theorem dX8_laid_103 : decode cX8_laid 103 = .ok (.invokevirtual 222, 3) := by decide +kernel
theorem dX8_laid_106 : decode cX8_laid 106 = .ok (.ifCond .eq 46, 3) := by decide +kernel
theorem dX8_laid_109 : decode cX8_laid 109 = .ok (.aload_n 0, 1) := by decide +kernel
theorem dX8_laid_110 : decode cX8_laid 110 = .ok (.iload_n 1, 1) := by decide +kernel
theorem dX8_laid_111 : decode cX8_laid 111 = .ok (.invokevirtual 213, 3) := by decide +kernel
theorem dX8_laid_114 : decode cX8_laid 114 = .ok (.aload_n 0, 1) := by decide +kernel
theorem dX8_laid_115 : decode cX8_laid 115 = .ok (.getfield 205, 3) := by decide +kernel
theorem dX8_laid_118 : decode cX8_laid 118 = .ok (.iload 4, 2) := by decide +kernel
theorem dX8_laid_120 : decode cX8_laid 120 = .ok (.if_icmp .ge 8, 3) := by decide +kernel
theorem dX8_laid_123 : decode cX8_laid 123 = .ok (.iload 6, 2) := by decide +kernel
theorem dX8_laid_125 : decode cX8_laid 125 = .ok (.goto 5, 3) := by decide +kernel
theorem dX8_laid_128 : decode cX8_laid 128 = .ok (.iload 5, 2) := by decide +kernel
theorem dX8_laid_130 : decode cX8_laid 130 = .ok (.istore 5, 2) := by decide +kernel
theorem dX8_laid_132 : decode cX8_laid 132 = .ok (.aload_n 0, 1) := by decide +kernel
theorem dX8_laid_133 : decode cX8_laid 133 = .ok (.getfield 205, 3) := by decide +kernel
theorem dX8_laid_136 : decode cX8_laid 136 = .ok (.iload 4, 2) := by decide +kernel
theorem dX8_laid_138 : decode cX8_laid 138 = .ok (.if_icmp .ge 10, 3) := by decide +kernel
theorem dX8_laid_141 : decode cX8_laid 141 = .ok (.aload_n 0, 1) := by decide +kernel
theorem dX8_laid_142 : decode cX8_laid 142 = .ok (.getfield 205, 3) := by decide +kernel
theorem dX8_laid_145 : decode cX8_laid 145 = .ok (.goto 5, 3) := by decide +kernel
theorem dX8_laid_148 : decode cX8_laid 148 = .ok (.iload 4, 2) := by decide +kernel
theorem dX8_laid_150 : decode cX8_laid 150 = .ok (.istore 4, 2) := by decide +kernel
theorem dX8_laid_152 : decode cX8_laid 152 = .ok (.iinc 6 1, 3) := by decide +kernel
theorem dX8_laid_155 : decode cX8_laid 155 = .ok (.goto (-69), 3) := by decide +kernel
theorem dX8_laid_158 : decode cX8_laid 158 = .ok (.aload_n 0, 1) := by decide +kernel
theorem dX8_laid_159 : decode cX8_laid 159 = .ok (.iload 5, 2) := by decide +kernel
theorem dX8_laid_161 : decode cX8_laid 161 = .ok (.invokevirtual 222, 3) := by decide +kernel
theorem dX8_laid_164 : decode cX8_laid 164 = .ok (.istore 6, 2) := by decide +kernel
theorem dX8_laid_166 : decode cX8_laid 166 = .ok (.iload_n 2, 1) := by decide +kernel
theorem dX8_laid_167 : decode cX8_laid 167 = .ok (.ifCond .ge 13, 3) := by decide +kernel
theorem dX8_laid_170 : decode cX8_laid 170 = .ok (.iload 6, 2) := by decide +kernel
theorem dX8_laid_172 : decode cX8_laid 172 = .ok (.ifCond .eq 8, 3) := by decide +kernel
theorem dX8_laid_175 : decode cX8_laid 175 = .ok (.iload 4, 2) := by decide +kernel
theorem dX8_laid_177 : decode cX8_laid 177 = .ok (.goto 13, 3) := by decide +kernel
theorem dX8_laid_180 : decode cX8_laid 180 = .ok (.aload_n 0, 1) := by decide +kernel
theorem dX8_laid_181 : decode cX8_laid 181 = .ok (.getfield 7, 3) := by decide +kernel
theorem dX8_laid_184 : decode cX8_laid 184 = .ok (.sipush 1086, 3) := by decide +kernel
theorem dX8_laid_187 : decode cX8_laid 187 = .ok (.iload_n 2, 1) := by decide +kernel
theorem dX8_laid_188 : decode cX8_laid 188 = .ok (.iadd, 1) := by decide +kernel
theorem dX8_laid_189 : decode cX8_laid 189 = .ok (.iaload, 1) := by decide +kernel
theorem dX8_laid_190 : decode cX8_laid 190 = .ok (.ireturn, 1) := by decide +kernel
theorem dX8_wanted_0 : decode cX8_wanted 0 = .ok (.iload_n 3, 1) := by decide +kernel
theorem dX8_wanted_1 : decode cX8_wanted 1 = .ok (.invokestatic 46, 3) := by decide +kernel
theorem dX8_wanted_4 : decode cX8_wanted 4 = .ok (.ifCond .eq 18, 3) := by decide +kernel
theorem dX8_wanted_7 : decode cX8_wanted 7 = .ok (.iload_n 2, 1) := by decide +kernel
theorem dX8_wanted_8 : decode cX8_wanted 8 = .ok (.invokestatic 210, 3) := by decide +kernel
theorem dX8_wanted_11 : decode cX8_wanted 11 = .ok (.ifCond .eq 11, 3) := by decide +kernel
theorem dX8_wanted_14 : decode cX8_wanted 14 = .ok (.aload_n 0, 1) := by decide +kernel
theorem dX8_wanted_15 : decode cX8_wanted 15 = .ok (.iload_n 1, 1) := by decide +kernel
theorem dX8_wanted_16 : decode cX8_wanted 16 = .ok (.invokevirtual 194, 3) := by decide +kernel
theorem dX8_wanted_19 : decode cX8_wanted 19 = .ok (.ifCond .ne 6, 3) := by decide +kernel
theorem dX8_wanted_22 : decode cX8_wanted 22 = .ok (.ldc 52, 2) := by decide +kernel
theorem dX8_wanted_24 : decode cX8_wanted 24 = .ok (.ireturn, 1) := by decide +kernel
theorem dX8_wanted_25 : decode cX8_wanted 25 = .ok (.aload_n 0, 1) := by decide +kernel
theorem dX8_wanted_26 : decode cX8_wanted 26 = .ok (.getfield 16, 3) := by decide +kernel
theorem dX8_wanted_29 : decode cX8_wanted 29 = .ok (.iload_n 3, 1) := by decide +kernel
theorem dX8_wanted_30 : decode cX8_wanted 30 = .ok (.iaload, 1) := by decide +kernel
theorem dX8_wanted_31 : decode cX8_wanted 31 = .ok (.ifCond .ge 9, 3) := by decide +kernel
theorem dX8_wanted_34 : decode cX8_wanted 34 = .ok (.aload_n 0, 1) := by decide +kernel
theorem dX8_wanted_35 : decode cX8_wanted 35 = .ok (.iconst 1, 1) := by decide +kernel
theorem dX8_wanted_36 : decode cX8_wanted 36 = .ok (.invokevirtual 53, 3) := by decide +kernel
theorem dX8_wanted_39 : decode cX8_wanted 39 = .ok (.ireturn, 1) := by decide +kernel
theorem dX8_wanted_40 : decode cX8_wanted 40 = .ok (.iload 4, 2) := by decide +kernel
theorem dX8_wanted_42 : decode cX8_wanted 42 = .ok (.aload_n 0, 1) := by decide +kernel
theorem dX8_wanted_43 : decode cX8_wanted 43 = .ok (.getfield 7, 3) := by decide +kernel
theorem dX8_wanted_46 : decode cX8_wanted 46 = .ok (.iconst 0, 1) := by decide +kernel
theorem dX8_wanted_47 : decode cX8_wanted 47 = .ok (.iaload, 1) := by decide +kernel
theorem dX8_wanted_48 : decode cX8_wanted 48 = .ok (.aload_n 0, 1) := by decide +kernel
theorem dX8_wanted_49 : decode cX8_wanted 49 = .ok (.getfield 19, 3) := by decide +kernel
theorem dX8_wanted_52 : decode cX8_wanted 52 = .ok (.iload_n 3, 1) := by decide +kernel
theorem dX8_wanted_53 : decode cX8_wanted 53 = .ok (.iaload, 1) := by decide +kernel
theorem dX8_wanted_54 : decode cX8_wanted 54 = .ok (.invokestatic 60, 3) := by decide +kernel
theorem dX8_wanted_57 : decode cX8_wanted 57 = .ok (.ifCond .ne 9, 3) := by decide +kernel
theorem dX8_wanted_60 : decode cX8_wanted 60 = .ok (.aload_n 0, 1) := by decide +kernel
theorem dX8_wanted_61 : decode cX8_wanted 61 = .ok (.iconst 2, 1) := by decide +kernel
theorem dX8_wanted_62 : decode cX8_wanted 62 = .ok (.invokevirtual 53, 3) := by decide +kernel
theorem dX8_wanted_65 : decode cX8_wanted 65 = .ok (.ireturn, 1) := by decide +kernel
theorem dX8_wanted_66 : decode cX8_wanted 66 = .ok (.iconst 0, 1) := by decide +kernel
theorem dX8_wanted_67 : decode cX8_wanted 67 = .ok (.istore 5, 2) := by decide +kernel
theorem dX8_wanted_69 : decode cX8_wanted 69 = .ok (.iconst 0, 1) := by decide +kernel
theorem dX8_wanted_70 : decode cX8_wanted 70 = .ok (.istore 6, 2) := by decide +kernel
theorem dX8_wanted_72 : decode cX8_wanted 72 = .ok (.iload 6, 2) := by decide +kernel
theorem dX8_wanted_74 : decode cX8_wanted 74 = .ok (.aload_n 0, 1) := by decide +kernel
theorem dX8_wanted_75 : decode cX8_wanted 75 = .ok (.getfield 7, 3) := by decide +kernel
theorem dX8_wanted_78 : decode cX8_wanted 78 = .ok (.iconst 0, 1) := by decide +kernel
theorem dX8_wanted_79 : decode cX8_wanted 79 = .ok (.iaload, 1) := by decide +kernel
theorem dX8_wanted_80 : decode cX8_wanted 80 = .ok (.if_icmp .ge 116, 3) := by decide +kernel
theorem dX8_wanted_83 : decode cX8_wanted 83 = .ok (.aload_n 0, 1) := by decide +kernel
theorem dX8_wanted_84 : decode cX8_wanted 84 = .ok (.iconst 0, 1) := by decide +kernel
theorem dX8_wanted_85 : decode cX8_wanted 85 = .ok (.sipush 1053, 3) := by decide +kernel
theorem dX8_wanted_88 : decode cX8_wanted 88 = .ok (.invokevirtual 142, 3) := by decide +kernel
theorem dX8_wanted_91 : decode cX8_wanted 91 = .ok (.aload_n 0, 1) := by decide +kernel
theorem dX8_wanted_92 : decode cX8_wanted 92 = .ok (.getfield 7, 3) := by decide +kernel
theorem dX8_wanted_95 : decode cX8_wanted 95 = .ok (.sipush 1062, 3) := by decide +kernel
theorem dX8_wanted_98 : decode cX8_wanted 98 = .ok (.iload_n 1, 1) := by decide +kernel
theorem dX8_wanted_99 : decode cX8_wanted 99 = .ok (.iadd, 1) := by decide +kernel
theorem dX8_wanted_100 : decode cX8_wanted 100 = .ok (.iload 6, 2) := by decide +kernel
theorem dX8_wanted_102 : decode cX8_wanted 102 = .ok (.iastore, 1) := by decide +kernel
theorem dX8_wanted_103 : decode cX8_wanted 103 = .ok (.aload_n 0, 1) := by decide +kernel
theorem dX8_wanted_104 : decode cX8_wanted 104 = .ok (.iload_n 2, 1) := by decide +kernel
theorem dX8_wanted_105 : decode cX8_wanted 105 = .ok (.invokevirtual 213, 3) := by decide +kernel
theorem dX8_wanted_108 : decode cX8_wanted 108 = .ok (.iconst 1, 1) := by decide +kernel
theorem dX8_wanted_109 : decode cX8_wanted 109 = .ok (.istore 7, 2) := by decide +kernel
theorem dX8_wanted_111 : decode cX8_wanted 111 = .ok (.iconst 0, 1) := by decide +kernel
theorem dX8_wanted_112 : decode cX8_wanted 112 = .ok (.istore 8, 2) := by decide +kernel
theorem dX8_wanted_114 : decode cX8_wanted 114 = .ok (.iload 8, 2) := by decide +kernel
theorem dX8_wanted_116 : decode cX8_wanted 116 = .ok (.aload_n 0, 1) := by decide +kernel
theorem dX8_wanted_117 : decode cX8_wanted 117 = .ok (.getfield 7, 3) := by decide +kernel
theorem dX8_wanted_120 : decode cX8_wanted 120 = .ok (.iconst 0, 1) := by decide +kernel
theorem dX8_wanted_121 : decode cX8_wanted 121 = .ok (.iaload, 1) := by decide +kernel
theorem dX8_wanted_122 : decode cX8_wanted 122 = .ok (.if_icmp .ge 50, 3) := by decide +kernel
theorem dX8_wanted_125 : decode cX8_wanted 125 = .ok (.iload 7, 2) := by decide +kernel
theorem dX8_wanted_127 : decode cX8_wanted 127 = .ok (.ifCond .eq 36, 3) := by decide +kernel
theorem dX8_wanted_130 : decode cX8_wanted 130 = .ok (.aload_n 0, 1) := by decide +kernel
theorem dX8_wanted_131 : decode cX8_wanted 131 = .ok (.getfield 7, 3) := by decide +kernel
theorem dX8_wanted_134 : decode cX8_wanted 134 = .ok (.sipush 1080, 3) := by decide +kernel
theorem dX8_wanted_137 : decode cX8_wanted 137 = .ok (.iload 8, 2) := by decide +kernel
theorem dX8_wanted_139 : decode cX8_wanted 139 = .ok (.iadd, 1) := by decide +kernel
theorem dX8_wanted_140 : decode cX8_wanted 140 = .ok (.iaload, 1) := by decide +kernel
theorem dX8_wanted_141 : decode cX8_wanted 141 = .ok (.aload_n 0, 1) := by decide +kernel
theorem dX8_wanted_142 : decode cX8_wanted 142 = .ok (.getfield 22, 3) := by decide +kernel
theorem dX8_wanted_145 : decode cX8_wanted 145 = .ok (.bipush 40, 2) := by decide +kernel
theorem dX8_wanted_147 : decode cX8_wanted 147 = .ok (.iload_n 3, 1) := by decide +kernel
theorem dX8_wanted_148 : decode cX8_wanted 148 = .ok (.imul, 1) := by decide +kernel
theorem dX8_wanted_149 : decode cX8_wanted 149 = .ok (.iload 4, 2) := by decide +kernel
theorem dX8_wanted_151 : decode cX8_wanted 151 = .ok (.iadd, 1) := by decide +kernel
theorem dX8_wanted_152 : decode cX8_wanted 152 = .ok (.iload 8, 2) := by decide +kernel
theorem dX8_wanted_154 : decode cX8_wanted 154 = .ok (.iadd, 1) := by decide +kernel
theorem dX8_wanted_155 : decode cX8_wanted 155 = .ok (.iaload, 1) := by decide +kernel
theorem dX8_wanted_156 : decode cX8_wanted 156 = .ok (.if_icmp .ne 7, 3) := by decide +kernel
theorem dX8_wanted_159 : decode cX8_wanted 159 = .ok (.iconst 1, 1) := by decide +kernel
theorem dX8_wanted_160 : decode cX8_wanted 160 = .ok (.goto 4, 3) := by decide +kernel
theorem dX8_wanted_163 : decode cX8_wanted 163 = .ok (.iconst 0, 1) := by decide +kernel
theorem dX8_wanted_164 : decode cX8_wanted 164 = .ok (.istore 7, 2) := by decide +kernel
theorem dX8_wanted_166 : decode cX8_wanted 166 = .ok (.iinc 8 1, 3) := by decide +kernel
theorem dX8_wanted_169 : decode cX8_wanted 169 = .ok (.goto (-55), 3) := by decide +kernel
theorem dX8_wanted_172 : decode cX8_wanted 172 = .ok (.iload 5, 2) := by decide +kernel
theorem dX8_wanted_174 : decode cX8_wanted 174 = .ok (.iload 7, 2) := by decide +kernel
theorem dX8_wanted_176 : decode cX8_wanted 176 = .ok (.ifCond .eq 10, 3) := by decide +kernel
theorem dX8_wanted_179 : decode cX8_wanted 179 = .ok (.iconst 1, 1) := by decide +kernel
theorem dX8_wanted_180 : decode cX8_wanted 180 = .ok (.iload 6, 2) := by decide +kernel
theorem dX8_wanted_182 : decode cX8_wanted 182 = .ok (.ishl, 1) := by decide +kernel
theorem dX8_wanted_183 : decode cX8_wanted 183 = .ok (.goto 4, 3) := by decide +kernel
theorem dX8_wanted_186 : decode cX8_wanted 186 = .ok (.iconst 0, 1) := by decide +kernel
theorem dX8_wanted_187 : decode cX8_wanted 187 = .ok (.ior, 1) := by decide +kernel
theorem dX8_wanted_188 : decode cX8_wanted 188 = .ok (.istore 5, 2) := by decide +kernel
theorem dX8_wanted_190 : decode cX8_wanted 190 = .ok (.iinc 6 1, 3) := by decide +kernel
theorem dX8_wanted_193 : decode cX8_wanted 193 = .ok (.goto (-121), 3) := by decide +kernel
theorem dX8_wanted_196 : decode cX8_wanted 196 = .ok (.aload_n 0, 1) := by decide +kernel
theorem dX8_wanted_197 : decode cX8_wanted 197 = .ok (.iload 5, 2) := by decide +kernel
theorem dX8_wanted_199 : decode cX8_wanted 199 = .ok (.invokevirtual 57, 3) := by decide +kernel
theorem dX8_wanted_202 : decode cX8_wanted 202 = .ok (.ireturn, 1) := by decide +kernel
theorem dX8_seated_0 : decode cX8_seated 0 = .ok (.aload_n 0, 1) := by decide +kernel
theorem dX8_seated_1 : decode cX8_seated 1 = .ok (.iload_n 1, 1) := by decide +kernel
theorem dX8_seated_2 : decode cX8_seated 2 = .ok (.invokevirtual 194, 3) := by decide +kernel
theorem dX8_seated_5 : decode cX8_seated 5 = .ok (.ifCond .eq 20, 3) := by decide +kernel
theorem dX8_seated_8 : decode cX8_seated 8 = .ok (.iload_n 2, 1) := by decide +kernel
theorem dX8_seated_9 : decode cX8_seated 9 = .ok (.invokestatic 210, 3) := by decide +kernel
theorem dX8_seated_12 : decode cX8_seated 12 = .ok (.ifCond .eq 13, 3) := by decide +kernel
theorem dX8_seated_15 : decode cX8_seated 15 = .ok (.iload_n 3, 1) := by decide +kernel
theorem dX8_seated_16 : decode cX8_seated 16 = .ok (.i2l, 1) := by decide +kernel
theorem dX8_seated_17 : decode cX8_seated 17 = .ok (.lconst 0, 1) := by decide +kernel
theorem dX8_seated_18 : decode cX8_seated 18 = .ok (.lconst 1, 1) := by decide +kernel
theorem dX8_seated_19 : decode cX8_seated 19 = .ok (.invokestatic 37, 3) := by decide +kernel
theorem dX8_seated_22 : decode cX8_seated 22 = .ok (.ifCond .ne 6, 3) := by decide +kernel
theorem dX8_seated_25 : decode cX8_seated 25 = .ok (.ldc 52, 2) := by decide +kernel
theorem dX8_seated_27 : decode cX8_seated 27 = .ok (.ireturn, 1) := by decide +kernel
theorem dX8_seated_28 : decode cX8_seated 28 = .ok (.iconst (-1), 1) := by decide +kernel
theorem dX8_seated_29 : decode cX8_seated 29 = .ok (.istore 4, 2) := by decide +kernel
theorem dX8_seated_31 : decode cX8_seated 31 = .ok (.iconst 0, 1) := by decide +kernel
theorem dX8_seated_32 : decode cX8_seated 32 = .ok (.istore 5, 2) := by decide +kernel
theorem dX8_seated_34 : decode cX8_seated 34 = .ok (.iconst 0, 1) := by decide +kernel
theorem dX8_seated_35 : decode cX8_seated 35 = .ok (.istore 6, 2) := by decide +kernel
theorem dX8_seated_37 : decode cX8_seated 37 = .ok (.iload 6, 2) := by decide +kernel
theorem dX8_seated_39 : decode cX8_seated 39 = .ok (.aload_n 0, 1) := by decide +kernel
theorem dX8_seated_40 : decode cX8_seated 40 = .ok (.getfield 7, 3) := by decide +kernel
theorem dX8_seated_43 : decode cX8_seated 43 = .ok (.iconst 0, 1) := by decide +kernel
theorem dX8_seated_44 : decode cX8_seated 44 = .ok (.iaload, 1) := by decide +kernel
theorem dX8_seated_45 : decode cX8_seated 45 = .ok (.if_icmp .ge 116, 3) := by decide +kernel
theorem dX8_seated_48 : decode cX8_seated 48 = .ok (.aload_n 0, 1) := by decide +kernel
theorem dX8_seated_49 : decode cX8_seated 49 = .ok (.iconst 0, 1) := by decide +kernel
theorem dX8_seated_50 : decode cX8_seated 50 = .ok (.sipush 1053, 3) := by decide +kernel
theorem dX8_seated_53 : decode cX8_seated 53 = .ok (.invokevirtual 142, 3) := by decide +kernel
theorem dX8_seated_56 : decode cX8_seated 56 = .ok (.aload_n 0, 1) := by decide +kernel
theorem dX8_seated_57 : decode cX8_seated 57 = .ok (.getfield 7, 3) := by decide +kernel
theorem dX8_seated_60 : decode cX8_seated 60 = .ok (.sipush 1074, 3) := by decide +kernel
theorem dX8_seated_63 : decode cX8_seated 63 = .ok (.iload_n 1, 1) := by decide +kernel
theorem dX8_seated_64 : decode cX8_seated 64 = .ok (.iadd, 1) := by decide +kernel
theorem dX8_seated_65 : decode cX8_seated 65 = .ok (.aload_n 0, 1) := by decide +kernel
theorem dX8_seated_66 : decode cX8_seated 66 = .ok (.getfield 7, 3) := by decide +kernel
theorem dX8_seated_69 : decode cX8_seated 69 = .ok (.bipush 21, 2) := by decide +kernel
theorem dX8_seated_71 : decode cX8_seated 71 = .ok (.iload 6, 2) := by decide +kernel
theorem dX8_seated_73 : decode cX8_seated 73 = .ok (.iadd, 1) := by decide +kernel
theorem dX8_seated_74 : decode cX8_seated 74 = .ok (.iaload, 1) := by decide +kernel
theorem dX8_seated_75 : decode cX8_seated 75 = .ok (.iastore, 1) := by decide +kernel
theorem dX8_seated_76 : decode cX8_seated 76 = .ok (.aload_n 0, 1) := by decide +kernel
theorem dX8_seated_77 : decode cX8_seated 77 = .ok (.getfield 7, 3) := by decide +kernel
theorem dX8_seated_80 : decode cX8_seated 80 = .ok (.sipush 1074, 3) := by decide +kernel
theorem dX8_seated_83 : decode cX8_seated 83 = .ok (.iload 6, 2) := by decide +kernel
theorem dX8_seated_85 : decode cX8_seated 85 = .ok (.iadd, 1) := by decide +kernel
theorem dX8_seated_86 : decode cX8_seated 86 = .ok (.aload_n 0, 1) := by decide +kernel
theorem dX8_seated_87 : decode cX8_seated 87 = .ok (.getfield 7, 3) := by decide +kernel
theorem dX8_seated_90 : decode cX8_seated 90 = .ok (.bipush 21, 2) := by decide +kernel
theorem dX8_seated_92 : decode cX8_seated 92 = .ok (.iload_n 1, 1) := by decide +kernel
theorem dX8_seated_93 : decode cX8_seated 93 = .ok (.iadd, 1) := by decide +kernel
theorem dX8_seated_94 : decode cX8_seated 94 = .ok (.iaload, 1) := by decide +kernel
theorem dX8_seated_95 : decode cX8_seated 95 = .ok (.iastore, 1) := by decide +kernel
theorem dX8_seated_96 : decode cX8_seated 96 = .ok (.aload_n 0, 1) := by decide +kernel
theorem dX8_seated_97 : decode cX8_seated 97 = .ok (.iload_n 2, 1) := by decide +kernel
theorem dX8_seated_98 : decode cX8_seated 98 = .ok (.invokevirtual 213, 3) := by decide +kernel
theorem dX8_seated_101 : decode cX8_seated 101 = .ok (.aload_n 0, 1) := by decide +kernel
theorem dX8_seated_102 : decode cX8_seated 102 = .ok (.getfield 7, 3) := by decide +kernel
theorem dX8_seated_105 : decode cX8_seated 105 = .ok (.sipush 1068, 3) := by decide +kernel
theorem dX8_seated_108 : decode cX8_seated 108 = .ok (.iload_n 1, 1) := by decide +kernel
theorem dX8_seated_109 : decode cX8_seated 109 = .ok (.iadd, 1) := by decide +kernel
theorem dX8_seated_110 : decode cX8_seated 110 = .ok (.iaload, 1) := by decide +kernel
theorem dX8_seated_111 : decode cX8_seated 111 = .ok (.aload_n 0, 1) := by decide +kernel
theorem dX8_seated_112 : decode cX8_seated 112 = .ok (.getfield 7, 3) := by decide +kernel
theorem dX8_seated_115 : decode cX8_seated 115 = .ok (.bipush 15, 2) := by decide +kernel
theorem dX8_seated_117 : decode cX8_seated 117 = .ok (.iload_n 1, 1) := by decide +kernel
theorem dX8_seated_118 : decode cX8_seated 118 = .ok (.iadd, 1) := by decide +kernel
theorem dX8_seated_119 : decode cX8_seated 119 = .ok (.iaload, 1) := by decide +kernel
theorem dX8_seated_120 : decode cX8_seated 120 = .ok (.isub, 1) := by decide +kernel
theorem dX8_seated_121 : decode cX8_seated 121 = .ok (.istore 7, 2) := by decide +kernel
theorem dX8_seated_123 : decode cX8_seated 123 = .ok (.iload 7, 2) := by decide +kernel
theorem dX8_seated_125 : decode cX8_seated 125 = .ok (.iload 4, 2) := by decide +kernel
theorem dX8_seated_127 : decode cX8_seated 127 = .ok (.if_icmp .le 8, 3) := by decide +kernel
theorem dX8_seated_130 : decode cX8_seated 130 = .ok (.iload 6, 2) := by decide +kernel
theorem dX8_seated_132 : decode cX8_seated 132 = .ok (.goto 5, 3) := by decide +kernel
theorem dX8_seated_135 : decode cX8_seated 135 = .ok (.iload 5, 2) := by decide +kernel
theorem dX8_seated_137 : decode cX8_seated 137 = .ok (.istore 5, 2) := by decide +kernel
theorem dX8_seated_139 : decode cX8_seated 139 = .ok (.iload 7, 2) := by decide +kernel
theorem dX8_seated_141 : decode cX8_seated 141 = .ok (.iload 4, 2) := by decide +kernel
theorem dX8_seated_143 : decode cX8_seated 143 = .ok (.if_icmp .le 8, 3) := by decide +kernel
theorem dX8_seated_146 : decode cX8_seated 146 = .ok (.iload 7, 2) := by decide +kernel
theorem dX8_seated_148 : decode cX8_seated 148 = .ok (.goto 5, 3) := by decide +kernel
theorem dX8_seated_151 : decode cX8_seated 151 = .ok (.iload 4, 2) := by decide +kernel
theorem dX8_seated_153 : decode cX8_seated 153 = .ok (.istore 4, 2) := by decide +kernel
theorem dX8_seated_155 : decode cX8_seated 155 = .ok (.iinc 6 1, 3) := by decide +kernel
theorem dX8_seated_158 : decode cX8_seated 158 = .ok (.goto (-121), 3) := by decide +kernel
theorem dX8_seated_161 : decode cX8_seated 161 = .ok (.iload_n 3, 1) := by decide +kernel
theorem dX8_seated_162 : decode cX8_seated 162 = .ok (.ifCond .ne 8, 3) := by decide +kernel
theorem dX8_seated_165 : decode cX8_seated 165 = .ok (.iload 5, 2) := by decide +kernel
theorem dX8_seated_167 : decode cX8_seated 167 = .ok (.goto 5, 3) := by decide +kernel
theorem dX8_seated_170 : decode cX8_seated 170 = .ok (.iload 4, 2) := by decide +kernel
theorem dX8_seated_172 : decode cX8_seated 172 = .ok (.ireturn, 1) := by decide +kernel
theorem dX8_image_0 : decode cX8_image 0 = .ok (.iload_n 1, 1) := by decide +kernel
theorem dX8_image_1 : decode cX8_image 1 = .ok (.i2l, 1) := by decide +kernel
theorem dX8_image_2 : decode cX8_image 2 = .ok (.lconst 0, 1) := by decide +kernel
theorem dX8_image_3 : decode cX8_image 3 = .ok (.lconst 1, 1) := by decide +kernel
theorem dX8_image_4 : decode cX8_image 4 = .ok (.invokestatic 37, 3) := by decide +kernel
theorem dX8_image_7 : decode cX8_image 7 = .ok (.ifCond .ne 6, 3) := by decide +kernel
theorem dX8_image_10 : decode cX8_image 10 = .ok (.ldc 52, 2) := by decide +kernel
theorem dX8_image_12 : decode cX8_image 12 = .ok (.ireturn, 1) := by decide +kernel
theorem dX8_image_13 : decode cX8_image 13 = .ok (.aload_n 0, 1) := by decide +kernel
theorem dX8_image_14 : decode cX8_image 14 = .ok (.invokevirtual 177, 3) := by decide +kernel
theorem dX8_image_17 : decode cX8_image 17 = .ok (.ifCond .eq 6, 3) := by decide +kernel
theorem dX8_image_20 : decode cX8_image 20 = .ok (.ldc 180, 2) := by decide +kernel
theorem dX8_image_22 : decode cX8_image 22 = .ok (.ireturn, 1) := by decide +kernel
theorem dX8_image_23 : decode cX8_image 23 = .ok (.aload_n 0, 1) := by decide +kernel
theorem dX8_image_24 : decode cX8_image 24 = .ok (.iconst 0, 1) := by decide +kernel
theorem dX8_image_25 : decode cX8_image 25 = .ok (.bipush 39, 2) := by decide +kernel
theorem dX8_image_27 : decode cX8_image 27 = .ok (.bipush 39, 2) := by decide +kernel
theorem dX8_image_29 : decode cX8_image 29 = .ok (.iload_n 1, 1) := by decide +kernel
theorem dX8_image_30 : decode cX8_image 30 = .ok (.imul, 1) := by decide +kernel
theorem dX8_image_31 : decode cX8_image 31 = .ok (.iadd, 1) := by decide +kernel
theorem dX8_image_32 : decode cX8_image 32 = .ok (.invokevirtual 142, 3) := by decide +kernel
theorem dX8_image_35 : decode cX8_image 35 = .ok (.aload_n 0, 1) := by decide +kernel
theorem dX8_image_36 : decode cX8_image 36 = .ok (.getfield 28, 3) := by decide +kernel
theorem dX8_image_39 : decode cX8_image 39 = .ok (.iload_n 1, 1) := by decide +kernel
theorem dX8_image_40 : decode cX8_image 40 = .ok (.iconst 1, 1) := by decide +kernel
theorem dX8_image_41 : decode cX8_image 41 = .ok (.bastore, 1) := by decide +kernel
theorem dX8_image_42 : decode cX8_image 42 = .ok (.iconst 1, 1) := by decide +kernel
theorem dX8_image_43 : decode cX8_image 43 = .ok (.ireturn, 1) := by decide +kernel
theorem dX8_restore_0 : decode cX8_restore 0 = .ok (.iload_n 1, 1) := by decide +kernel
theorem dX8_restore_1 : decode cX8_restore 1 = .ok (.i2l, 1) := by decide +kernel
theorem dX8_restore_2 : decode cX8_restore 2 = .ok (.lconst 0, 1) := by decide +kernel
theorem dX8_restore_3 : decode cX8_restore 3 = .ok (.lconst 1, 1) := by decide +kernel
theorem dX8_restore_4 : decode cX8_restore 4 = .ok (.invokestatic 37, 3) := by decide +kernel
theorem dX8_restore_7 : decode cX8_restore 7 = .ok (.ifCond .ne 6, 3) := by decide +kernel
theorem dX8_restore_10 : decode cX8_restore 10 = .ok (.ldc 52, 2) := by decide +kernel
theorem dX8_restore_12 : decode cX8_restore 12 = .ok (.ireturn, 1) := by decide +kernel
theorem dX8_restore_13 : decode cX8_restore 13 = .ok (.aload_n 0, 1) := by decide +kernel
theorem dX8_restore_14 : decode cX8_restore 14 = .ok (.getfield 28, 3) := by decide +kernel
theorem dX8_restore_17 : decode cX8_restore 17 = .ok (.iload_n 1, 1) := by decide +kernel
theorem dX8_restore_18 : decode cX8_restore 18 = .ok (.baload, 1) := by decide +kernel
theorem dX8_restore_19 : decode cX8_restore 19 = .ok (.ifCond .ne 6, 3) := by decide +kernel
theorem dX8_restore_22 : decode cX8_restore 22 = .ok (.ldc 180, 2) := by decide +kernel
theorem dX8_restore_24 : decode cX8_restore 24 = .ok (.ireturn, 1) := by decide +kernel
theorem dX8_restore_25 : decode cX8_restore 25 = .ok (.aload_n 0, 1) := by decide +kernel
theorem dX8_restore_26 : decode cX8_restore 26 = .ok (.bipush 39, 2) := by decide +kernel
theorem dX8_restore_28 : decode cX8_restore 28 = .ok (.bipush 39, 2) := by decide +kernel
theorem dX8_restore_30 : decode cX8_restore 30 = .ok (.iload_n 1, 1) := by decide +kernel
theorem dX8_restore_31 : decode cX8_restore 31 = .ok (.imul, 1) := by decide +kernel
theorem dX8_restore_32 : decode cX8_restore 32 = .ok (.iadd, 1) := by decide +kernel
theorem dX8_restore_33 : decode cX8_restore 33 = .ok (.iconst 0, 1) := by decide +kernel
theorem dX8_restore_34 : decode cX8_restore 34 = .ok (.invokevirtual 142, 3) := by decide +kernel
theorem dX8_restore_37 : decode cX8_restore 37 = .ok (.aload_n 0, 1) := by decide +kernel
theorem dX8_restore_38 : decode cX8_restore 38 = .ok (.iconst 0, 1) := by decide +kernel
theorem dX8_restore_39 : decode cX8_restore 39 = .ok (.putfield 146, 3) := by decide +kernel
theorem dX8_restore_42 : decode cX8_restore 42 = .ok (.iconst 1, 1) := by decide +kernel
theorem dX8_restore_43 : decode cX8_restore 43 = .ok (.ireturn, 1) := by decide +kernel
theorem dX8_leaves_0 : decode cX8_leaves 0 = .ok (.aload_n 0, 1) := by decide +kernel
theorem dX8_leaves_1 : decode cX8_leaves 1 = .ok (.getfield 225, 3) := by decide +kernel
theorem dX8_leaves_4 : decode cX8_leaves 4 = .ok (.bipush 16, 2) := by decide +kernel
theorem dX8_leaves_6 : decode cX8_leaves 6 = .ok (.if_icmp .ge 23, 3) := by decide +kernel
theorem dX8_leaves_9 : decode cX8_leaves 9 = .ok (.aload_n 0, 1) := by decide +kernel
theorem dX8_leaves_10 : decode cX8_leaves 10 = .ok (.getfield 32, 3) := by decide +kernel
theorem dX8_leaves_13 : decode cX8_leaves 13 = .ok (.aload_n 0, 1) := by decide +kernel
theorem dX8_leaves_14 : decode cX8_leaves 14 = .ok (.getfield 225, 3) := by decide +kernel
theorem dX8_leaves_17 : decode cX8_leaves 17 = .ok (.iload_n 1, 1) := by decide +kernel
theorem dX8_leaves_18 : decode cX8_leaves 18 = .ok (.iastore, 1) := by decide +kernel
theorem dX8_leaves_19 : decode cX8_leaves 19 = .ok (.aload_n 0, 1) := by decide +kernel
theorem dX8_leaves_20 : decode cX8_leaves 20 = .ok (.dup, 1) := by decide +kernel
theorem dX8_leaves_21 : decode cX8_leaves 21 = .ok (.getfield 225, 3) := by decide +kernel
theorem dX8_leaves_24 : decode cX8_leaves 24 = .ok (.iconst 1, 1) := by decide +kernel
theorem dX8_leaves_25 : decode cX8_leaves 25 = .ok (.iadd, 1) := by decide +kernel
theorem dX8_leaves_26 : decode cX8_leaves 26 = .ok (.putfield 225, 3) := by decide +kernel
theorem dX8_leaves_29 : decode cX8_leaves 29 = .ok (.return_, 1) := by decide +kernel
theorem dX8_kind_0 : decode cX8_kind 0 = .ok (.aload_n 0, 1) := by decide +kernel
theorem dX8_kind_1 : decode cX8_kind 1 = .ok (.iload_n 1, 1) := by decide +kernel
theorem dX8_kind_2 : decode cX8_kind 2 = .ok (.invokevirtual 194, 3) := by decide +kernel
theorem dX8_kind_5 : decode cX8_kind 5 = .ok (.ifCond .eq 14, 3) := by decide +kernel
theorem dX8_kind_8 : decode cX8_kind 8 = .ok (.aload_n 0, 1) := by decide +kernel
theorem dX8_kind_9 : decode cX8_kind 9 = .ok (.getfield 7, 3) := by decide +kernel
theorem dX8_kind_12 : decode cX8_kind 12 = .ok (.iconst 3, 1) := by decide +kernel
theorem dX8_kind_13 : decode cX8_kind 13 = .ok (.iload_n 1, 1) := by decide +kernel
theorem dX8_kind_14 : decode cX8_kind 14 = .ok (.iadd, 1) := by decide +kernel
theorem dX8_kind_15 : decode cX8_kind 15 = .ok (.iaload, 1) := by decide +kernel
theorem dX8_kind_16 : decode cX8_kind 16 = .ok (.goto 5, 3) := by decide +kernel
theorem dX8_kind_19 : decode cX8_kind 19 = .ok (.ldc 52, 2) := by decide +kernel
theorem dX8_kind_21 : decode cX8_kind 21 = .ok (.ireturn, 1) := by decide +kernel
theorem dX8_isOf_0 : decode cX8_isOf 0 = .ok (.iload_n 1, 1) := by decide +kernel
theorem dX8_isOf_1 : decode cX8_isOf 1 = .ok (.ifCond .eq 33, 3) := by decide +kernel
theorem dX8_isOf_4 : decode cX8_isOf 4 = .ok (.iload_n 1, 1) := by decide +kernel
theorem dX8_isOf_5 : decode cX8_isOf 5 = .ok (.iload_n 0, 1) := by decide +kernel
theorem dX8_isOf_6 : decode cX8_isOf 6 = .ok (.if_icmp .eq 28, 3) := by decide +kernel
theorem dX8_isOf_9 : decode cX8_isOf 9 = .ok (.iload_n 1, 1) := by decide +kernel
theorem dX8_isOf_10 : decode cX8_isOf 10 = .ok (.iconst 1, 1) := by decide +kernel
theorem dX8_isOf_11 : decode cX8_isOf 11 = .ok (.if_icmp .ne 13, 3) := by decide +kernel
theorem dX8_isOf_14 : decode cX8_isOf 14 = .ok (.iload_n 0, 1) := by decide +kernel
theorem dX8_isOf_15 : decode cX8_isOf 15 = .ok (.iconst 2, 1) := by decide +kernel
theorem dX8_isOf_16 : decode cX8_isOf 16 = .ok (.if_icmp .eq 18, 3) := by decide +kernel
theorem dX8_isOf_19 : decode cX8_isOf 19 = .ok (.iload_n 0, 1) := by decide +kernel
theorem dX8_isOf_20 : decode cX8_isOf 20 = .ok (.iconst 3, 1) := by decide +kernel
theorem dX8_isOf_21 : decode cX8_isOf 21 = .ok (.if_icmp .eq 13, 3) := by decide +kernel
theorem dX8_isOf_24 : decode cX8_isOf 24 = .ok (.iload_n 1, 1) := by decide +kernel
theorem dX8_isOf_25 : decode cX8_isOf 25 = .ok (.iconst 4, 1) := by decide +kernel
theorem dX8_isOf_26 : decode cX8_isOf 26 = .ok (.if_icmp .ne 12, 3) := by decide +kernel
theorem dX8_isOf_29 : decode cX8_isOf 29 = .ok (.iload_n 0, 1) := by decide +kernel
theorem dX8_isOf_30 : decode cX8_isOf 30 = .ok (.iconst 5, 1) := by decide +kernel
theorem dX8_isOf_31 : decode cX8_isOf 31 = .ok (.if_icmp .ne 7, 3) := by decide +kernel
theorem dX8_isOf_34 : decode cX8_isOf 34 = .ok (.iconst 1, 1) := by decide +kernel
theorem dX8_isOf_35 : decode cX8_isOf 35 = .ok (.goto 4, 3) := by decide +kernel
theorem dX8_isOf_38 : decode cX8_isOf 38 = .ok (.iconst 0, 1) := by decide +kernel
theorem dX8_isOf_39 : decode cX8_isOf 39 = .ok (.ireturn, 1) := by decide +kernel
theorem dX8_as_0 : decode cX8_as 0 = .ok (.aload_n 0, 1) := by decide +kernel
theorem dX8_as_1 : decode cX8_as 1 = .ok (.iload_n 1, 1) := by decide +kernel
theorem dX8_as_2 : decode cX8_as 2 = .ok (.invokevirtual 194, 3) := by decide +kernel
theorem dX8_as_5 : decode cX8_as 5 = .ok (.ifCond .eq 15, 3) := by decide +kernel
theorem dX8_as_8 : decode cX8_as 8 = .ok (.iload_n 2, 1) := by decide +kernel
theorem dX8_as_9 : decode cX8_as 9 = .ok (.i2l, 1) := by decide +kernel
theorem dX8_as_10 : decode cX8_as 10 = .ok (.lconst 0, 1) := by decide +kernel
theorem dX8_as_11 : decode cX8_as 11 = .ok (.ldc2_w 228, 3) := by decide +kernel
theorem dX8_as_14 : decode cX8_as 14 = .ok (.invokestatic 37, 3) := by decide +kernel
theorem dX8_as_17 : decode cX8_as 17 = .ok (.ifCond .ne 6, 3) := by decide +kernel
theorem dX8_as_20 : decode cX8_as 20 = .ok (.ldc 52, 2) := by decide +kernel
theorem dX8_as_22 : decode cX8_as 22 = .ok (.ireturn, 1) := by decide +kernel
theorem dX8_as_23 : decode cX8_as 23 = .ok (.aload_n 0, 1) := by decide +kernel
theorem dX8_as_24 : decode cX8_as 24 = .ok (.getfield 7, 3) := by decide +kernel
theorem dX8_as_27 : decode cX8_as 27 = .ok (.iconst 3, 1) := by decide +kernel
theorem dX8_as_28 : decode cX8_as 28 = .ok (.iload_n 1, 1) := by decide +kernel
theorem dX8_as_29 : decode cX8_as 29 = .ok (.iadd, 1) := by decide +kernel
theorem dX8_as_30 : decode cX8_as 30 = .ok (.iaload, 1) := by decide +kernel
theorem dX8_as_31 : decode cX8_as 31 = .ok (.iload_n 2, 1) := by decide +kernel
theorem dX8_as_32 : decode cX8_as 32 = .ok (.invokestatic 230, 3) := by decide +kernel
theorem dX8_as_35 : decode cX8_as 35 = .ok (.ifCond .eq 11, 3) := by decide +kernel
theorem dX8_as_38 : decode cX8_as 38 = .ok (.aload_n 0, 1) := by decide +kernel
theorem dX8_as_39 : decode cX8_as 39 = .ok (.iload_n 1, 1) := by decide +kernel
theorem dX8_as_40 : decode cX8_as 40 = .ok (.invokevirtual 57, 3) := by decide +kernel
theorem dX8_as_43 : decode cX8_as 43 = .ok (.goto 8, 3) := by decide +kernel
theorem dX8_as_46 : decode cX8_as 46 = .ok (.aload_n 0, 1) := by decide +kernel
theorem dX8_as_47 : decode cX8_as 47 = .ok (.iconst 3, 1) := by decide +kernel
theorem dX8_as_48 : decode cX8_as 48 = .ok (.invokevirtual 53, 3) := by decide +kernel
theorem dX8_as_51 : decode cX8_as 51 = .ok (.ireturn, 1) := by decide +kernel
theorem dX8_sizeOf_0 : decode cX8_sizeOf 0 = .ok (.aload_n 0, 1) := by decide +kernel
theorem dX8_sizeOf_1 : decode cX8_sizeOf 1 = .ok (.getfield 7, 3) := by decide +kernel
theorem dX8_sizeOf_4 : decode cX8_sizeOf 4 = .ok (.iconst 3, 1) := by decide +kernel
theorem dX8_sizeOf_5 : decode cX8_sizeOf 5 = .ok (.iload_n 1, 1) := by decide +kernel
theorem dX8_sizeOf_6 : decode cX8_sizeOf 6 = .ok (.iadd, 1) := by decide +kernel
theorem dX8_sizeOf_7 : decode cX8_sizeOf 7 = .ok (.iaload, 1) := by decide +kernel
theorem dX8_sizeOf_8 : decode cX8_sizeOf 8 = .ok (.istore_n 2, 1) := by decide +kernel
theorem dX8_sizeOf_9 : decode cX8_sizeOf 9 = .ok (.iload_n 2, 1) := by decide +kernel
theorem dX8_sizeOf_10 : decode cX8_sizeOf 10 = .ok (.iconst 2, 1) := by decide +kernel
theorem dX8_sizeOf_11 : decode cX8_sizeOf 11 = .ok (.if_icmp .ne 9, 3) := by decide +kernel
theorem dX8_sizeOf_14 : decode cX8_sizeOf 14 = .ok (.aload_n 0, 1) := by decide +kernel
theorem dX8_sizeOf_15 : decode cX8_sizeOf 15 = .ok (.bipush 12, 2) := by decide +kernel
theorem dX8_sizeOf_17 : decode cX8_sizeOf 17 = .ok (.invokevirtual 233, 3) := by decide +kernel
theorem dX8_sizeOf_20 : decode cX8_sizeOf 20 = .ok (.iload_n 2, 1) := by decide +kernel
theorem dX8_sizeOf_21 : decode cX8_sizeOf 21 = .ok (.iconst 5, 1) := by decide +kernel
theorem dX8_sizeOf_22 : decode cX8_sizeOf 22 = .ok (.if_icmp .ne 9, 3) := by decide +kernel
theorem dX8_sizeOf_25 : decode cX8_sizeOf 25 = .ok (.aload_n 0, 1) := by decide +kernel
theorem dX8_sizeOf_26 : decode cX8_sizeOf 26 = .ok (.bipush 14, 2) := by decide +kernel
theorem dX8_sizeOf_28 : decode cX8_sizeOf 28 = .ok (.invokevirtual 233, 3) := by decide +kernel
theorem dX8_sizeOf_31 : decode cX8_sizeOf 31 = .ok (.iload_n 2, 1) := by decide +kernel
theorem dX8_sizeOf_32 : decode cX8_sizeOf 32 = .ok (.iconst 4, 1) := by decide +kernel
theorem dX8_sizeOf_33 : decode cX8_sizeOf 33 = .ok (.invokestatic 230, 3) := by decide +kernel
theorem dX8_sizeOf_36 : decode cX8_sizeOf 36 = .ok (.istore_n 3, 1) := by decide +kernel
theorem dX8_sizeOf_37 : decode cX8_sizeOf 37 = .ok (.aload_n 0, 1) := by decide +kernel
theorem dX8_sizeOf_38 : decode cX8_sizeOf 38 = .ok (.iload_n 3, 1) := by decide +kernel
theorem dX8_sizeOf_39 : decode cX8_sizeOf 39 = .ok (.ifCond .eq 8, 3) := by decide +kernel
theorem dX8_sizeOf_42 : decode cX8_sizeOf 42 = .ok (.bipush 13, 2) := by decide +kernel
theorem dX8_sizeOf_44 : decode cX8_sizeOf 44 = .ok (.goto 5, 3) := by decide +kernel
theorem dX8_sizeOf_47 : decode cX8_sizeOf 47 = .ok (.bipush 11, 2) := by decide +kernel
theorem dX8_sizeOf_49 : decode cX8_sizeOf 49 = .ok (.invokevirtual 233, 3) := by decide +kernel
theorem dX8_sizeOf_52 : decode cX8_sizeOf 52 = .ok (.aload_n 0, 1) := by decide +kernel
theorem dX8_sizeOf_53 : decode cX8_sizeOf 53 = .ok (.bipush 10, 2) := by decide +kernel
theorem dX8_sizeOf_55 : decode cX8_sizeOf 55 = .ok (.invokevirtual 233, 3) := by decide +kernel
theorem dX8_sizeOf_58 : decode cX8_sizeOf 58 = .ok (.aload_n 0, 1) := by decide +kernel
theorem dX8_sizeOf_59 : decode cX8_sizeOf 59 = .ok (.getfield 7, 3) := by decide +kernel
theorem dX8_sizeOf_62 : decode cX8_sizeOf 62 = .ok (.bipush 15, 2) := by decide +kernel
theorem dX8_sizeOf_64 : decode cX8_sizeOf 64 = .ok (.iload_n 1, 1) := by decide +kernel
theorem dX8_sizeOf_65 : decode cX8_sizeOf 65 = .ok (.iadd, 1) := by decide +kernel
theorem dX8_sizeOf_66 : decode cX8_sizeOf 66 = .ok (.iaload, 1) := by decide +kernel
theorem dX8_sizeOf_67 : decode cX8_sizeOf 67 = .ok (.iload_n 3, 1) := by decide +kernel
theorem dX8_sizeOf_68 : decode cX8_sizeOf 68 = .ok (.ifCond .eq 8, 3) := by decide +kernel
theorem dX8_sizeOf_71 : decode cX8_sizeOf 71 = .ok (.bipush (-100), 2) := by decide +kernel
theorem dX8_sizeOf_73 : decode cX8_sizeOf 73 = .ok (.goto 8, 3) := by decide +kernel
theorem dX8_sizeOf_76 : decode cX8_sizeOf 76 = .ok (.aload_n 0, 1) := by decide +kernel
theorem dX8_sizeOf_77 : decode cX8_sizeOf 77 = .ok (.iload_n 1, 1) := by decide +kernel
theorem dX8_sizeOf_78 : decode cX8_sizeOf 78 = .ok (.invokevirtual 236, 3) := by decide +kernel
theorem dX8_sizeOf_81 : decode cX8_sizeOf 81 = .ok (.iadd, 1) := by decide +kernel
theorem dX8_sizeOf_82 : decode cX8_sizeOf 82 = .ok (.istore 4, 2) := by decide +kernel
theorem dX8_sizeOf_84 : decode cX8_sizeOf 84 = .ok (.iload_n 2, 1) := by decide +kernel
theorem dX8_sizeOf_85 : decode cX8_sizeOf 85 = .ok (.iconst 2, 1) := by decide +kernel
theorem dX8_sizeOf_86 : decode cX8_sizeOf 86 = .ok (.if_icmp .ne 9, 3) := by decide +kernel
theorem dX8_sizeOf_89 : decode cX8_sizeOf 89 = .ok (.iload 4, 2) := by decide +kernel
theorem dX8_sizeOf_91 : decode cX8_sizeOf 91 = .ok (.ineg, 1) := by decide +kernel
theorem dX8_sizeOf_92 : decode cX8_sizeOf 92 = .ok (.goto 17, 3) := by decide +kernel
theorem dX8_sizeOf_95 : decode cX8_sizeOf 95 = .ok (.iload_n 2, 1) := by decide +kernel
theorem dX8_sizeOf_96 : decode cX8_sizeOf 96 = .ok (.iconst 5, 1) := by decide +kernel
theorem dX8_sizeOf_97 : decode cX8_sizeOf 97 = .ok (.if_icmp .ne 10, 3) := by decide +kernel
theorem dX8_sizeOf_100 : decode cX8_sizeOf 100 = .ok (.iconst 2, 1) := by decide +kernel
theorem dX8_sizeOf_101 : decode cX8_sizeOf 101 = .ok (.iload 4, 2) := by decide +kernel
theorem dX8_sizeOf_103 : decode cX8_sizeOf 103 = .ok (.imul, 1) := by decide +kernel
theorem dX8_sizeOf_104 : decode cX8_sizeOf 104 = .ok (.goto 5, 3) := by decide +kernel
theorem dX8_sizeOf_107 : decode cX8_sizeOf 107 = .ok (.iload 4, 2) := by decide +kernel
theorem dX8_sizeOf_109 : decode cX8_sizeOf 109 = .ok (.ireturn, 1) := by decide +kernel
theorem dX8_markOfEater_0 : decode cX8_markOfEater 0 = .ok (.aload_n 0, 1) := by decide +kernel
theorem dX8_markOfEater_1 : decode cX8_markOfEater 1 = .ok (.getfield 7, 3) := by decide +kernel
theorem dX8_markOfEater_4 : decode cX8_markOfEater 4 = .ok (.iconst 3, 1) := by decide +kernel
theorem dX8_markOfEater_5 : decode cX8_markOfEater 5 = .ok (.iload_n 1, 1) := by decide +kernel
theorem dX8_markOfEater_6 : decode cX8_markOfEater 6 = .ok (.iadd, 1) := by decide +kernel
theorem dX8_markOfEater_7 : decode cX8_markOfEater 7 = .ok (.iaload, 1) := by decide +kernel
theorem dX8_markOfEater_8 : decode cX8_markOfEater 8 = .ok (.istore_n 2, 1) := by decide +kernel
theorem dX8_markOfEater_9 : decode cX8_markOfEater 9 = .ok (.iload_n 2, 1) := by decide +kernel
theorem dX8_markOfEater_10 : decode cX8_markOfEater 10 = .ok (.iconst 3, 1) := by decide +kernel
theorem dX8_markOfEater_11 : decode cX8_markOfEater 11 = .ok (.if_icmp .ne 9, 3) := by decide +kernel
theorem dX8_markOfEater_14 : decode cX8_markOfEater 14 = .ok (.aload_n 0, 1) := by decide +kernel
theorem dX8_markOfEater_15 : decode cX8_markOfEater 15 = .ok (.bipush 22, 2) := by decide +kernel
theorem dX8_markOfEater_17 : decode cX8_markOfEater 17 = .ok (.invokevirtual 233, 3) := by decide +kernel
theorem dX8_markOfEater_20 : decode cX8_markOfEater 20 = .ok (.iload_n 2, 1) := by decide +kernel
theorem dX8_markOfEater_21 : decode cX8_markOfEater 21 = .ok (.iconst 2, 1) := by decide +kernel
theorem dX8_markOfEater_22 : decode cX8_markOfEater 22 = .ok (.if_icmp .ne 9, 3) := by decide +kernel
theorem dX8_markOfEater_25 : decode cX8_markOfEater 25 = .ok (.aload_n 0, 1) := by decide +kernel
theorem dX8_markOfEater_26 : decode cX8_markOfEater 26 = .ok (.bipush 24, 2) := by decide +kernel
theorem dX8_markOfEater_28 : decode cX8_markOfEater 28 = .ok (.invokevirtual 233, 3) := by decide +kernel
theorem dX8_markOfEater_31 : decode cX8_markOfEater 31 = .ok (.aload_n 0, 1) := by decide +kernel
theorem dX8_markOfEater_32 : decode cX8_markOfEater 32 = .ok (.bipush 21, 2) := by decide +kernel
theorem dX8_markOfEater_34 : decode cX8_markOfEater 34 = .ok (.invokevirtual 233, 3) := by decide +kernel
theorem dX8_markOfEater_37 : decode cX8_markOfEater 37 = .ok (.aload_n 0, 1) := by decide +kernel
theorem dX8_markOfEater_38 : decode cX8_markOfEater 38 = .ok (.bipush 20, 2) := by decide +kernel
theorem dX8_markOfEater_40 : decode cX8_markOfEater 40 = .ok (.invokevirtual 233, 3) := by decide +kernel
theorem dX8_markOfEater_43 : decode cX8_markOfEater 43 = .ok (.iload_n 1, 1) := by decide +kernel
theorem dX8_markOfEater_44 : decode cX8_markOfEater 44 = .ok (.aload_n 0, 1) := by decide +kernel
theorem dX8_markOfEater_45 : decode cX8_markOfEater 45 = .ok (.getfield 7, 3) := by decide +kernel
theorem dX8_markOfEater_48 : decode cX8_markOfEater 48 = .ok (.bipush 9, 2) := by decide +kernel
theorem dX8_markOfEater_50 : decode cX8_markOfEater 50 = .ok (.iload_n 1, 1) := by decide +kernel
theorem dX8_markOfEater_51 : decode cX8_markOfEater 51 = .ok (.iadd, 1) := by decide +kernel
theorem dX8_markOfEater_52 : decode cX8_markOfEater 52 = .ok (.iaload, 1) := by decide +kernel
theorem dX8_markOfEater_53 : decode cX8_markOfEater 53 = .ok (.iadd, 1) := by decide +kernel
theorem dX8_markOfEater_54 : decode cX8_markOfEater 54 = .ok (.istore_n 3, 1) := by decide +kernel
theorem dX8_markOfEater_55 : decode cX8_markOfEater 55 = .ok (.iload_n 2, 1) := by decide +kernel
theorem dX8_markOfEater_56 : decode cX8_markOfEater 56 = .ok (.iconst 3, 1) := by decide +kernel
theorem dX8_markOfEater_57 : decode cX8_markOfEater 57 = .ok (.if_icmp .ne 11, 3) := by decide +kernel
theorem dX8_markOfEater_60 : decode cX8_markOfEater 60 = .ok (.iload_n 3, 1) := by decide +kernel
theorem dX8_markOfEater_61 : decode cX8_markOfEater 61 = .ok (.sipush 1000, 3) := by decide +kernel
theorem dX8_markOfEater_64 : decode cX8_markOfEater 64 = .ok (.isub, 1) := by decide +kernel
theorem dX8_markOfEater_65 : decode cX8_markOfEater 65 = .ok (.goto 15, 3) := by decide +kernel
theorem dX8_markOfEater_68 : decode cX8_markOfEater 68 = .ok (.iload_n 2, 1) := by decide +kernel
theorem dX8_markOfEater_69 : decode cX8_markOfEater 69 = .ok (.iconst 2, 1) := by decide +kernel
theorem dX8_markOfEater_70 : decode cX8_markOfEater 70 = .ok (.if_icmp .ne 9, 3) := by decide +kernel
theorem dX8_markOfEater_73 : decode cX8_markOfEater 73 = .ok (.iconst 2, 1) := by decide +kernel
theorem dX8_markOfEater_74 : decode cX8_markOfEater 74 = .ok (.iload_n 3, 1) := by decide +kernel
theorem dX8_markOfEater_75 : decode cX8_markOfEater 75 = .ok (.imul, 1) := by decide +kernel
theorem dX8_markOfEater_76 : decode cX8_markOfEater 76 = .ok (.goto 4, 3) := by decide +kernel
theorem dX8_markOfEater_79 : decode cX8_markOfEater 79 = .ok (.iload_n 3, 1) := by decide +kernel
theorem dX8_markOfEater_80 : decode cX8_markOfEater 80 = .ok (.ireturn, 1) := by decide +kernel
theorem dX8_markOf_0 : decode cX8_markOf 0 = .ok (.aload_n 0, 1) := by decide +kernel
theorem dX8_markOf_1 : decode cX8_markOf 1 = .ok (.getfield 7, 3) := by decide +kernel
theorem dX8_markOf_4 : decode cX8_markOf 4 = .ok (.iconst 3, 1) := by decide +kernel
theorem dX8_markOf_5 : decode cX8_markOf 5 = .ok (.iload_n 1, 1) := by decide +kernel
theorem dX8_markOf_6 : decode cX8_markOf 6 = .ok (.iadd, 1) := by decide +kernel
theorem dX8_markOf_7 : decode cX8_markOf 7 = .ok (.iaload, 1) := by decide +kernel
theorem dX8_markOf_8 : decode cX8_markOf 8 = .ok (.iconst 4, 1) := by decide +kernel
theorem dX8_markOf_9 : decode cX8_markOf 9 = .ok (.invokestatic 230, 3) := by decide +kernel
theorem dX8_markOf_12 : decode cX8_markOf 12 = .ok (.ifCond .ne 9, 3) := by decide +kernel
theorem dX8_markOf_15 : decode cX8_markOf 15 = .ok (.aload_n 0, 1) := by decide +kernel
theorem dX8_markOf_16 : decode cX8_markOf 16 = .ok (.iload_n 1, 1) := by decide +kernel
theorem dX8_markOf_17 : decode cX8_markOf 17 = .ok (.invokevirtual 236, 3) := by decide +kernel
theorem dX8_markOf_20 : decode cX8_markOf 20 = .ok (.ireturn, 1) := by decide +kernel
theorem dX8_markOf_21 : decode cX8_markOf 21 = .ok (.aload_n 0, 1) := by decide +kernel
theorem dX8_markOf_22 : decode cX8_markOf 22 = .ok (.bipush 23, 2) := by decide +kernel
theorem dX8_markOf_24 : decode cX8_markOf 24 = .ok (.invokevirtual 233, 3) := by decide +kernel
theorem dX8_markOf_27 : decode cX8_markOf 27 = .ok (.aload_n 0, 1) := by decide +kernel
theorem dX8_markOf_28 : decode cX8_markOf 28 = .ok (.bipush 20, 2) := by decide +kernel
theorem dX8_markOf_30 : decode cX8_markOf 30 = .ok (.invokevirtual 233, 3) := by decide +kernel
theorem dX8_markOf_33 : decode cX8_markOf 33 = .ok (.iload_n 1, 1) := by decide +kernel
theorem dX8_markOf_34 : decode cX8_markOf 34 = .ok (.aload_n 0, 1) := by decide +kernel
theorem dX8_markOf_35 : decode cX8_markOf 35 = .ok (.iload_n 1, 1) := by decide +kernel
theorem dX8_markOf_36 : decode cX8_markOf 36 = .ok (.invokevirtual 239, 3) := by decide +kernel
theorem dX8_markOf_39 : decode cX8_markOf 39 = .ok (.isub, 1) := by decide +kernel
theorem dX8_markOf_40 : decode cX8_markOf 40 = .ok (.ireturn, 1) := by decide +kernel
theorem dX8_ask_0 : decode cX8_ask 0 = .ok (.aload_n 0, 1) := by decide +kernel
theorem dX8_ask_1 : decode cX8_ask 1 = .ok (.iload_n 1, 1) := by decide +kernel
theorem dX8_ask_2 : decode cX8_ask 2 = .ok (.invokevirtual 194, 3) := by decide +kernel
theorem dX8_ask_5 : decode cX8_ask 5 = .ok (.ifCond .eq 13, 3) := by decide +kernel
theorem dX8_ask_8 : decode cX8_ask 8 = .ok (.iload_n 2, 1) := by decide +kernel
theorem dX8_ask_9 : decode cX8_ask 9 = .ok (.i2l, 1) := by decide +kernel
theorem dX8_ask_10 : decode cX8_ask 10 = .ok (.lconst 0, 1) := by decide +kernel
theorem dX8_ask_11 : decode cX8_ask 11 = .ok (.lconst 1, 1) := by decide +kernel
theorem dX8_ask_12 : decode cX8_ask 12 = .ok (.invokestatic 37, 3) := by decide +kernel
theorem dX8_ask_15 : decode cX8_ask 15 = .ok (.ifCond .ne 6, 3) := by decide +kernel
theorem dX8_ask_18 : decode cX8_ask 18 = .ok (.ldc 52, 2) := by decide +kernel
theorem dX8_ask_20 : decode cX8_ask 20 = .ok (.ireturn, 1) := by decide +kernel
theorem dX8_ask_21 : decode cX8_ask 21 = .ok (.aload_n 0, 1) := by decide +kernel
theorem dX8_ask_22 : decode cX8_ask 22 = .ok (.iconst 0, 1) := by decide +kernel
theorem dX8_ask_23 : decode cX8_ask 23 = .ok (.putfield 225, 3) := by decide +kernel
theorem dX8_ask_26 : decode cX8_ask 26 = .ok (.iload_n 2, 1) := by decide +kernel
theorem dX8_ask_27 : decode cX8_ask 27 = .ok (.ifCond .ne 11, 3) := by decide +kernel
theorem dX8_ask_30 : decode cX8_ask 30 = .ok (.aload_n 0, 1) := by decide +kernel
theorem dX8_ask_31 : decode cX8_ask 31 = .ok (.iload_n 1, 1) := by decide +kernel
theorem dX8_ask_32 : decode cX8_ask 32 = .ok (.invokevirtual 239, 3) := by decide +kernel
theorem dX8_ask_35 : decode cX8_ask 35 = .ok (.goto 8, 3) := by decide +kernel
theorem dX8_ask_38 : decode cX8_ask 38 = .ok (.aload_n 0, 1) := by decide +kernel
theorem dX8_ask_39 : decode cX8_ask 39 = .ok (.iload_n 1, 1) := by decide +kernel
theorem dX8_ask_40 : decode cX8_ask 40 = .ok (.invokevirtual 242, 3) := by decide +kernel
theorem dX8_ask_43 : decode cX8_ask 43 = .ok (.ireturn, 1) := by decide +kernel
theorem dX8_trace_0 : decode cX8_trace 0 = .ok (.iload_n 1, 1) := by decide +kernel
theorem dX8_trace_1 : decode cX8_trace 1 = .ok (.i2l, 1) := by decide +kernel
theorem dX8_trace_2 : decode cX8_trace 2 = .ok (.lconst 0, 1) := by decide +kernel
theorem dX8_trace_3 : decode cX8_trace 3 = .ok (.aload_n 0, 1) := by decide +kernel
theorem dX8_trace_4 : decode cX8_trace 4 = .ok (.getfield 225, 3) := by decide +kernel
theorem dX8_trace_7 : decode cX8_trace 7 = .ok (.iconst 1, 1) := by decide +kernel
theorem dX8_trace_8 : decode cX8_trace 8 = .ok (.isub, 1) := by decide +kernel
theorem dX8_trace_9 : decode cX8_trace 9 = .ok (.i2l, 1) := by decide +kernel
theorem dX8_trace_10 : decode cX8_trace 10 = .ok (.invokestatic 37, 3) := by decide +kernel
theorem dX8_trace_13 : decode cX8_trace 13 = .ok (.ifCond .eq 12, 3) := by decide +kernel
theorem dX8_trace_16 : decode cX8_trace 16 = .ok (.aload_n 0, 1) := by decide +kernel
theorem dX8_trace_17 : decode cX8_trace 17 = .ok (.getfield 32, 3) := by decide +kernel
theorem dX8_trace_20 : decode cX8_trace 20 = .ok (.iload_n 1, 1) := by decide +kernel
theorem dX8_trace_21 : decode cX8_trace 21 = .ok (.iaload, 1) := by decide +kernel
theorem dX8_trace_22 : decode cX8_trace 22 = .ok (.goto 5, 3) := by decide +kernel
theorem dX8_trace_25 : decode cX8_trace 25 = .ok (.ldc 216, 2) := by decide +kernel
theorem dX8_trace_27 : decode cX8_trace 27 = .ok (.ireturn, 1) := by decide +kernel
theorem dX8_count_0 : decode cX8_count 0 = .ok (.iconst 0, 1) := by decide +kernel
theorem dX8_count_1 : decode cX8_count 1 = .ok (.istore_n 2, 1) := by decide +kernel
theorem dX8_count_2 : decode cX8_count 2 = .ok (.iconst 0, 1) := by decide +kernel
theorem dX8_count_3 : decode cX8_count 3 = .ok (.istore_n 3, 1) := by decide +kernel
theorem dX8_count_4 : decode cX8_count 4 = .ok (.iconst 0, 1) := by decide +kernel
theorem dX8_count_5 : decode cX8_count 5 = .ok (.istore 4, 2) := by decide +kernel
theorem dX8_count_7 : decode cX8_count 7 = .ok (.iload 4, 2) := by decide +kernel
theorem dX8_count_9 : decode cX8_count 9 = .ok (.bipush 8, 2) := by decide +kernel
theorem dX8_count_11 : decode cX8_count 11 = .ok (.if_icmp .ge 27, 3) := by decide +kernel
theorem dX8_count_14 : decode cX8_count 14 = .ok (.iload_n 2, 1) := by decide +kernel
theorem dX8_count_15 : decode cX8_count 15 = .ok (.aload_n 0, 1) := by decide +kernel
theorem dX8_count_16 : decode cX8_count 16 = .ok (.getfield 16, 3) := by decide +kernel
theorem dX8_count_19 : decode cX8_count 19 = .ok (.iload 4, 2) := by decide +kernel
theorem dX8_count_21 : decode cX8_count 21 = .ok (.iaload, 1) := by decide +kernel
theorem dX8_count_22 : decode cX8_count 22 = .ok (.ifCond .ge 7, 3) := by decide +kernel
theorem dX8_count_25 : decode cX8_count 25 = .ok (.iconst 0, 1) := by decide +kernel
theorem dX8_count_26 : decode cX8_count 26 = .ok (.goto 4, 3) := by decide +kernel
theorem dX8_count_29 : decode cX8_count 29 = .ok (.iconst 1, 1) := by decide +kernel
theorem dX8_count_30 : decode cX8_count 30 = .ok (.iadd, 1) := by decide +kernel
theorem dX8_count_31 : decode cX8_count 31 = .ok (.istore_n 2, 1) := by decide +kernel
theorem dX8_count_32 : decode cX8_count 32 = .ok (.iinc 4 1, 3) := by decide +kernel
theorem dX8_count_35 : decode cX8_count 35 = .ok (.goto (-28), 3) := by decide +kernel
theorem dX8_count_38 : decode cX8_count 38 = .ok (.iconst 0, 1) := by decide +kernel
theorem dX8_count_39 : decode cX8_count 39 = .ok (.istore 4, 2) := by decide +kernel
theorem dX8_count_41 : decode cX8_count 41 = .ok (.iload 4, 2) := by decide +kernel
theorem dX8_count_43 : decode cX8_count 43 = .ok (.aload_n 0, 1) := by decide +kernel
theorem dX8_count_44 : decode cX8_count 44 = .ok (.getfield 7, 3) := by decide +kernel
theorem dX8_count_47 : decode cX8_count 47 = .ok (.iconst 0, 1) := by decide +kernel
theorem dX8_count_48 : decode cX8_count 48 = .ok (.iaload, 1) := by decide +kernel
theorem dX8_count_49 : decode cX8_count 49 = .ok (.if_icmp .ge 22, 3) := by decide +kernel
theorem dX8_count_52 : decode cX8_count 52 = .ok (.iload_n 3, 1) := by decide +kernel
theorem dX8_count_53 : decode cX8_count 53 = .ok (.aload_n 0, 1) := by decide +kernel
theorem dX8_count_54 : decode cX8_count 54 = .ok (.getfield 7, 3) := by decide +kernel
theorem dX8_count_57 : decode cX8_count 57 = .ok (.bipush 27, 2) := by decide +kernel
theorem dX8_count_59 : decode cX8_count 59 = .ok (.iload 4, 2) := by decide +kernel
theorem dX8_count_61 : decode cX8_count 61 = .ok (.iadd, 1) := by decide +kernel
theorem dX8_count_62 : decode cX8_count 62 = .ok (.iaload, 1) := by decide +kernel
theorem dX8_count_63 : decode cX8_count 63 = .ok (.iadd, 1) := by decide +kernel
theorem dX8_count_64 : decode cX8_count 64 = .ok (.istore_n 3, 1) := by decide +kernel
theorem dX8_count_65 : decode cX8_count 65 = .ok (.iinc 4 1, 3) := by decide +kernel
theorem dX8_count_68 : decode cX8_count 68 = .ok (.goto (-27), 3) := by decide +kernel
theorem dX8_count_71 : decode cX8_count 71 = .ok (.iload_n 1, 1) := by decide +kernel
theorem dX8_count_72 : decode cX8_count 72 = .ok (.tableswitch 79 0 6 #[44, 46, 53, 60, 67, 69, 74], 44) := by decide +kernel
theorem dX8_count_116 : decode cX8_count 116 = .ok (.iload_n 2, 1) := by decide +kernel
theorem dX8_count_117 : decode cX8_count 117 = .ok (.ireturn, 1) := by decide +kernel
theorem dX8_count_118 : decode cX8_count 118 = .ok (.aload_n 0, 1) := by decide +kernel
theorem dX8_count_119 : decode cX8_count 119 = .ok (.getfield 7, 3) := by decide +kernel
theorem dX8_count_122 : decode cX8_count 122 = .ok (.iconst 0, 1) := by decide +kernel
theorem dX8_count_123 : decode cX8_count 123 = .ok (.iaload, 1) := by decide +kernel
theorem dX8_count_124 : decode cX8_count 124 = .ok (.ireturn, 1) := by decide +kernel
theorem dX8_count_125 : decode cX8_count 125 = .ok (.aload_n 0, 1) := by decide +kernel
theorem dX8_count_126 : decode cX8_count 126 = .ok (.getfield 7, 3) := by decide +kernel
theorem dX8_count_129 : decode cX8_count 129 = .ok (.iconst 2, 1) := by decide +kernel
theorem dX8_count_130 : decode cX8_count 130 = .ok (.iaload, 1) := by decide +kernel
theorem dX8_count_131 : decode cX8_count 131 = .ok (.ireturn, 1) := by decide +kernel
theorem dX8_count_132 : decode cX8_count 132 = .ok (.aload_n 0, 1) := by decide +kernel
theorem dX8_count_133 : decode cX8_count 133 = .ok (.getfield 7, 3) := by decide +kernel
theorem dX8_count_136 : decode cX8_count 136 = .ok (.iconst 1, 1) := by decide +kernel
theorem dX8_count_137 : decode cX8_count 137 = .ok (.iaload, 1) := by decide +kernel
theorem dX8_count_138 : decode cX8_count 138 = .ok (.ireturn, 1) := by decide +kernel
theorem dX8_count_139 : decode cX8_count 139 = .ok (.iload_n 3, 1) := by decide +kernel
theorem dX8_count_140 : decode cX8_count 140 = .ok (.ireturn, 1) := by decide +kernel
theorem dX8_count_141 : decode cX8_count 141 = .ok (.aload_n 0, 1) := by decide +kernel
theorem dX8_count_142 : decode cX8_count 142 = .ok (.getfield 146, 3) := by decide +kernel
theorem dX8_count_145 : decode cX8_count 145 = .ok (.ireturn, 1) := by decide +kernel
theorem dX8_count_146 : decode cX8_count 146 = .ok (.aload_n 0, 1) := by decide +kernel
theorem dX8_count_147 : decode cX8_count 147 = .ok (.getfield 66, 3) := by decide +kernel
theorem dX8_count_150 : decode cX8_count 150 = .ok (.ireturn, 1) := by decide +kernel
theorem dX8_count_151 : decode cX8_count 151 = .ok (.ldc 52, 2) := by decide +kernel
theorem dX8_count_153 : decode cX8_count 153 = .ok (.ireturn, 1) := by decide +kernel
theorem dX8_status_0 : decode cX8_status 0 = .ok (.aload_n 0, 1) := by decide +kernel
theorem dX8_status_1 : decode cX8_status 1 = .ok (.getfield 41, 3) := by decide +kernel
theorem dX8_status_4 : decode cX8_status 4 = .ok (.ireturn, 1) := by decide +kernel
end
section
theorem dJ9_abs_0f7a4_0 : decode cJ9_abs_0f7a4 0 = .ok (.iload_n 0, 1) := by decide +kernel
theorem dJ9_abs_0f7a4_1 : decode cJ9_abs_0f7a4 1 = .ok (.ifCond .ge 8, 3) := by decide +kernel
theorem dJ9_abs_0f7a4_4 : decode cJ9_abs_0f7a4 4 = .ok (.iload_n 0, 1) := by decide +kernel
theorem dJ9_abs_0f7a4_5 : decode cJ9_abs_0f7a4 5 = .ok (.ineg, 1) := by decide +kernel
theorem dJ9_abs_0f7a4_6 : decode cJ9_abs_0f7a4 6 = .ok (.goto 4, 3) := by decide +kernel
theorem dJ9_abs_0f7a4_9 : decode cJ9_abs_0f7a4 9 = .ok (.iload_n 0, 1) := by decide +kernel
theorem dJ9_abs_0f7a4_10 : decode cJ9_abs_0f7a4 10 = .ok (.ireturn, 1) := by decide +kernel
theorem dJ9_max_7cf53_0 : decode cJ9_max_7cf53 0 = .ok (.iload_n 0, 1) := by decide +kernel
theorem dJ9_max_7cf53_1 : decode cJ9_max_7cf53 1 = .ok (.iload_n 1, 1) := by decide +kernel
theorem dJ9_max_7cf53_2 : decode cJ9_max_7cf53 2 = .ok (.if_icmp .lt 7, 3) := by decide +kernel
theorem dJ9_max_7cf53_5 : decode cJ9_max_7cf53 5 = .ok (.iload_n 0, 1) := by decide +kernel
theorem dJ9_max_7cf53_6 : decode cJ9_max_7cf53 6 = .ok (.goto 4, 3) := by decide +kernel
theorem dJ9_max_7cf53_9 : decode cJ9_max_7cf53 9 = .ok (.iload_n 1, 1) := by decide +kernel
theorem dJ9_max_7cf53_10 : decode cJ9_max_7cf53 10 = .ok (.ireturn, 1) := by decide +kernel
theorem dJ9_min_7cf53_0 : decode cJ9_min_7cf53 0 = .ok (.iload_n 0, 1) := by decide +kernel
theorem dJ9_min_7cf53_1 : decode cJ9_min_7cf53 1 = .ok (.iload_n 1, 1) := by decide +kernel
theorem dJ9_min_7cf53_2 : decode cJ9_min_7cf53 2 = .ok (.if_icmp .gt 7, 3) := by decide +kernel
theorem dJ9_min_7cf53_5 : decode cJ9_min_7cf53 5 = .ok (.iload_n 0, 1) := by decide +kernel
theorem dJ9_min_7cf53_6 : decode cJ9_min_7cf53 6 = .ok (.goto 4, 3) := by decide +kernel
theorem dJ9_min_7cf53_9 : decode cJ9_min_7cf53 9 = .ok (.iload_n 1, 1) := by decide +kernel
theorem dJ9_min_7cf53_10 : decode cJ9_min_7cf53 10 = .ok (.ireturn, 1) := by decide +kernel
theorem dJ0_length_8abf5_0 : decode cJ0_length_8abf5 0 = .ok (.aload_n 0, 1) := by decide +kernel
theorem dJ0_length_8abf5_1 : decode cJ0_length_8abf5 1 = .ok (.getfield 9, 3) := by decide +kernel
theorem dJ0_length_8abf5_4 : decode cJ0_length_8abf5 4 = .ok (.arraylength, 1) := by decide +kernel
theorem dJ0_length_8abf5_5 : decode cJ0_length_8abf5 5 = .ok (.aload_n 0, 1) := by decide +kernel
theorem dJ0_length_8abf5_6 : decode cJ0_length_8abf5 6 = .ok (.invokevirtual 335, 3) := by decide +kernel
theorem dJ0_length_8abf5_9 : decode cJ0_length_8abf5 9 = .ok (.ishr, 1) := by decide +kernel
theorem dJ0_length_8abf5_10 : decode cJ0_length_8abf5 10 = .ok (.ireturn, 1) := by decide +kernel
theorem dJ0_charAt_5068e_0 : decode cJ0_charAt_5068e 0 = .ok (.aload_n 0, 1) := by decide +kernel
theorem dJ0_charAt_5068e_1 : decode cJ0_charAt_5068e 1 = .ok (.invokevirtual 492, 3) := by decide +kernel
theorem dJ0_charAt_5068e_4 : decode cJ0_charAt_5068e 4 = .ok (.ifCond .eq 12, 3) := by decide +kernel
theorem dJ0_charAt_5068e_7 : decode cJ0_charAt_5068e 7 = .ok (.aload_n 0, 1) := by decide +kernel
theorem dJ0_charAt_5068e_8 : decode cJ0_charAt_5068e 8 = .ok (.getfield 9, 3) := by decide +kernel
theorem dJ0_charAt_5068e_11 : decode cJ0_charAt_5068e 11 = .ok (.iload_n 1, 1) := by decide +kernel
theorem dJ0_charAt_5068e_12 : decode cJ0_charAt_5068e 12 = .ok (.invokestatic 495, 3) := by decide +kernel
theorem dJ0_charAt_5068e_15 : decode cJ0_charAt_5068e 15 = .ok (.ireturn, 1) := by decide +kernel
theorem dJ0_charAt_5068e_16 : decode cJ0_charAt_5068e 16 = .ok (.aload_n 0, 1) := by decide +kernel
theorem dJ0_charAt_5068e_17 : decode cJ0_charAt_5068e 17 = .ok (.getfield 9, 3) := by decide +kernel
theorem dJ0_charAt_5068e_20 : decode cJ0_charAt_5068e 20 = .ok (.iload_n 1, 1) := by decide +kernel
theorem dJ0_charAt_5068e_21 : decode cJ0_charAt_5068e 21 = .ok (.invokestatic 498, 3) := by decide +kernel
theorem dJ0_charAt_5068e_24 : decode cJ0_charAt_5068e 24 = .ok (.ireturn, 1) := by decide +kernel
theorem dJ0_coder_7d493_0 : decode cJ0_coder_7d493 0 = .ok (.getstatic 38, 3) := by decide +kernel
theorem dJ0_coder_7d493_3 : decode cJ0_coder_7d493 3 = .ok (.ifCond .eq 10, 3) := by decide +kernel
theorem dJ0_coder_7d493_6 : decode cJ0_coder_7d493 6 = .ok (.aload_n 0, 1) := by decide +kernel
theorem dJ0_coder_7d493_7 : decode cJ0_coder_7d493 7 = .ok (.getfield 15, 3) := by decide +kernel
theorem dJ0_coder_7d493_10 : decode cJ0_coder_7d493 10 = .ok (.goto 4, 3) := by decide +kernel
theorem dJ0_coder_7d493_13 : decode cJ0_coder_7d493 13 = .ok (.iconst 1, 1) := by decide +kernel
theorem dJ0_coder_7d493_14 : decode cJ0_coder_7d493 14 = .ok (.ireturn, 1) := by decide +kernel
theorem dJ0_isLatin1_aae02_0 : decode cJ0_isLatin1_aae02 0 = .ok (.getstatic 38, 3) := by decide +kernel
theorem dJ0_isLatin1_aae02_3 : decode cJ0_isLatin1_aae02 3 = .ok (.ifCond .eq 14, 3) := by decide +kernel
theorem dJ0_isLatin1_aae02_6 : decode cJ0_isLatin1_aae02 6 = .ok (.aload_n 0, 1) := by decide +kernel
theorem dJ0_isLatin1_aae02_7 : decode cJ0_isLatin1_aae02 7 = .ok (.getfield 15, 3) := by decide +kernel
theorem dJ0_isLatin1_aae02_10 : decode cJ0_isLatin1_aae02 10 = .ok (.ifCond .ne 7, 3) := by decide +kernel
theorem dJ0_isLatin1_aae02_13 : decode cJ0_isLatin1_aae02 13 = .ok (.iconst 1, 1) := by decide +kernel
theorem dJ0_isLatin1_aae02_14 : decode cJ0_isLatin1_aae02 14 = .ok (.goto 4, 3) := by decide +kernel
theorem dJ0_isLatin1_aae02_17 : decode cJ0_isLatin1_aae02 17 = .ok (.iconst 0, 1) := by decide +kernel
theorem dJ0_isLatin1_aae02_18 : decode cJ0_isLatin1_aae02 18 = .ok (.ireturn, 1) := by decide +kernel
theorem dJ0_checkIndex_df160_0 : decode cJ0_checkIndex_df160 0 = .ok (.iload_n 0, 1) := by decide +kernel
theorem dJ0_checkIndex_df160_1 : decode cJ0_checkIndex_df160 1 = .ok (.iload_n 1, 1) := by decide +kernel
theorem dJ0_checkIndex_df160_2 : decode cJ0_checkIndex_df160 2 = .ok (.getstatic 1053, 3) := by decide +kernel
theorem dJ0_checkIndex_df160_5 : decode cJ0_checkIndex_df160 5 = .ok (.invokestatic 1059, 3) := by decide +kernel
theorem dJ0_checkIndex_df160_8 : decode cJ0_checkIndex_df160 8 = .ok (.pop, 1) := by decide +kernel
theorem dJ0_checkIndex_df160_9 : decode cJ0_checkIndex_df160 9 = .ok (.return_, 1) := by decide +kernel
theorem dJ1_charAt_3b067_0 : decode cJ1_charAt_3b067 0 = .ok (.iload_n 1, 1) := by decide +kernel
theorem dJ1_charAt_3b067_1 : decode cJ1_charAt_3b067 1 = .ok (.aload_n 0, 1) := by decide +kernel
theorem dJ1_charAt_3b067_2 : decode cJ1_charAt_3b067 2 = .ok (.arraylength, 1) := by decide +kernel
theorem dJ1_charAt_3b067_3 : decode cJ1_charAt_3b067 3 = .ok (.invokestatic 9, 3) := by decide +kernel
theorem dJ1_charAt_3b067_6 : decode cJ1_charAt_3b067 6 = .ok (.aload_n 0, 1) := by decide +kernel
theorem dJ1_charAt_3b067_7 : decode cJ1_charAt_3b067 7 = .ok (.iload_n 1, 1) := by decide +kernel
theorem dJ1_charAt_3b067_8 : decode cJ1_charAt_3b067 8 = .ok (.baload, 1) := by decide +kernel
theorem dJ1_charAt_3b067_9 : decode cJ1_charAt_3b067 9 = .ok (.sipush 255, 3) := by decide +kernel
theorem dJ1_charAt_3b067_12 : decode cJ1_charAt_3b067 12 = .ok (.iand, 1) := by decide +kernel
theorem dJ1_charAt_3b067_13 : decode cJ1_charAt_3b067 13 = .ok (.i2c, 1) := by decide +kernel
theorem dJ1_charAt_3b067_14 : decode cJ1_charAt_3b067 14 = .ok (.ireturn, 1) := by decide +kernel
theorem dJ2_getChar_3b067_0 : decode cJ2_getChar_3b067 0 = .ok (.getstatic 44, 3) := by decide +kernel
theorem dJ2_getChar_3b067_3 : decode cJ2_getChar_3b067 3 = .ok (.ifCond .ne 25, 3) := by decide +kernel
theorem dJ2_getChar_3b067_6 : decode cJ2_getChar_3b067 6 = .ok (.iload_n 1, 1) := by decide +kernel
theorem dJ2_getChar_3b067_7 : decode cJ2_getChar_3b067 7 = .ok (.ifCond .lt 11, 3) := by decide +kernel
theorem dJ2_getChar_3b067_10 : decode cJ2_getChar_3b067 10 = .ok (.iload_n 1, 1) := by decide +kernel
theorem dJ2_getChar_3b067_11 : decode cJ2_getChar_3b067 11 = .ok (.aload_n 0, 1) := by decide +kernel
theorem dJ2_getChar_3b067_12 : decode cJ2_getChar_3b067 12 = .ok (.invokestatic 48, 3) := by decide +kernel
theorem dJ2_getChar_3b067_15 : decode cJ2_getChar_3b067 15 = .ok (.if_icmp .lt 13, 3) := by decide +kernel
theorem dJ2_getChar_3b067_18 : decode cJ2_getChar_3b067 18 = .ok (.new 52, 3) := by decide +kernel
theorem dJ2_getChar_3b067_21 : decode cJ2_getChar_3b067 21 = .ok (.dup, 1) := by decide +kernel
theorem dJ2_getChar_3b067_22 : decode cJ2_getChar_3b067 22 = .ok (.ldc 54, 2) := by decide +kernel
theorem dJ2_getChar_3b067_24 : decode cJ2_getChar_3b067 24 = .ok (.invokespecial 56, 3) := by decide +kernel
theorem dJ2_getChar_3b067_27 : decode cJ2_getChar_3b067 27 = .ok (.athrow, 1) := by decide +kernel
theorem dJ2_getChar_3b067_28 : decode cJ2_getChar_3b067 28 = .ok (.iload_n 1, 1) := by decide +kernel
theorem dJ2_getChar_3b067_29 : decode cJ2_getChar_3b067 29 = .ok (.iconst 1, 1) := by decide +kernel
theorem dJ2_getChar_3b067_30 : decode cJ2_getChar_3b067 30 = .ok (.ishl, 1) := by decide +kernel
theorem dJ2_getChar_3b067_31 : decode cJ2_getChar_3b067 31 = .ok (.istore_n 1, 1) := by decide +kernel
theorem dJ2_getChar_3b067_32 : decode cJ2_getChar_3b067 32 = .ok (.aload_n 0, 1) := by decide +kernel
theorem dJ2_getChar_3b067_33 : decode cJ2_getChar_3b067 33 = .ok (.iload_n 1, 1) := by decide +kernel
theorem dJ2_getChar_3b067_34 : decode cJ2_getChar_3b067 34 = .ok (.iinc 1 1, 3) := by decide +kernel
theorem dJ2_getChar_3b067_37 : decode cJ2_getChar_3b067 37 = .ok (.baload, 1) := by decide +kernel
theorem dJ2_getChar_3b067_38 : decode cJ2_getChar_3b067 38 = .ok (.sipush 255, 3) := by decide +kernel
theorem dJ2_getChar_3b067_41 : decode cJ2_getChar_3b067 41 = .ok (.iand, 1) := by decide +kernel
theorem dJ2_getChar_3b067_42 : decode cJ2_getChar_3b067 42 = .ok (.getstatic 59, 3) := by decide +kernel
theorem dJ2_getChar_3b067_45 : decode cJ2_getChar_3b067 45 = .ok (.ishl, 1) := by decide +kernel
theorem dJ2_getChar_3b067_46 : decode cJ2_getChar_3b067 46 = .ok (.aload_n 0, 1) := by decide +kernel
theorem dJ2_getChar_3b067_47 : decode cJ2_getChar_3b067 47 = .ok (.iload_n 1, 1) := by decide +kernel
theorem dJ2_getChar_3b067_48 : decode cJ2_getChar_3b067 48 = .ok (.baload, 1) := by decide +kernel
theorem dJ2_getChar_3b067_49 : decode cJ2_getChar_3b067 49 = .ok (.sipush 255, 3) := by decide +kernel
theorem dJ2_getChar_3b067_52 : decode cJ2_getChar_3b067 52 = .ok (.iand, 1) := by decide +kernel
theorem dJ2_getChar_3b067_53 : decode cJ2_getChar_3b067 53 = .ok (.getstatic 63, 3) := by decide +kernel
theorem dJ2_getChar_3b067_56 : decode cJ2_getChar_3b067 56 = .ok (.ishl, 1) := by decide +kernel
theorem dJ2_getChar_3b067_57 : decode cJ2_getChar_3b067 57 = .ok (.ior, 1) := by decide +kernel
theorem dJ2_getChar_3b067_58 : decode cJ2_getChar_3b067 58 = .ok (.i2c, 1) := by decide +kernel
theorem dJ2_getChar_3b067_59 : decode cJ2_getChar_3b067 59 = .ok (.ireturn, 1) := by decide +kernel
theorem dJ2_length_9d52b_0 : decode cJ2_length_9d52b 0 = .ok (.aload_n 0, 1) := by decide +kernel
theorem dJ2_length_9d52b_1 : decode cJ2_length_9d52b 1 = .ok (.arraylength, 1) := by decide +kernel
theorem dJ2_length_9d52b_2 : decode cJ2_length_9d52b 2 = .ok (.iconst 1, 1) := by decide +kernel
theorem dJ2_length_9d52b_3 : decode cJ2_length_9d52b 3 = .ok (.ishr, 1) := by decide +kernel
theorem dJ2_length_9d52b_4 : decode cJ2_length_9d52b 4 = .ok (.ireturn, 1) := by decide +kernel
theorem dJ2_charAt_3b067_0 : decode cJ2_charAt_3b067 0 = .ok (.iload_n 1, 1) := by decide +kernel
theorem dJ2_charAt_3b067_1 : decode cJ2_charAt_3b067 1 = .ok (.aload_n 0, 1) := by decide +kernel
theorem dJ2_charAt_3b067_2 : decode cJ2_charAt_3b067 2 = .ok (.invokestatic 67, 3) := by decide +kernel
theorem dJ2_charAt_3b067_5 : decode cJ2_charAt_3b067 5 = .ok (.aload_n 0, 1) := by decide +kernel
theorem dJ2_charAt_3b067_6 : decode cJ2_charAt_3b067 6 = .ok (.iload_n 1, 1) := by decide +kernel
theorem dJ2_charAt_3b067_7 : decode cJ2_charAt_3b067 7 = .ok (.invokestatic 71, 3) := by decide +kernel
theorem dJ2_charAt_3b067_10 : decode cJ2_charAt_3b067 10 = .ok (.ireturn, 1) := by decide +kernel
theorem dJ2_checkIndex_2214a_0 : decode cJ2_checkIndex_2214a 0 = .ok (.iload_n 0, 1) := by decide +kernel
theorem dJ2_checkIndex_2214a_1 : decode cJ2_checkIndex_2214a 1 = .ok (.aload_n 1, 1) := by decide +kernel
theorem dJ2_checkIndex_2214a_2 : decode cJ2_checkIndex_2214a 2 = .ok (.invokestatic 48, 3) := by decide +kernel
theorem dJ2_checkIndex_2214a_5 : decode cJ2_checkIndex_2214a 5 = .ok (.invokestatic 414, 3) := by decide +kernel
theorem dJ2_checkIndex_2214a_8 : decode cJ2_checkIndex_2214a 8 = .ok (.return_, 1) := by decide +kernel
theorem dJ3_checkIndex_8e157_0 : decode cJ3_checkIndex_8e157 0 = .ok (.iload_n 0, 1) := by decide +kernel
theorem dJ3_checkIndex_8e157_1 : decode cJ3_checkIndex_8e157 1 = .ok (.ifCond .lt 8, 3) := by decide +kernel
theorem dJ3_checkIndex_8e157_4 : decode cJ3_checkIndex_8e157 4 = .ok (.iload_n 0, 1) := by decide +kernel
theorem dJ3_checkIndex_8e157_5 : decode cJ3_checkIndex_8e157 5 = .ok (.iload_n 1, 1) := by decide +kernel
theorem dJ3_checkIndex_8e157_6 : decode cJ3_checkIndex_8e157 6 = .ok (.if_icmp .lt 10, 3) := by decide +kernel
theorem dJ3_checkIndex_8e157_9 : decode cJ3_checkIndex_8e157 9 = .ok (.aload_n 2, 1) := by decide +kernel
theorem dJ3_checkIndex_8e157_10 : decode cJ3_checkIndex_8e157 10 = .ok (.iload_n 0, 1) := by decide +kernel
theorem dJ3_checkIndex_8e157_11 : decode cJ3_checkIndex_8e157 11 = .ok (.iload_n 1, 1) := by decide +kernel
theorem dJ3_checkIndex_8e157_12 : decode cJ3_checkIndex_8e157 12 = .ok (.invokestatic 95, 3) := by decide +kernel
theorem dJ3_checkIndex_8e157_15 : decode cJ3_checkIndex_8e157 15 = .ok (.athrow, 1) := by decide +kernel
theorem dJ3_checkIndex_8e157_16 : decode cJ3_checkIndex_8e157 16 = .ok (.iload_n 0, 1) := by decide +kernel
theorem dJ3_checkIndex_8e157_17 : decode cJ3_checkIndex_8e157 17 = .ok (.ireturn, 1) := by decide +kernel
theorem dL_law_0 : decode cL_law 0 = .ok (.new 7, 3) := by decide +kernel
theorem dL_law_3 : decode cL_law 3 = .ok (.dup, 1) := by decide +kernel
theorem dL_law_4 : decode cL_law 4 = .ok (.invokespecial 9, 3) := by decide +kernel
theorem dL_law_7 : decode cL_law 7 = .ok (.astore_n 1, 1) := by decide +kernel
theorem dL_law_8 : decode cL_law 8 = .ok (.new 10, 3) := by decide +kernel
theorem dL_law_11 : decode cL_law 11 = .ok (.dup, 1) := by decide +kernel
theorem dL_law_12 : decode cL_law 12 = .ok (.invokespecial 12, 3) := by decide +kernel
theorem dL_law_15 : decode cL_law 15 = .ok (.astore_n 2, 1) := by decide +kernel
theorem dL_law_16 : decode cL_law 16 = .ok (.iconst 0, 1) := by decide +kernel
theorem dL_law_17 : decode cL_law 17 = .ok (.istore_n 3, 1) := by decide +kernel
theorem dL_law_18 : decode cL_law 18 = .ok (.iload_n 3, 1) := by decide +kernel
theorem dL_law_19 : decode cL_law 19 = .ok (.aload_n 0, 1) := by decide +kernel
theorem dL_law_20 : decode cL_law 20 = .ok (.arraylength, 1) := by decide +kernel
theorem dL_law_21 : decode cL_law 21 = .ok (.bipush 6, 2) := by decide +kernel
theorem dL_law_23 : decode cL_law 23 = .ok (.isub, 1) := by decide +kernel
theorem dL_law_24 : decode cL_law 24 = .ok (.if_icmp .gt 1151, 3) := by decide +kernel
theorem dL_law_27 : decode cL_law 27 = .ok (.aload_n 0, 1) := by decide +kernel
theorem dL_law_28 : decode cL_law 28 = .ok (.iload_n 3, 1) := by decide +kernel
theorem dL_law_29 : decode cL_law 29 = .ok (.iaload, 1) := by decide +kernel
theorem dL_law_30 : decode cL_law 30 = .ok (.bipush 63, 2) := by decide +kernel
theorem dL_law_32 : decode cL_law 32 = .ok (.iand, 1) := by decide +kernel
theorem dL_law_33 : decode cL_law 33 = .ok (.tableswitch 1136 0 32 #[147, 190, 233, 296, 319, 382, 395, 408, 431, 454, 487, 520, 553, 566, 599, 632, 665, 698, 731, 764, 787, 800, 813, 846, 899, 942, 965, 988, 1011, 1044, 1077, 1100, 1123], 147) := by decide +kernel
theorem dL_law_180 : decode cL_law 180 = .ok (.aload_n 1, 1) := by decide +kernel
theorem dL_law_181 : decode cL_law 181 = .ok (.aload_n 0, 1) := by decide +kernel
theorem dL_law_182 : decode cL_law 182 = .ok (.iload_n 3, 1) := by decide +kernel
theorem dL_law_183 : decode cL_law 183 = .ok (.iconst 1, 1) := by decide +kernel
theorem dL_law_184 : decode cL_law 184 = .ok (.iadd, 1) := by decide +kernel
theorem dL_law_185 : decode cL_law 185 = .ok (.iaload, 1) := by decide +kernel
theorem dL_law_186 : decode cL_law 186 = .ok (.aload_n 0, 1) := by decide +kernel
theorem dL_law_187 : decode cL_law 187 = .ok (.iload_n 3, 1) := by decide +kernel
theorem dL_law_188 : decode cL_law 188 = .ok (.iconst 2, 1) := by decide +kernel
theorem dL_law_189 : decode cL_law 189 = .ok (.iadd, 1) := by decide +kernel
theorem dL_law_190 : decode cL_law 190 = .ok (.iaload, 1) := by decide +kernel
theorem dL_law_191 : decode cL_law 191 = .ok (.aload_n 0, 1) := by decide +kernel
theorem dL_law_192 : decode cL_law 192 = .ok (.iload_n 3, 1) := by decide +kernel
theorem dL_law_193 : decode cL_law 193 = .ok (.iconst 3, 1) := by decide +kernel
theorem dL_law_194 : decode cL_law 194 = .ok (.iadd, 1) := by decide +kernel
theorem dL_law_195 : decode cL_law 195 = .ok (.iaload, 1) := by decide +kernel
theorem dL_law_196 : decode cL_law 196 = .ok (.invokevirtual 13, 3) := by decide +kernel
theorem dL_law_199 : decode cL_law 199 = .ok (.aload_n 2, 1) := by decide +kernel
theorem dL_law_200 : decode cL_law 200 = .ok (.aload_n 0, 1) := by decide +kernel
theorem dL_law_201 : decode cL_law 201 = .ok (.iload_n 3, 1) := by decide +kernel
theorem dL_law_202 : decode cL_law 202 = .ok (.iconst 1, 1) := by decide +kernel
theorem dL_law_203 : decode cL_law 203 = .ok (.iadd, 1) := by decide +kernel
theorem dL_law_204 : decode cL_law 204 = .ok (.iaload, 1) := by decide +kernel
theorem dL_law_205 : decode cL_law 205 = .ok (.aload_n 0, 1) := by decide +kernel
theorem dL_law_206 : decode cL_law 206 = .ok (.iload_n 3, 1) := by decide +kernel
theorem dL_law_207 : decode cL_law 207 = .ok (.iconst 2, 1) := by decide +kernel
theorem dL_law_208 : decode cL_law 208 = .ok (.iadd, 1) := by decide +kernel
theorem dL_law_209 : decode cL_law 209 = .ok (.iaload, 1) := by decide +kernel
theorem dL_law_210 : decode cL_law 210 = .ok (.aload_n 0, 1) := by decide +kernel
theorem dL_law_211 : decode cL_law 211 = .ok (.iload_n 3, 1) := by decide +kernel
theorem dL_law_212 : decode cL_law 212 = .ok (.iconst 3, 1) := by decide +kernel
theorem dL_law_213 : decode cL_law 213 = .ok (.iadd, 1) := by decide +kernel
theorem dL_law_214 : decode cL_law 214 = .ok (.iaload, 1) := by decide +kernel
theorem dL_law_215 : decode cL_law 215 = .ok (.invokevirtual 17, 3) := by decide +kernel
theorem dL_law_218 : decode cL_law 218 = .ok (.if_icmp .eq 951, 3) := by decide +kernel
theorem dL_law_221 : decode cL_law 221 = .ok (.iconst 0, 1) := by decide +kernel
theorem dL_law_222 : decode cL_law 222 = .ok (.ireturn, 1) := by decide +kernel
theorem dL_law_223 : decode cL_law 223 = .ok (.aload_n 1, 1) := by decide +kernel
theorem dL_law_224 : decode cL_law 224 = .ok (.aload_n 0, 1) := by decide +kernel
theorem dL_law_225 : decode cL_law 225 = .ok (.iload_n 3, 1) := by decide +kernel
theorem dL_law_226 : decode cL_law 226 = .ok (.iconst 1, 1) := by decide +kernel
theorem dL_law_227 : decode cL_law 227 = .ok (.iadd, 1) := by decide +kernel
theorem dL_law_228 : decode cL_law 228 = .ok (.iaload, 1) := by decide +kernel
theorem dL_law_229 : decode cL_law 229 = .ok (.aload_n 0, 1) := by decide +kernel
theorem dL_law_230 : decode cL_law 230 = .ok (.iload_n 3, 1) := by decide +kernel
theorem dL_law_231 : decode cL_law 231 = .ok (.iconst 2, 1) := by decide +kernel
theorem dL_law_232 : decode cL_law 232 = .ok (.iadd, 1) := by decide +kernel
theorem dL_law_233 : decode cL_law 233 = .ok (.iaload, 1) := by decide +kernel
theorem dL_law_234 : decode cL_law 234 = .ok (.aload_n 0, 1) := by decide +kernel
theorem dL_law_235 : decode cL_law 235 = .ok (.iload_n 3, 1) := by decide +kernel
theorem dL_law_236 : decode cL_law 236 = .ok (.iconst 3, 1) := by decide +kernel
theorem dL_law_237 : decode cL_law 237 = .ok (.iadd, 1) := by decide +kernel
theorem dL_law_238 : decode cL_law 238 = .ok (.iaload, 1) := by decide +kernel
theorem dL_law_239 : decode cL_law 239 = .ok (.invokevirtual 18, 3) := by decide +kernel
theorem dL_law_242 : decode cL_law 242 = .ok (.aload_n 2, 1) := by decide +kernel
theorem dL_law_243 : decode cL_law 243 = .ok (.aload_n 0, 1) := by decide +kernel
theorem dL_law_244 : decode cL_law 244 = .ok (.iload_n 3, 1) := by decide +kernel
theorem dL_law_245 : decode cL_law 245 = .ok (.iconst 1, 1) := by decide +kernel
theorem dL_law_246 : decode cL_law 246 = .ok (.iadd, 1) := by decide +kernel
theorem dL_law_247 : decode cL_law 247 = .ok (.iaload, 1) := by decide +kernel
theorem dL_law_248 : decode cL_law 248 = .ok (.aload_n 0, 1) := by decide +kernel
theorem dL_law_249 : decode cL_law 249 = .ok (.iload_n 3, 1) := by decide +kernel
theorem dL_law_250 : decode cL_law 250 = .ok (.iconst 2, 1) := by decide +kernel
theorem dL_law_251 : decode cL_law 251 = .ok (.iadd, 1) := by decide +kernel
theorem dL_law_252 : decode cL_law 252 = .ok (.iaload, 1) := by decide +kernel
theorem dL_law_253 : decode cL_law 253 = .ok (.aload_n 0, 1) := by decide +kernel
theorem dL_law_254 : decode cL_law 254 = .ok (.iload_n 3, 1) := by decide +kernel
theorem dL_law_255 : decode cL_law 255 = .ok (.iconst 3, 1) := by decide +kernel
theorem dL_law_256 : decode cL_law 256 = .ok (.iadd, 1) := by decide +kernel
theorem dL_law_257 : decode cL_law 257 = .ok (.iaload, 1) := by decide +kernel
theorem dL_law_258 : decode cL_law 258 = .ok (.invokevirtual 21, 3) := by decide +kernel
theorem dL_law_261 : decode cL_law 261 = .ok (.if_icmp .eq 908, 3) := by decide +kernel
theorem dL_law_264 : decode cL_law 264 = .ok (.iconst 0, 1) := by decide +kernel
theorem dL_law_265 : decode cL_law 265 = .ok (.ireturn, 1) := by decide +kernel
theorem dL_law_266 : decode cL_law 266 = .ok (.aload_n 1, 1) := by decide +kernel
theorem dL_law_267 : decode cL_law 267 = .ok (.aload_n 0, 1) := by decide +kernel
theorem dL_law_268 : decode cL_law 268 = .ok (.iload_n 3, 1) := by decide +kernel
theorem dL_law_269 : decode cL_law 269 = .ok (.iconst 1, 1) := by decide +kernel
theorem dL_law_270 : decode cL_law 270 = .ok (.iadd, 1) := by decide +kernel
theorem dL_law_271 : decode cL_law 271 = .ok (.iaload, 1) := by decide +kernel
theorem dL_law_272 : decode cL_law 272 = .ok (.aload_n 0, 1) := by decide +kernel
theorem dL_law_273 : decode cL_law 273 = .ok (.iload_n 3, 1) := by decide +kernel
theorem dL_law_274 : decode cL_law 274 = .ok (.iconst 2, 1) := by decide +kernel
theorem dL_law_275 : decode cL_law 275 = .ok (.iadd, 1) := by decide +kernel
theorem dL_law_276 : decode cL_law 276 = .ok (.iaload, 1) := by decide +kernel
theorem dL_law_277 : decode cL_law 277 = .ok (.aload_n 0, 1) := by decide +kernel
theorem dL_law_278 : decode cL_law 278 = .ok (.iload_n 3, 1) := by decide +kernel
theorem dL_law_279 : decode cL_law 279 = .ok (.iconst 3, 1) := by decide +kernel
theorem dL_law_280 : decode cL_law 280 = .ok (.iadd, 1) := by decide +kernel
theorem dL_law_281 : decode cL_law 281 = .ok (.iaload, 1) := by decide +kernel
theorem dL_law_282 : decode cL_law 282 = .ok (.aload_n 0, 1) := by decide +kernel
theorem dL_law_283 : decode cL_law 283 = .ok (.iload_n 3, 1) := by decide +kernel
theorem dL_law_284 : decode cL_law 284 = .ok (.iconst 4, 1) := by decide +kernel
theorem dL_law_285 : decode cL_law 285 = .ok (.iadd, 1) := by decide +kernel
theorem dL_law_286 : decode cL_law 286 = .ok (.iaload, 1) := by decide +kernel
theorem dL_law_287 : decode cL_law 287 = .ok (.aload_n 0, 1) := by decide +kernel
theorem dL_law_288 : decode cL_law 288 = .ok (.iload_n 3, 1) := by decide +kernel
theorem dL_law_289 : decode cL_law 289 = .ok (.iconst 5, 1) := by decide +kernel
theorem dL_law_290 : decode cL_law 290 = .ok (.iadd, 1) := by decide +kernel
theorem dL_law_291 : decode cL_law 291 = .ok (.iaload, 1) := by decide +kernel
theorem dL_law_292 : decode cL_law 292 = .ok (.invokevirtual 22, 3) := by decide +kernel
theorem dL_law_295 : decode cL_law 295 = .ok (.aload_n 2, 1) := by decide +kernel
theorem dL_law_296 : decode cL_law 296 = .ok (.aload_n 0, 1) := by decide +kernel
theorem dL_law_297 : decode cL_law 297 = .ok (.iload_n 3, 1) := by decide +kernel
theorem dL_law_298 : decode cL_law 298 = .ok (.iconst 1, 1) := by decide +kernel
theorem dL_law_299 : decode cL_law 299 = .ok (.iadd, 1) := by decide +kernel
theorem dL_law_300 : decode cL_law 300 = .ok (.iaload, 1) := by decide +kernel
theorem dL_law_301 : decode cL_law 301 = .ok (.aload_n 0, 1) := by decide +kernel
theorem dL_law_302 : decode cL_law 302 = .ok (.iload_n 3, 1) := by decide +kernel
theorem dL_law_303 : decode cL_law 303 = .ok (.iconst 2, 1) := by decide +kernel
theorem dL_law_304 : decode cL_law 304 = .ok (.iadd, 1) := by decide +kernel
theorem dL_law_305 : decode cL_law 305 = .ok (.iaload, 1) := by decide +kernel
theorem dL_law_306 : decode cL_law 306 = .ok (.aload_n 0, 1) := by decide +kernel
theorem dL_law_307 : decode cL_law 307 = .ok (.iload_n 3, 1) := by decide +kernel
theorem dL_law_308 : decode cL_law 308 = .ok (.iconst 3, 1) := by decide +kernel
theorem dL_law_309 : decode cL_law 309 = .ok (.iadd, 1) := by decide +kernel
theorem dL_law_310 : decode cL_law 310 = .ok (.iaload, 1) := by decide +kernel
theorem dL_law_311 : decode cL_law 311 = .ok (.aload_n 0, 1) := by decide +kernel
theorem dL_law_312 : decode cL_law 312 = .ok (.iload_n 3, 1) := by decide +kernel
theorem dL_law_313 : decode cL_law 313 = .ok (.iconst 4, 1) := by decide +kernel
theorem dL_law_314 : decode cL_law 314 = .ok (.iadd, 1) := by decide +kernel
theorem dL_law_315 : decode cL_law 315 = .ok (.iaload, 1) := by decide +kernel
theorem dL_law_316 : decode cL_law 316 = .ok (.aload_n 0, 1) := by decide +kernel
theorem dL_law_317 : decode cL_law 317 = .ok (.iload_n 3, 1) := by decide +kernel
theorem dL_law_318 : decode cL_law 318 = .ok (.iconst 5, 1) := by decide +kernel
theorem dL_law_319 : decode cL_law 319 = .ok (.iadd, 1) := by decide +kernel
theorem dL_law_320 : decode cL_law 320 = .ok (.iaload, 1) := by decide +kernel
theorem dL_law_321 : decode cL_law 321 = .ok (.invokevirtual 26, 3) := by decide +kernel
theorem dL_law_324 : decode cL_law 324 = .ok (.if_icmp .eq 845, 3) := by decide +kernel
theorem dL_law_327 : decode cL_law 327 = .ok (.iconst 0, 1) := by decide +kernel
theorem dL_law_328 : decode cL_law 328 = .ok (.ireturn, 1) := by decide +kernel
theorem dL_law_329 : decode cL_law 329 = .ok (.aload_n 1, 1) := by decide +kernel
theorem dL_law_330 : decode cL_law 330 = .ok (.aload_n 0, 1) := by decide +kernel
theorem dL_law_331 : decode cL_law 331 = .ok (.iload_n 3, 1) := by decide +kernel
theorem dL_law_332 : decode cL_law 332 = .ok (.iconst 1, 1) := by decide +kernel
theorem dL_law_333 : decode cL_law 333 = .ok (.iadd, 1) := by decide +kernel
theorem dL_law_334 : decode cL_law 334 = .ok (.iaload, 1) := by decide +kernel
theorem dL_law_335 : decode cL_law 335 = .ok (.invokevirtual 27, 3) := by decide +kernel
theorem dL_law_338 : decode cL_law 338 = .ok (.aload_n 2, 1) := by decide +kernel
theorem dL_law_339 : decode cL_law 339 = .ok (.aload_n 0, 1) := by decide +kernel
theorem dL_law_340 : decode cL_law 340 = .ok (.iload_n 3, 1) := by decide +kernel
theorem dL_law_341 : decode cL_law 341 = .ok (.iconst 1, 1) := by decide +kernel
theorem dL_law_342 : decode cL_law 342 = .ok (.iadd, 1) := by decide +kernel
theorem dL_law_343 : decode cL_law 343 = .ok (.iaload, 1) := by decide +kernel
theorem dL_law_344 : decode cL_law 344 = .ok (.invokevirtual 31, 3) := by decide +kernel
theorem dL_law_347 : decode cL_law 347 = .ok (.if_icmp .eq 822, 3) := by decide +kernel
theorem dL_law_350 : decode cL_law 350 = .ok (.iconst 0, 1) := by decide +kernel
theorem dL_law_351 : decode cL_law 351 = .ok (.ireturn, 1) := by decide +kernel
theorem dL_law_352 : decode cL_law 352 = .ok (.aload_n 1, 1) := by decide +kernel
theorem dL_law_353 : decode cL_law 353 = .ok (.aload_n 0, 1) := by decide +kernel
theorem dL_law_354 : decode cL_law 354 = .ok (.iload_n 3, 1) := by decide +kernel
theorem dL_law_355 : decode cL_law 355 = .ok (.iconst 1, 1) := by decide +kernel
theorem dL_law_356 : decode cL_law 356 = .ok (.iadd, 1) := by decide +kernel
theorem dL_law_357 : decode cL_law 357 = .ok (.iaload, 1) := by decide +kernel
theorem dL_law_358 : decode cL_law 358 = .ok (.i2l, 1) := by decide +kernel
theorem dL_law_359 : decode cL_law 359 = .ok (.bipush 32, 2) := by decide +kernel
theorem dL_law_361 : decode cL_law 361 = .ok (.lshl, 1) := by decide +kernel
theorem dL_law_362 : decode cL_law 362 = .ok (.aload_n 0, 1) := by decide +kernel
theorem dL_law_363 : decode cL_law 363 = .ok (.iload_n 3, 1) := by decide +kernel
theorem dL_law_364 : decode cL_law 364 = .ok (.iconst 2, 1) := by decide +kernel
theorem dL_law_365 : decode cL_law 365 = .ok (.iadd, 1) := by decide +kernel
theorem dL_law_366 : decode cL_law 366 = .ok (.iaload, 1) := by decide +kernel
theorem dL_law_367 : decode cL_law 367 = .ok (.i2l, 1) := by decide +kernel
theorem dL_law_368 : decode cL_law 368 = .ok (.ldc2_w 32, 3) := by decide +kernel
theorem dL_law_371 : decode cL_law 371 = .ok (.land, 1) := by decide +kernel
theorem dL_law_372 : decode cL_law 372 = .ok (.lor, 1) := by decide +kernel
theorem dL_law_373 : decode cL_law 373 = .ok (.aload_n 0, 1) := by decide +kernel
theorem dL_law_374 : decode cL_law 374 = .ok (.iload_n 3, 1) := by decide +kernel
theorem dL_law_375 : decode cL_law 375 = .ok (.iconst 3, 1) := by decide +kernel
theorem dL_law_376 : decode cL_law 376 = .ok (.iadd, 1) := by decide +kernel
theorem dL_law_377 : decode cL_law 377 = .ok (.iaload, 1) := by decide +kernel
theorem dL_law_378 : decode cL_law 378 = .ok (.invokevirtual 34, 3) := by decide +kernel
theorem dL_law_381 : decode cL_law 381 = .ok (.aload_n 2, 1) := by decide +kernel
theorem dL_law_382 : decode cL_law 382 = .ok (.aload_n 0, 1) := by decide +kernel
theorem dL_law_383 : decode cL_law 383 = .ok (.iload_n 3, 1) := by decide +kernel
theorem dL_law_384 : decode cL_law 384 = .ok (.iconst 1, 1) := by decide +kernel
theorem dL_law_385 : decode cL_law 385 = .ok (.iadd, 1) := by decide +kernel
theorem dL_law_386 : decode cL_law 386 = .ok (.iaload, 1) := by decide +kernel
theorem dL_law_387 : decode cL_law 387 = .ok (.i2l, 1) := by decide +kernel
theorem dL_law_388 : decode cL_law 388 = .ok (.bipush 32, 2) := by decide +kernel
theorem dL_law_390 : decode cL_law 390 = .ok (.lshl, 1) := by decide +kernel
theorem dL_law_391 : decode cL_law 391 = .ok (.aload_n 0, 1) := by decide +kernel
theorem dL_law_392 : decode cL_law 392 = .ok (.iload_n 3, 1) := by decide +kernel
theorem dL_law_393 : decode cL_law 393 = .ok (.iconst 2, 1) := by decide +kernel
theorem dL_law_394 : decode cL_law 394 = .ok (.iadd, 1) := by decide +kernel
theorem dL_law_395 : decode cL_law 395 = .ok (.iaload, 1) := by decide +kernel
theorem dL_law_396 : decode cL_law 396 = .ok (.i2l, 1) := by decide +kernel
theorem dL_law_397 : decode cL_law 397 = .ok (.ldc2_w 32, 3) := by decide +kernel
theorem dL_law_400 : decode cL_law 400 = .ok (.land, 1) := by decide +kernel
theorem dL_law_401 : decode cL_law 401 = .ok (.lor, 1) := by decide +kernel
theorem dL_law_402 : decode cL_law 402 = .ok (.aload_n 0, 1) := by decide +kernel
theorem dL_law_403 : decode cL_law 403 = .ok (.iload_n 3, 1) := by decide +kernel
theorem dL_law_404 : decode cL_law 404 = .ok (.iconst 3, 1) := by decide +kernel
theorem dL_law_405 : decode cL_law 405 = .ok (.iadd, 1) := by decide +kernel
theorem dL_law_406 : decode cL_law 406 = .ok (.iaload, 1) := by decide +kernel
theorem dL_law_407 : decode cL_law 407 = .ok (.invokevirtual 38, 3) := by decide +kernel
theorem dL_law_410 : decode cL_law 410 = .ok (.if_icmp .eq 759, 3) := by decide +kernel
theorem dL_law_413 : decode cL_law 413 = .ok (.iconst 0, 1) := by decide +kernel
theorem dL_law_414 : decode cL_law 414 = .ok (.ireturn, 1) := by decide +kernel
theorem dL_law_415 : decode cL_law 415 = .ok (.aload_n 1, 1) := by decide +kernel
theorem dL_law_416 : decode cL_law 416 = .ok (.invokevirtual 39, 3) := by decide +kernel
theorem dL_law_419 : decode cL_law 419 = .ok (.aload_n 2, 1) := by decide +kernel
theorem dL_law_420 : decode cL_law 420 = .ok (.invokevirtual 43, 3) := by decide +kernel
theorem dL_law_423 : decode cL_law 423 = .ok (.if_icmp .eq 746, 3) := by decide +kernel
theorem dL_law_426 : decode cL_law 426 = .ok (.iconst 0, 1) := by decide +kernel
theorem dL_law_427 : decode cL_law 427 = .ok (.ireturn, 1) := by decide +kernel
theorem dL_law_428 : decode cL_law 428 = .ok (.aload_n 1, 1) := by decide +kernel
theorem dL_law_429 : decode cL_law 429 = .ok (.invokevirtual 44, 3) := by decide +kernel
theorem dL_law_432 : decode cL_law 432 = .ok (.aload_n 2, 1) := by decide +kernel
theorem dL_law_433 : decode cL_law 433 = .ok (.invokevirtual 47, 3) := by decide +kernel
theorem dL_law_436 : decode cL_law 436 = .ok (.if_icmp .eq 733, 3) := by decide +kernel
theorem dL_law_439 : decode cL_law 439 = .ok (.iconst 0, 1) := by decide +kernel
theorem dL_law_440 : decode cL_law 440 = .ok (.ireturn, 1) := by decide +kernel
theorem dL_law_441 : decode cL_law 441 = .ok (.aload_n 1, 1) := by decide +kernel
theorem dL_law_442 : decode cL_law 442 = .ok (.aload_n 0, 1) := by decide +kernel
theorem dL_law_443 : decode cL_law 443 = .ok (.iload_n 3, 1) := by decide +kernel
theorem dL_law_444 : decode cL_law 444 = .ok (.iconst 1, 1) := by decide +kernel
theorem dL_law_445 : decode cL_law 445 = .ok (.iadd, 1) := by decide +kernel
theorem dL_law_446 : decode cL_law 446 = .ok (.iaload, 1) := by decide +kernel
theorem dL_law_447 : decode cL_law 447 = .ok (.invokevirtual 48, 3) := by decide +kernel
theorem dL_law_450 : decode cL_law 450 = .ok (.aload_n 2, 1) := by decide +kernel
theorem dL_law_451 : decode cL_law 451 = .ok (.aload_n 0, 1) := by decide +kernel
theorem dL_law_452 : decode cL_law 452 = .ok (.iload_n 3, 1) := by decide +kernel
theorem dL_law_453 : decode cL_law 453 = .ok (.iconst 1, 1) := by decide +kernel
theorem dL_law_454 : decode cL_law 454 = .ok (.iadd, 1) := by decide +kernel
theorem dL_law_455 : decode cL_law 455 = .ok (.iaload, 1) := by decide +kernel
theorem dL_law_456 : decode cL_law 456 = .ok (.invokevirtual 51, 3) := by decide +kernel
theorem dL_law_459 : decode cL_law 459 = .ok (.if_icmp .eq 710, 3) := by decide +kernel
theorem dL_law_462 : decode cL_law 462 = .ok (.iconst 0, 1) := by decide +kernel
theorem dL_law_463 : decode cL_law 463 = .ok (.ireturn, 1) := by decide +kernel
theorem dL_law_464 : decode cL_law 464 = .ok (.aload_n 1, 1) := by decide +kernel
theorem dL_law_465 : decode cL_law 465 = .ok (.aload_n 0, 1) := by decide +kernel
theorem dL_law_466 : decode cL_law 466 = .ok (.iload_n 3, 1) := by decide +kernel
theorem dL_law_467 : decode cL_law 467 = .ok (.iconst 1, 1) := by decide +kernel
theorem dL_law_468 : decode cL_law 468 = .ok (.iadd, 1) := by decide +kernel
theorem dL_law_469 : decode cL_law 469 = .ok (.iaload, 1) := by decide +kernel
theorem dL_law_470 : decode cL_law 470 = .ok (.invokevirtual 52, 3) := by decide +kernel
theorem dL_law_473 : decode cL_law 473 = .ok (.aload_n 2, 1) := by decide +kernel
theorem dL_law_474 : decode cL_law 474 = .ok (.aload_n 0, 1) := by decide +kernel
theorem dL_law_475 : decode cL_law 475 = .ok (.iload_n 3, 1) := by decide +kernel
theorem dL_law_476 : decode cL_law 476 = .ok (.iconst 1, 1) := by decide +kernel
theorem dL_law_477 : decode cL_law 477 = .ok (.iadd, 1) := by decide +kernel
theorem dL_law_478 : decode cL_law 478 = .ok (.iaload, 1) := by decide +kernel
theorem dL_law_479 : decode cL_law 479 = .ok (.invokevirtual 55, 3) := by decide +kernel
theorem dL_law_482 : decode cL_law 482 = .ok (.if_icmp .eq 687, 3) := by decide +kernel
theorem dL_law_485 : decode cL_law 485 = .ok (.iconst 0, 1) := by decide +kernel
theorem dL_law_486 : decode cL_law 486 = .ok (.ireturn, 1) := by decide +kernel
theorem dL_law_487 : decode cL_law 487 = .ok (.aload_n 1, 1) := by decide +kernel
theorem dL_law_488 : decode cL_law 488 = .ok (.aload_n 0, 1) := by decide +kernel
theorem dL_law_489 : decode cL_law 489 = .ok (.iload_n 3, 1) := by decide +kernel
theorem dL_law_490 : decode cL_law 490 = .ok (.iconst 1, 1) := by decide +kernel
theorem dL_law_491 : decode cL_law 491 = .ok (.iadd, 1) := by decide +kernel
theorem dL_law_492 : decode cL_law 492 = .ok (.iaload, 1) := by decide +kernel
theorem dL_law_493 : decode cL_law 493 = .ok (.aload_n 0, 1) := by decide +kernel
theorem dL_law_494 : decode cL_law 494 = .ok (.iload_n 3, 1) := by decide +kernel
theorem dL_law_495 : decode cL_law 495 = .ok (.iconst 2, 1) := by decide +kernel
theorem dL_law_496 : decode cL_law 496 = .ok (.iadd, 1) := by decide +kernel
theorem dL_law_497 : decode cL_law 497 = .ok (.iaload, 1) := by decide +kernel
theorem dL_law_498 : decode cL_law 498 = .ok (.invokevirtual 56, 3) := by decide +kernel
theorem dL_law_501 : decode cL_law 501 = .ok (.aload_n 2, 1) := by decide +kernel
theorem dL_law_502 : decode cL_law 502 = .ok (.aload_n 0, 1) := by decide +kernel
theorem dL_law_503 : decode cL_law 503 = .ok (.iload_n 3, 1) := by decide +kernel
theorem dL_law_504 : decode cL_law 504 = .ok (.iconst 1, 1) := by decide +kernel
theorem dL_law_505 : decode cL_law 505 = .ok (.iadd, 1) := by decide +kernel
theorem dL_law_506 : decode cL_law 506 = .ok (.iaload, 1) := by decide +kernel
theorem dL_law_507 : decode cL_law 507 = .ok (.aload_n 0, 1) := by decide +kernel
theorem dL_law_508 : decode cL_law 508 = .ok (.iload_n 3, 1) := by decide +kernel
theorem dL_law_509 : decode cL_law 509 = .ok (.iconst 2, 1) := by decide +kernel
theorem dL_law_510 : decode cL_law 510 = .ok (.iadd, 1) := by decide +kernel
theorem dL_law_511 : decode cL_law 511 = .ok (.iaload, 1) := by decide +kernel
theorem dL_law_512 : decode cL_law 512 = .ok (.invokevirtual 60, 3) := by decide +kernel
theorem dL_law_515 : decode cL_law 515 = .ok (.if_icmp .eq 654, 3) := by decide +kernel
theorem dL_law_518 : decode cL_law 518 = .ok (.iconst 0, 1) := by decide +kernel
theorem dL_law_519 : decode cL_law 519 = .ok (.ireturn, 1) := by decide +kernel
theorem dL_law_520 : decode cL_law 520 = .ok (.aload_n 1, 1) := by decide +kernel
theorem dL_law_521 : decode cL_law 521 = .ok (.aload_n 0, 1) := by decide +kernel
theorem dL_law_522 : decode cL_law 522 = .ok (.iload_n 3, 1) := by decide +kernel
theorem dL_law_523 : decode cL_law 523 = .ok (.iconst 1, 1) := by decide +kernel
theorem dL_law_524 : decode cL_law 524 = .ok (.iadd, 1) := by decide +kernel
theorem dL_law_525 : decode cL_law 525 = .ok (.iaload, 1) := by decide +kernel
theorem dL_law_526 : decode cL_law 526 = .ok (.aload_n 0, 1) := by decide +kernel
theorem dL_law_527 : decode cL_law 527 = .ok (.iload_n 3, 1) := by decide +kernel
theorem dL_law_528 : decode cL_law 528 = .ok (.iconst 2, 1) := by decide +kernel
theorem dL_law_529 : decode cL_law 529 = .ok (.iadd, 1) := by decide +kernel
theorem dL_law_530 : decode cL_law 530 = .ok (.iaload, 1) := by decide +kernel
theorem dL_law_531 : decode cL_law 531 = .ok (.invokevirtual 61, 3) := by decide +kernel
theorem dL_law_534 : decode cL_law 534 = .ok (.aload_n 2, 1) := by decide +kernel
theorem dL_law_535 : decode cL_law 535 = .ok (.aload_n 0, 1) := by decide +kernel
theorem dL_law_536 : decode cL_law 536 = .ok (.iload_n 3, 1) := by decide +kernel
theorem dL_law_537 : decode cL_law 537 = .ok (.iconst 1, 1) := by decide +kernel
theorem dL_law_538 : decode cL_law 538 = .ok (.iadd, 1) := by decide +kernel
theorem dL_law_539 : decode cL_law 539 = .ok (.iaload, 1) := by decide +kernel
theorem dL_law_540 : decode cL_law 540 = .ok (.aload_n 0, 1) := by decide +kernel
theorem dL_law_541 : decode cL_law 541 = .ok (.iload_n 3, 1) := by decide +kernel
theorem dL_law_542 : decode cL_law 542 = .ok (.iconst 2, 1) := by decide +kernel
theorem dL_law_543 : decode cL_law 543 = .ok (.iadd, 1) := by decide +kernel
theorem dL_law_544 : decode cL_law 544 = .ok (.iaload, 1) := by decide +kernel
theorem dL_law_545 : decode cL_law 545 = .ok (.invokevirtual 64, 3) := by decide +kernel
theorem dL_law_548 : decode cL_law 548 = .ok (.if_icmp .eq 621, 3) := by decide +kernel
theorem dL_law_551 : decode cL_law 551 = .ok (.iconst 0, 1) := by decide +kernel
theorem dL_law_552 : decode cL_law 552 = .ok (.ireturn, 1) := by decide +kernel
theorem dL_law_553 : decode cL_law 553 = .ok (.aload_n 1, 1) := by decide +kernel
theorem dL_law_554 : decode cL_law 554 = .ok (.aload_n 0, 1) := by decide +kernel
theorem dL_law_555 : decode cL_law 555 = .ok (.iload_n 3, 1) := by decide +kernel
theorem dL_law_556 : decode cL_law 556 = .ok (.iconst 1, 1) := by decide +kernel
theorem dL_law_557 : decode cL_law 557 = .ok (.iadd, 1) := by decide +kernel
theorem dL_law_558 : decode cL_law 558 = .ok (.iaload, 1) := by decide +kernel
theorem dL_law_559 : decode cL_law 559 = .ok (.aload_n 0, 1) := by decide +kernel
theorem dL_law_560 : decode cL_law 560 = .ok (.iload_n 3, 1) := by decide +kernel
theorem dL_law_561 : decode cL_law 561 = .ok (.iconst 2, 1) := by decide +kernel
theorem dL_law_562 : decode cL_law 562 = .ok (.iadd, 1) := by decide +kernel
theorem dL_law_563 : decode cL_law 563 = .ok (.iaload, 1) := by decide +kernel
theorem dL_law_564 : decode cL_law 564 = .ok (.invokevirtual 65, 3) := by decide +kernel
theorem dL_law_567 : decode cL_law 567 = .ok (.aload_n 2, 1) := by decide +kernel
theorem dL_law_568 : decode cL_law 568 = .ok (.aload_n 0, 1) := by decide +kernel
theorem dL_law_569 : decode cL_law 569 = .ok (.iload_n 3, 1) := by decide +kernel
theorem dL_law_570 : decode cL_law 570 = .ok (.iconst 1, 1) := by decide +kernel
theorem dL_law_571 : decode cL_law 571 = .ok (.iadd, 1) := by decide +kernel
theorem dL_law_572 : decode cL_law 572 = .ok (.iaload, 1) := by decide +kernel
theorem dL_law_573 : decode cL_law 573 = .ok (.aload_n 0, 1) := by decide +kernel
theorem dL_law_574 : decode cL_law 574 = .ok (.iload_n 3, 1) := by decide +kernel
theorem dL_law_575 : decode cL_law 575 = .ok (.iconst 2, 1) := by decide +kernel
theorem dL_law_576 : decode cL_law 576 = .ok (.iadd, 1) := by decide +kernel
theorem dL_law_577 : decode cL_law 577 = .ok (.iaload, 1) := by decide +kernel
theorem dL_law_578 : decode cL_law 578 = .ok (.invokevirtual 68, 3) := by decide +kernel
theorem dL_law_581 : decode cL_law 581 = .ok (.if_icmp .eq 588, 3) := by decide +kernel
theorem dL_law_584 : decode cL_law 584 = .ok (.iconst 0, 1) := by decide +kernel
theorem dL_law_585 : decode cL_law 585 = .ok (.ireturn, 1) := by decide +kernel
theorem dL_law_586 : decode cL_law 586 = .ok (.aload_n 1, 1) := by decide +kernel
theorem dL_law_587 : decode cL_law 587 = .ok (.invokevirtual 69, 3) := by decide +kernel
theorem dL_law_590 : decode cL_law 590 = .ok (.aload_n 2, 1) := by decide +kernel
theorem dL_law_591 : decode cL_law 591 = .ok (.invokevirtual 72, 3) := by decide +kernel
theorem dL_law_594 : decode cL_law 594 = .ok (.if_icmp .eq 575, 3) := by decide +kernel
theorem dL_law_597 : decode cL_law 597 = .ok (.iconst 0, 1) := by decide +kernel
theorem dL_law_598 : decode cL_law 598 = .ok (.ireturn, 1) := by decide +kernel
theorem dL_law_599 : decode cL_law 599 = .ok (.aload_n 1, 1) := by decide +kernel
theorem dL_law_600 : decode cL_law 600 = .ok (.aload_n 0, 1) := by decide +kernel
theorem dL_law_601 : decode cL_law 601 = .ok (.iload_n 3, 1) := by decide +kernel
theorem dL_law_602 : decode cL_law 602 = .ok (.iconst 1, 1) := by decide +kernel
theorem dL_law_603 : decode cL_law 603 = .ok (.iadd, 1) := by decide +kernel
theorem dL_law_604 : decode cL_law 604 = .ok (.iaload, 1) := by decide +kernel
theorem dL_law_605 : decode cL_law 605 = .ok (.aload_n 0, 1) := by decide +kernel
theorem dL_law_606 : decode cL_law 606 = .ok (.iload_n 3, 1) := by decide +kernel
theorem dL_law_607 : decode cL_law 607 = .ok (.iconst 2, 1) := by decide +kernel
theorem dL_law_608 : decode cL_law 608 = .ok (.iadd, 1) := by decide +kernel
theorem dL_law_609 : decode cL_law 609 = .ok (.iaload, 1) := by decide +kernel
theorem dL_law_610 : decode cL_law 610 = .ok (.invokevirtual 73, 3) := by decide +kernel
theorem dL_law_613 : decode cL_law 613 = .ok (.aload_n 2, 1) := by decide +kernel
theorem dL_law_614 : decode cL_law 614 = .ok (.aload_n 0, 1) := by decide +kernel
theorem dL_law_615 : decode cL_law 615 = .ok (.iload_n 3, 1) := by decide +kernel
theorem dL_law_616 : decode cL_law 616 = .ok (.iconst 1, 1) := by decide +kernel
theorem dL_law_617 : decode cL_law 617 = .ok (.iadd, 1) := by decide +kernel
theorem dL_law_618 : decode cL_law 618 = .ok (.iaload, 1) := by decide +kernel
theorem dL_law_619 : decode cL_law 619 = .ok (.aload_n 0, 1) := by decide +kernel
theorem dL_law_620 : decode cL_law 620 = .ok (.iload_n 3, 1) := by decide +kernel
theorem dL_law_621 : decode cL_law 621 = .ok (.iconst 2, 1) := by decide +kernel
theorem dL_law_622 : decode cL_law 622 = .ok (.iadd, 1) := by decide +kernel
theorem dL_law_623 : decode cL_law 623 = .ok (.iaload, 1) := by decide +kernel
theorem dL_law_624 : decode cL_law 624 = .ok (.invokevirtual 76, 3) := by decide +kernel
theorem dL_law_627 : decode cL_law 627 = .ok (.if_icmp .eq 542, 3) := by decide +kernel
theorem dL_law_630 : decode cL_law 630 = .ok (.iconst 0, 1) := by decide +kernel
theorem dL_law_631 : decode cL_law 631 = .ok (.ireturn, 1) := by decide +kernel
theorem dL_law_632 : decode cL_law 632 = .ok (.aload_n 1, 1) := by decide +kernel
theorem dL_law_633 : decode cL_law 633 = .ok (.aload_n 0, 1) := by decide +kernel
theorem dL_law_634 : decode cL_law 634 = .ok (.iload_n 3, 1) := by decide +kernel
theorem dL_law_635 : decode cL_law 635 = .ok (.iconst 1, 1) := by decide +kernel
theorem dL_law_636 : decode cL_law 636 = .ok (.iadd, 1) := by decide +kernel
theorem dL_law_637 : decode cL_law 637 = .ok (.iaload, 1) := by decide +kernel
theorem dL_law_638 : decode cL_law 638 = .ok (.aload_n 0, 1) := by decide +kernel
theorem dL_law_639 : decode cL_law 639 = .ok (.iload_n 3, 1) := by decide +kernel
theorem dL_law_640 : decode cL_law 640 = .ok (.iconst 2, 1) := by decide +kernel
theorem dL_law_641 : decode cL_law 641 = .ok (.iadd, 1) := by decide +kernel
theorem dL_law_642 : decode cL_law 642 = .ok (.iaload, 1) := by decide +kernel
theorem dL_law_643 : decode cL_law 643 = .ok (.invokevirtual 77, 3) := by decide +kernel
theorem dL_law_646 : decode cL_law 646 = .ok (.aload_n 2, 1) := by decide +kernel
theorem dL_law_647 : decode cL_law 647 = .ok (.aload_n 0, 1) := by decide +kernel
theorem dL_law_648 : decode cL_law 648 = .ok (.iload_n 3, 1) := by decide +kernel
theorem dL_law_649 : decode cL_law 649 = .ok (.iconst 1, 1) := by decide +kernel
theorem dL_law_650 : decode cL_law 650 = .ok (.iadd, 1) := by decide +kernel
theorem dL_law_651 : decode cL_law 651 = .ok (.iaload, 1) := by decide +kernel
theorem dL_law_652 : decode cL_law 652 = .ok (.aload_n 0, 1) := by decide +kernel
theorem dL_law_653 : decode cL_law 653 = .ok (.iload_n 3, 1) := by decide +kernel
theorem dL_law_654 : decode cL_law 654 = .ok (.iconst 2, 1) := by decide +kernel
theorem dL_law_655 : decode cL_law 655 = .ok (.iadd, 1) := by decide +kernel
theorem dL_law_656 : decode cL_law 656 = .ok (.iaload, 1) := by decide +kernel
theorem dL_law_657 : decode cL_law 657 = .ok (.invokevirtual 80, 3) := by decide +kernel
theorem dL_law_660 : decode cL_law 660 = .ok (.if_icmp .eq 509, 3) := by decide +kernel
theorem dL_law_663 : decode cL_law 663 = .ok (.iconst 0, 1) := by decide +kernel
theorem dL_law_664 : decode cL_law 664 = .ok (.ireturn, 1) := by decide +kernel
theorem dL_law_665 : decode cL_law 665 = .ok (.aload_n 1, 1) := by decide +kernel
theorem dL_law_666 : decode cL_law 666 = .ok (.aload_n 0, 1) := by decide +kernel
theorem dL_law_667 : decode cL_law 667 = .ok (.iload_n 3, 1) := by decide +kernel
theorem dL_law_668 : decode cL_law 668 = .ok (.iconst 1, 1) := by decide +kernel
theorem dL_law_669 : decode cL_law 669 = .ok (.iadd, 1) := by decide +kernel
theorem dL_law_670 : decode cL_law 670 = .ok (.iaload, 1) := by decide +kernel
theorem dL_law_671 : decode cL_law 671 = .ok (.aload_n 0, 1) := by decide +kernel
theorem dL_law_672 : decode cL_law 672 = .ok (.iload_n 3, 1) := by decide +kernel
theorem dL_law_673 : decode cL_law 673 = .ok (.iconst 2, 1) := by decide +kernel
theorem dL_law_674 : decode cL_law 674 = .ok (.iadd, 1) := by decide +kernel
theorem dL_law_675 : decode cL_law 675 = .ok (.iaload, 1) := by decide +kernel
theorem dL_law_676 : decode cL_law 676 = .ok (.invokevirtual 81, 3) := by decide +kernel
theorem dL_law_679 : decode cL_law 679 = .ok (.aload_n 2, 1) := by decide +kernel
theorem dL_law_680 : decode cL_law 680 = .ok (.aload_n 0, 1) := by decide +kernel
theorem dL_law_681 : decode cL_law 681 = .ok (.iload_n 3, 1) := by decide +kernel
theorem dL_law_682 : decode cL_law 682 = .ok (.iconst 1, 1) := by decide +kernel
theorem dL_law_683 : decode cL_law 683 = .ok (.iadd, 1) := by decide +kernel
theorem dL_law_684 : decode cL_law 684 = .ok (.iaload, 1) := by decide +kernel
theorem dL_law_685 : decode cL_law 685 = .ok (.aload_n 0, 1) := by decide +kernel
theorem dL_law_686 : decode cL_law 686 = .ok (.iload_n 3, 1) := by decide +kernel
theorem dL_law_687 : decode cL_law 687 = .ok (.iconst 2, 1) := by decide +kernel
theorem dL_law_688 : decode cL_law 688 = .ok (.iadd, 1) := by decide +kernel
theorem dL_law_689 : decode cL_law 689 = .ok (.iaload, 1) := by decide +kernel
theorem dL_law_690 : decode cL_law 690 = .ok (.invokevirtual 84, 3) := by decide +kernel
theorem dL_law_693 : decode cL_law 693 = .ok (.if_icmp .eq 476, 3) := by decide +kernel
theorem dL_law_696 : decode cL_law 696 = .ok (.iconst 0, 1) := by decide +kernel
theorem dL_law_697 : decode cL_law 697 = .ok (.ireturn, 1) := by decide +kernel
theorem dL_law_698 : decode cL_law 698 = .ok (.aload_n 1, 1) := by decide +kernel
theorem dL_law_699 : decode cL_law 699 = .ok (.aload_n 0, 1) := by decide +kernel
theorem dL_law_700 : decode cL_law 700 = .ok (.iload_n 3, 1) := by decide +kernel
theorem dL_law_701 : decode cL_law 701 = .ok (.iconst 1, 1) := by decide +kernel
theorem dL_law_702 : decode cL_law 702 = .ok (.iadd, 1) := by decide +kernel
theorem dL_law_703 : decode cL_law 703 = .ok (.iaload, 1) := by decide +kernel
theorem dL_law_704 : decode cL_law 704 = .ok (.aload_n 0, 1) := by decide +kernel
theorem dL_law_705 : decode cL_law 705 = .ok (.iload_n 3, 1) := by decide +kernel
theorem dL_law_706 : decode cL_law 706 = .ok (.iconst 2, 1) := by decide +kernel
theorem dL_law_707 : decode cL_law 707 = .ok (.iadd, 1) := by decide +kernel
theorem dL_law_708 : decode cL_law 708 = .ok (.iaload, 1) := by decide +kernel
theorem dL_law_709 : decode cL_law 709 = .ok (.invokevirtual 85, 3) := by decide +kernel
theorem dL_law_712 : decode cL_law 712 = .ok (.aload_n 2, 1) := by decide +kernel
theorem dL_law_713 : decode cL_law 713 = .ok (.aload_n 0, 1) := by decide +kernel
theorem dL_law_714 : decode cL_law 714 = .ok (.iload_n 3, 1) := by decide +kernel
theorem dL_law_715 : decode cL_law 715 = .ok (.iconst 1, 1) := by decide +kernel
theorem dL_law_716 : decode cL_law 716 = .ok (.iadd, 1) := by decide +kernel
theorem dL_law_717 : decode cL_law 717 = .ok (.iaload, 1) := by decide +kernel
theorem dL_law_718 : decode cL_law 718 = .ok (.aload_n 0, 1) := by decide +kernel
theorem dL_law_719 : decode cL_law 719 = .ok (.iload_n 3, 1) := by decide +kernel
theorem dL_law_720 : decode cL_law 720 = .ok (.iconst 2, 1) := by decide +kernel
theorem dL_law_721 : decode cL_law 721 = .ok (.iadd, 1) := by decide +kernel
theorem dL_law_722 : decode cL_law 722 = .ok (.iaload, 1) := by decide +kernel
theorem dL_law_723 : decode cL_law 723 = .ok (.invokevirtual 88, 3) := by decide +kernel
theorem dL_law_726 : decode cL_law 726 = .ok (.if_icmp .eq 443, 3) := by decide +kernel
theorem dL_law_729 : decode cL_law 729 = .ok (.iconst 0, 1) := by decide +kernel
theorem dL_law_730 : decode cL_law 730 = .ok (.ireturn, 1) := by decide +kernel
theorem dL_law_731 : decode cL_law 731 = .ok (.aload_n 1, 1) := by decide +kernel
theorem dL_law_732 : decode cL_law 732 = .ok (.aload_n 0, 1) := by decide +kernel
theorem dL_law_733 : decode cL_law 733 = .ok (.iload_n 3, 1) := by decide +kernel
theorem dL_law_734 : decode cL_law 734 = .ok (.iconst 1, 1) := by decide +kernel
theorem dL_law_735 : decode cL_law 735 = .ok (.iadd, 1) := by decide +kernel
theorem dL_law_736 : decode cL_law 736 = .ok (.iaload, 1) := by decide +kernel
theorem dL_law_737 : decode cL_law 737 = .ok (.aload_n 0, 1) := by decide +kernel
theorem dL_law_738 : decode cL_law 738 = .ok (.iload_n 3, 1) := by decide +kernel
theorem dL_law_739 : decode cL_law 739 = .ok (.iconst 2, 1) := by decide +kernel
theorem dL_law_740 : decode cL_law 740 = .ok (.iadd, 1) := by decide +kernel
theorem dL_law_741 : decode cL_law 741 = .ok (.iaload, 1) := by decide +kernel
theorem dL_law_742 : decode cL_law 742 = .ok (.invokevirtual 89, 3) := by decide +kernel
theorem dL_law_745 : decode cL_law 745 = .ok (.aload_n 2, 1) := by decide +kernel
theorem dL_law_746 : decode cL_law 746 = .ok (.aload_n 0, 1) := by decide +kernel
theorem dL_law_747 : decode cL_law 747 = .ok (.iload_n 3, 1) := by decide +kernel
theorem dL_law_748 : decode cL_law 748 = .ok (.iconst 1, 1) := by decide +kernel
theorem dL_law_749 : decode cL_law 749 = .ok (.iadd, 1) := by decide +kernel
theorem dL_law_750 : decode cL_law 750 = .ok (.iaload, 1) := by decide +kernel
theorem dL_law_751 : decode cL_law 751 = .ok (.aload_n 0, 1) := by decide +kernel
theorem dL_law_752 : decode cL_law 752 = .ok (.iload_n 3, 1) := by decide +kernel
theorem dL_law_753 : decode cL_law 753 = .ok (.iconst 2, 1) := by decide +kernel
theorem dL_law_754 : decode cL_law 754 = .ok (.iadd, 1) := by decide +kernel
theorem dL_law_755 : decode cL_law 755 = .ok (.iaload, 1) := by decide +kernel
theorem dL_law_756 : decode cL_law 756 = .ok (.invokevirtual 92, 3) := by decide +kernel
theorem dL_law_759 : decode cL_law 759 = .ok (.if_icmp .eq 410, 3) := by decide +kernel
theorem dL_law_762 : decode cL_law 762 = .ok (.iconst 0, 1) := by decide +kernel
theorem dL_law_763 : decode cL_law 763 = .ok (.ireturn, 1) := by decide +kernel
theorem dL_law_764 : decode cL_law 764 = .ok (.aload_n 1, 1) := by decide +kernel
theorem dL_law_765 : decode cL_law 765 = .ok (.aload_n 0, 1) := by decide +kernel
theorem dL_law_766 : decode cL_law 766 = .ok (.iload_n 3, 1) := by decide +kernel
theorem dL_law_767 : decode cL_law 767 = .ok (.iconst 1, 1) := by decide +kernel
theorem dL_law_768 : decode cL_law 768 = .ok (.iadd, 1) := by decide +kernel
theorem dL_law_769 : decode cL_law 769 = .ok (.iaload, 1) := by decide +kernel
theorem dL_law_770 : decode cL_law 770 = .ok (.aload_n 0, 1) := by decide +kernel
theorem dL_law_771 : decode cL_law 771 = .ok (.iload_n 3, 1) := by decide +kernel
theorem dL_law_772 : decode cL_law 772 = .ok (.iconst 2, 1) := by decide +kernel
theorem dL_law_773 : decode cL_law 773 = .ok (.iadd, 1) := by decide +kernel
theorem dL_law_774 : decode cL_law 774 = .ok (.iaload, 1) := by decide +kernel
theorem dL_law_775 : decode cL_law 775 = .ok (.invokevirtual 93, 3) := by decide +kernel
theorem dL_law_778 : decode cL_law 778 = .ok (.aload_n 2, 1) := by decide +kernel
theorem dL_law_779 : decode cL_law 779 = .ok (.aload_n 0, 1) := by decide +kernel
theorem dL_law_780 : decode cL_law 780 = .ok (.iload_n 3, 1) := by decide +kernel
theorem dL_law_781 : decode cL_law 781 = .ok (.iconst 1, 1) := by decide +kernel
theorem dL_law_782 : decode cL_law 782 = .ok (.iadd, 1) := by decide +kernel
theorem dL_law_783 : decode cL_law 783 = .ok (.iaload, 1) := by decide +kernel
theorem dL_law_784 : decode cL_law 784 = .ok (.aload_n 0, 1) := by decide +kernel
theorem dL_law_785 : decode cL_law 785 = .ok (.iload_n 3, 1) := by decide +kernel
theorem dL_law_786 : decode cL_law 786 = .ok (.iconst 2, 1) := by decide +kernel
theorem dL_law_787 : decode cL_law 787 = .ok (.iadd, 1) := by decide +kernel
theorem dL_law_788 : decode cL_law 788 = .ok (.iaload, 1) := by decide +kernel
theorem dL_law_789 : decode cL_law 789 = .ok (.invokevirtual 96, 3) := by decide +kernel
theorem dL_law_792 : decode cL_law 792 = .ok (.if_icmp .eq 377, 3) := by decide +kernel
theorem dL_law_795 : decode cL_law 795 = .ok (.iconst 0, 1) := by decide +kernel
theorem dL_law_796 : decode cL_law 796 = .ok (.ireturn, 1) := by decide +kernel
theorem dL_law_797 : decode cL_law 797 = .ok (.aload_n 1, 1) := by decide +kernel
theorem dL_law_798 : decode cL_law 798 = .ok (.aload_n 0, 1) := by decide +kernel
theorem dL_law_799 : decode cL_law 799 = .ok (.iload_n 3, 1) := by decide +kernel
theorem dL_law_800 : decode cL_law 800 = .ok (.iconst 1, 1) := by decide +kernel
theorem dL_law_801 : decode cL_law 801 = .ok (.iadd, 1) := by decide +kernel
theorem dL_law_802 : decode cL_law 802 = .ok (.iaload, 1) := by decide +kernel
theorem dL_law_803 : decode cL_law 803 = .ok (.invokevirtual 97, 3) := by decide +kernel
theorem dL_law_806 : decode cL_law 806 = .ok (.aload_n 2, 1) := by decide +kernel
theorem dL_law_807 : decode cL_law 807 = .ok (.aload_n 0, 1) := by decide +kernel
theorem dL_law_808 : decode cL_law 808 = .ok (.iload_n 3, 1) := by decide +kernel
theorem dL_law_809 : decode cL_law 809 = .ok (.iconst 1, 1) := by decide +kernel
theorem dL_law_810 : decode cL_law 810 = .ok (.iadd, 1) := by decide +kernel
theorem dL_law_811 : decode cL_law 811 = .ok (.iaload, 1) := by decide +kernel
theorem dL_law_812 : decode cL_law 812 = .ok (.invokevirtual 100, 3) := by decide +kernel
theorem dL_law_815 : decode cL_law 815 = .ok (.if_icmp .eq 354, 3) := by decide +kernel
theorem dL_law_818 : decode cL_law 818 = .ok (.iconst 0, 1) := by decide +kernel
theorem dL_law_819 : decode cL_law 819 = .ok (.ireturn, 1) := by decide +kernel
theorem dL_law_820 : decode cL_law 820 = .ok (.aload_n 1, 1) := by decide +kernel
theorem dL_law_821 : decode cL_law 821 = .ok (.invokevirtual 101, 3) := by decide +kernel
theorem dL_law_824 : decode cL_law 824 = .ok (.aload_n 2, 1) := by decide +kernel
theorem dL_law_825 : decode cL_law 825 = .ok (.invokevirtual 104, 3) := by decide +kernel
theorem dL_law_828 : decode cL_law 828 = .ok (.if_icmp .eq 341, 3) := by decide +kernel
theorem dL_law_831 : decode cL_law 831 = .ok (.iconst 0, 1) := by decide +kernel
theorem dL_law_832 : decode cL_law 832 = .ok (.ireturn, 1) := by decide +kernel
theorem dL_law_833 : decode cL_law 833 = .ok (.aload_n 1, 1) := by decide +kernel
theorem dL_law_834 : decode cL_law 834 = .ok (.invokevirtual 105, 3) := by decide +kernel
theorem dL_law_837 : decode cL_law 837 = .ok (.aload_n 2, 1) := by decide +kernel
theorem dL_law_838 : decode cL_law 838 = .ok (.invokevirtual 108, 3) := by decide +kernel
theorem dL_law_841 : decode cL_law 841 = .ok (.if_icmp .eq 328, 3) := by decide +kernel
theorem dL_law_844 : decode cL_law 844 = .ok (.iconst 0, 1) := by decide +kernel
theorem dL_law_845 : decode cL_law 845 = .ok (.ireturn, 1) := by decide +kernel
theorem dL_law_846 : decode cL_law 846 = .ok (.aload_n 1, 1) := by decide +kernel
theorem dL_law_847 : decode cL_law 847 = .ok (.aload_n 0, 1) := by decide +kernel
theorem dL_law_848 : decode cL_law 848 = .ok (.iload_n 3, 1) := by decide +kernel
theorem dL_law_849 : decode cL_law 849 = .ok (.iconst 1, 1) := by decide +kernel
theorem dL_law_850 : decode cL_law 850 = .ok (.iadd, 1) := by decide +kernel
theorem dL_law_851 : decode cL_law 851 = .ok (.iaload, 1) := by decide +kernel
theorem dL_law_852 : decode cL_law 852 = .ok (.aload_n 0, 1) := by decide +kernel
theorem dL_law_853 : decode cL_law 853 = .ok (.iload_n 3, 1) := by decide +kernel
theorem dL_law_854 : decode cL_law 854 = .ok (.iconst 2, 1) := by decide +kernel
theorem dL_law_855 : decode cL_law 855 = .ok (.iadd, 1) := by decide +kernel
theorem dL_law_856 : decode cL_law 856 = .ok (.iaload, 1) := by decide +kernel
theorem dL_law_857 : decode cL_law 857 = .ok (.invokevirtual 109, 3) := by decide +kernel
theorem dL_law_860 : decode cL_law 860 = .ok (.aload_n 2, 1) := by decide +kernel
theorem dL_law_861 : decode cL_law 861 = .ok (.aload_n 0, 1) := by decide +kernel
theorem dL_law_862 : decode cL_law 862 = .ok (.iload_n 3, 1) := by decide +kernel
theorem dL_law_863 : decode cL_law 863 = .ok (.iconst 1, 1) := by decide +kernel
theorem dL_law_864 : decode cL_law 864 = .ok (.iadd, 1) := by decide +kernel
theorem dL_law_865 : decode cL_law 865 = .ok (.iaload, 1) := by decide +kernel
theorem dL_law_866 : decode cL_law 866 = .ok (.aload_n 0, 1) := by decide +kernel
theorem dL_law_867 : decode cL_law 867 = .ok (.iload_n 3, 1) := by decide +kernel
theorem dL_law_868 : decode cL_law 868 = .ok (.iconst 2, 1) := by decide +kernel
theorem dL_law_869 : decode cL_law 869 = .ok (.iadd, 1) := by decide +kernel
theorem dL_law_870 : decode cL_law 870 = .ok (.iaload, 1) := by decide +kernel
theorem dL_law_871 : decode cL_law 871 = .ok (.invokevirtual 112, 3) := by decide +kernel
theorem dL_law_874 : decode cL_law 874 = .ok (.if_icmp .eq 295, 3) := by decide +kernel
theorem dL_law_877 : decode cL_law 877 = .ok (.iconst 0, 1) := by decide +kernel
theorem dL_law_878 : decode cL_law 878 = .ok (.ireturn, 1) := by decide +kernel
theorem dL_law_879 : decode cL_law 879 = .ok (.aload_n 1, 1) := by decide +kernel
theorem dL_law_880 : decode cL_law 880 = .ok (.aload_n 0, 1) := by decide +kernel
theorem dL_law_881 : decode cL_law 881 = .ok (.iload_n 3, 1) := by decide +kernel
theorem dL_law_882 : decode cL_law 882 = .ok (.iconst 1, 1) := by decide +kernel
theorem dL_law_883 : decode cL_law 883 = .ok (.iadd, 1) := by decide +kernel
theorem dL_law_884 : decode cL_law 884 = .ok (.iaload, 1) := by decide +kernel
theorem dL_law_885 : decode cL_law 885 = .ok (.aload_n 0, 1) := by decide +kernel
theorem dL_law_886 : decode cL_law 886 = .ok (.iload_n 3, 1) := by decide +kernel
theorem dL_law_887 : decode cL_law 887 = .ok (.iconst 2, 1) := by decide +kernel
theorem dL_law_888 : decode cL_law 888 = .ok (.iadd, 1) := by decide +kernel
theorem dL_law_889 : decode cL_law 889 = .ok (.iaload, 1) := by decide +kernel
theorem dL_law_890 : decode cL_law 890 = .ok (.aload_n 0, 1) := by decide +kernel
theorem dL_law_891 : decode cL_law 891 = .ok (.iload_n 3, 1) := by decide +kernel
theorem dL_law_892 : decode cL_law 892 = .ok (.iconst 3, 1) := by decide +kernel
theorem dL_law_893 : decode cL_law 893 = .ok (.iadd, 1) := by decide +kernel
theorem dL_law_894 : decode cL_law 894 = .ok (.iaload, 1) := by decide +kernel
theorem dL_law_895 : decode cL_law 895 = .ok (.aload_n 0, 1) := by decide +kernel
theorem dL_law_896 : decode cL_law 896 = .ok (.iload_n 3, 1) := by decide +kernel
theorem dL_law_897 : decode cL_law 897 = .ok (.iconst 4, 1) := by decide +kernel
theorem dL_law_898 : decode cL_law 898 = .ok (.iadd, 1) := by decide +kernel
theorem dL_law_899 : decode cL_law 899 = .ok (.iaload, 1) := by decide +kernel
theorem dL_law_900 : decode cL_law 900 = .ok (.invokevirtual 113, 3) := by decide +kernel
theorem dL_law_903 : decode cL_law 903 = .ok (.aload_n 2, 1) := by decide +kernel
theorem dL_law_904 : decode cL_law 904 = .ok (.aload_n 0, 1) := by decide +kernel
theorem dL_law_905 : decode cL_law 905 = .ok (.iload_n 3, 1) := by decide +kernel
theorem dL_law_906 : decode cL_law 906 = .ok (.iconst 1, 1) := by decide +kernel
theorem dL_law_907 : decode cL_law 907 = .ok (.iadd, 1) := by decide +kernel
theorem dL_law_908 : decode cL_law 908 = .ok (.iaload, 1) := by decide +kernel
theorem dL_law_909 : decode cL_law 909 = .ok (.aload_n 0, 1) := by decide +kernel
theorem dL_law_910 : decode cL_law 910 = .ok (.iload_n 3, 1) := by decide +kernel
theorem dL_law_911 : decode cL_law 911 = .ok (.iconst 2, 1) := by decide +kernel
theorem dL_law_912 : decode cL_law 912 = .ok (.iadd, 1) := by decide +kernel
theorem dL_law_913 : decode cL_law 913 = .ok (.iaload, 1) := by decide +kernel
theorem dL_law_914 : decode cL_law 914 = .ok (.aload_n 0, 1) := by decide +kernel
theorem dL_law_915 : decode cL_law 915 = .ok (.iload_n 3, 1) := by decide +kernel
theorem dL_law_916 : decode cL_law 916 = .ok (.iconst 3, 1) := by decide +kernel
theorem dL_law_917 : decode cL_law 917 = .ok (.iadd, 1) := by decide +kernel
theorem dL_law_918 : decode cL_law 918 = .ok (.iaload, 1) := by decide +kernel
theorem dL_law_919 : decode cL_law 919 = .ok (.aload_n 0, 1) := by decide +kernel
theorem dL_law_920 : decode cL_law 920 = .ok (.iload_n 3, 1) := by decide +kernel
theorem dL_law_921 : decode cL_law 921 = .ok (.iconst 4, 1) := by decide +kernel
theorem dL_law_922 : decode cL_law 922 = .ok (.iadd, 1) := by decide +kernel
theorem dL_law_923 : decode cL_law 923 = .ok (.iaload, 1) := by decide +kernel
theorem dL_law_924 : decode cL_law 924 = .ok (.invokevirtual 117, 3) := by decide +kernel
theorem dL_law_927 : decode cL_law 927 = .ok (.if_icmp .eq 242, 3) := by decide +kernel
theorem dL_law_930 : decode cL_law 930 = .ok (.iconst 0, 1) := by decide +kernel
theorem dL_law_931 : decode cL_law 931 = .ok (.ireturn, 1) := by decide +kernel
theorem dL_law_932 : decode cL_law 932 = .ok (.aload_n 1, 1) := by decide +kernel
theorem dL_law_933 : decode cL_law 933 = .ok (.aload_n 0, 1) := by decide +kernel
theorem dL_law_934 : decode cL_law 934 = .ok (.iload_n 3, 1) := by decide +kernel
theorem dL_law_935 : decode cL_law 935 = .ok (.iconst 1, 1) := by decide +kernel
theorem dL_law_936 : decode cL_law 936 = .ok (.iadd, 1) := by decide +kernel
theorem dL_law_937 : decode cL_law 937 = .ok (.iaload, 1) := by decide +kernel
theorem dL_law_938 : decode cL_law 938 = .ok (.aload_n 0, 1) := by decide +kernel
theorem dL_law_939 : decode cL_law 939 = .ok (.iload_n 3, 1) := by decide +kernel
theorem dL_law_940 : decode cL_law 940 = .ok (.iconst 2, 1) := by decide +kernel
theorem dL_law_941 : decode cL_law 941 = .ok (.iadd, 1) := by decide +kernel
theorem dL_law_942 : decode cL_law 942 = .ok (.iaload, 1) := by decide +kernel
theorem dL_law_943 : decode cL_law 943 = .ok (.aload_n 0, 1) := by decide +kernel
theorem dL_law_944 : decode cL_law 944 = .ok (.iload_n 3, 1) := by decide +kernel
theorem dL_law_945 : decode cL_law 945 = .ok (.iconst 3, 1) := by decide +kernel
theorem dL_law_946 : decode cL_law 946 = .ok (.iadd, 1) := by decide +kernel
theorem dL_law_947 : decode cL_law 947 = .ok (.iaload, 1) := by decide +kernel
theorem dL_law_948 : decode cL_law 948 = .ok (.invokevirtual 118, 3) := by decide +kernel
theorem dL_law_951 : decode cL_law 951 = .ok (.aload_n 2, 1) := by decide +kernel
theorem dL_law_952 : decode cL_law 952 = .ok (.aload_n 0, 1) := by decide +kernel
theorem dL_law_953 : decode cL_law 953 = .ok (.iload_n 3, 1) := by decide +kernel
theorem dL_law_954 : decode cL_law 954 = .ok (.iconst 1, 1) := by decide +kernel
theorem dL_law_955 : decode cL_law 955 = .ok (.iadd, 1) := by decide +kernel
theorem dL_law_956 : decode cL_law 956 = .ok (.iaload, 1) := by decide +kernel
theorem dL_law_957 : decode cL_law 957 = .ok (.aload_n 0, 1) := by decide +kernel
theorem dL_law_958 : decode cL_law 958 = .ok (.iload_n 3, 1) := by decide +kernel
theorem dL_law_959 : decode cL_law 959 = .ok (.iconst 2, 1) := by decide +kernel
theorem dL_law_960 : decode cL_law 960 = .ok (.iadd, 1) := by decide +kernel
theorem dL_law_961 : decode cL_law 961 = .ok (.iaload, 1) := by decide +kernel
theorem dL_law_962 : decode cL_law 962 = .ok (.aload_n 0, 1) := by decide +kernel
theorem dL_law_963 : decode cL_law 963 = .ok (.iload_n 3, 1) := by decide +kernel
theorem dL_law_964 : decode cL_law 964 = .ok (.iconst 3, 1) := by decide +kernel
theorem dL_law_965 : decode cL_law 965 = .ok (.iadd, 1) := by decide +kernel
theorem dL_law_966 : decode cL_law 966 = .ok (.iaload, 1) := by decide +kernel
theorem dL_law_967 : decode cL_law 967 = .ok (.invokevirtual 121, 3) := by decide +kernel
theorem dL_law_970 : decode cL_law 970 = .ok (.if_icmp .eq 199, 3) := by decide +kernel
theorem dL_law_973 : decode cL_law 973 = .ok (.iconst 0, 1) := by decide +kernel
theorem dL_law_974 : decode cL_law 974 = .ok (.ireturn, 1) := by decide +kernel
theorem dL_law_975 : decode cL_law 975 = .ok (.aload_n 1, 1) := by decide +kernel
theorem dL_law_976 : decode cL_law 976 = .ok (.aload_n 0, 1) := by decide +kernel
theorem dL_law_977 : decode cL_law 977 = .ok (.iload_n 3, 1) := by decide +kernel
theorem dL_law_978 : decode cL_law 978 = .ok (.iconst 1, 1) := by decide +kernel
theorem dL_law_979 : decode cL_law 979 = .ok (.iadd, 1) := by decide +kernel
theorem dL_law_980 : decode cL_law 980 = .ok (.iaload, 1) := by decide +kernel
theorem dL_law_981 : decode cL_law 981 = .ok (.invokevirtual 122, 3) := by decide +kernel
theorem dL_law_984 : decode cL_law 984 = .ok (.aload_n 2, 1) := by decide +kernel
theorem dL_law_985 : decode cL_law 985 = .ok (.aload_n 0, 1) := by decide +kernel
theorem dL_law_986 : decode cL_law 986 = .ok (.iload_n 3, 1) := by decide +kernel
theorem dL_law_987 : decode cL_law 987 = .ok (.iconst 1, 1) := by decide +kernel
theorem dL_law_988 : decode cL_law 988 = .ok (.iadd, 1) := by decide +kernel
theorem dL_law_989 : decode cL_law 989 = .ok (.iaload, 1) := by decide +kernel
theorem dL_law_990 : decode cL_law 990 = .ok (.invokevirtual 125, 3) := by decide +kernel
theorem dL_law_993 : decode cL_law 993 = .ok (.if_icmp .eq 176, 3) := by decide +kernel
theorem dL_law_996 : decode cL_law 996 = .ok (.iconst 0, 1) := by decide +kernel
theorem dL_law_997 : decode cL_law 997 = .ok (.ireturn, 1) := by decide +kernel
theorem dL_law_998 : decode cL_law 998 = .ok (.aload_n 1, 1) := by decide +kernel
theorem dL_law_999 : decode cL_law 999 = .ok (.aload_n 0, 1) := by decide +kernel
theorem dL_law_1000 : decode cL_law 1000 = .ok (.iload_n 3, 1) := by decide +kernel
theorem dL_law_1001 : decode cL_law 1001 = .ok (.iconst 1, 1) := by decide +kernel
theorem dL_law_1002 : decode cL_law 1002 = .ok (.iadd, 1) := by decide +kernel
theorem dL_law_1003 : decode cL_law 1003 = .ok (.iaload, 1) := by decide +kernel
theorem dL_law_1004 : decode cL_law 1004 = .ok (.invokevirtual 126, 3) := by decide +kernel
theorem dL_law_1007 : decode cL_law 1007 = .ok (.aload_n 2, 1) := by decide +kernel
theorem dL_law_1008 : decode cL_law 1008 = .ok (.aload_n 0, 1) := by decide +kernel
theorem dL_law_1009 : decode cL_law 1009 = .ok (.iload_n 3, 1) := by decide +kernel
theorem dL_law_1010 : decode cL_law 1010 = .ok (.iconst 1, 1) := by decide +kernel
theorem dL_law_1011 : decode cL_law 1011 = .ok (.iadd, 1) := by decide +kernel
theorem dL_law_1012 : decode cL_law 1012 = .ok (.iaload, 1) := by decide +kernel
theorem dL_law_1013 : decode cL_law 1013 = .ok (.invokevirtual 129, 3) := by decide +kernel
theorem dL_law_1016 : decode cL_law 1016 = .ok (.if_icmp .eq 153, 3) := by decide +kernel
theorem dL_law_1019 : decode cL_law 1019 = .ok (.iconst 0, 1) := by decide +kernel
theorem dL_law_1020 : decode cL_law 1020 = .ok (.ireturn, 1) := by decide +kernel
theorem dL_law_1021 : decode cL_law 1021 = .ok (.aload_n 1, 1) := by decide +kernel
theorem dL_law_1022 : decode cL_law 1022 = .ok (.aload_n 0, 1) := by decide +kernel
theorem dL_law_1023 : decode cL_law 1023 = .ok (.iload_n 3, 1) := by decide +kernel
theorem dL_law_1024 : decode cL_law 1024 = .ok (.iconst 1, 1) := by decide +kernel
theorem dL_law_1025 : decode cL_law 1025 = .ok (.iadd, 1) := by decide +kernel
theorem dL_law_1026 : decode cL_law 1026 = .ok (.iaload, 1) := by decide +kernel
theorem dL_law_1027 : decode cL_law 1027 = .ok (.invokevirtual 130, 3) := by decide +kernel
theorem dL_law_1030 : decode cL_law 1030 = .ok (.aload_n 2, 1) := by decide +kernel
theorem dL_law_1031 : decode cL_law 1031 = .ok (.aload_n 0, 1) := by decide +kernel
theorem dL_law_1032 : decode cL_law 1032 = .ok (.iload_n 3, 1) := by decide +kernel
theorem dL_law_1033 : decode cL_law 1033 = .ok (.iconst 1, 1) := by decide +kernel
theorem dL_law_1034 : decode cL_law 1034 = .ok (.iadd, 1) := by decide +kernel
theorem dL_law_1035 : decode cL_law 1035 = .ok (.iaload, 1) := by decide +kernel
theorem dL_law_1036 : decode cL_law 1036 = .ok (.invokevirtual 133, 3) := by decide +kernel
theorem dL_law_1039 : decode cL_law 1039 = .ok (.if_icmp .eq 130, 3) := by decide +kernel
theorem dL_law_1042 : decode cL_law 1042 = .ok (.iconst 0, 1) := by decide +kernel
theorem dL_law_1043 : decode cL_law 1043 = .ok (.ireturn, 1) := by decide +kernel
theorem dL_law_1044 : decode cL_law 1044 = .ok (.aload_n 1, 1) := by decide +kernel
theorem dL_law_1045 : decode cL_law 1045 = .ok (.aload_n 0, 1) := by decide +kernel
theorem dL_law_1046 : decode cL_law 1046 = .ok (.iload_n 3, 1) := by decide +kernel
theorem dL_law_1047 : decode cL_law 1047 = .ok (.iconst 1, 1) := by decide +kernel
theorem dL_law_1048 : decode cL_law 1048 = .ok (.iadd, 1) := by decide +kernel
theorem dL_law_1049 : decode cL_law 1049 = .ok (.iaload, 1) := by decide +kernel
theorem dL_law_1050 : decode cL_law 1050 = .ok (.aload_n 0, 1) := by decide +kernel
theorem dL_law_1051 : decode cL_law 1051 = .ok (.iload_n 3, 1) := by decide +kernel
theorem dL_law_1052 : decode cL_law 1052 = .ok (.iconst 2, 1) := by decide +kernel
theorem dL_law_1053 : decode cL_law 1053 = .ok (.iadd, 1) := by decide +kernel
theorem dL_law_1054 : decode cL_law 1054 = .ok (.iaload, 1) := by decide +kernel
theorem dL_law_1055 : decode cL_law 1055 = .ok (.invokevirtual 134, 3) := by decide +kernel
theorem dL_law_1058 : decode cL_law 1058 = .ok (.aload_n 2, 1) := by decide +kernel
theorem dL_law_1059 : decode cL_law 1059 = .ok (.aload_n 0, 1) := by decide +kernel
theorem dL_law_1060 : decode cL_law 1060 = .ok (.iload_n 3, 1) := by decide +kernel
theorem dL_law_1061 : decode cL_law 1061 = .ok (.iconst 1, 1) := by decide +kernel
theorem dL_law_1062 : decode cL_law 1062 = .ok (.iadd, 1) := by decide +kernel
theorem dL_law_1063 : decode cL_law 1063 = .ok (.iaload, 1) := by decide +kernel
theorem dL_law_1064 : decode cL_law 1064 = .ok (.aload_n 0, 1) := by decide +kernel
theorem dL_law_1065 : decode cL_law 1065 = .ok (.iload_n 3, 1) := by decide +kernel
theorem dL_law_1066 : decode cL_law 1066 = .ok (.iconst 2, 1) := by decide +kernel
theorem dL_law_1067 : decode cL_law 1067 = .ok (.iadd, 1) := by decide +kernel
theorem dL_law_1068 : decode cL_law 1068 = .ok (.iaload, 1) := by decide +kernel
theorem dL_law_1069 : decode cL_law 1069 = .ok (.invokevirtual 137, 3) := by decide +kernel
theorem dL_law_1072 : decode cL_law 1072 = .ok (.if_icmp .eq 97, 3) := by decide +kernel
theorem dL_law_1075 : decode cL_law 1075 = .ok (.iconst 0, 1) := by decide +kernel
theorem dL_law_1076 : decode cL_law 1076 = .ok (.ireturn, 1) := by decide +kernel
theorem dL_law_1077 : decode cL_law 1077 = .ok (.aload_n 1, 1) := by decide +kernel
theorem dL_law_1078 : decode cL_law 1078 = .ok (.aload_n 0, 1) := by decide +kernel
theorem dL_law_1079 : decode cL_law 1079 = .ok (.iload_n 3, 1) := by decide +kernel
theorem dL_law_1080 : decode cL_law 1080 = .ok (.iconst 1, 1) := by decide +kernel
theorem dL_law_1081 : decode cL_law 1081 = .ok (.iadd, 1) := by decide +kernel
theorem dL_law_1082 : decode cL_law 1082 = .ok (.iaload, 1) := by decide +kernel
theorem dL_law_1083 : decode cL_law 1083 = .ok (.aload_n 0, 1) := by decide +kernel
theorem dL_law_1084 : decode cL_law 1084 = .ok (.iload_n 3, 1) := by decide +kernel
theorem dL_law_1085 : decode cL_law 1085 = .ok (.iconst 2, 1) := by decide +kernel
theorem dL_law_1086 : decode cL_law 1086 = .ok (.iadd, 1) := by decide +kernel
theorem dL_law_1087 : decode cL_law 1087 = .ok (.iaload, 1) := by decide +kernel
theorem dL_law_1088 : decode cL_law 1088 = .ok (.invokevirtual 138, 3) := by decide +kernel
theorem dL_law_1091 : decode cL_law 1091 = .ok (.aload_n 2, 1) := by decide +kernel
theorem dL_law_1092 : decode cL_law 1092 = .ok (.aload_n 0, 1) := by decide +kernel
theorem dL_law_1093 : decode cL_law 1093 = .ok (.iload_n 3, 1) := by decide +kernel
theorem dL_law_1094 : decode cL_law 1094 = .ok (.iconst 1, 1) := by decide +kernel
theorem dL_law_1095 : decode cL_law 1095 = .ok (.iadd, 1) := by decide +kernel
theorem dL_law_1096 : decode cL_law 1096 = .ok (.iaload, 1) := by decide +kernel
theorem dL_law_1097 : decode cL_law 1097 = .ok (.aload_n 0, 1) := by decide +kernel
theorem dL_law_1098 : decode cL_law 1098 = .ok (.iload_n 3, 1) := by decide +kernel
theorem dL_law_1099 : decode cL_law 1099 = .ok (.iconst 2, 1) := by decide +kernel
theorem dL_law_1100 : decode cL_law 1100 = .ok (.iadd, 1) := by decide +kernel
theorem dL_law_1101 : decode cL_law 1101 = .ok (.iaload, 1) := by decide +kernel
theorem dL_law_1102 : decode cL_law 1102 = .ok (.invokevirtual 141, 3) := by decide +kernel
theorem dL_law_1105 : decode cL_law 1105 = .ok (.if_icmp .eq 64, 3) := by decide +kernel
theorem dL_law_1108 : decode cL_law 1108 = .ok (.iconst 0, 1) := by decide +kernel
theorem dL_law_1109 : decode cL_law 1109 = .ok (.ireturn, 1) := by decide +kernel
theorem dL_law_1110 : decode cL_law 1110 = .ok (.aload_n 1, 1) := by decide +kernel
theorem dL_law_1111 : decode cL_law 1111 = .ok (.aload_n 0, 1) := by decide +kernel
theorem dL_law_1112 : decode cL_law 1112 = .ok (.iload_n 3, 1) := by decide +kernel
theorem dL_law_1113 : decode cL_law 1113 = .ok (.iconst 1, 1) := by decide +kernel
theorem dL_law_1114 : decode cL_law 1114 = .ok (.iadd, 1) := by decide +kernel
theorem dL_law_1115 : decode cL_law 1115 = .ok (.iaload, 1) := by decide +kernel
theorem dL_law_1116 : decode cL_law 1116 = .ok (.invokevirtual 142, 3) := by decide +kernel
theorem dL_law_1119 : decode cL_law 1119 = .ok (.aload_n 2, 1) := by decide +kernel
theorem dL_law_1120 : decode cL_law 1120 = .ok (.aload_n 0, 1) := by decide +kernel
theorem dL_law_1121 : decode cL_law 1121 = .ok (.iload_n 3, 1) := by decide +kernel
theorem dL_law_1122 : decode cL_law 1122 = .ok (.iconst 1, 1) := by decide +kernel
theorem dL_law_1123 : decode cL_law 1123 = .ok (.iadd, 1) := by decide +kernel
theorem dL_law_1124 : decode cL_law 1124 = .ok (.iaload, 1) := by decide +kernel
theorem dL_law_1125 : decode cL_law 1125 = .ok (.invokevirtual 145, 3) := by decide +kernel
theorem dL_law_1128 : decode cL_law 1128 = .ok (.if_icmp .eq 41, 3) := by decide +kernel
theorem dL_law_1131 : decode cL_law 1131 = .ok (.iconst 0, 1) := by decide +kernel
theorem dL_law_1132 : decode cL_law 1132 = .ok (.ireturn, 1) := by decide +kernel
theorem dL_law_1133 : decode cL_law 1133 = .ok (.aload_n 1, 1) := by decide +kernel
theorem dL_law_1134 : decode cL_law 1134 = .ok (.aload_n 0, 1) := by decide +kernel
theorem dL_law_1135 : decode cL_law 1135 = .ok (.iload_n 3, 1) := by decide +kernel
theorem dL_law_1136 : decode cL_law 1136 = .ok (.iconst 1, 1) := by decide +kernel
theorem dL_law_1137 : decode cL_law 1137 = .ok (.iadd, 1) := by decide +kernel
theorem dL_law_1138 : decode cL_law 1138 = .ok (.iaload, 1) := by decide +kernel
theorem dL_law_1139 : decode cL_law 1139 = .ok (.invokevirtual 146, 3) := by decide +kernel
theorem dL_law_1142 : decode cL_law 1142 = .ok (.aload_n 2, 1) := by decide +kernel
theorem dL_law_1143 : decode cL_law 1143 = .ok (.aload_n 0, 1) := by decide +kernel
theorem dL_law_1144 : decode cL_law 1144 = .ok (.iload_n 3, 1) := by decide +kernel
theorem dL_law_1145 : decode cL_law 1145 = .ok (.iconst 1, 1) := by decide +kernel
theorem dL_law_1146 : decode cL_law 1146 = .ok (.iadd, 1) := by decide +kernel
theorem dL_law_1147 : decode cL_law 1147 = .ok (.iaload, 1) := by decide +kernel
theorem dL_law_1148 : decode cL_law 1148 = .ok (.invokevirtual 149, 3) := by decide +kernel
theorem dL_law_1151 : decode cL_law 1151 = .ok (.if_icmp .eq 18, 3) := by decide +kernel
theorem dL_law_1154 : decode cL_law 1154 = .ok (.iconst 0, 1) := by decide +kernel
theorem dL_law_1155 : decode cL_law 1155 = .ok (.ireturn, 1) := by decide +kernel
theorem dL_law_1156 : decode cL_law 1156 = .ok (.aload_n 1, 1) := by decide +kernel
theorem dL_law_1157 : decode cL_law 1157 = .ok (.invokevirtual 150, 3) := by decide +kernel
theorem dL_law_1160 : decode cL_law 1160 = .ok (.aload_n 2, 1) := by decide +kernel
theorem dL_law_1161 : decode cL_law 1161 = .ok (.invokevirtual 153, 3) := by decide +kernel
theorem dL_law_1164 : decode cL_law 1164 = .ok (.if_icmp .eq 5, 3) := by decide +kernel
theorem dL_law_1167 : decode cL_law 1167 = .ok (.iconst 0, 1) := by decide +kernel
theorem dL_law_1168 : decode cL_law 1168 = .ok (.ireturn, 1) := by decide +kernel
theorem dL_law_1169 : decode cL_law 1169 = .ok (.iinc 3 6, 3) := by decide +kernel
theorem dL_law_1172 : decode cL_law 1172 = .ok (.goto (-1154), 3) := by decide +kernel
theorem dL_law_1175 : decode cL_law 1175 = .ok (.iconst 1, 1) := by decide +kernel
theorem dL_law_1176 : decode cL_law 1176 = .ok (.ireturn, 1) := by decide +kernel
end
section
/-! A LAYER OF MY OWN over the kit's worlds: an abstract heap (cells by their number), frames of abstract values, one row an instruction. -/
abbrev q_E : Type := (Nat × Nat × (Nat → Int32)) ⊕ ((Nat × Nat × (Nat → Option Nat)) ⊕ (Nat × List Value))
abbrev q_H : Type := Nat → q_E
def q_dead : q_E := .inr (.inr (1000, []))
def q_ty (k : Nat) : FieldType := match k with
  | 0 => .int
  | _ => .boolean
def q_cn (k : Nat) : String := match k with
  | 0 => RX3
  | _ => RX4
def q_cv (ad : Nat → Nat) (v : Value) : Value := match v with
  | .ref k => .ref (ad k)
  | v => v
def q_ok (n : Nat) (v : Value) : Bool := match v with
  | .ref k => decide (k < n) || decide (200 ≤ k)
  | _ => true
def q_up (h : q_H) (a : Nat) (e : q_E) : q_H := fun k => if k = a then e else h k
def q_CR (ad : Nat → Nat) (tys : List (ClassId × FieldType)) (c : q_E) (e : va_E) : Prop := match c with
  | .inl x => ∃ (cA : ClassId) (t0 : Nat) (f' : Nat → Int32), e = .inl (cA, x.2.1, .inl f') ∧ tys[t0]? = some (cA, q_ty x.1) ∧ ∀ j : Nat, j < x.2.1 → f' j = x.2.2 j
  | .inr (.inl x) => ∃ (cA : ClassId) (t0 : Nat), e = .inl (cA, x.2.1, .inr (.inr (.inr (.inr (fun j => (x.2.2 j).map ad))))) ∧ tys[t0]? = some (cA, .object (q_cn x.1))
  | .inr (.inr x) => e = .inr (x.1, x.2.map (q_cv ad))
def q_okE (n : Nat) (c : q_E) : Prop := match c with
  | .inl _ => True
  | .inr (.inl x) => ∀ (j b : Nat), x.2.2 j = some b → b < n
  | .inr (.inr x) => ∀ v ∈ x.2, q_ok n v = true
def q_Sim (ad : Nat → Nat) (n : Nat) (h : q_H) (tys : List (ClassId × FieldType)) (ws : va_W) : Prop :=
  (ws.length = n ∧ n < 200) ∧ (∀ (k : Nat) (q : Nat × va_E), ws[k]? = some q → q.1 = ad k) ∧ ∀ k : Nat, h k ≠ q_dead → ∃ e : va_E, ws[k]? = some (ad k, e) ∧ q_CR ad tys (h k) e ∧ q_okE n (h k)
def q_A (ad : Nat → Nat) (n sz : Nat) : Nat → Prop := fun q => (∃ k : Nat, k < n ∧ q = ad k) ∨ sz ≤ q
def q_W (D : va_G) (ad : Nat → Nat) (n : Nat) (h : q_H) (A : Nat → Prop) (U : State) : Prop :=
  ∃ (ws : va_W) (tys : List (ClassId × FieldType)), va_P D vwCl ws U.heap ∧ va_K D vwCl tys U ∧ va_D A ws ∧ q_Sim ad n h tys ws
def q_len : List Nat := [5, 5, 4, 6, 4, 5, 4]
def q_byt : List (List Int32) := [[103, 117, 101, 115, 116], [101, 97, 116, 101, 114], [102, 97, 115, 116], [103, 114, 101, 101, 100, 121], [100, 101, 97, 102], [100, 114, 117, 110, 107], [100, 105, 115, 104]]
/-- the literals and the statics that the JDK's String reads -/
def q_SF (ad : Nat → Nat) (A : Nat → Prop) (U : State) (H : Heap) : Prop :=
  (∃ adV : Nat → Nat, vk_S 7 q_len q_byt (fun i => ad (200 + i)) adV A U H) ∧ va_Z "java/lang/String" "COMPACT_STRINGS" "Z" (.int 1) A U H ∧ va_Zq "jdk/internal/util/Preconditions" "SIOOBE_FORMATTER" "Ljava/util/function/BiFunction;" A U H ∧
    vk_R RX5 38 "guest" (ad 200) U ∧ vk_R RX5 80 "eater" (ad 201) U ∧ vk_R RX5 82 "fast" (ad 202) U ∧ vk_R RX5 84 "greedy" (ad 203) U ∧ vk_R RX5 86 "deaf" (ad 204) U ∧ vk_R RX5 88 "drunk" (ad 205) U ∧ vk_R RX5 50 "dish" (ad 206) U
def q_nf : List (String × Nat × String × String × String × String) := [(RX7, 89, RX3, "lane", "I", RX7), (RX7, 97, RX3, "length", "I", RX7), (RX5, 58, RX4, "guests", "I", RX7), (RX2, 48, RX4, "guests", "I", RX7), (RX7, 141, RX4, "guests", "I", RX7), (RX7, 157, RX4, "turned", "I", RX7), (RX7, 148, RX4, "minute", "I", RX7), (RX7, 204, RX4, "on", "I", RX7), (RX2, 37, RX4, "pushed", "I", RX7), (RX2, 58, RX4, "dishEaten", "I", RX7), (RX2, 55, RX4, "bite", "I", RX7), (RX7, 107, RX6, "length", "I", RX7), (RX7, 103, RX5, "tape", "LTurningDishes$Tape;", RX7), (RX7, 131, RX5, "told", "LTurningDishes$Table;", RX7), (RX7, 128, RX5, "tokenStart", "I", RX7), (RX7, 121, RX5, "fault", "I", RX7), (RX7, 180, RX0, "kept", "I", RX7), (RX7, 193, RX2, "later", "LTurningDishes$Table;", RX7)]
def q_iy (C : String) : MethodName := ⟨C, "<init>", "()V"⟩
def q_nm : List (String × Nat × MethodName × String) := [(RX7, 15, q_iy RX3, RX7), (RX7, 22, q_iy RX4, RX7), (RX7, 25, q_iy RX5, RX7), (RX5, 11, q_iy RX6, RX7), (RX5, 20, q_iy RX4, RX7), (RX0, 17, q_iy RX4, RX7), (RX7, 43, q_iy RX2, RX7), (RX2, 11, q_iy RX4, RX7), (RX7, 50, q_iy RX1, RX7), (RX0, 30, yX7_leftOver, RX7), (RX4, 43, yX7_leftOver, RX7), (RX2, 99, yX7_within, RX7)]
/-- the words of nest mates, of arrays of ours -/
def q_NW (U : State) : Prop := (∀ q ∈ q_nf, va_Nw (.fieldLinkNest q.1 q.2.1 q.2.2.1 q.2.2.2.1 q.2.2.2.2.1 q.2.2.2.2.2) U) ∧ (∀ q ∈ q_nm, va_Nw (.methodLinkNest q.1 q.2.1 q.2.2.1 q.2.2.2) U) ∧ va_AO RX3 U ∧ va_AO RX4 U
theorem q_NW.warm {s U : State} (hW : s.WarmedH U.vm) (h : q_NW s) : q_NW U :=
  ⟨fun q hq => va_Nw.warmF hW (h.1 q hq), fun q hq => va_Nw.warmM hW (h.2.1 q hq), va_AO.moved hW.alike h.2.2.1, va_AO.moved hW.alike h.2.2.2⟩
theorem q_NW.call {U : State} {g : JFrame} {mk : MethodId} {a : Array Value} (h : q_NW U) : q_NW (U.calling g mk a) :=
  ⟨fun q hq => va_Nw.same rfl rfl (h.1 q hq), fun q hq => va_Nw.same rfl rfl (h.2.1 q hq), va_AO.moved (u := U) (U := U.calling g mk a) (Vm.Alike.refl U.vm) h.2.2.1, va_AO.moved (u := U) (U := U.calling g mk a) (Vm.Alike.refl U.vm) h.2.2.2⟩
theorem q_SF.warm {ad : Nat → Nat} {A B : Nat → Prop} {s U : State} {H : Heap} (hW : s.WarmedH U.vm) (hq : ∀ a : Nat, a < s.heap.size → ¬ A a → H[a]? = s.heap[a]?) (hAB : ∀ q, B q → A q) (h : q_SF ad A s s.heap) : q_SF ad B U H := by
  obtain ⟨⟨adV, h1⟩, h2, h3, r0, r1, r2, r3, r4, r5, r6⟩ := h
  exact ⟨⟨adV, ((h1.moved hW.alike).kept hq).narrow hAB⟩, ((h2.moved hW.alike).kept hq).narrow hAB, ((h3.moved hW.alike).kept hq).narrow hAB, r0.warm hW, r1.warm hW, r2.warm hW, r3.warm hW, r4.warm hW, r5.warm hW, r6.warm hW⟩
theorem q_SF.call {ad : Nat → Nat} {A : Nat → Prop} {U : State} {H : Heap} {g : JFrame} {mk : MethodId} {a : Array Value} (h : q_SF ad A U H) : q_SF ad A (U.calling g mk a) H := by
  obtain ⟨⟨adV, h1⟩, h2, h3, r0, r1, r2, r3, r4, r5, r6⟩ := h
  exact ⟨⟨adV, h1.moved (u := U) (U := U.calling g mk a) (Vm.Alike.refl U.vm)⟩, h2.moved (u := U) (U := U.calling g mk a) (Vm.Alike.refl U.vm), h3.moved (u := U) (U := U.calling g mk a) (Vm.Alike.refl U.vm), r0.same rfl, r1.same rfl, r2.same rfl, r3.same rfl, r4.same rfl, r5.same rfl, r6.same rfl⟩
/-- the words of the tables that every method is given -/
def q_Z : List Cond := lw_tbl.filter goodWord
def q_ws (y : MethodName) (cc : ByteArray) (maxL : Nat) (ret : Option FieldType) : List Cond := .code y cc maxL ret :: q_Z
theorem q_good {y y2 : MethodName} {cc cc2 : ByteArray} {maxL maxL2 : Nat} {ret ret2 : Option FieldType} (h : Cond.code y2 cc2 maxL2 ret2 ∈ q_Z) : GoodIn (q_ws y cc maxL ret) (q_ws y2 cc2 maxL2 ret2) := by
  intro w hw
  have hz : w ∈ q_Z := by
    rcases List.mem_cons.mp hw with rfl | hw
    · exact h
    · exact hw
  exact ⟨List.mem_cons_of_mem _ hz, good_of_word (List.mem_filter.mp hz).2⟩
def q_rm (d mc ms : Nat) : Room := { frames := d, cells := mc, slots := ms, locals := 32 * d }
/-- behind a method: its answer, and the heap -/
def q_Q (D : va_G) (A : Nat → Prop) (ad : Nat → Nat) (n : Nat) (h : q_H) (r : Option Value) : Array Value → State → Outcome → State → Prop := fun _ st oc t => (oc = .returned (r.map (q_cv ad)) ∧ q_W D ad n h A t) ∧ va_F A st t
def q_B (D : va_G) (ad : Nat → Nat) (sz n : Nat) (h : q_H) : State → Prop := fun U => U.heap.size = sz ∧ q_W D ad n h (fun _ => True) U ∧ q_NW U ∧ q_SF ad (q_A ad n sz) U U.heap
/-- THE CONTRACT of a method that makes no cells: with as on n cells h it answers r and leaves h' -/
def SP (d : Nat) (y : MethodName) (cc : ByteArray) (maxL : Nat) (ret : Option FieldType) (as : List Value) (n : Nat) (h : q_H) (r : Option Value) (h' : q_H) : Prop :=
  ∀ (l : Launch) (D : va_G) (ad : Nat → Nat) (sz : Nat), Met l y (q_ws y cc maxL ret) (q_rm d 0 0) (va_Pc (as.map (q_cv ad)) (q_B D ad sz n h)) (q_Q D (q_A ad n sz) ad n h' r) 0 0 (q_A ad n sz)
theorem q_blind {D : va_G} {ad : Nat → Nat} {sz n : Nat} {h : q_H} {as : List Value} : FrameBlind (va_Pc as (q_B D ad sz n h)) := by
  intro a U g mk q
  obtain ⟨q0, q1, ⟨ws, tys, qP, qK, qD, qS⟩, q2, q3⟩ := q
  exact ⟨q0, q1, ⟨ws, tys, qP, va_K.moved (u := U) (U := U.calling g mk a) (Vm.Alike.refl U.vm) qK, qD, qS⟩, q2.call, q3.call⟩
abbrev q_X : Type := Program × Launch × Env × Room × State × MethodId × Array Value × List Frame × Method × Code × va_G × (Nat → Prop) × (State → Prop)
def q_I (D : va_G) (A : Nat → Prop) (s : State) (H : Heap) (locs : List Loc) (ad : Nat → Nat) (n : Nat) (h : q_H) : Prop :=
  ∃ (ws : va_W) (tys : List (ClassId × FieldType)), va_K D vwCl tys s ∧ va_P D vwCl ws H ∧ va_D A ws ∧ va_S A s.heap H locs ∧ q_Sim ad n h tys ws
def q_L (ad : Nat → Nat) (nL : Nat) (la : List (Option Value)) (ls : Array Slot) : Prop := ls.size = nL ∧ lv_wf ls ∧ la.length = nL ∧ ∀ (i : Nat) (v : Value), la[i]? = some (some v) → ls[i]? = some (.val (q_cv ad v))
def q_G (Γ : q_X) (ad : Nat → Nat) (nL : Nat) (pc : Nat) (la : List (Option Value)) (st : List Value) (n : Nat) (h : q_H) (k1 k2 : Nat) : Prop :=
  match Γ with
  | (p, l, e, R, s, m, args, below, meth, c, D, A, Q) => ∀ (H : Heap) (locs : List Loc) (ls : Array Slot), q_I D A s H locs ad n h → q_L ad nL la ls → W p l e R s m args below meth c H locs k1 k2 Q (F0 m pc ls (st.map (q_cv ad)))
def q_C (Γ : q_X) (ad : Nat → Nat) (d mc ms : Nat) (own : String) (y : MethodName) (cc : ByteArray) (maxL : Nat) (ret : Option FieldType) : Prop :=
  match Γ with
  | (p, _, _, R, s, m, args, _, meth, c, _, A, _) => p.tables.exec = Jvm.exec ∧ c.code = cc ∧ c.maxLocals = maxL ∧ meth.sig.returnType = ret ∧ s.vm.findClass own = some m.cls ∧ (∀ w ∈ q_ws y cc maxL ret, w.before args s = true) ∧ meth.locks = false ∧ q_NW s ∧ q_SF ad A s s.heap ∧ (∀ q, s.heap.size ≤ q → A q) ∧ meth.name = y.name ∧ R = q_rm d mc ms
/-- the end that is wanted -/
def q_N (Γ : q_X) (ad : Nat → Nat) (n : Nat) (r : Option Value) (h' : q_H) : Prop :=
  match Γ with
  | (_, _, _, _, s, _, args, below, _, _, D, A, Q) => Q = MQ below (q_Q D A ad n h' r) args s 0 0 A
def q_la (maxL : Nat) (as : List Value) : List (Option Value) :=
  (as.flatMap fun v => if v.category = 2 then [some v, none] else [some v]) ++ List.replicate (maxL - (as.flatMap fun v => if v.category = 2 then [some v, none] else [some v]).length) none
theorem q_cv_cat (ad : Nat → Nat) (v : Value) : (q_cv ad v).category = v.category := by cases v <;> rfl
theorem q_la_args (ad : Nat → Nat) : ∀ (as : List Value) (b i : Nat) (v : Value) (tl : List (Option Value)), (∀ x ∈ tl, x = none) → ((as.flatMap fun v => if v.category = 2 then [some v, none] else [some v]) ++ tl)[i]? = some (some v) → (b + i, q_cv ad v) ∈ lv_args b (as.map (q_cv ad))
  | [], b, i, v, tl, ht, h => by
    have := ht _ (List.mem_of_getElem? (by simpa using h))
    cases this
  | a :: as, b, i, v, tl, ht, h => by
    rw [List.map_cons, lv_args, q_cv_cat]
    by_cases hc : a.category = 2
    · rw [List.flatMap_cons, if_pos hc] at h
      rw [if_pos hc]
      match i, h with
      | 0, h =>
        simp at h
        subst h
        exact List.mem_cons_self
      | 1, h => simp at h
      | i + 2, h =>
        have h1 := q_la_args ad as (b + 2) i v tl ht (by simpa using h)
        rw [show b + (i + 2) = b + 2 + i by omega]
        exact List.mem_cons_of_mem _ h1
    · rw [List.flatMap_cons, if_neg hc] at h
      rw [if_neg hc]
      match i, h with
      | 0, h =>
        simp at h
        subst h
        exact List.mem_cons_self
      | i + 1, h =>
        have h1 := q_la_args ad as (b + 1) i v tl ht (by simpa using h)
        rw [show b + (i + 1) = b + 1 + i by omega]
        exact List.mem_cons_of_mem _ h1
theorem q_la_len (ad : Nat → Nat) : ∀ as : List Value, (lg_sl (as.map (q_cv ad))).length = (as.flatMap fun v => if v.category = 2 then [some v, none] else [some v]).length
  | [] => rfl
  | a :: as => by
    have h := q_la_len ad as
    unfold lg_sl at h ⊢
    rw [List.map_cons, List.flatMap_cons, List.flatMap_cons, List.length_append, List.length_append, h, q_cv_cat]
    by_cases hc : a.category = 2 <;> simp [hc]
set_option maxHeartbeats 1000000 in
theorem q_SPi {d maxL : Nat} {y : MethodName} {cc : ByteArray} {ret : Option FieldType} {as : List Value} {la : List (Option Value)} {n : Nat} {h h' : q_H} {r : Option Value} (own : String) (hown : y.cls = own) (hy : plainName y.cls = true) (hla : q_la maxL as = la) (hlen : la.length = maxL)
    (k : ∀ (Γ : q_X) (ad : Nat → Nat), q_C Γ ad d 0 0 own y cc maxL ret → q_N Γ ad n r h' → q_G Γ ad maxL 0 la [] n h 0 0) : SP d y cc maxL ret as n h r h' := by
  intro l D ad sz
  subst hla
  subst hown
  refine Met.ofW (cc := cc) (maxL := maxL) (ret := ret) hy rfl ?_
  intro p e s m args below meth c s₁ B hml hv
  obtain ⟨rfl, hsz, ⟨ws, tys, hP, hK, hD0, hSim⟩, hNW, hSF⟩ := hv
  subst hsz
  have hts := atoms_spec (ws := q_ws y cc maxL ret) B.pre
  have hown : s.vm.findClass y.cls = some m.cls := findClass_of_methodNamed B.named
  have hin : meth.name = y.name := (name_of_methodNamed B.named B.method).1
  have hll : (lg_sl (as.map (q_cv ad))).length ≤ maxL := by
    have := hlen
    unfold q_la at this
    rw [List.length_append] at this
    rw [q_la_len]
    omega
  have hl := lv_entry (as.map (q_cv ad)) (n := maxL) hll
  have hD : va_D (q_A ad n s.heap.size) ws := hD0.weaken (fun k q hq _ => Or.inl ⟨k, by
    have := (List.getElem?_eq_some_iff.mp hq).1
    rw [hSim.1.1] at this
    exact this, hSim.2.1 k q hq⟩)
  have G := k (p, l, e, q_rm d 0 0, s, m, (as.map (q_cv ad)).toArray, below, meth, c, D, q_A ad n s.heap.size, MQ below (q_Q D (q_A ad n s.heap.size) ad n h' r) (as.map (q_cv ad)).toArray s 0 0 (q_A ad n s.heap.size)) ad
    ⟨B.exec, B.bytes, hml, B.returns, hown, hts, B.notSynchronized, hNW, hSF, fun q hq => Or.inr hq, hin, rfl⟩ rfl
  rw [lg_entry_eq]
  refine G s.heap [] _ ⟨ws, tys, hK, hP, hD, va_S.rf, hSim⟩ ⟨hl.1, hl.2.1, hlen, fun i v hi => ?_⟩
  have h1 := q_la_args ad as 0 i v _ (fun x hx => List.eq_of_mem_replicate hx) hi
  rw [Nat.zero_add] at h1
  exact hl.2.2 _ h1
end
section
section QR
variable {Γ : q_X} {ad : Nat → Nat} {d mc ms : Nat} {own : String} {y : MethodName} {cc : ByteArray} {nL : Nat} {ret : Option FieldType} {pc : Nat} {la : List (Option Value)} {st : List Value} {n : Nat} {h : q_H} {k1 k2 : Nat}
theorem g_iconst (C : q_C Γ ad d mc ms own y cc nL ret) {z : Int} {v : Int32} (hv : Int32.ofInt z = v) (hdg : decode cc pc = .ok (.iconst z, 1)) (kk : q_G Γ ad nL (pc + 1) la (.int v :: st) n h k1 k2) : q_G Γ ad nL pc la st n h k1 k2 := by
  obtain ⟨p, l, e, R, s, m, args, below, meth, c, D, A, Q⟩ := Γ
  intro H locs ls hI hL
  exact lv_iconst C.1 C.2.1 hdg hv (kk H locs ls hI hL)
theorem g_bipush (C : q_C Γ ad d mc ms own y cc nL ret) {z : Int} {v : Int32} (hv : (Int8.ofInt z).toInt32 = v) (hdg : decode cc pc = .ok (.bipush z, 2)) (kk : q_G Γ ad nL (pc + 2) la (.int v :: st) n h k1 k2) : q_G Γ ad nL pc la st n h k1 k2 := by
  obtain ⟨p, l, e, R, s, m, args, below, meth, c, D, A, Q⟩ := Γ
  intro H locs ls hI hL
  exact lv_bipush C.1 C.2.1 hdg hv (kk H locs ls hI hL)
theorem g_sipush (C : q_C Γ ad d mc ms own y cc nL ret) {z : Int} {v : Int32} (hv : (Int16.ofInt z).toInt32 = v) (hdg : decode cc pc = .ok (.sipush z, 3)) (kk : q_G Γ ad nL (pc + 3) la (.int v :: st) n h k1 k2) : q_G Γ ad nL pc la st n h k1 k2 := by
  obtain ⟨p, l, e, R, s, m, args, below, meth, c, D, A, Q⟩ := Γ
  intro H locs ls hI hL
  exact lv_sipush C.1 C.2.1 hdg hv (kk H locs ls hI hL)
theorem g_lconst (C : q_C Γ ad d mc ms own y cc nL ret) {z : Fin 2} {v : Int64} (hv : Int64.ofNat (z : Nat) = v) (hdg : decode cc pc = .ok (.lconst z, 1)) (kk : q_G Γ ad nL (pc + 1) la (.long v :: st) n h k1 k2) : q_G Γ ad nL pc la st n h k1 k2 := by
  obtain ⟨p, l, e, R, s, m, args, below, meth, c, D, A, Q⟩ := Γ
  intro H locs ls hI hL
  exact lv_lconst C.1 C.2.1 hdg hv (kk H locs ls hI hL)
theorem g_null (C : q_C Γ ad d mc ms own y cc nL ret)  (hdg : decode cc pc = .ok (.aconst_null, 1)) (kk : q_G Γ ad nL (pc + 1) la (.null :: st) n h k1 k2) : q_G Γ ad nL pc la st n h k1 k2 := by
  obtain ⟨p, l, e, R, s, m, args, below, meth, c, D, A, Q⟩ := Γ
  intro H locs ls hI hL
  exact lv_null C.1 C.2.1 hdg (kk H locs ls hI hL)
theorem g_ldc (C : q_C Γ ad d mc ms own y cc nL ret) {ix : Nat} {v : Int32} (hw : Cond.constant own ix v ∈ q_Z) (hdg : decode cc pc = .ok (.ldc ix, 2)) (kk : q_G Γ ad nL (pc + 2) la (.int v :: st) n h k1 k2) : q_G Γ ad nL pc la st n h k1 k2 := by
  obtain ⟨p, l, e, R, s, m, args, below, meth, c, D, A, Q⟩ := Γ
  intro H locs ls hI hL
  exact lv_ldc C.1 C.2.1 C.2.2.2.2.1 (C.2.2.2.2.2.1 _ (List.mem_cons_of_mem _ hw)) hdg (kk H locs ls hI hL)
theorem g_ldcw (C : q_C Γ ad d mc ms own y cc nL ret) {ix : Nat} {v : Int32} (hw : Cond.constant own ix v ∈ q_Z) (hdg : decode cc pc = .ok (.ldc_w ix, 3)) (kk : q_G Γ ad nL (pc + 3) la (.int v :: st) n h k1 k2) : q_G Γ ad nL pc la st n h k1 k2 := by
  obtain ⟨p, l, e, R, s, m, args, below, meth, c, D, A, Q⟩ := Γ
  intro H locs ls hI hL
  exact lv_ldcw C.1 C.2.1 C.2.2.2.2.1 (C.2.2.2.2.2.1 _ (List.mem_cons_of_mem _ hw)) hdg (kk H locs ls hI hL)
theorem g_ldc2 (C : q_C Γ ad d mc ms own y cc nL ret) {ix : Nat} {v : Int64} (hw : Cond.constantLong own ix v ∈ q_Z) (hdg : decode cc pc = .ok (.ldc2_w ix, 3)) (kk : q_G Γ ad nL (pc + 3) la (.long v :: st) n h k1 k2) : q_G Γ ad nL pc la st n h k1 k2 := by
  obtain ⟨p, l, e, R, s, m, args, below, meth, c, D, A, Q⟩ := Γ
  intro H locs ls hI hL
  exact lv_ldc2 C.1 C.2.1 C.2.2.2.2.1 (C.2.2.2.2.2.1 _ (List.mem_cons_of_mem _ hw)) hdg (kk H locs ls hI hL)
theorem g_iload_n (C : q_C Γ ad d mc ms own y cc nL ret) {k : Fin 4} {x : Int32} (hl : la[(k : Nat)]? = some (some (.int x))) (hdg : decode cc pc = .ok (.iload_n k, 1)) (kk : q_G Γ ad nL (pc + 1) la (.int x :: st) n h k1 k2) : q_G Γ ad nL pc la st n h k1 k2 := by
  obtain ⟨p, l, e, R, s, m, args, below, meth, c, D, A, Q⟩ := Γ
  intro H locs ls hI hL
  exact lv_iload_n C.1 C.2.1 hdg rfl (hL.2.2.2 _ _ hl) (kk H locs ls hI hL)
theorem g_iload (C : q_C Γ ad d mc ms own y cc nL ret) {k : Nat} {x : Int32} (hl : la[k]? = some (some (.int x))) (hdg : decode cc pc = .ok (.iload k, 2)) (kk : q_G Γ ad nL (pc + 2) la (.int x :: st) n h k1 k2) : q_G Γ ad nL pc la st n h k1 k2 := by
  obtain ⟨p, l, e, R, s, m, args, below, meth, c, D, A, Q⟩ := Γ
  intro H locs ls hI hL
  exact lv_iload C.1 C.2.1 hdg (hL.2.2.2 _ _ hl) (kk H locs ls hI hL)
theorem g_lload_n (C : q_C Γ ad d mc ms own y cc nL ret) {k : Fin 4} {x : Int64} (hl : la[(k : Nat)]? = some (some (.long x))) (hdg : decode cc pc = .ok (.lload_n k, 1)) (kk : q_G Γ ad nL (pc + 1) la (.long x :: st) n h k1 k2) : q_G Γ ad nL pc la st n h k1 k2 := by
  obtain ⟨p, l, e, R, s, m, args, below, meth, c, D, A, Q⟩ := Γ
  intro H locs ls hI hL
  exact lv_lload_n C.1 C.2.1 hdg rfl (hL.2.2.2 _ _ hl) (kk H locs ls hI hL)
theorem g_lload (C : q_C Γ ad d mc ms own y cc nL ret) {k : Nat} {x : Int64} (hl : la[k]? = some (some (.long x))) (hdg : decode cc pc = .ok (.lload k, 2)) (kk : q_G Γ ad nL (pc + 2) la (.long x :: st) n h k1 k2) : q_G Γ ad nL pc la st n h k1 k2 := by
  obtain ⟨p, l, e, R, s, m, args, below, meth, c, D, A, Q⟩ := Γ
  intro H locs ls hI hL
  exact lv_lload C.1 C.2.1 hdg (hL.2.2.2 _ _ hl) (kk H locs ls hI hL)
theorem g_aload_n (C : q_C Γ ad d mc ms own y cc nL ret) {k : Fin 4} {x : Nat} (hl : la[(k : Nat)]? = some (some (.ref x))) (hdg : decode cc pc = .ok (.aload_n k, 1)) (kk : q_G Γ ad nL (pc + 1) la (.ref x :: st) n h k1 k2) : q_G Γ ad nL pc la st n h k1 k2 := by
  obtain ⟨p, l, e, R, s, m, args, below, meth, c, D, A, Q⟩ := Γ
  intro H locs ls hI hL
  exact lv_aload_n C.1 C.2.1 hdg rfl (hL.2.2.2 _ _ hl) (kk H locs ls hI hL)
theorem g_aload (C : q_C Γ ad d mc ms own y cc nL ret) {k : Nat} {x : Nat} (hl : la[k]? = some (some (.ref x))) (hdg : decode cc pc = .ok (.aload k, 2)) (kk : q_G Γ ad nL (pc + 2) la (.ref x :: st) n h k1 k2) : q_G Γ ad nL pc la st n h k1 k2 := by
  obtain ⟨p, l, e, R, s, m, args, below, meth, c, D, A, Q⟩ := Γ
  intro H locs ls hI hL
  exact lv_aload C.1 C.2.1 hdg (hL.2.2.2 _ _ hl) (kk H locs ls hI hL)
theorem g_aload_nN (C : q_C Γ ad d mc ms own y cc nL ret) {k : Fin 4} (hl : la[(k : Nat)]? = some (some .null)) (hdg : decode cc pc = .ok (.aload_n k, 1)) (kk : q_G Γ ad nL (pc + 1) la (.null :: st) n h k1 k2) : q_G Γ ad nL pc la st n h k1 k2 := by
  obtain ⟨p, l, e, R, s, m, args, below, meth, c, D, A, Q⟩ := Γ
  intro H locs ls hI hL
  exact lv_aload_nN C.1 C.2.1 hdg rfl (hL.2.2.2 _ _ hl) (kk H locs ls hI hL)
theorem g_aloadN (C : q_C Γ ad d mc ms own y cc nL ret) {k : Nat} (hl : la[k]? = some (some .null)) (hdg : decode cc pc = .ok (.aload k, 2)) (kk : q_G Γ ad nL (pc + 2) la (.null :: st) n h k1 k2) : q_G Γ ad nL pc la st n h k1 k2 := by
  obtain ⟨p, l, e, R, s, m, args, below, meth, c, D, A, Q⟩ := Γ
  intro H locs ls hI hL
  exact lv_aloadN C.1 C.2.1 hdg (hL.2.2.2 _ _ hl) (kk H locs ls hI hL)
def q_st (la : List (Option Value)) (i : Nat) : Bool := decide (i < la.length) && (match i with
  | 0 => true
  | j + 1 => match la[j]? with
    | some (some (.long _)) => false
    | some (some (.double _)) => false
    | _ => true)
def q_en (ad : Nat → Nat) (la : List (Option Value)) : List (Nat × Value) := (List.range la.length).filterMap fun i => match la[i]? with
  | some (some v) => some (i, q_cv ad v)
  | _ => none
theorem q_en_has {ls : Array Slot} (hL : q_L ad nL la ls) : lv_has ls nL (q_en ad la) := by
  refine ⟨hL.1, hL.2.1, fun q hq => ?_⟩
  obtain ⟨i, -, hi⟩ := List.mem_filterMap.mp hq
  cases hv : la[i]? with
  | none => rw [hv] at hi; cases hi
  | some o =>
    cases o with
    | none => rw [hv] at hi; cases hi
    | some v => rw [hv] at hi; cases hi; exact hL.2.2.2 i v hv
theorem q_en_mem {i : Nat} {v : Value} (h : la[i]? = some (some v)) : (i, q_cv ad v) ∈ q_en ad la := by
  refine List.mem_filterMap.mpr ⟨i, List.mem_range.mpr (List.getElem?_eq_some_iff.mp h).1, ?_⟩
  rw [h]
theorem q_L_set {ls' : Array Slot} {i : Nat} {v : Value} (hlen : la.length = nL) (hst : q_st la i = true) (hh : lv_has ls' nL ((i, q_cv ad v) :: (q_en ad la).filter (fun q => !(q.1 == i) && !(q.1 + 1 == i && q.2.category == 2)))) : q_L ad nL (la.set i (some v)) ls' := by
  refine ⟨hh.1, hh.2.1, by rw [List.length_set]; exact hlen, fun j u hj => ?_⟩
  unfold q_st at hst
  simp only [Bool.and_eq_true, decide_eq_true_eq] at hst
  by_cases hij : j = i
  · subst hij
    rw [List.getElem?_set_self hst.1] at hj
    cases hj
    exact hh.2.2 _ List.mem_cons_self
  · rw [List.getElem?_set_ne (Ne.symm hij)] at hj
    refine hh.2.2 _ (List.mem_cons_of_mem _ (List.mem_filter.mpr ⟨q_en_mem hj, ?_⟩))
    simp only [Bool.and_eq_true, Bool.not_eq_true', beq_eq_false_iff_ne, ne_eq, Bool.and_eq_false_iff]
    refine ⟨hij, ?_⟩
    by_cases h1 : j + 1 = i
    · right
      subst h1
      have h2 := hst.2
      dsimp only at h2
      rw [hj] at h2
      rw [q_cv_cat]
      intro hc
      cases u <;> simp [Value.category] at hc h2
    · exact Or.inl h1
theorem q_st_lt {i : Nat} (h : q_st la i = true) : i < la.length := by
  unfold q_st at h
  simp only [Bool.and_eq_true, decide_eq_true_eq] at h
  exact h.1
theorem g_istore_n (C : q_C Γ ad d mc ms own y cc nL ret) {k : Fin 4} {x : Int32} (hst : q_st la (k : Nat) = true) (hdg : decode cc pc = .ok (.istore_n k, 1)) (kk : q_G Γ ad nL (pc + 1) (la.set (k : Nat) (some (.int x))) st n h k1 k2) : q_G Γ ad nL pc la ((.int x) :: st) n h k1 k2 := by
  obtain ⟨p, l, e, R, s, m, args, below, meth, c, D, A, Q⟩ := Γ
  intro H locs ls hI hL
  exact lv_istore_n C.1 C.2.1 hdg rfl (q_en_has hL) (by have := q_st_lt hst; rw [hL.2.2.1] at this; exact this) rfl (fun ls1 hl1 => kk H locs ls1 hI (q_L_set hL.2.2.1 hst hl1))
theorem g_istore (C : q_C Γ ad d mc ms own y cc nL ret) {k : Nat} {x : Int32} (hst : q_st la k = true) (hdg : decode cc pc = .ok (.istore k, 2)) (kk : q_G Γ ad nL (pc + 2) (la.set k (some (.int x))) st n h k1 k2) : q_G Γ ad nL pc la ((.int x) :: st) n h k1 k2 := by
  obtain ⟨p, l, e, R, s, m, args, below, meth, c, D, A, Q⟩ := Γ
  intro H locs ls hI hL
  exact lv_istore C.1 C.2.1 hdg (q_en_has hL) (by have := q_st_lt hst; rw [hL.2.2.1] at this; exact this) rfl (fun ls1 hl1 => kk H locs ls1 hI (q_L_set hL.2.2.1 hst hl1))
theorem g_astore_n (C : q_C Γ ad d mc ms own y cc nL ret) {k : Fin 4} {x : Nat} (hst : q_st la (k : Nat) = true) (hdg : decode cc pc = .ok (.astore_n k, 1)) (kk : q_G Γ ad nL (pc + 1) (la.set (k : Nat) (some (.ref x))) st n h k1 k2) : q_G Γ ad nL pc la ((.ref x) :: st) n h k1 k2 := by
  obtain ⟨p, l, e, R, s, m, args, below, meth, c, D, A, Q⟩ := Γ
  intro H locs ls hI hL
  exact lv_astore_n C.1 C.2.1 hdg rfl (q_en_has hL) (by have := q_st_lt hst; rw [hL.2.2.1] at this; exact this) rfl (fun ls1 hl1 => kk H locs ls1 hI (q_L_set hL.2.2.1 hst hl1))
theorem g_astore (C : q_C Γ ad d mc ms own y cc nL ret) {k : Nat} {x : Nat} (hst : q_st la k = true) (hdg : decode cc pc = .ok (.astore k, 2)) (kk : q_G Γ ad nL (pc + 2) (la.set k (some (.ref x))) st n h k1 k2) : q_G Γ ad nL pc la ((.ref x) :: st) n h k1 k2 := by
  obtain ⟨p, l, e, R, s, m, args, below, meth, c, D, A, Q⟩ := Γ
  intro H locs ls hI hL
  exact lv_astore C.1 C.2.1 hdg (q_en_has hL) (by have := q_st_lt hst; rw [hL.2.2.1] at this; exact this) rfl (fun ls1 hl1 => kk H locs ls1 hI (q_L_set hL.2.2.1 hst hl1))
theorem g_astore_nN (C : q_C Γ ad d mc ms own y cc nL ret) {k : Fin 4}  (hst : q_st la (k : Nat) = true) (hdg : decode cc pc = .ok (.astore_n k, 1)) (kk : q_G Γ ad nL (pc + 1) (la.set (k : Nat) (some .null)) st n h k1 k2) : q_G Γ ad nL pc la (.null :: st) n h k1 k2 := by
  obtain ⟨p, l, e, R, s, m, args, below, meth, c, D, A, Q⟩ := Γ
  intro H locs ls hI hL
  exact lv_astore_nN C.1 C.2.1 hdg rfl (q_en_has hL) (by have := q_st_lt hst; rw [hL.2.2.1] at this; exact this) rfl (fun ls1 hl1 => kk H locs ls1 hI (q_L_set hL.2.2.1 hst hl1))
theorem g_astoreN (C : q_C Γ ad d mc ms own y cc nL ret) {k : Nat}  (hst : q_st la k = true) (hdg : decode cc pc = .ok (.astore k, 2)) (kk : q_G Γ ad nL (pc + 2) (la.set k (some .null)) st n h k1 k2) : q_G Γ ad nL pc la (.null :: st) n h k1 k2 := by
  obtain ⟨p, l, e, R, s, m, args, below, meth, c, D, A, Q⟩ := Γ
  intro H locs ls hI hL
  exact lv_astoreN C.1 C.2.1 hdg (q_en_has hL) (by have := q_st_lt hst; rw [hL.2.2.1] at this; exact this) rfl (fun ls1 hl1 => kk H locs ls1 hI (q_L_set hL.2.2.1 hst hl1))
theorem g_iinc (C : q_C Γ ad d mc ms own y cc nL ret) {k : Nat} {z : Int} {x v : Int32} (hl : la[k]? = some (some (.int x))) (hv : x + Int32.ofInt z = v) (hst : q_st la k = true) (hdg : decode cc pc = .ok (.iinc k z, 3)) (kk : q_G Γ ad nL (pc + 3) (la.set k (some (.int v))) st n h k1 k2) : q_G Γ ad nL pc la st n h k1 k2 := by
  obtain ⟨p, l, e, R, s, m, args, below, meth, c, D, A, Q⟩ := Γ
  intro H locs ls hI hL
  have hen := q_en_mem (ad := ad) hl
  obtain ⟨j, hj⟩ := List.getElem?_of_mem hen
  exact lv_iinc (v := v) C.1 C.2.1 hdg (q_en_has hL) hj hv (by have := q_st_lt hst; rw [hL.2.2.1] at this; exact this) rfl (fun ls1 hl1 => kk H locs ls1 hI (q_L_set (v := .int v) hL.2.2.1 hst hl1))
theorem g_iadd (C : q_C Γ ad d mc ms own y cc nL ret) {x z : Int32} (hdg : decode cc pc = .ok (.iadd, 1)) (kk : q_G Γ ad nL (pc + 1) la (.int (x + z) :: st) n h k1 k2) : q_G Γ ad nL pc la (.int z :: .int x :: st) n h k1 k2 := by
  obtain ⟨p, l, e, R, s, m, args, below, meth, c, D, A, Q⟩ := Γ
  intro H locs ls hI hL
  exact lv_iadd C.1 C.2.1 hdg (kk H locs ls hI hL)
theorem g_isub (C : q_C Γ ad d mc ms own y cc nL ret) {x z : Int32} (hdg : decode cc pc = .ok (.isub, 1)) (kk : q_G Γ ad nL (pc + 1) la (.int (x - z) :: st) n h k1 k2) : q_G Γ ad nL pc la (.int z :: .int x :: st) n h k1 k2 := by
  obtain ⟨p, l, e, R, s, m, args, below, meth, c, D, A, Q⟩ := Γ
  intro H locs ls hI hL
  exact lv_isub C.1 C.2.1 hdg (kk H locs ls hI hL)
theorem g_imul (C : q_C Γ ad d mc ms own y cc nL ret) {x z : Int32} (hdg : decode cc pc = .ok (.imul, 1)) (kk : q_G Γ ad nL (pc + 1) la (.int (x * z) :: st) n h k1 k2) : q_G Γ ad nL pc la (.int z :: .int x :: st) n h k1 k2 := by
  obtain ⟨p, l, e, R, s, m, args, below, meth, c, D, A, Q⟩ := Γ
  intro H locs ls hI hL
  exact lv_imul C.1 C.2.1 hdg (kk H locs ls hI hL)
theorem g_iand (C : q_C Γ ad d mc ms own y cc nL ret) {x z : Int32} (hdg : decode cc pc = .ok (.iand, 1)) (kk : q_G Γ ad nL (pc + 1) la (.int (x &&& z) :: st) n h k1 k2) : q_G Γ ad nL pc la (.int z :: .int x :: st) n h k1 k2 := by
  obtain ⟨p, l, e, R, s, m, args, below, meth, c, D, A, Q⟩ := Γ
  intro H locs ls hI hL
  exact lv_iand C.1 C.2.1 hdg (kk H locs ls hI hL)
theorem g_ior (C : q_C Γ ad d mc ms own y cc nL ret) {x z : Int32} (hdg : decode cc pc = .ok (.ior, 1)) (kk : q_G Γ ad nL (pc + 1) la (.int (x ||| z) :: st) n h k1 k2) : q_G Γ ad nL pc la (.int z :: .int x :: st) n h k1 k2 := by
  obtain ⟨p, l, e, R, s, m, args, below, meth, c, D, A, Q⟩ := Γ
  intro H locs ls hI hL
  exact lv_ior C.1 C.2.1 hdg (kk H locs ls hI hL)
theorem g_idiv (C : q_C Γ ad d mc ms own y cc nL ret) {x z : Int32} (hne : ¬ z = 0) (hdg : decode cc pc = .ok (.idiv, 1)) (kk : q_G Γ ad nL (pc + 1) la (.int (x / z) :: st) n h k1 k2) : q_G Γ ad nL pc la (.int z :: .int x :: st) n h k1 k2 := by
  obtain ⟨p, l, e, R, s, m, args, below, meth, c, D, A, Q⟩ := Γ
  intro H locs ls hI hL
  exact lv_idiv C.1 C.2.1 hdg hne (kk H locs ls hI hL)
theorem g_irem (C : q_C Γ ad d mc ms own y cc nL ret) {x z : Int32} (hne : ¬ z = 0) (hdg : decode cc pc = .ok (.irem, 1)) (kk : q_G Γ ad nL (pc + 1) la (.int (x - x / z * z) :: st) n h k1 k2) : q_G Γ ad nL pc la (.int z :: .int x :: st) n h k1 k2 := by
  obtain ⟨p, l, e, R, s, m, args, below, meth, c, D, A, Q⟩ := Γ
  intro H locs ls hI hL
  exact lv_irem C.1 C.2.1 hdg hne (kk H locs ls hI hL)
theorem g_ineg (C : q_C Γ ad d mc ms own y cc nL ret) {x : Int32} (hdg : decode cc pc = .ok (.ineg, 1)) (kk : q_G Γ ad nL (pc + 1) la (.int (-x) :: st) n h k1 k2) : q_G Γ ad nL pc la (.int x :: st) n h k1 k2 := by
  obtain ⟨p, l, e, R, s, m, args, below, meth, c, D, A, Q⟩ := Γ
  intro H locs ls hI hL
  exact lv_ineg C.1 C.2.1 hdg (kk H locs ls hI hL)
theorem g_ladd (C : q_C Γ ad d mc ms own y cc nL ret) {x z : Int64} (hdg : decode cc pc = .ok (.ladd, 1)) (kk : q_G Γ ad nL (pc + 1) la (.long (x + z) :: st) n h k1 k2) : q_G Γ ad nL pc la (.long z :: .long x :: st) n h k1 k2 := by
  obtain ⟨p, l, e, R, s, m, args, below, meth, c, D, A, Q⟩ := Γ
  intro H locs ls hI hL
  exact lv_ladd C.1 C.2.1 hdg (kk H locs ls hI hL)
theorem g_land (C : q_C Γ ad d mc ms own y cc nL ret) {x z : Int64} (hdg : decode cc pc = .ok (.land, 1)) (kk : q_G Γ ad nL (pc + 1) la (.long (x &&& z) :: st) n h k1 k2) : q_G Γ ad nL pc la (.long z :: .long x :: st) n h k1 k2 := by
  obtain ⟨p, l, e, R, s, m, args, below, meth, c, D, A, Q⟩ := Γ
  intro H locs ls hI hL
  exact lv_land C.1 C.2.1 hdg (kk H locs ls hI hL)
theorem g_lor (C : q_C Γ ad d mc ms own y cc nL ret) {x z : Int64} (hdg : decode cc pc = .ok (.lor, 1)) (kk : q_G Γ ad nL (pc + 1) la (.long (x ||| z) :: st) n h k1 k2) : q_G Γ ad nL pc la (.long z :: .long x :: st) n h k1 k2 := by
  obtain ⟨p, l, e, R, s, m, args, below, meth, c, D, A, Q⟩ := Γ
  intro H locs ls hI hL
  exact lv_lor C.1 C.2.1 hdg (kk H locs ls hI hL)
theorem g_lshl (C : q_C Γ ad d mc ms own y cc nL ret) {x v : Int64} {z : Int32} (hv : x <<< (z.toInt64 &&& 63) = v) (hdg : decode cc pc = .ok (.lshl, 1)) (kk : q_G Γ ad nL (pc + 1) la (.long v :: st) n h k1 k2) : q_G Γ ad nL pc la (.int z :: .long x :: st) n h k1 k2 := by
  obtain ⟨p, l, e, R, s, m, args, below, meth, c, D, A, Q⟩ := Γ
  intro H locs ls hI hL
  exact lv_lshl C.1 C.2.1 hdg hv (kk H locs ls hI hL)
theorem g_lshr (C : q_C Γ ad d mc ms own y cc nL ret) {x v : Int64} {z : Int32} (hv : x >>> (z.toInt64 &&& 63) = v) (hdg : decode cc pc = .ok (.lshr, 1)) (kk : q_G Γ ad nL (pc + 1) la (.long v :: st) n h k1 k2) : q_G Γ ad nL pc la (.int z :: .long x :: st) n h k1 k2 := by
  obtain ⟨p, l, e, R, s, m, args, below, meth, c, D, A, Q⟩ := Γ
  intro H locs ls hI hL
  exact lv_lshr C.1 C.2.1 hdg hv (kk H locs ls hI hL)
theorem g_i2l (C : q_C Γ ad d mc ms own y cc nL ret) {x : Int32} {v : Int64} (hv : x.toInt64 = v) (hdg : decode cc pc = .ok (.i2l, 1)) (kk : q_G Γ ad nL (pc + 1) la (.long v :: st) n h k1 k2) : q_G Γ ad nL pc la (.int x :: st) n h k1 k2 := by
  obtain ⟨p, l, e, R, s, m, args, below, meth, c, D, A, Q⟩ := Γ
  intro H locs ls hI hL
  exact lv_i2l C.1 C.2.1 hdg hv (kk H locs ls hI hL)
theorem g_l2i (C : q_C Γ ad d mc ms own y cc nL ret) {x : Int64} {v : Int32} (hv : x.toInt32 = v) (hdg : decode cc pc = .ok (.l2i, 1)) (kk : q_G Γ ad nL (pc + 1) la (.int v :: st) n h k1 k2) : q_G Γ ad nL pc la (.long x :: st) n h k1 k2 := by
  obtain ⟨p, l, e, R, s, m, args, below, meth, c, D, A, Q⟩ := Γ
  intro H locs ls hI hL
  exact lv_l2i C.1 C.2.1 hdg hv (kk H locs ls hI hL)
theorem g_i2b (C : q_C Γ ad d mc ms own y cc nL ret) {x v : Int32} (hv : x.toInt8.toInt32 = v) (hdg : decode cc pc = .ok (.i2b, 1)) (kk : q_G Γ ad nL (pc + 1) la (.int v :: st) n h k1 k2) : q_G Γ ad nL pc la (.int x :: st) n h k1 k2 := by
  obtain ⟨p, l, e, R, s, m, args, below, meth, c, D, A, Q⟩ := Γ
  intro H locs ls hI hL
  exact lv_i2b C.1 C.2.1 hdg hv (kk H locs ls hI hL)
theorem g_i2s (C : q_C Γ ad d mc ms own y cc nL ret) {x v : Int32} (hv : x.toInt16.toInt32 = v) (hdg : decode cc pc = .ok (.i2s, 1)) (kk : q_G Γ ad nL (pc + 1) la (.int v :: st) n h k1 k2) : q_G Γ ad nL pc la (.int x :: st) n h k1 k2 := by
  obtain ⟨p, l, e, R, s, m, args, below, meth, c, D, A, Q⟩ := Γ
  intro H locs ls hI hL
  exact lv_i2s C.1 C.2.1 hdg hv (kk H locs ls hI hL)
theorem g_lcmp (C : q_C Γ ad d mc ms own y cc nL ret) {x z : Int64} (hdg : decode cc pc = .ok (.lcmp, 1)) (kk : q_G Γ ad nL (pc + 1) la (.int (lg_cmp x z) :: st) n h k1 k2) : q_G Γ ad nL pc la (.long z :: .long x :: st) n h k1 k2 := by
  obtain ⟨p, l, e, R, s, m, args, below, meth, c, D, A, Q⟩ := Γ
  intro H locs ls hI hL
  exact W.lcmp C.1 C.2.1 hdg (kk H locs ls hI hL)
theorem g_dup (C : q_C Γ ad d mc ms own y cc nL ret) {v : Value} (hc : v.category = 1) (hdg : decode cc pc = .ok (.dup, 1)) (kk : q_G Γ ad nL (pc + 1) la (v :: v :: st) n h k1 k2) : q_G Γ ad nL pc la (v :: st) n h k1 k2 := by
  obtain ⟨p, l, e, R, s, m, args, below, meth, c, D, A, Q⟩ := Γ
  intro H locs ls hI hL
  exact lv_dup C.1 C.2.1 hdg ((q_cv_cat ad v).trans hc) (kk H locs ls hI hL)
theorem g_dup2 (C : q_C Γ ad d mc ms own y cc nL ret) {v w : Value} (hc : v.category = 1) (hd : w.category = 1) (hdg : decode cc pc = .ok (.dup2, 1)) (kk : q_G Γ ad nL (pc + 1) la (v :: w :: v :: w :: st) n h k1 k2) : q_G Γ ad nL pc la (v :: w :: st) n h k1 k2 := by
  obtain ⟨p, l, e, R, s, m, args, below, meth, c, D, A, Q⟩ := Γ
  intro H locs ls hI hL
  exact lv_dup2_11 C.1 C.2.1 hdg ((q_cv_cat ad v).trans hc) ((q_cv_cat ad w).trans hd) (kk H locs ls hI hL)
theorem g_pop (C : q_C Γ ad d mc ms own y cc nL ret) {v : Value} (hc : v.category = 1) (hdg : decode cc pc = .ok (.pop, 1)) (kk : q_G Γ ad nL (pc + 1) la st n h k1 k2) : q_G Γ ad nL pc la (v :: st) n h k1 k2 := by
  obtain ⟨p, l, e, R, s, m, args, below, meth, c, D, A, Q⟩ := Γ
  intro H locs ls hI hL
  exact lv_pop C.1 C.2.1 hdg ((q_cv_cat ad v).trans hc) (kk H locs ls hI hL)
theorem g_ishl (C : q_C Γ ad d mc ms own y cc nL ret) {x z : Int32} (hdg : decode cc pc = .ok (.ishl, 1)) (kk : q_G Γ ad nL (pc + 1) la (.int (x <<< (z &&& 31)) :: st) n h k1 k2) : q_G Γ ad nL pc la (.int z :: .int x :: st) n h k1 k2 := by
  obtain ⟨p, l, e, R, s, m, args, below, meth, c, D, A, Q⟩ := Γ
  intro H locs ls hI hL
  exact lv_ishl C.1 C.2.1 hdg (kk H locs ls hI hL)
theorem g_ishr (C : q_C Γ ad d mc ms own y cc nL ret) {x z : Int32} (hdg : decode cc pc = .ok (.ishr, 1)) (kk : q_G Γ ad nL (pc + 1) la (.int (x >>> (z &&& 31)) :: st) n h k1 k2) : q_G Γ ad nL pc la (.int z :: .int x :: st) n h k1 k2 := by
  obtain ⟨p, l, e, R, s, m, args, below, meth, c, D, A, Q⟩ := Γ
  intro H locs ls hI hL
  exact lv_ishr C.1 C.2.1 hdg (kk H locs ls hI hL)
theorem g_if_eq (C : q_C Γ ad d mc ms own y cc nL ret) {x : Int32} {off : Int} (tgt : Nat) (hdg : decode cc pc = .ok (.ifCond .eq off, 3)) (ht : (pc : Int) + off = (tgt : Int)) (kt : x = 0 → q_G Γ ad nL tgt la st n h k1 k2) (kf : ¬ (x = 0) → q_G Γ ad nL (pc + 3) la st n h k1 k2) : q_G Γ ad nL pc la (.int x :: st) n h k1 k2 := by
  obtain ⟨p, l, e, R, s, m, args, below, meth, c, D, A, Q⟩ := Γ
  intro H locs ls hI hL
  exact lv_if_eq C.1 C.2.1 hdg ht (fun q => kt q H locs ls hI hL) (fun q => kf q H locs ls hI hL)
theorem g_ic_eq (C : q_C Γ ad d mc ms own y cc nL ret) {x z : Int32} {off : Int} (tgt : Nat) (hdg : decode cc pc = .ok (.if_icmp .eq off, 3)) (ht : (pc : Int) + off = (tgt : Int)) (kt : x = z → q_G Γ ad nL tgt la st n h k1 k2) (kf : ¬ (x = z) → q_G Γ ad nL (pc + 3) la st n h k1 k2) : q_G Γ ad nL pc la (.int z :: .int x :: st) n h k1 k2 := by
  obtain ⟨p, l, e, R, s, m, args, below, meth, c, D, A, Q⟩ := Γ
  intro H locs ls hI hL
  exact lv_icmp_eq C.1 C.2.1 hdg ht (fun q => kt q H locs ls hI hL) (fun q => kf q H locs ls hI hL)
theorem g_if_ne (C : q_C Γ ad d mc ms own y cc nL ret) {x : Int32} {off : Int} (tgt : Nat) (hdg : decode cc pc = .ok (.ifCond .ne off, 3)) (ht : (pc : Int) + off = (tgt : Int)) (kt : ¬ x = 0 → q_G Γ ad nL tgt la st n h k1 k2) (kf : x = 0 → q_G Γ ad nL (pc + 3) la st n h k1 k2) : q_G Γ ad nL pc la (.int x :: st) n h k1 k2 := by
  obtain ⟨p, l, e, R, s, m, args, below, meth, c, D, A, Q⟩ := Γ
  intro H locs ls hI hL
  exact lv_if_ne C.1 C.2.1 hdg ht (fun q => kt q H locs ls hI hL) (fun q => kf q H locs ls hI hL)
theorem g_ic_ne (C : q_C Γ ad d mc ms own y cc nL ret) {x z : Int32} {off : Int} (tgt : Nat) (hdg : decode cc pc = .ok (.if_icmp .ne off, 3)) (ht : (pc : Int) + off = (tgt : Int)) (kt : ¬ x = z → q_G Γ ad nL tgt la st n h k1 k2) (kf : x = z → q_G Γ ad nL (pc + 3) la st n h k1 k2) : q_G Γ ad nL pc la (.int z :: .int x :: st) n h k1 k2 := by
  obtain ⟨p, l, e, R, s, m, args, below, meth, c, D, A, Q⟩ := Γ
  intro H locs ls hI hL
  exact lv_icmp_ne C.1 C.2.1 hdg ht (fun q => kt q H locs ls hI hL) (fun q => kf q H locs ls hI hL)
theorem g_if_lt (C : q_C Γ ad d mc ms own y cc nL ret) {x : Int32} {off : Int} (tgt : Nat) (hdg : decode cc pc = .ok (.ifCond .lt off, 3)) (ht : (pc : Int) + off = (tgt : Int)) (kt : x < 0 → q_G Γ ad nL tgt la st n h k1 k2) (kf : ¬ (x < 0) → q_G Γ ad nL (pc + 3) la st n h k1 k2) : q_G Γ ad nL pc la (.int x :: st) n h k1 k2 := by
  obtain ⟨p, l, e, R, s, m, args, below, meth, c, D, A, Q⟩ := Γ
  intro H locs ls hI hL
  exact lv_if_lt C.1 C.2.1 hdg ht (fun q => kt q H locs ls hI hL) (fun q => kf q H locs ls hI hL)
theorem g_ic_lt (C : q_C Γ ad d mc ms own y cc nL ret) {x z : Int32} {off : Int} (tgt : Nat) (hdg : decode cc pc = .ok (.if_icmp .lt off, 3)) (ht : (pc : Int) + off = (tgt : Int)) (kt : x < z → q_G Γ ad nL tgt la st n h k1 k2) (kf : ¬ (x < z) → q_G Γ ad nL (pc + 3) la st n h k1 k2) : q_G Γ ad nL pc la (.int z :: .int x :: st) n h k1 k2 := by
  obtain ⟨p, l, e, R, s, m, args, below, meth, c, D, A, Q⟩ := Γ
  intro H locs ls hI hL
  exact lv_icmp_lt C.1 C.2.1 hdg ht (fun q => kt q H locs ls hI hL) (fun q => kf q H locs ls hI hL)
theorem g_if_ge (C : q_C Γ ad d mc ms own y cc nL ret) {x : Int32} {off : Int} (tgt : Nat) (hdg : decode cc pc = .ok (.ifCond .ge off, 3)) (ht : (pc : Int) + off = (tgt : Int)) (kt : 0 ≤ x → q_G Γ ad nL tgt la st n h k1 k2) (kf : ¬ (0 ≤ x) → q_G Γ ad nL (pc + 3) la st n h k1 k2) : q_G Γ ad nL pc la (.int x :: st) n h k1 k2 := by
  obtain ⟨p, l, e, R, s, m, args, below, meth, c, D, A, Q⟩ := Γ
  intro H locs ls hI hL
  exact lv_if_ge C.1 C.2.1 hdg ht (fun q => kt q H locs ls hI hL) (fun q => kf q H locs ls hI hL)
theorem g_ic_ge (C : q_C Γ ad d mc ms own y cc nL ret) {x z : Int32} {off : Int} (tgt : Nat) (hdg : decode cc pc = .ok (.if_icmp .ge off, 3)) (ht : (pc : Int) + off = (tgt : Int)) (kt : z ≤ x → q_G Γ ad nL tgt la st n h k1 k2) (kf : ¬ (z ≤ x) → q_G Γ ad nL (pc + 3) la st n h k1 k2) : q_G Γ ad nL pc la (.int z :: .int x :: st) n h k1 k2 := by
  obtain ⟨p, l, e, R, s, m, args, below, meth, c, D, A, Q⟩ := Γ
  intro H locs ls hI hL
  exact lv_icmp_ge C.1 C.2.1 hdg ht (fun q => kt q H locs ls hI hL) (fun q => kf q H locs ls hI hL)
theorem g_if_gt (C : q_C Γ ad d mc ms own y cc nL ret) {x : Int32} {off : Int} (tgt : Nat) (hdg : decode cc pc = .ok (.ifCond .gt off, 3)) (ht : (pc : Int) + off = (tgt : Int)) (kt : 0 < x → q_G Γ ad nL tgt la st n h k1 k2) (kf : ¬ (0 < x) → q_G Γ ad nL (pc + 3) la st n h k1 k2) : q_G Γ ad nL pc la (.int x :: st) n h k1 k2 := by
  obtain ⟨p, l, e, R, s, m, args, below, meth, c, D, A, Q⟩ := Γ
  intro H locs ls hI hL
  exact lv_if_gt C.1 C.2.1 hdg ht (fun q => kt q H locs ls hI hL) (fun q => kf q H locs ls hI hL)
theorem g_ic_gt (C : q_C Γ ad d mc ms own y cc nL ret) {x z : Int32} {off : Int} (tgt : Nat) (hdg : decode cc pc = .ok (.if_icmp .gt off, 3)) (ht : (pc : Int) + off = (tgt : Int)) (kt : z < x → q_G Γ ad nL tgt la st n h k1 k2) (kf : ¬ (z < x) → q_G Γ ad nL (pc + 3) la st n h k1 k2) : q_G Γ ad nL pc la (.int z :: .int x :: st) n h k1 k2 := by
  obtain ⟨p, l, e, R, s, m, args, below, meth, c, D, A, Q⟩ := Γ
  intro H locs ls hI hL
  exact lv_icmp_gt C.1 C.2.1 hdg ht (fun q => kt q H locs ls hI hL) (fun q => kf q H locs ls hI hL)
theorem g_if_le (C : q_C Γ ad d mc ms own y cc nL ret) {x : Int32} {off : Int} (tgt : Nat) (hdg : decode cc pc = .ok (.ifCond .le off, 3)) (ht : (pc : Int) + off = (tgt : Int)) (kt : x ≤ 0 → q_G Γ ad nL tgt la st n h k1 k2) (kf : ¬ (x ≤ 0) → q_G Γ ad nL (pc + 3) la st n h k1 k2) : q_G Γ ad nL pc la (.int x :: st) n h k1 k2 := by
  obtain ⟨p, l, e, R, s, m, args, below, meth, c, D, A, Q⟩ := Γ
  intro H locs ls hI hL
  exact lv_if_le C.1 C.2.1 hdg ht (fun q => kt q H locs ls hI hL) (fun q => kf q H locs ls hI hL)
theorem g_ic_le (C : q_C Γ ad d mc ms own y cc nL ret) {x z : Int32} {off : Int} (tgt : Nat) (hdg : decode cc pc = .ok (.if_icmp .le off, 3)) (ht : (pc : Int) + off = (tgt : Int)) (kt : x ≤ z → q_G Γ ad nL tgt la st n h k1 k2) (kf : ¬ (x ≤ z) → q_G Γ ad nL (pc + 3) la st n h k1 k2) : q_G Γ ad nL pc la (.int z :: .int x :: st) n h k1 k2 := by
  obtain ⟨p, l, e, R, s, m, args, below, meth, c, D, A, Q⟩ := Γ
  intro H locs ls hI hL
  exact lv_icmp_le C.1 C.2.1 hdg ht (fun q => kt q H locs ls hI hL) (fun q => kf q H locs ls hI hL)
theorem g_goto (C : q_C Γ ad d mc ms own y cc nL ret) {off : Int} (tgt : Nat) (hdg : decode cc pc = .ok (.goto off, 3)) (ht : (pc : Int) + off = (tgt : Int)) (kk : q_G Γ ad nL tgt la st n h k1 k2) : q_G Γ ad nL pc la st n h k1 k2 := by
  obtain ⟨p, l, e, R, s, m, args, below, meth, c, D, A, Q⟩ := Γ
  intro H locs ls hI hL
  exact lv_goto C.1 C.2.1 hdg ht (kk H locs ls hI hL)
theorem g_ifnull (C : q_C Γ ad d mc ms own y cc nL ret) {x : Nat} {off : Int} (hdg : decode cc pc = .ok (.ifnull off, 3)) (kk : q_G Γ ad nL (pc + 3) la st n h k1 k2) : q_G Γ ad nL pc la (.ref x :: st) n h k1 k2 := by
  obtain ⟨p, l, e, R, s, m, args, below, meth, c, D, A, Q⟩ := Γ
  intro H locs ls hI hL
  exact lv_ifnull C.1 C.2.1 hdg (kk H locs ls hI hL)
theorem g_ifnullN (C : q_C Γ ad d mc ms own y cc nL ret) {off : Int} (tgt : Nat) (hdg : decode cc pc = .ok (.ifnull off, 3)) (ht : (pc : Int) + off = (tgt : Int)) (kk : q_G Γ ad nL tgt la st n h k1 k2) : q_G Γ ad nL pc la (.null :: st) n h k1 k2 := by
  obtain ⟨p, l, e, R, s, m, args, below, meth, c, D, A, Q⟩ := Γ
  intro H locs ls hI hL
  exact lv_ifnullN C.1 C.2.1 hdg ht (kk H locs ls hI hL)
theorem g_ifnonnull (C : q_C Γ ad d mc ms own y cc nL ret) {x : Nat} {off : Int} (tgt : Nat) (hdg : decode cc pc = .ok (.ifnonnull off, 3)) (ht : (pc : Int) + off = (tgt : Int)) (kk : q_G Γ ad nL tgt la st n h k1 k2) : q_G Γ ad nL pc la (.ref x :: st) n h k1 k2 := by
  obtain ⟨p, l, e, R, s, m, args, below, meth, c, D, A, Q⟩ := Γ
  intro H locs ls hI hL
  exact lv_ifnonnull C.1 C.2.1 hdg ht (kk H locs ls hI hL)
theorem g_ifnonnullN (C : q_C Γ ad d mc ms own y cc nL ret) {off : Int} (hdg : decode cc pc = .ok (.ifnonnull off, 3)) (kk : q_G Γ ad nL (pc + 3) la st n h k1 k2) : q_G Γ ad nL pc la (.null :: st) n h k1 k2 := by
  obtain ⟨p, l, e, R, s, m, args, below, meth, c, D, A, Q⟩ := Γ
  intro H locs ls hI hL
  exact lv_ifnonnullN C.1 C.2.1 hdg (kk H locs ls hI hL)
theorem g_lsw (C : q_C Γ ad d mc ms own y cc nL ret) {df : Int} {ps : Array (Int × Int)} {len : Nat} {x : Int32} {off : Int} (tgt : Nat) (hdg : decode cc pc = .ok (.lookupswitch df ps, len)) (hp : (ps.toList.zip (ps.toList.drop 1)).all (fun (a, next) => a.1 < next.1) = true) (ho : Op.lookupswitch.offset ps.toList df x.toInt = off) (ht : (pc : Int) + off = (tgt : Int)) (kk : q_G Γ ad nL tgt la st n h k1 k2) : q_G Γ ad nL pc la (.int x :: st) n h k1 k2 := by
  obtain ⟨p, l, e, R, s, m, args, below, meth, c, D, A, Q⟩ := Γ
  intro H locs ls hI hL
  exact lv_lookup C.1 C.2.1 hdg hp ho ht (kk H locs ls hI hL)
theorem g_tsO (C : q_C Γ ad d mc ms own y cc nL ret) {df lo hi : Int} {offs : Array Int} {len : Nat} {x : Int32} (tgt : Nat) (hdg : decode cc pc = .ok (.tableswitch df lo hi offs, len)) (ho : x.toInt < lo ∨ hi < x.toInt) (ht : (pc : Int) + df = (tgt : Int)) (kk : q_G Γ ad nL tgt la st n h k1 k2) : q_G Γ ad nL pc la (.int x :: st) n h k1 k2 := by
  obtain ⟨p, l, e, R, s, m, args, below, meth, c, D, A, Q⟩ := Γ
  intro H locs ls hI hL
  exact lv_tableOut C.1 C.2.1 hdg ho ht (kk H locs ls hI hL)
theorem g_tsI (C : q_C Γ ad d mc ms own y cc nL ret) {df lo hi : Int} {offs : Array Int} {len : Nat} {x : Int32} {off : Int} (tgt : Nat) (hdg : decode cc pc = .ok (.tableswitch df lo hi offs, len)) (h1 : ¬ x.toInt < lo) (h2 : ¬ hi < x.toInt) (ho : offs[(x.toInt - lo).toNat]? = some off) (ht : (pc : Int) + off = (tgt : Int)) (kk : q_G Γ ad nL tgt la st n h k1 k2) : q_G Γ ad nL pc la (.int x :: st) n h k1 k2 := by
  obtain ⟨p, l, e, R, s, m, args, below, meth, c, D, A, Q⟩ := Γ
  intro H locs ls hI hL
  exact lv_tableIn C.1 C.2.1 hdg h1 h2 ho ht (kk H locs ls hI hL)
end QR
end
section
section QH
variable {Γ : q_X} {ad : Nat → Nat} {d mc ms : Nat} {own : String} {y : MethodName} {cc : ByteArray} {nL : Nat} {ret : Option FieldType} {pc : Nat} {la : List (Option Value)} {st : List Value} {n : Nat} {h : q_H} {k1 k2 : Nat}
theorem q_up_s (h : q_H) (a : Nat) (e : q_E) : q_up h a e a = e := if_pos rfl
theorem q_up_n (h : q_H) {a b : Nat} (e : q_E) (hb : b ≠ a) : q_up h a e b = h b := if_neg hb
theorem q_nd_o {ci : Nat} {fs : List Value} {e : q_E} (he : e = .inr (.inr (ci, fs))) (hne : (ci, fs) ≠ (1000, [])) : e ≠ q_dead := by
  rw [he]; intro h; apply hne; unfold q_dead at h; injection h with h; injection h
theorem q_nd_a {x : Nat × Nat × (Nat → Int32)} {e : q_E} (he : e = .inl x) : e ≠ q_dead := by rw [he]; intro h; cases h
theorem q_nd_r {x : Nat × Nat × (Nat → Option Nat)} {e : q_E} (he : e = .inr (.inl x)) : e ≠ q_dead := by rw [he]; intro h; cases h
/-- one cell becomes another -/
theorem q_Sim.set {D : va_G} {A : Nat → Prop} {tys : List (ClassId × FieldType)} {ws : va_W} {a : Nat} {c : q_E} {e0 e : va_E} (hS : q_Sim ad n h tys ws) (h0 : ws[a]? = some (ad a, e0)) (hc : q_CR ad tys c e) (ho : q_okE n c) : q_Sim ad n (q_up h a c) tys (ws.set a (ad a, e)) := by
  have hl := (List.getElem?_eq_some_iff.mp h0).1
  refine ⟨⟨by rw [List.length_set]; exact hS.1.1, hS.1.2⟩, fun k q hk => ?_, fun k hk => ?_⟩
  · by_cases hka : k = a
    · subst hka
      rw [List.getElem?_set_self hl] at hk
      cases hk
      rfl
    · rw [List.getElem?_set_ne (Ne.symm hka)] at hk
      exact hS.2.1 k q hk
  · by_cases hka : k = a
    · subst hka
      rw [q_up_s]
      exact ⟨e, by rw [List.getElem?_set_self hl], hc, ho⟩
    · rw [q_up_n _ _ hka] at hk ⊢
      rw [List.getElem?_set_ne (Ne.symm hka)]
      exact hS.2.2 k hk
/-- a field: class ci, place k -/
def q_FL (own : String) (ix ci k : Nat) : Prop := ∃ (C : String) (T : u_T) (N : Nat) (ty : Nat → FieldType), vwCl[ci]? = some (C, T, N) ∧ k < N ∧ (∀ w ∈ u_ws C T N, w ∈ q_Z) ∧ (Cond.fieldLink own ix C (T k).2.1 (T k).2.2.1 ∈ q_Z ∨ ∃ host : String, (own, ix, C, (T k).2.1, (T k).2.2.1, host) ∈ q_nf) ∧ (T k).1 = C ∧ (∀ j, j < N → parseFieldDescriptor (T j).2.2.1 = some (ty j)) ∧ (∀ a, a < N → ∀ b, b < N → a ≠ b → (T a).2.1 ≠ (T b).2.1)
def q_FP (own : String) (ix ci k : Nat) : Prop := ∃ (C : String) (T : u_T) (N : Nat) (ty : Nat → FieldType), vwCl[ci]? = some (C, T, N) ∧ k < N ∧ (∀ w ∈ u_ws C T N, w ∈ q_Z) ∧ Cond.fieldLink own ix C (T k).2.1 (T k).2.2.1 ∈ q_Z ∧ (T k).1 = C ∧ (∀ j, j < N → parseFieldDescriptor (T j).2.2.1 = some (ty j)) ∧ (∀ a, a < N → ∀ b, b < N → a ≠ b → (T a).2.1 ≠ (T b).2.1) ∧ (T k).2.2.2 = false ∧ ty k = .int
def q_FF (own : String) (ix ci k : Nat) : Prop := ∃ (C : String) (T : u_T) (N : Nat) (ty : Nat → FieldType), vwCl[ci]? = some (C, T, N) ∧ k < N ∧ (∀ w ∈ u_ws C T N, w ∈ q_Z) ∧ Cond.fieldLink own ix C (T k).2.1 (T k).2.2.1 ∈ q_Z ∧ (T k).1 = C ∧ (∀ j, j < N → parseFieldDescriptor (T j).2.2.1 = some (ty j)) ∧ (∀ a, a < N → ∀ b, b < N → a ≠ b → (T a).2.1 ≠ (T b).2.1) ∧ (T k).2.2.2 = true ∧ C = own ∧ ((∃ z, ty k = .object z) ∨ ∃ z, ty k = .array z)
theorem g_get (C : q_C Γ ad d mc ms own y cc nL ret) {ix ci k a : Nat} {fs : List Value} {v : Value} (hf : q_FL own ix ci k) (hdg : decode cc pc = .ok (.getfield ix, 3)) (hh : h a = .inr (.inr (ci, fs))) (hv : fs[k]? = some v) (kk : q_G Γ ad nL (pc + 3) la (v :: st) n h k1 k2) : q_G Γ ad nL pc la (.ref a :: st) n h k1 k2 := by
  obtain ⟨p, l, e, R, s, m, args, below, meth, c, D, A, Q⟩ := Γ
  intro H locs ls hI hL
  obtain ⟨CC, T, N, ty, f1, f2, f3, f4, f5, f6, f7⟩ := hf
  obtain ⟨ws, tys, hK, hP, hD, hS, hSim⟩ := id hI
  obtain ⟨e0, h1, h2, h3⟩ := hSim.2.2 a (q_nd_o hh (fun z => by cases z; cases hv))
  rw [hh] at h2
  have h2 : e0 = .inr (ci, fs.map (q_cv ad)) := h2
  subst h2
  have hts := C.2.2.2.2.2.1
  have hv' : (fs.map (q_cv ad))[k]? = some (q_cv ad v) := by rw [List.getElem?_map, hv]; rfl
  rcases f4 with f4 | ⟨host, f4⟩
  · exact va_get (D := D) (ci := ci) (v := q_cv ad v) (C := CC) (T := T) (N := N) (ref := CC) C.1 C.2.1 hts (fun w hw => List.mem_cons_of_mem _ (f3 w hw)) C.2.2.2.2.1 hK hP a h1 f1 k f2 (hts _ (List.mem_cons_of_mem _ f4)) (fun x h9 => by rw [f5] at h9; exact h9) hv' hdg (kk H locs ls hI hL)
  · exact va_getN (D := D) (ci := ci) (v := q_cv ad v) (C := CC) (T := T) (N := N) (ref := CC) (host := host) C.1 C.2.1 hts (fun w hw => List.mem_cons_of_mem _ (f3 w hw)) C.2.2.2.2.1 hK hP a h1 f1 k f2 (va_Nw.use rfl (C.2.2.2.2.2.2.2.1.1 _ f4)) (fun x h9 => by rw [f5] at h9; exact h9) hv' hdg (kk H locs ls hI hL)
theorem q_ok_set {fs : List Value} {k : Nat} {v : Value} (ho : ∀ w ∈ fs, q_ok n w = true) (hv : q_ok n v = true) : ∀ w ∈ fs.set k v, q_ok n w = true := fun w hw => by
  rcases List.mem_or_eq_of_mem_set hw with h | h
  · exact ho w h
  · rw [h]; exact hv
theorem g_put (C : q_C Γ ad d mc ms own y cc nL ret) {ix ci k a : Nat} {fs : List Value} {x : Int32} (hf : q_FP own ix ci k) (hdg : decode cc pc = .ok (.putfield ix, 3)) (hh : h a = .inr (.inr (ci, fs))) (hk : k < fs.length) (kk : q_G Γ ad nL (pc + 3) la st n (q_up h a (.inr (.inr (ci, fs.set k (.int x))))) k1 k2) : q_G Γ ad nL pc la (.int x :: .ref a :: st) n h k1 k2 := by
  obtain ⟨p, l, e, R, s, m, args, below, meth, c, D, A, Q⟩ := Γ
  intro H locs ls hI hL
  obtain ⟨CC, T, N, ty, f1, f2, f3, f4, f5, f6, f7, f8, f9⟩ := hf
  obtain ⟨ws, tys, hK, hP, hD, hS, hSim⟩ := id hI
  obtain ⟨e0, h1, h2, h3⟩ := hSim.2.2 a (q_nd_o hh (fun z => by cases z; cases hk))
  rw [hh] at h2 h3
  have h2 : e0 = .inr (ci, fs.map (q_cv ad)) := h2
  subst h2
  have hts := C.2.2.2.2.2.1
  refine va_put (D := D) (ci := ci) (v := .int x) (ty := .int) (C := CC) (T := T) (N := N) (ref := CC) C.1 C.2.1 hts (fun w hw => List.mem_cons_of_mem _ (f3 w hw)) ty f6 f7 C.2.2.2.2.1 hK hP hD hS a h1 f1 k f2 (hts _ (List.mem_cons_of_mem _ f4)) (fun x h9 => by rw [f5] at h9; exact h9) f8 (by rw [f6 k f2, f9]) rfl rfl (by rw [List.length_map]; exact hk) hdg (fun H1 locs1 hP1 hD1 hS1 => ?_)
  refine kk H1 locs1 ls ⟨_, tys, hK, hP1, hD1, hS1, hSim.set (D := D) (A := A) h1 ?_ (q_ok_set h3 rfl)⟩ hL
  show _ = _
  rw [List.map_set]
  rfl
theorem g_putF (C : q_C Γ ad d mc ms own y cc nL ret) {ix ci k a b : Nat} {fs : List Value} (hf : q_FF own ix ci k) (hdg : decode cc pc = .ok (.putfield ix, 3)) (hi : y.name = "<init>") (hh : h a = .inr (.inr (ci, fs))) (hk : k < fs.length) (hb : b < n) (kk : q_G Γ ad nL (pc + 3) la st n (q_up h a (.inr (.inr (ci, fs.set k (.ref b))))) k1 k2) : q_G Γ ad nL pc la (.ref b :: .ref a :: st) n h k1 k2 := by
  obtain ⟨p, l, e, R, s, m, args, below, meth, c, D, A, Q⟩ := Γ
  intro H locs ls hI hL
  obtain ⟨CC, T, N, ty, f1, f2, f3, f4, f5, f6, f7, f8, f9, f10⟩ := hf
  obtain ⟨ws, tys, hK, hP, hD, hS, hSim⟩ := id hI
  obtain ⟨e0, h1, h2, h3⟩ := hSim.2.2 a (q_nd_o hh (fun z => by cases z; cases hk))
  rw [hh] at h2 h3
  have h2 : e0 = .inr (ci, fs.map (q_cv ad)) := h2
  subst h2
  have hts := C.2.2.2.2.2.1
  refine va_putF (D := D) (ci := ci) (v := .ref (ad b)) (ty := ty k) (C := CC) (T := T) (N := N) (ref := CC) C.1 C.2.1 hts (fun w hw => List.mem_cons_of_mem _ (f3 w hw)) ty f6 f7 C.2.2.2.2.1 hK hP hD hS a h1 f1 k f2 (hts _ (List.mem_cons_of_mem _ f4)) (fun x h9 => by rw [f5] at h9; exact h9) f8 (C.2.2.2.2.2.2.2.2.2.2.1.trans hi) (f5.trans f9) (f6 k f2) (by rcases f10 with ⟨z, h⟩ | ⟨z, h⟩ <;> rw [h] <;> rfl) (by rcases f10 with ⟨z, h⟩ | ⟨z, h⟩ <;> rw [h] <;> rfl) (by rw [List.length_map]; exact hk) hdg (fun H1 locs1 hP1 hD1 hS1 => ?_)
  refine kk H1 locs1 ls ⟨_, tys, hK, hP1, hD1, hS1, hSim.set (D := D) (A := A) h1 ?_ (q_ok_set h3 (by show (decide _ || _) = true; rw [decide_eq_true hb]; rfl))⟩ hL
  show _ = _
  rw [List.map_set]
  rfl
-- arrays
theorem g_alen (C : q_C Γ ad d mc ms own y cc nL ret) {a : Nat} {x : Nat × Nat × (Nat → Int32)} {v : Int32} (hdg : decode cc pc = .ok (.arraylength, 1)) (hh : h a = .inl x) (hv : Int32.ofNat x.2.1 = v) (kk : q_G Γ ad nL (pc + 1) la (.int v :: st) n h k1 k2) : q_G Γ ad nL pc la (.ref a :: st) n h k1 k2 := by
  obtain ⟨p, l, e, R, s, m, args, below, meth, c, D, A, Q⟩ := Γ
  intro H locs ls hI hL
  obtain ⟨ws, tys, hK, hP, hD, hS, hSim⟩ := id hI
  obtain ⟨e0, h1, h2, h3⟩ := hSim.2.2 a (q_nd_a hh)
  rw [hh] at h2
  obtain ⟨cA, t0, f', rfl, ht, -⟩ := h2
  exact va_alen (D := D) C.1 C.2.1 hK hP a t0 h1 ht hv hdg (kk H locs ls hI hL)
theorem g_alenr (C : q_C Γ ad d mc ms own y cc nL ret) {a : Nat} {x : Nat × Nat × (Nat → Option Nat)} {v : Int32} (hdg : decode cc pc = .ok (.arraylength, 1)) (hh : h a = .inr (.inl x)) (hv : Int32.ofNat x.2.1 = v) (kk : q_G Γ ad nL (pc + 1) la (.int v :: st) n h k1 k2) : q_G Γ ad nL pc la (.ref a :: st) n h k1 k2 := by
  obtain ⟨p, l, e, R, s, m, args, below, meth, c, D, A, Q⟩ := Γ
  intro H locs ls hI hL
  obtain ⟨ws, tys, hK, hP, hD, hS, hSim⟩ := id hI
  obtain ⟨e0, h1, h2, h3⟩ := hSim.2.2 a (q_nd_r hh)
  rw [hh] at h2
  obtain ⟨cA, t0, rfl, ht⟩ := h2
  exact va_alen (D := D) C.1 C.2.1 hK hP a t0 h1 ht hv hdg (kk H locs ls hI hL)
/-- an array's numbers, told otherwise -/
theorem g_arr {a k N : Nat} {f F : Nat → Int32} (hh : h a = .inl (k, N, f)) (hF : ∀ j : Nat, j < N → f j = F j) (kk : q_G Γ ad nL pc la st n (q_up h a (.inl (k, N, F))) k1 k2) : q_G Γ ad nL pc la st n h k1 k2 := by
  obtain ⟨p, l, e, R, s, m, args, below, meth, c, D, A, Q⟩ := Γ
  intro H locs ls hI hL
  refine kk H locs ls ?_ hL
  obtain ⟨ws, tys, hK, hP, hD, hS, hSim⟩ := id hI
  refine ⟨ws, tys, hK, hP, hD, hS, hSim.1, hSim.2.1, fun j hj => ?_⟩
  by_cases hja : j = a
  · subst hja
    obtain ⟨e0, h1, h2, h3⟩ := hSim.2.2 j (q_nd_a hh)
    rw [hh] at h2
    obtain ⟨cA, t0, f', rfl, ht, hf⟩ := h2
    rw [q_up_s]
    exact ⟨_, h1, ⟨cA, t0, f', rfl, ht, fun i hi => (hf i hi).trans (hF i hi)⟩, trivial⟩
  · rw [q_up_n _ _ hja] at hj ⊢
    exact hSim.2.2 j hj
theorem g_iald (C : q_C Γ ad d mc ms own y cc nL ret) {a N : Nat} {f : Nat → Int32} {i : Int32} (hdg : decode cc pc = .ok (.iaload, 1)) (hh : h a = .inl (0, N, f)) (hin : vp_in i N) (kk : q_G Γ ad nL (pc + 1) la (.int (f i.toNatClampNeg) :: st) n h k1 k2) : q_G Γ ad nL pc la (.int i :: .ref a :: st) n h k1 k2 := by
  obtain ⟨p, l, e, R, s, m, args, below, meth, c, D, A, Q⟩ := Γ
  intro H locs ls hI hL
  obtain ⟨ws, tys, hK, hP, hD, hS, hSim⟩ := id hI
  obtain ⟨e0, h1, h2, h3⟩ := hSim.2.2 a (q_nd_a hh)
  rw [hh] at h2
  obtain ⟨cA, t0, f', rfl, ht, hf⟩ := h2
  have kk := kk H locs ls hI hL
  rw [show f i.toNatClampNeg = f' i.toNatClampNeg from (hf _ (Nat.not_le.mp fun q => hin (Or.inr q))).symm] at kk
  exact va_iald (D := D) C.1 C.2.1 hK hP a t0 h1 ht hin hdg kk
theorem g_zald (C : q_C Γ ad d mc ms own y cc nL ret) {a N : Nat} {f : Nat → Int32} {i : Int32} (hdg : decode cc pc = .ok (.baload, 1)) (hh : h a = .inl (1, N, f)) (hin : vp_in i N) (kk : q_G Γ ad nL (pc + 1) la (.int (f i.toNatClampNeg) :: st) n h k1 k2) : q_G Γ ad nL pc la (.int i :: .ref a :: st) n h k1 k2 := by
  obtain ⟨p, l, e, R, s, m, args, below, meth, c, D, A, Q⟩ := Γ
  intro H locs ls hI hL
  obtain ⟨ws, tys, hK, hP, hD, hS, hSim⟩ := id hI
  obtain ⟨e0, h1, h2, h3⟩ := hSim.2.2 a (q_nd_a hh)
  rw [hh] at h2
  obtain ⟨cA, t0, f', rfl, ht, hf⟩ := h2
  have kk := kk H locs ls hI hL
  rw [show f i.toNatClampNeg = f' i.toNatClampNeg from (hf _ (Nat.not_le.mp fun q => hin (Or.inr q))).symm] at kk
  exact va_zald (D := D) C.1 C.2.1 hK hP a t0 h1 ht hin hdg kk
theorem q_upd_agree {f f' : Nat → Int32} {k j : Nat} {x : Int32} (h : f' j = f j) : upd f' k x j = upd f k x j := by
  unfold upd
  by_cases hj : j = k
  · rw [if_pos hj, if_pos hj]
  · rw [if_neg hj, if_neg hj]; exact h
theorem g_iast (C : q_C Γ ad d mc ms own y cc nL ret) {a N : Nat} {f : Nat → Int32} {i x : Int32} (hdg : decode cc pc = .ok (.iastore, 1)) (hh : h a = .inl (0, N, f)) (hin : vp_in i N) (kk : q_G Γ ad nL (pc + 1) la st n (q_up h a (.inl (0, N, upd f i.toNatClampNeg x))) k1 k2) : q_G Γ ad nL pc la (.int x :: .int i :: .ref a :: st) n h k1 k2 := by
  obtain ⟨p, l, e, R, s, m, args, below, meth, c, D, A, Q⟩ := Γ
  intro H locs ls hI hL
  obtain ⟨ws, tys, hK, hP, hD, hS, hSim⟩ := id hI
  obtain ⟨e0, h1, h2, h3⟩ := hSim.2.2 a (q_nd_a hh)
  rw [hh] at h2
  obtain ⟨cA, t0, f', rfl, ht, hf⟩ := h2
  exact va_iast (D := D) C.1 C.2.1 hK hP hD hS a t0 h1 ht hin hdg (fun H1 locs1 hP1 hD1 hS1 => kk H1 locs1 ls ⟨_, tys, hK, hP1, hD1, hS1, hSim.set (D := D) (A := A) h1 ⟨cA, t0, _, rfl, ht, fun j hj => q_upd_agree (hf j hj)⟩ trivial⟩ hL)
theorem g_zast (C : q_C Γ ad d mc ms own y cc nL ret) {a N : Nat} {f : Nat → Int32} {i x : Int32} (hdg : decode cc pc = .ok (.bastore, 1)) (hh : h a = .inl (1, N, f)) (hin : vp_in i N) (kk : q_G Γ ad nL (pc + 1) la st n (q_up h a (.inl (1, N, upd f i.toNatClampNeg (vp_nar .boolean x)))) k1 k2) : q_G Γ ad nL pc la (.int x :: .int i :: .ref a :: st) n h k1 k2 := by
  obtain ⟨p, l, e, R, s, m, args, below, meth, c, D, A, Q⟩ := Γ
  intro H locs ls hI hL
  obtain ⟨ws, tys, hK, hP, hD, hS, hSim⟩ := id hI
  obtain ⟨e0, h1, h2, h3⟩ := hSim.2.2 a (q_nd_a hh)
  rw [hh] at h2
  obtain ⟨cA, t0, f', rfl, ht, hf⟩ := h2
  exact va_zast (D := D) C.1 C.2.1 hK hP hD hS a t0 h1 ht hin hdg (fun H1 locs1 hP1 hD1 hS1 => kk H1 locs1 ls ⟨_, tys, hK, hP1, hD1, hS1, hSim.set (D := D) (A := A) h1 ⟨cA, t0, _, rfl, ht, fun j hj => q_upd_agree (hf j hj)⟩ trivial⟩ hL)
theorem q_cv_rf (o : Option Nat) : q_cv ad (va_rf o) = va_rf (o.map ad) := by cases o <;> rfl
theorem g_aald (C : q_C Γ ad d mc ms own y cc nL ret) {a N t : Nat} {f : Nat → Option Nat} {i : Int32} {v : Value} (hdg : decode cc pc = .ok (.aaload, 1)) (hh : h a = .inr (.inl (t, N, f))) (hin : vp_in i N) (hv : va_rf (f i.toNatClampNeg) = v) (kk : q_G Γ ad nL (pc + 1) la (v :: st) n h k1 k2) : q_G Γ ad nL pc la (.int i :: .ref a :: st) n h k1 k2 := by
  obtain ⟨p, l, e, R, s, m, args, below, meth, c, D, A, Q⟩ := Γ
  intro H locs ls hI hL
  obtain ⟨ws, tys, hK, hP, hD, hS, hSim⟩ := id hI
  obtain ⟨e0, h1, h2, h3⟩ := hSim.2.2 a (q_nd_r hh)
  rw [hh] at h2
  obtain ⟨cA, t0, rfl, ht⟩ := h2
  subst hv
  have kk := kk H locs ls hI hL
  rw [List.map_cons, q_cv_rf] at kk
  exact va_aldq (D := D) C.1 C.2.1 hK hP a t0 h1 ht hin hdg kk
theorem g_aast (C : q_C Γ ad d mc ms own y cc nL ret) {a b N t ci : Nat} {f : Nat → Option Nat} {fs : List Value} {i : Int32} (hdg : decode cc pc = .ok (.aastore, 1)) (hh : h a = .inr (.inl (t, N, f))) (hb : h b = .inr (.inr (ci, fs))) (hne : (ci, fs) ≠ (1000, [])) (hcl : (vwCl[ci]?).map (fun r => r.1) = some (q_cn t)) (hin : vp_in i N) (hbn : b < n) (kk : q_G Γ ad nL (pc + 1) la st n (q_up h a (.inr (.inl (t, N, va_up f i.toNatClampNeg (some b))))) k1 k2) : q_G Γ ad nL pc la (.ref b :: .int i :: .ref a :: st) n h k1 k2 := by
  obtain ⟨p, l, e, R, s, m, args, below, meth, c, D, A, Q⟩ := Γ
  intro H locs ls hI hL
  obtain ⟨ws, tys, hK, hP, hD, hS, hSim⟩ := id hI
  obtain ⟨e0, h1, h2, h3⟩ := hSim.2.2 a (q_nd_r hh)
  rw [hh] at h2 h3
  obtain ⟨cA, t0, rfl, ht⟩ := h2
  obtain ⟨e1, g1, g2, g3⟩ := hSim.2.2 b (q_nd_o hb hne)
  rw [hb] at g2
  have g2 : e1 = .inr (ci, fs.map (q_cv ad)) := g2
  subst g2
  cases hr : vwCl[ci]? with
  | none => rw [hr] at hcl; cases hcl
  | some r =>
    rw [hr] at hcl
    have hr1 : r.1 = q_cn t := Option.some.inj hcl
    refine va_astq (D := D) (r := r) C.1 C.2.1 hK hP hD hS a t0 b ci h1 (by rw [hr1]; exact ht) g1 hr hin hdg (fun H1 locs1 hP1 hD1 hS1 => kk H1 locs1 ls ⟨_, tys, hK, hP1, hD1, hS1, hSim.set (D := D) (A := A) h1 ⟨cA, t0, ?_, ht⟩ ?_⟩ hL)
    · show _ = _
      congr 7
      funext j
      unfold va_up
      by_cases hj : j = i.toNatClampNeg
      · simp [hj]
      · simp [hj]
    · intro j b' hj
      have hj : va_up f i.toNatClampNeg (some b) j = some b' := hj
      unfold va_up at hj
      by_cases hji : j = i.toNatClampNeg
      · rw [if_pos hji] at hj; cases hj; exact hbn
      · rw [if_neg hji] at hj; exact h3 j b' hj
end QH
end
section
section QK
variable {Γ : q_X} {ad : Nat → Nat} {d mc ms : Nat} {own : String} {y : MethodName} {cc : ByteArray} {nL : Nat} {ret : Option FieldType} {pc : Nat} {la : List (Option Value)} {st : List Value} {n : Nat} {h : q_H} {k1 k2 : Nat}
theorem q_cats (ad : Nat → Nat) (st : List Value) : ((st.map (q_cv ad)).map fun v => v.category).sum = (st.map fun v => v.category).sum := by
  rw [List.map_map]
  congr 2
  funext v
  exact q_cv_cat ad v
/-- Math.min, max, abs -/
def q_LM (own : String) (ix : Nat) (z : MethodName) (b : ByteArray) (k : Nat) : Prop := Cond.methodLink own ix z ∈ q_Z ∧ Cond.static z ∈ q_Z ∧ Cond.initialized "java/lang/Math" ∈ q_Z ∧ Cond.code z b k (some .int) ∈ q_Z
theorem g_min (C : q_C Γ ad d mc ms own y cc nL ret) {ix : Nat} {x z : Int32} (hl : q_LM own ix Lib.Math.min.name Lib.Math.min.code 2) (hdg : decode cc pc = .ok (.invokestatic ix, 3)) (hd : 1 ≤ d) (hst : (st.map fun v => v.category).sum ≤ 8) (hk : k1 ≤ mc ∧ k2 ≤ ms) (kk : q_G Γ ad nL (pc + 3) la (.int (if z < x then z else x) :: st) n h k1 k2) : q_G Γ ad nL pc la (.int z :: .int x :: st) n h k1 k2 := by
  obtain ⟨p, l, e, R, s, m, args, below, meth, c, D, A, Q⟩ := Γ
  intro H locs ls hI hL
  obtain ⟨C1, C2, C3, C4, C5, C6, C7, C8, C9, C10, C11, rfl⟩ := C
  exact va_mmin C1 C2 (by rw [C3]; exact hL.1.symm) C5 (C6 _ (List.mem_cons_of_mem _ hl.1)) (C6 _ (List.mem_cons_of_mem _ hl.2.1)) (C6 _ (List.mem_cons_of_mem _ hl.2.2.1)) (C6 _ (List.mem_cons_of_mem _ hl.2.2.2)) hd (by rw [q_cats]; show _ ≤ 32 * d; omega) hk.1 hk.2 hdg (kk H locs ls hI hL)
theorem g_max (C : q_C Γ ad d mc ms own y cc nL ret) {ix : Nat} {x z : Int32} (hl : q_LM own ix Lib.Math.max.name Lib.Math.max.code 2) (hdg : decode cc pc = .ok (.invokestatic ix, 3)) (hd : 1 ≤ d) (hst : (st.map fun v => v.category).sum ≤ 8) (hk : k1 ≤ mc ∧ k2 ≤ ms) (kk : q_G Γ ad nL (pc + 3) la (.int (if x < z then z else x) :: st) n h k1 k2) : q_G Γ ad nL pc la (.int z :: .int x :: st) n h k1 k2 := by
  obtain ⟨p, l, e, R, s, m, args, below, meth, c, D, A, Q⟩ := Γ
  intro H locs ls hI hL
  obtain ⟨C1, C2, C3, C4, C5, C6, C7, C8, C9, C10, C11, rfl⟩ := C
  exact va_mmax C1 C2 (by rw [C3]; exact hL.1.symm) C5 (C6 _ (List.mem_cons_of_mem _ hl.1)) (C6 _ (List.mem_cons_of_mem _ hl.2.1)) (C6 _ (List.mem_cons_of_mem _ hl.2.2.1)) (C6 _ (List.mem_cons_of_mem _ hl.2.2.2)) hd (by rw [q_cats]; show _ ≤ 32 * d; omega) hk.1 hk.2 hdg (kk H locs ls hI hL)
theorem g_abs (C : q_C Γ ad d mc ms own y cc nL ret) {ix : Nat} {x : Int32} (hl : q_LM own ix Lib.Math.abs.name Lib.Math.abs.code 1) (hdg : decode cc pc = .ok (.invokestatic ix, 3)) (hd : 1 ≤ d) (hst : (st.map fun v => v.category).sum ≤ 8) (hk : k1 ≤ mc ∧ k2 ≤ ms) (kk : q_G Γ ad nL (pc + 3) la (.int (if 0 ≤ x then x else 0 - x) :: st) n h k1 k2) : q_G Γ ad nL pc la (.int x :: st) n h k1 k2 := by
  obtain ⟨p, l, e, R, s, m, args, below, meth, c, D, A, Q⟩ := Γ
  intro H locs ls hI hL
  obtain ⟨C1, C2, C3, C4, C5, C6, C7, C8, C9, C10, C11, rfl⟩ := C
  exact va_mabs C1 C2 (by rw [C3]; exact hL.1.symm) C5 (C6 _ (List.mem_cons_of_mem _ hl.1)) (C6 _ (List.mem_cons_of_mem _ hl.2.1)) (C6 _ (List.mem_cons_of_mem _ hl.2.2.1)) (C6 _ (List.mem_cons_of_mem _ hl.2.2.2)) hd (by rw [q_cats]; show _ ≤ 32 * d; omega) hk.1 hk.2 hdg (kk H locs ls hI hL)
def q_LY (own : String) (ix : Nat) : Prop := Cond.methodLink own ix arraycopyName ∈ q_Z ∧ Cond.native arraycopyName ∈ q_Z ∧ Cond.static arraycopyName ∈ q_Z ∧ Cond.initialized "java/lang/System" ∈ q_Z
theorem g_acopy (C : q_C Γ ad d mc ms own y cc nL ret) {ix a a0 n0 n1 : Nat} {f g F : Nat → Int32} {sp dp z : Int32} (hl : q_LY own ix) (hdg : decode cc pc = .ok (.invokestatic ix, 3)) (h0 : h a0 = .inl (0, n0, f)) (h1 : h a = .inl (0, n1, g)) (hs : ¬ sp < 0) (hp : ¬ dp < 0) (hz : ¬ z < 0) (h4 : sp.toNatClampNeg + z.toNatClampNeg ≤ n0) (h5 : dp.toNatClampNeg + z.toNatClampNeg ≤ n1) (hF : ∀ j : Nat, j < n1 → va_cpy f g sp.toNatClampNeg dp.toNatClampNeg z.toNatClampNeg j = F j) (hd : 1 ≤ d) (hst : (st.map fun v => v.category).sum ≤ 8) (kk : q_G Γ ad nL (pc + 3) la st n (q_up h a (.inl (0, n1, F))) k1 k2) : q_G Γ ad nL pc la (.int z :: .int dp :: .ref a :: .int sp :: .ref a0 :: st) n h k1 k2 := by
  obtain ⟨p, l, e, R, s, m, args, below, meth, c, D, A, Q⟩ := Γ
  intro H locs ls hI hL
  obtain ⟨ws, tys, hK, hP, hD, hS, hSim⟩ := id hI
  obtain ⟨e0, i1, i2, i3⟩ := hSim.2.2 a0 (q_nd_a h0)
  obtain ⟨e1, j1, j2, j3⟩ := hSim.2.2 a (q_nd_a h1)
  rw [h0] at i2
  rw [h1] at j2
  obtain ⟨cA, t0, f', rfl, ht0, hf'⟩ := i2
  obtain ⟨cB, t1, g', rfl, ht1, hg'⟩ := j2
  obtain ⟨C1, C2, C3, C4, C5, C6, C7, C8, C9, C10, C11, rfl⟩ := C
  exact va_copyi (D := D) (ty := .int) C1 C2 (by rw [C3]; exact hL.1.symm) C5 (C6 _ (List.mem_cons_of_mem _ hl.1)) (C6 _ (List.mem_cons_of_mem _ hl.2.1)) (C6 _ (List.mem_cons_of_mem _ hl.2.2.1)) (C6 _ (List.mem_cons_of_mem _ hl.2.2.2)) hK hP hD hS a0 a t0 t1 i1 j1 ht0 ht1 rfl hs hp hz h4 h5 (fun i _ => rfl) hd (by rw [q_cats, show nativeFrameWords "java/lang/System" "arraycopy" 5 = 7 by decide +kernel]; show _ ≤ 32 * d; omega) hdg (fun H1 locs1 hP1 hD1 hS1 => kk H1 locs1 ls ⟨_, tys, hK, hP1, hD1, hS1, hSim.set (D := D) (A := A) j1 ⟨cB, t1, _, rfl, ht1, fun j hj => by
    refine Eq.trans ?_ (hF j hj)
    unfold va_cpy
    by_cases hj2 : dp.toNatClampNeg ≤ j ∧ j < dp.toNatClampNeg + z.toNatClampNeg
    · rw [if_pos hj2, if_pos hj2]; exact hf' _ (by show _ < n0; omega)
    · rw [if_neg hj2, if_neg hj2]; exact hg' j hj⟩ trivial⟩ hL)
/-- Object() -/
def q_LO (own : String) (ix : Nat) : Prop := Cond.methodLink own ix objectInit ∈ q_Z ∧ Cond.instanceMethod objectInit ∈ q_Z ∧ Cond.code objectInit ⟨#[0xb1]⟩ 1 none ∈ q_Z
theorem g_oinit (C : q_C Γ ad d mc ms own y cc nL ret) {ix a : Nat} (hl : q_LO own ix) (hdg : decode cc pc = .ok (.invokespecial ix, 3)) (hd : 1 ≤ d) (hst : (st.map fun v => v.category).sum ≤ 8) (kk : q_G Γ ad nL (pc + 3) la st n h k1 k2) : q_G Γ ad nL pc la (.ref a :: st) n h k1 k2 := by
  obtain ⟨p, l, e, R, s, m, args, below, meth, c, D, A, Q⟩ := Γ
  intro H locs ls hI hL
  obtain ⟨C1, C2, C3, C4, C5, C6, C7, C8, C9, C10, C11, rfl⟩ := C
  exact W.objInit C1 C2 C5 (C6 _ (List.mem_cons_of_mem _ hl.1)) (C6 _ (List.mem_cons_of_mem _ hl.2.1)) (C6 _ (List.mem_cons_of_mem _ hl.2.2)) (g := F0 m pc ls _) rfl (by rw [C3]; exact hL.1) rfl hdg hd (by rw [q_cats]; show 2 * 0 + _ + 12 ≤ 32 * d; omega) (kk H locs ls hI hL)
-- answers
theorem q_end {D : va_G} {A : Nat → Prop} {s : State} {H : Heap} {locs : List Loc} {args : Array Value} {r : Option Value} (hI : q_I D A s H locs ad n h) : ∀ t : State, t.heap = H → s.WarmedH t.vm → q_Q D A ad n h r args s (.returned (r.map (q_cv ad))) t := by
  intro t ht hW
  obtain ⟨ws, tys, hK, hP, hD, hS, hSim⟩ := hI
  exact ⟨⟨rfl, ws, tys, by rw [ht]; exact hP, va_K.moved hW.alike hK, hD, hSim⟩, hS.F ht⟩
theorem g_iret (C : q_C Γ ad d mc ms own y cc nL ret) {v : Int32} {ty : FieldType} {r : Option Value} {h' : q_H} (F : q_N Γ ad n r h') (hdg : decode cc pc = .ok (.ireturn, 1)) (hr : ret = some ty) (hn : narrow ty (.int v) = .int v) (e1 : some (.int v) = r) (e2 : h = h') : q_G Γ ad nL pc la [.int v] n h 0 0 := by
  obtain ⟨p, l, e, R, s, m, args, below, meth, c, D, A, Q⟩ := Γ
  intro H locs ls hI hL
  subst e1
  subst e2
  have F : Q = _ := F
  subst F
  have hlk : meth.locks = false := C.2.2.2.2.2.2.1
  obtain ⟨_, _, _, _, _, hS, _⟩ := id hI
  exact W.zret C.1 C.2.1 (C.2.2.2.1.trans hr) hn (q_end (r := some (.int v)) hI) hS.2.2 hdg hlk
theorem g_aret (C : q_C Γ ad d mc ms own y cc nL ret) {v : Value} {ty : String} {r : Option Value} {h' : q_H} (F : q_N Γ ad n r h') (hdg : decode cc pc = .ok (.areturn, 1)) (hr : ret = some (.object ty)) (hv : v = .null ∨ ∃ a, v = .ref a) (e1 : some v = r) (e2 : h = h') : q_G Γ ad nL pc la [v] n h 0 0 := by
  obtain ⟨p, l, e, R, s, m, args, below, meth, c, D, A, Q⟩ := Γ
  intro H locs ls hI hL
  subst e1
  subst e2
  have F : Q = _ := F
  subst F
  have hlk : meth.locks = false := C.2.2.2.2.2.2.1
  obtain ⟨_, _, _, _, _, hS, _⟩ := id hI
  exact W.aret C.1 C.2.1 (C.2.2.2.1.trans hr) (Or.inl ⟨_, rfl⟩) (by rcases hv with rfl | ⟨a, rfl⟩; exact Or.inl rfl; exact Or.inr ⟨_, rfl⟩) (q_end (r := some v) hI) hS.2.2 hdg hlk
theorem g_vret (C : q_C Γ ad d mc ms own y cc nL ret) {r : Option Value} {h' : q_H} (F : q_N Γ ad n r h') (hdg : decode cc pc = .ok (.return_, 1)) (hr : ret = none) (e1 : none = r) (e2 : h = h') : q_G Γ ad nL pc la [] n h 0 0 := by
  obtain ⟨p, l, e, R, s, m, args, below, meth, c, D, A, Q⟩ := Γ
  intro H locs ls hI hL
  subst e1
  subst e2
  have F : Q = _ := F
  subst F
  have hlk : meth.locks = false := C.2.2.2.2.2.2.1
  obtain ⟨_, _, _, _, _, hS, _⟩ := id hI
  exact W.vret C.1 C.2.1 (C.2.2.2.1.trans hr) (q_end (r := none) hI) hS.2.2 hdg hlk
-- calls
theorem q_goodA {y : MethodName} {cc : ByteArray} {nL : Nat} {ret : Option FieldType} {l : List Cond} (h : ∀ w ∈ l, w ∈ q_Z) : GoodIn (q_ws y cc nL ret) l := fun w hw => ⟨List.mem_cons_of_mem _ (h w hw), good_of_word (List.mem_filter.mp (h w hw)).2⟩
theorem q_wsZ {y : MethodName} {cc : ByteArray} {nL : Nat} {ret : Option FieldType} (h : Cond.code y cc nL ret ∈ q_Z) : ∀ w ∈ q_ws y cc nL ret, w ∈ q_Z := fun w hw => by
  rcases List.mem_cons.mp hw with rfl | hw
  · exact h
  · exact hw
def q_LV (own : String) (ix ci : Nat) (y : MethodName) (cc : ByteArray) (maxL : Nat) (ret : Option FieldType) (np : Nat) : Prop :=
  (Cond.methodLink own ix y ∈ q_Z ∧ Cond.instanceMethod y ∈ q_Z ∧ Cond.selects y.cls y y ∈ q_Z ∧ Cond.initialized y.cls ∈ q_Z ∧ Cond.code y cc maxL ret ∈ q_Z) ∧ (y.cls ≠ "java/lang/invoke/MethodHandle" ∧ y.cls ≠ "java/lang/invoke/VarHandle" ∧ (parseMethodDescriptor y.desc).map (fun d => d.parameters.length) = some np) ∧ (vwCl[ci]?).map (fun r => r.1) = some y.cls ∧ maxL ≤ 13 ∧ ci < 1000
def q_LS (own : String) (ix : Nat) (y : MethodName) (cc : ByteArray) (maxL : Nat) (ret : Option FieldType) (np : Nat) : Prop :=
  ((Cond.methodLink own ix y ∈ q_Z ∨ ∃ host : String, (own, ix, y, host) ∈ q_nm) ∧ Cond.static y ∈ q_Z ∧ Cond.initialized y.cls ∈ q_Z ∧ Cond.code y cc maxL ret ∈ q_Z) ∧ (y.cls ≠ "java/lang/invoke/MethodHandle" ∧ y.cls ≠ "java/lang/invoke/VarHandle" ∧ (parseMethodDescriptor y.desc).map (fun d => d.parameters.length) = some np) ∧ maxL ≤ 13
/-- what is behind a call -/
theorem q_back {p : Program} {l : Launch} {e : Env} {R : Room} {s : State} {m : MethodId} {args : Array Value} {below : List Frame} {meth : Method} {c : Code} {D : va_G} {A : Nat → Prop} {Q : State → Prop} {H : Heap} {locs : List Loc} {ls : Array Slot} {st0 rest : List Value} {a : Array Value} {r2 : Option Value} {h2 : q_H}
    (hr : va_Run p l e R s m args below meth c H locs 0 0 0 0 (F0 m pc ls st0) rest (q_Q D (q_A ad n H.size) ad n h2 r2 a) (q_A ad n H.size)) (hA : ∀ q, s.heap.size ≤ q → A q) (hI : q_I D A s H locs ad n h)
    (kk : ∀ (H1 : Heap) (locs1 : List Loc), q_I D A s H1 locs1 ad n h2 → W p l e R s m args below meth c H1 locs1 0 0 Q (F0 m (pc + 3) ls ((r2.map (q_cv ad)).toList ++ rest))) : W p l e R s m args below meth c H locs 0 0 Q (F0 m pc ls st0) := by
  obtain ⟨ws, tys, hK, hP, hD, hS, hSim⟩ := hI
  have hAA : ∀ q, q_A ad n H.size q → A q := by
    intro q hq
    rcases hq with ⟨k, hk, rfl⟩ | hq
    · have hkl : k < ws.length := by rw [hSim.1.1]; exact hk
      have h1 := hD.2 k _ (List.getElem?_eq_getElem hkl)
      rwa [hSim.2.1 k _ (List.getElem?_eq_getElem hkl)] at h1
    · exact hA q (Nat.le_trans hS.1 hq)
  intro T hT X
  obtain ⟨v, st₀, t, T', L, h0, X', hL, e1, e2, ⟨⟨hv, ws1, tys1, hP1, hK1, hD1, hS1⟩, hz, hk⟩, st⟩ := hr T hT X
  cases hv
  rw [h0] at hz hk
  have hal : s.vm.Alike t.vm := by rw [← e2]; exact X'.warmed.alike
  obtain ⟨t2, a1, b1⟩ := kk T'.heap (locs ++ L) ⟨ws1, tys1, va_K.moved hal.symm hK1, by rw [e1]; exact hP1, hD1.weaken (fun _ q _ h => hAA _ h), ⟨Nat.le_trans hS.1 (by rw [e1]; exact hz), fun q h1 h2 => by rw [e1, hk q (Nat.lt_of_lt_of_le h1 hS.1) (fun z => h2 (hAA q z))]; exact hS.2.1 q h1 h2, fun q hq => by
      rcases List.mem_append.mp hq with h | h
      · exact hS.2.2 q h
      · exact hAA _ (hL q h)⟩, hS1⟩ T' rfl X'
  exact ⟨t2, st t2 a1, b1⟩
/-- the world that a callee gets -/
theorem q_give {p : Program} {s : State} {D : va_G} {A : Nat → Prop} {H : Heap} {locs : List Loc} {as : List Value} (hNW : q_NW s) (hSF : q_SF ad A s s.heap) (hA : ∀ q, s.heap.size ≤ q → A q) (hI : q_I D A s H locs ad n h) : PreS s H (va_Pc (as.map (q_cv ad)) (q_B D ad H.size n h)) (as.map (q_cv ad)) := by
  obtain ⟨ws, tys, hK, hP, hD, hS, hSim⟩ := hI
  refine ⟨q_blind, fun U hU hW => ⟨rfl, by rw [hU], ⟨ws, tys, by rw [hU]; exact hP, va_K.moved hW.alike hK, hD.weaken (fun _ _ _ _ => trivial), hSim⟩, hNW.warm hW, ?_⟩⟩
  rw [hU]
  refine hSF.warm hW hS.2.1 ?_
  intro q hq
  rcases hq with ⟨k, hk, rfl⟩ | hq
  · have hkl : k < ws.length := by rw [hSim.1.1]; exact hk
    have h1 := hD.2 k _ (List.getElem?_eq_getElem hkl)
    rwa [hSim.2.1 k _ (List.getElem?_eq_getElem hkl)] at h1
  · exact hA q (Nat.le_trans hS.1 hq)
theorem g_callV (C : q_C Γ ad d 0 0 own y cc nL ret) {d2 ix ci np a : Nat} {y2 : MethodName} {cc2 : ByteArray} {maxL2 : Nat} {ret2 : Option FieldType} {as fs : List Value} {r2 : Option Value} {h2 : q_H} (hl : q_LV own ix ci y2 cc2 maxL2 ret2 np) (hdg : decode cc pc = .ok (.invokevirtual ix, 3)) (hs : SP d2 y2 cc2 maxL2 ret2 (.ref a :: as) n h r2 h2) (hh : h a = .inr (.inr (ci, fs))) (hd : d2 < d) (hst : (st.map fun v => v.category).sum ≤ 8) (hnp : as.length = np) (kk : q_G Γ ad nL (pc + 3) la (r2.toList ++ st) n h2 0 0) : q_G Γ ad nL pc la (as.reverse ++ .ref a :: st) n h 0 0 := by
  obtain ⟨p, l, e, R, s, m, args, below, meth, c, D, A, Q⟩ := Γ
  intro H locs ls hI hL
  obtain ⟨C1, C2, C3, C4, C5, C6, C7, C8, C9, C10, C11, rfl⟩ := C
  obtain ⟨⟨l1, l2, l3, l4, l5⟩, l6, l7, l8, l9⟩ := hl
  have hp := q_give (p := p) (as := .ref a :: as) C8 C9 C10 hI
  obtain ⟨ws, tys, hK, hP, hD, hS, hSim⟩ := id hI
  obtain ⟨e0, i1, i2, i3⟩ := hSim.2.2 a (q_nd_o hh (fun z => by injection z with z1 z2; omega))
  rw [hh] at i2
  have i2 : e0 = .inr (ci, fs.map (q_cv ad)) := i2
  subst i2
  cases hr : vwCl[ci]? with
  | none => rw [hr] at l7; cases l7
  | some r =>
    rw [hr] at l7
    have hr1 : r.1 = y2.cls := Option.some.inj l7
    have hrecv := va_recv hK hP hr i1
    rw [hr1] at hrecv
    have hrun := va_runV (As := as.map (q_cv ad)) (rest := st.map (q_cv ad)) (b := ad a) (H := H) (g := F0 m pc ls ((as.reverse ++ .ref a :: st).map (q_cv ad))) (cells := 0) (slots := 0) (locs := locs) (below := below) (meth := meth) (e := e) (R := q_rm d 0 0) (C := y2.cls) (own := own) ⟨C1, C2, C3, C5, C6⟩ (hs l D ad H.size) (cwV np C6 (q_goodA (fun w hw => by
        unfold wsV at hw
        rcases List.mem_append.mp hw with hw | hw
        · simp only [List.mem_cons, List.not_mem_nil, or_false] at hw
          rcases hw with rfl | rfl | rfl | rfl
          · exact l1
          · exact l2
          · exact l3
          · exact l4
        · exact q_wsZ l5 w hw)) rfl rfl rfl ⟨rfl, l6⟩ ⟨hd, by show 8 + (maxL2 + 11) + 32 * d2 ≤ 32 * d; omega⟩) ⟨hp.1, hrecv, hp.2⟩ rfl (by rw [List.length_map]; exact hnp) hL.1 (by show List.map _ _ = _; rw [List.map_append, List.map_reverse]; rfl) (by rw [q_cats]; show 2 * 0 + _ ≤ 8; omega) hdg ⟨Nat.zero_le _, Nat.zero_le _⟩
    refine q_back hrun C10 hI (fun H1 locs1 hI1 => ?_)
    have := kk H1 locs1 ls hI1 hL
    rw [List.map_append] at this
    cases r2 <;> exact this
theorem g_callS (C : q_C Γ ad d 0 0 own y cc nL ret) {d2 ix np : Nat} {y2 : MethodName} {cc2 : ByteArray} {maxL2 : Nat} {ret2 : Option FieldType} {as : List Value} {r2 : Option Value} {h2 : q_H} (hl : q_LS own ix y2 cc2 maxL2 ret2 np) (hdg : decode cc pc = .ok (.invokestatic ix, 3)) (hs : SP d2 y2 cc2 maxL2 ret2 as n h r2 h2) (hd : d2 < d) (hst : (st.map fun v => v.category).sum ≤ 8) (hnp : as.length = np) (kk : q_G Γ ad nL (pc + 3) la (r2.toList ++ st) n h2 0 0) : q_G Γ ad nL pc la (as.reverse ++ st) n h 0 0 := by
  obtain ⟨p, l, e, R, s, m, args, below, meth, c, D, A, Q⟩ := Γ
  intro H locs ls hI hL
  obtain ⟨C1, C2, C3, C4, C5, C6, C7, C8, C9, C10, C11, rfl⟩ := C
  obtain ⟨⟨l1, l2, l4, l5⟩, l6, l8⟩ := hl
  have hp := q_give (p := p) (as := as) C8 C9 C10 hI
  have hrun : va_Run p l e (q_rm d 0 0) s m args below meth c H locs 0 0 0 0 (F0 m pc ls ((as.reverse ++ st).map (q_cv ad))) (st.map (q_cv ad)) (q_Q D (q_A ad n H.size) ad n h2 r2 (as.map (q_cv ad)).toArray) (q_A ad n H.size) := by
    rcases l1 with l1 | ⟨host, l1⟩
    · exact va_runS (As := as.map (q_cv ad)) (own := own) ⟨C1, C2, C3, C5, C6⟩ (hs l D ad H.size) (va_cwS np C6 (q_goodA (fun w hw => by
        unfold va_wsS at hw
        rcases List.mem_append.mp hw with hw | hw
        · simp only [List.mem_cons, List.not_mem_nil, or_false] at hw
          rcases hw with rfl | rfl | rfl
          · exact l1
          · exact l2
          · exact l4
        · exact q_wsZ l5 w hw)) rfl rfl rfl l6 ⟨hd, by show 8 + (maxL2 + 11) + 32 * d2 ≤ 32 * d; omega⟩) hp rfl (by rw [List.length_map]; exact hnp) hL.1 (by show List.map _ _ = _; rw [List.map_append, List.map_reverse]) (by rw [q_cats]; show 2 * 0 + _ ≤ 8; omega) hdg ⟨Nat.zero_le _, Nat.zero_le _⟩
    · exact va_runSN (As := as.map (q_cv ad)) (own := own) (host := host) ⟨C1, C2, C3, C5, C6⟩ (hs l D ad H.size) ⟨va_cnB np C6 (q_good l5) rfl rfl rfl (C8.2.1 _ l1) (C6 _ (List.mem_cons_of_mem _ l4)) l6 ⟨hd, by show 8 + (maxL2 + 11) + 32 * d2 ≤ 32 * d; omega⟩, C6 _ (List.mem_cons_of_mem _ l2), trivial⟩ hp rfl (by rw [List.length_map]; exact hnp) hL.1 (by show List.map _ _ = _; rw [List.map_append, List.map_reverse]) (by rw [q_cats]; show 2 * 0 + _ ≤ 8; omega) hdg ⟨Nat.zero_le _, Nat.zero_le _⟩
  refine q_back hrun C10 hI (fun H1 locs1 hI1 => ?_)
  have := kk H1 locs1 ls hI1 hL
  rw [List.map_append] at this
  cases r2 <;> exact this
theorem g_V0v (C : q_C Γ ad d 0 0 own y cc nL ret) {d2 ix ci a : Nat} {y2 : MethodName} {cc2 : ByteArray} {maxL2 : Nat} {ret2 : Option FieldType} {fs : List Value}  {v : Value} {h2 : q_H} (hl : q_LV own ix ci y2 cc2 maxL2 ret2 0) (hdg : decode cc pc = .ok (.invokevirtual ix, 3)) (hs : SP d2 y2 cc2 maxL2 ret2 [.ref a] n h (some v) h2) (hh : h a = .inr (.inr (ci, fs))) (hd : d2 < d) (hst : (st.map fun v => v.category).sum ≤ 8) (kk : q_G Γ ad nL (pc + 3) la (v :: st) n h2 0 0) : q_G Γ ad nL pc la (.ref a :: st) n h 0 0 :=
  g_callV (as := []) C hl hdg hs hh hd hst rfl kk
theorem g_V0u (C : q_C Γ ad d 0 0 own y cc nL ret) {d2 ix ci a : Nat} {y2 : MethodName} {cc2 : ByteArray} {maxL2 : Nat} {ret2 : Option FieldType} {fs : List Value}   {h2 : q_H} (hl : q_LV own ix ci y2 cc2 maxL2 ret2 0) (hdg : decode cc pc = .ok (.invokevirtual ix, 3)) (hs : SP d2 y2 cc2 maxL2 ret2 [.ref a] n h none h2) (hh : h a = .inr (.inr (ci, fs))) (hd : d2 < d) (hst : (st.map fun v => v.category).sum ≤ 8) (kk : q_G Γ ad nL (pc + 3) la st n h2 0 0) : q_G Γ ad nL pc la (.ref a :: st) n h 0 0 :=
  g_callV (as := []) C hl hdg hs hh hd hst rfl kk
theorem g_V1v (C : q_C Γ ad d 0 0 own y cc nL ret) {d2 ix ci a : Nat} {y2 : MethodName} {cc2 : ByteArray} {maxL2 : Nat} {ret2 : Option FieldType} {fs : List Value} {x1 : Value} {v : Value} {h2 : q_H} (hl : q_LV own ix ci y2 cc2 maxL2 ret2 1) (hdg : decode cc pc = .ok (.invokevirtual ix, 3)) (hs : SP d2 y2 cc2 maxL2 ret2 [.ref a, x1] n h (some v) h2) (hh : h a = .inr (.inr (ci, fs))) (hd : d2 < d) (hst : (st.map fun v => v.category).sum ≤ 8) (kk : q_G Γ ad nL (pc + 3) la (v :: st) n h2 0 0) : q_G Γ ad nL pc la (x1 :: .ref a :: st) n h 0 0 :=
  g_callV (as := [x1]) C hl hdg hs hh hd hst rfl kk
theorem g_S1v (C : q_C Γ ad d 0 0 own y cc nL ret) {d2 ix : Nat} {y2 : MethodName} {cc2 : ByteArray} {maxL2 : Nat} {ret2 : Option FieldType} {x1 : Value} {v : Value} {h2 : q_H} (hl : q_LS own ix y2 cc2 maxL2 ret2 1) (hdg : decode cc pc = .ok (.invokestatic ix, 3)) (hs : SP d2 y2 cc2 maxL2 ret2 [x1] n h (some v) h2) (hd : d2 < d) (hst : (st.map fun v => v.category).sum ≤ 8) (kk : q_G Γ ad nL (pc + 3) la (v :: st) n h2 0 0) : q_G Γ ad nL pc la (x1 :: st) n h 0 0 :=
  g_callS (as := [x1]) C hl hdg hs hd hst rfl kk
theorem g_V1u (C : q_C Γ ad d 0 0 own y cc nL ret) {d2 ix ci a : Nat} {y2 : MethodName} {cc2 : ByteArray} {maxL2 : Nat} {ret2 : Option FieldType} {fs : List Value} {x1 : Value}  {h2 : q_H} (hl : q_LV own ix ci y2 cc2 maxL2 ret2 1) (hdg : decode cc pc = .ok (.invokevirtual ix, 3)) (hs : SP d2 y2 cc2 maxL2 ret2 [.ref a, x1] n h none h2) (hh : h a = .inr (.inr (ci, fs))) (hd : d2 < d) (hst : (st.map fun v => v.category).sum ≤ 8) (kk : q_G Γ ad nL (pc + 3) la st n h2 0 0) : q_G Γ ad nL pc la (x1 :: .ref a :: st) n h 0 0 :=
  g_callV (as := [x1]) C hl hdg hs hh hd hst rfl kk
theorem g_S1u (C : q_C Γ ad d 0 0 own y cc nL ret) {d2 ix : Nat} {y2 : MethodName} {cc2 : ByteArray} {maxL2 : Nat} {ret2 : Option FieldType} {x1 : Value}  {h2 : q_H} (hl : q_LS own ix y2 cc2 maxL2 ret2 1) (hdg : decode cc pc = .ok (.invokestatic ix, 3)) (hs : SP d2 y2 cc2 maxL2 ret2 [x1] n h none h2) (hd : d2 < d) (hst : (st.map fun v => v.category).sum ≤ 8) (kk : q_G Γ ad nL (pc + 3) la st n h2 0 0) : q_G Γ ad nL pc la (x1 :: st) n h 0 0 :=
  g_callS (as := [x1]) C hl hdg hs hd hst rfl kk
theorem g_V2v (C : q_C Γ ad d 0 0 own y cc nL ret) {d2 ix ci a : Nat} {y2 : MethodName} {cc2 : ByteArray} {maxL2 : Nat} {ret2 : Option FieldType} {fs : List Value} {x1 x2 : Value} {v : Value} {h2 : q_H} (hl : q_LV own ix ci y2 cc2 maxL2 ret2 2) (hdg : decode cc pc = .ok (.invokevirtual ix, 3)) (hs : SP d2 y2 cc2 maxL2 ret2 [.ref a, x1, x2] n h (some v) h2) (hh : h a = .inr (.inr (ci, fs))) (hd : d2 < d) (hst : (st.map fun v => v.category).sum ≤ 8) (kk : q_G Γ ad nL (pc + 3) la (v :: st) n h2 0 0) : q_G Γ ad nL pc la (x2 :: x1 :: .ref a :: st) n h 0 0 :=
  g_callV (as := [x1, x2]) C hl hdg hs hh hd hst rfl kk
theorem g_S2v (C : q_C Γ ad d 0 0 own y cc nL ret) {d2 ix : Nat} {y2 : MethodName} {cc2 : ByteArray} {maxL2 : Nat} {ret2 : Option FieldType} {x1 x2 : Value} {v : Value} {h2 : q_H} (hl : q_LS own ix y2 cc2 maxL2 ret2 2) (hdg : decode cc pc = .ok (.invokestatic ix, 3)) (hs : SP d2 y2 cc2 maxL2 ret2 [x1, x2] n h (some v) h2) (hd : d2 < d) (hst : (st.map fun v => v.category).sum ≤ 8) (kk : q_G Γ ad nL (pc + 3) la (v :: st) n h2 0 0) : q_G Γ ad nL pc la (x2 :: x1 :: st) n h 0 0 :=
  g_callS (as := [x1, x2]) C hl hdg hs hd hst rfl kk
theorem g_V2u (C : q_C Γ ad d 0 0 own y cc nL ret) {d2 ix ci a : Nat} {y2 : MethodName} {cc2 : ByteArray} {maxL2 : Nat} {ret2 : Option FieldType} {fs : List Value} {x1 x2 : Value}  {h2 : q_H} (hl : q_LV own ix ci y2 cc2 maxL2 ret2 2) (hdg : decode cc pc = .ok (.invokevirtual ix, 3)) (hs : SP d2 y2 cc2 maxL2 ret2 [.ref a, x1, x2] n h none h2) (hh : h a = .inr (.inr (ci, fs))) (hd : d2 < d) (hst : (st.map fun v => v.category).sum ≤ 8) (kk : q_G Γ ad nL (pc + 3) la st n h2 0 0) : q_G Γ ad nL pc la (x2 :: x1 :: .ref a :: st) n h 0 0 :=
  g_callV (as := [x1, x2]) C hl hdg hs hh hd hst rfl kk
theorem g_S2u (C : q_C Γ ad d 0 0 own y cc nL ret) {d2 ix : Nat} {y2 : MethodName} {cc2 : ByteArray} {maxL2 : Nat} {ret2 : Option FieldType} {x1 x2 : Value}  {h2 : q_H} (hl : q_LS own ix y2 cc2 maxL2 ret2 2) (hdg : decode cc pc = .ok (.invokestatic ix, 3)) (hs : SP d2 y2 cc2 maxL2 ret2 [x1, x2] n h none h2) (hd : d2 < d) (hst : (st.map fun v => v.category).sum ≤ 8) (kk : q_G Γ ad nL (pc + 3) la st n h2 0 0) : q_G Γ ad nL pc la (x2 :: x1 :: st) n h 0 0 :=
  g_callS (as := [x1, x2]) C hl hdg hs hd hst rfl kk
theorem g_V3v (C : q_C Γ ad d 0 0 own y cc nL ret) {d2 ix ci a : Nat} {y2 : MethodName} {cc2 : ByteArray} {maxL2 : Nat} {ret2 : Option FieldType} {fs : List Value} {x1 x2 x3 : Value} {v : Value} {h2 : q_H} (hl : q_LV own ix ci y2 cc2 maxL2 ret2 3) (hdg : decode cc pc = .ok (.invokevirtual ix, 3)) (hs : SP d2 y2 cc2 maxL2 ret2 [.ref a, x1, x2, x3] n h (some v) h2) (hh : h a = .inr (.inr (ci, fs))) (hd : d2 < d) (hst : (st.map fun v => v.category).sum ≤ 8) (kk : q_G Γ ad nL (pc + 3) la (v :: st) n h2 0 0) : q_G Γ ad nL pc la (x3 :: x2 :: x1 :: .ref a :: st) n h 0 0 :=
  g_callV (as := [x1, x2, x3]) C hl hdg hs hh hd hst rfl kk
theorem g_S3v (C : q_C Γ ad d 0 0 own y cc nL ret) {d2 ix : Nat} {y2 : MethodName} {cc2 : ByteArray} {maxL2 : Nat} {ret2 : Option FieldType} {x1 x2 x3 : Value} {v : Value} {h2 : q_H} (hl : q_LS own ix y2 cc2 maxL2 ret2 3) (hdg : decode cc pc = .ok (.invokestatic ix, 3)) (hs : SP d2 y2 cc2 maxL2 ret2 [x1, x2, x3] n h (some v) h2) (hd : d2 < d) (hst : (st.map fun v => v.category).sum ≤ 8) (kk : q_G Γ ad nL (pc + 3) la (v :: st) n h2 0 0) : q_G Γ ad nL pc la (x3 :: x2 :: x1 :: st) n h 0 0 :=
  g_callS (as := [x1, x2, x3]) C hl hdg hs hd hst rfl kk
theorem g_V3u (C : q_C Γ ad d 0 0 own y cc nL ret) {d2 ix ci a : Nat} {y2 : MethodName} {cc2 : ByteArray} {maxL2 : Nat} {ret2 : Option FieldType} {fs : List Value} {x1 x2 x3 : Value}  {h2 : q_H} (hl : q_LV own ix ci y2 cc2 maxL2 ret2 3) (hdg : decode cc pc = .ok (.invokevirtual ix, 3)) (hs : SP d2 y2 cc2 maxL2 ret2 [.ref a, x1, x2, x3] n h none h2) (hh : h a = .inr (.inr (ci, fs))) (hd : d2 < d) (hst : (st.map fun v => v.category).sum ≤ 8) (kk : q_G Γ ad nL (pc + 3) la st n h2 0 0) : q_G Γ ad nL pc la (x3 :: x2 :: x1 :: .ref a :: st) n h 0 0 :=
  g_callV (as := [x1, x2, x3]) C hl hdg hs hh hd hst rfl kk
theorem g_S3u (C : q_C Γ ad d 0 0 own y cc nL ret) {d2 ix : Nat} {y2 : MethodName} {cc2 : ByteArray} {maxL2 : Nat} {ret2 : Option FieldType} {x1 x2 x3 : Value}  {h2 : q_H} (hl : q_LS own ix y2 cc2 maxL2 ret2 3) (hdg : decode cc pc = .ok (.invokestatic ix, 3)) (hs : SP d2 y2 cc2 maxL2 ret2 [x1, x2, x3] n h none h2) (hd : d2 < d) (hst : (st.map fun v => v.category).sum ≤ 8) (kk : q_G Γ ad nL (pc + 3) la st n h2 0 0) : q_G Γ ad nL pc la (x3 :: x2 :: x1 :: st) n h 0 0 :=
  g_callS (as := [x1, x2, x3]) C hl hdg hs hd hst rfl kk
theorem g_V4v (C : q_C Γ ad d 0 0 own y cc nL ret) {d2 ix ci a : Nat} {y2 : MethodName} {cc2 : ByteArray} {maxL2 : Nat} {ret2 : Option FieldType} {fs : List Value} {x1 x2 x3 x4 : Value} {v : Value} {h2 : q_H} (hl : q_LV own ix ci y2 cc2 maxL2 ret2 4) (hdg : decode cc pc = .ok (.invokevirtual ix, 3)) (hs : SP d2 y2 cc2 maxL2 ret2 [.ref a, x1, x2, x3, x4] n h (some v) h2) (hh : h a = .inr (.inr (ci, fs))) (hd : d2 < d) (hst : (st.map fun v => v.category).sum ≤ 8) (kk : q_G Γ ad nL (pc + 3) la (v :: st) n h2 0 0) : q_G Γ ad nL pc la (x4 :: x3 :: x2 :: x1 :: .ref a :: st) n h 0 0 :=
  g_callV (as := [x1, x2, x3, x4]) C hl hdg hs hh hd hst rfl kk
theorem g_S4v (C : q_C Γ ad d 0 0 own y cc nL ret) {d2 ix : Nat} {y2 : MethodName} {cc2 : ByteArray} {maxL2 : Nat} {ret2 : Option FieldType} {x1 x2 x3 x4 : Value} {v : Value} {h2 : q_H} (hl : q_LS own ix y2 cc2 maxL2 ret2 4) (hdg : decode cc pc = .ok (.invokestatic ix, 3)) (hs : SP d2 y2 cc2 maxL2 ret2 [x1, x2, x3, x4] n h (some v) h2) (hd : d2 < d) (hst : (st.map fun v => v.category).sum ≤ 8) (kk : q_G Γ ad nL (pc + 3) la (v :: st) n h2 0 0) : q_G Γ ad nL pc la (x4 :: x3 :: x2 :: x1 :: st) n h 0 0 :=
  g_callS (as := [x1, x2, x3, x4]) C hl hdg hs hd hst rfl kk
theorem g_V4u (C : q_C Γ ad d 0 0 own y cc nL ret) {d2 ix ci a : Nat} {y2 : MethodName} {cc2 : ByteArray} {maxL2 : Nat} {ret2 : Option FieldType} {fs : List Value} {x1 x2 x3 x4 : Value}  {h2 : q_H} (hl : q_LV own ix ci y2 cc2 maxL2 ret2 4) (hdg : decode cc pc = .ok (.invokevirtual ix, 3)) (hs : SP d2 y2 cc2 maxL2 ret2 [.ref a, x1, x2, x3, x4] n h none h2) (hh : h a = .inr (.inr (ci, fs))) (hd : d2 < d) (hst : (st.map fun v => v.category).sum ≤ 8) (kk : q_G Γ ad nL (pc + 3) la st n h2 0 0) : q_G Γ ad nL pc la (x4 :: x3 :: x2 :: x1 :: .ref a :: st) n h 0 0 :=
  g_callV (as := [x1, x2, x3, x4]) C hl hdg hs hh hd hst rfl kk
theorem g_S4u (C : q_C Γ ad d 0 0 own y cc nL ret) {d2 ix : Nat} {y2 : MethodName} {cc2 : ByteArray} {maxL2 : Nat} {ret2 : Option FieldType} {x1 x2 x3 x4 : Value}  {h2 : q_H} (hl : q_LS own ix y2 cc2 maxL2 ret2 4) (hdg : decode cc pc = .ok (.invokestatic ix, 3)) (hs : SP d2 y2 cc2 maxL2 ret2 [x1, x2, x3, x4] n h none h2) (hd : d2 < d) (hst : (st.map fun v => v.category).sum ≤ 8) (kk : q_G Γ ad nL (pc + 3) la st n h2 0 0) : q_G Γ ad nL pc la (x4 :: x3 :: x2 :: x1 :: st) n h 0 0 :=
  g_callS (as := [x1, x2, x3, x4]) C hl hdg hs hd hst rfl kk
theorem g_V5v (C : q_C Γ ad d 0 0 own y cc nL ret) {d2 ix ci a : Nat} {y2 : MethodName} {cc2 : ByteArray} {maxL2 : Nat} {ret2 : Option FieldType} {fs : List Value} {x1 x2 x3 x4 x5 : Value} {v : Value} {h2 : q_H} (hl : q_LV own ix ci y2 cc2 maxL2 ret2 5) (hdg : decode cc pc = .ok (.invokevirtual ix, 3)) (hs : SP d2 y2 cc2 maxL2 ret2 [.ref a, x1, x2, x3, x4, x5] n h (some v) h2) (hh : h a = .inr (.inr (ci, fs))) (hd : d2 < d) (hst : (st.map fun v => v.category).sum ≤ 8) (kk : q_G Γ ad nL (pc + 3) la (v :: st) n h2 0 0) : q_G Γ ad nL pc la (x5 :: x4 :: x3 :: x2 :: x1 :: .ref a :: st) n h 0 0 :=
  g_callV (as := [x1, x2, x3, x4, x5]) C hl hdg hs hh hd hst rfl kk
theorem g_S5v (C : q_C Γ ad d 0 0 own y cc nL ret) {d2 ix : Nat} {y2 : MethodName} {cc2 : ByteArray} {maxL2 : Nat} {ret2 : Option FieldType} {x1 x2 x3 x4 x5 : Value} {v : Value} {h2 : q_H} (hl : q_LS own ix y2 cc2 maxL2 ret2 5) (hdg : decode cc pc = .ok (.invokestatic ix, 3)) (hs : SP d2 y2 cc2 maxL2 ret2 [x1, x2, x3, x4, x5] n h (some v) h2) (hd : d2 < d) (hst : (st.map fun v => v.category).sum ≤ 8) (kk : q_G Γ ad nL (pc + 3) la (v :: st) n h2 0 0) : q_G Γ ad nL pc la (x5 :: x4 :: x3 :: x2 :: x1 :: st) n h 0 0 :=
  g_callS (as := [x1, x2, x3, x4, x5]) C hl hdg hs hd hst rfl kk
theorem g_V5u (C : q_C Γ ad d 0 0 own y cc nL ret) {d2 ix ci a : Nat} {y2 : MethodName} {cc2 : ByteArray} {maxL2 : Nat} {ret2 : Option FieldType} {fs : List Value} {x1 x2 x3 x4 x5 : Value}  {h2 : q_H} (hl : q_LV own ix ci y2 cc2 maxL2 ret2 5) (hdg : decode cc pc = .ok (.invokevirtual ix, 3)) (hs : SP d2 y2 cc2 maxL2 ret2 [.ref a, x1, x2, x3, x4, x5] n h none h2) (hh : h a = .inr (.inr (ci, fs))) (hd : d2 < d) (hst : (st.map fun v => v.category).sum ≤ 8) (kk : q_G Γ ad nL (pc + 3) la st n h2 0 0) : q_G Γ ad nL pc la (x5 :: x4 :: x3 :: x2 :: x1 :: .ref a :: st) n h 0 0 :=
  g_callV (as := [x1, x2, x3, x4, x5]) C hl hdg hs hh hd hst rfl kk
theorem g_S5u (C : q_C Γ ad d 0 0 own y cc nL ret) {d2 ix : Nat} {y2 : MethodName} {cc2 : ByteArray} {maxL2 : Nat} {ret2 : Option FieldType} {x1 x2 x3 x4 x5 : Value}  {h2 : q_H} (hl : q_LS own ix y2 cc2 maxL2 ret2 5) (hdg : decode cc pc = .ok (.invokestatic ix, 3)) (hs : SP d2 y2 cc2 maxL2 ret2 [x1, x2, x3, x4, x5] n h none h2) (hd : d2 < d) (hst : (st.map fun v => v.category).sum ≤ 8) (kk : q_G Γ ad nL (pc + 3) la st n h2 0 0) : q_G Γ ad nL pc la (x5 :: x4 :: x3 :: x2 :: x1 :: st) n h 0 0 :=
  g_callS (as := [x1, x2, x3, x4, x5]) C hl hdg hs hd hst rfl kk
end QK
end
section
theorem q_zt1 {w : Cond} (h : w ∈ tables_1_1) (g : goodWord w = true) : w ∈ q_Z := List.mem_filter.mpr ⟨List.mem_append_right _ (List.mem_append_left _ h), g⟩
theorem q_zt2 {w : Cond} (h : w ∈ tables_1_2) (g : goodWord w = true) : w ∈ q_Z := List.mem_filter.mpr ⟨List.mem_append_right _ (List.mem_append_right _ (List.mem_append_left _ h)), g⟩
theorem q_zt3 {w : Cond} (h : w ∈ tables_1_3) (g : goodWord w = true) : w ∈ q_Z := List.mem_filter.mpr ⟨List.mem_append_right _ (List.mem_append_right _ (List.mem_append_right _ (List.mem_append_left _ h))), g⟩
theorem q_zt4 {w : Cond} (h : w ∈ tables_1_4) (g : goodWord w = true) : w ∈ q_Z := List.mem_filter.mpr ⟨List.mem_append_right _ (List.mem_append_right _ (List.mem_append_right _ (List.mem_append_right _ (List.mem_append_left _ h)))), g⟩
theorem q_zt5 {w : Cond} (h : w ∈ tables_1_5) (g : goodWord w = true) : w ∈ q_Z := List.mem_filter.mpr ⟨List.mem_append_right _ (List.mem_append_right _ (List.mem_append_right _ (List.mem_append_right _ (List.mem_append_right _ h)))), g⟩
theorem q_zts {w : Cond} (h : w ∈ k2_sels lw_privs) (g : goodWord w = true) : w ∈ q_Z := List.mem_filter.mpr ⟨List.mem_append_left _ h, g⟩
theorem zw1_148 : u_lay RX0 TX0 0 ∈ q_Z := q_zt1 (List.mem_of_getElem? (i := 148) rfl) rfl
theorem zw1_150 : u_lay RX0 TX0 1 ∈ q_Z := q_zt1 (List.mem_of_getElem? (i := 150) rfl) rfl
theorem zw1_152 : u_lay RX0 TX0 2 ∈ q_Z := q_zt1 (List.mem_of_getElem? (i := 152) rfl) rfl
theorem zw1_186 : u_lay RX1 TX1 0 ∈ q_Z := q_zt1 (List.mem_of_getElem? (i := 186) rfl) rfl
theorem zw1_188 : u_lay RX1 TX1 1 ∈ q_Z := q_zt1 (List.mem_of_getElem? (i := 188) rfl) rfl
theorem zw1_190 : u_lay RX1 TX1 2 ∈ q_Z := q_zt1 (List.mem_of_getElem? (i := 190) rfl) rfl
theorem zw1_192 : u_lay RX1 TX1 3 ∈ q_Z := q_zt1 (List.mem_of_getElem? (i := 192) rfl) rfl
theorem zw1_194 : u_lay RX1 TX1 4 ∈ q_Z := q_zt1 (List.mem_of_getElem? (i := 194) rfl) rfl
theorem zw1_196 : u_lay RX1 TX1 5 ∈ q_Z := q_zt1 (List.mem_of_getElem? (i := 196) rfl) rfl
theorem zw1_167 : u_lay RX2 TX2 0 ∈ q_Z := q_zt1 (List.mem_of_getElem? (i := 167) rfl) rfl
theorem zw1_169 : u_lay RX2 TX2 1 ∈ q_Z := q_zt1 (List.mem_of_getElem? (i := 169) rfl) rfl
theorem zw1_171 : u_lay RX2 TX2 2 ∈ q_Z := q_zt1 (List.mem_of_getElem? (i := 171) rfl) rfl
theorem zw1_36 : u_lay RX3 TX3 0 ∈ q_Z := q_zt1 (List.mem_of_getElem? (i := 36) rfl) rfl
theorem zw1_38 : u_lay RX3 TX3 1 ∈ q_Z := q_zt1 (List.mem_of_getElem? (i := 38) rfl) rfl
theorem zw1_40 : u_lay RX3 TX3 2 ∈ q_Z := q_zt1 (List.mem_of_getElem? (i := 40) rfl) rfl
theorem zw1_68 : u_lay RX4 TX4 0 ∈ q_Z := q_zt1 (List.mem_of_getElem? (i := 68) rfl) rfl
theorem zw1_70 : u_lay RX4 TX4 1 ∈ q_Z := q_zt1 (List.mem_of_getElem? (i := 70) rfl) rfl
theorem zw1_72 : u_lay RX4 TX4 2 ∈ q_Z := q_zt1 (List.mem_of_getElem? (i := 72) rfl) rfl
theorem zw1_74 : u_lay RX4 TX4 3 ∈ q_Z := q_zt1 (List.mem_of_getElem? (i := 74) rfl) rfl
theorem zw1_76 : u_lay RX4 TX4 4 ∈ q_Z := q_zt1 (List.mem_of_getElem? (i := 76) rfl) rfl
theorem zw1_78 : u_lay RX4 TX4 5 ∈ q_Z := q_zt1 (List.mem_of_getElem? (i := 78) rfl) rfl
theorem zw1_80 : u_lay RX4 TX4 6 ∈ q_Z := q_zt1 (List.mem_of_getElem? (i := 80) rfl) rfl
theorem zw1_82 : u_lay RX4 TX4 7 ∈ q_Z := q_zt1 (List.mem_of_getElem? (i := 82) rfl) rfl
theorem zw1_119 : u_lay RX5 TX5 0 ∈ q_Z := q_zt1 (List.mem_of_getElem? (i := 119) rfl) rfl
theorem zw1_121 : u_lay RX5 TX5 1 ∈ q_Z := q_zt1 (List.mem_of_getElem? (i := 121) rfl) rfl
theorem zw1_123 : u_lay RX5 TX5 2 ∈ q_Z := q_zt1 (List.mem_of_getElem? (i := 123) rfl) rfl
theorem zw1_125 : u_lay RX5 TX5 3 ∈ q_Z := q_zt1 (List.mem_of_getElem? (i := 125) rfl) rfl
theorem zw1_127 : u_lay RX5 TX5 4 ∈ q_Z := q_zt1 (List.mem_of_getElem? (i := 127) rfl) rfl
theorem zw1_129 : u_lay RX5 TX5 5 ∈ q_Z := q_zt1 (List.mem_of_getElem? (i := 129) rfl) rfl
theorem zw1_131 : u_lay RX5 TX5 6 ∈ q_Z := q_zt1 (List.mem_of_getElem? (i := 131) rfl) rfl
theorem zw1_133 : u_lay RX5 TX5 7 ∈ q_Z := q_zt1 (List.mem_of_getElem? (i := 133) rfl) rfl
theorem zw1_100 : u_lay RX6 TX6 0 ∈ q_Z := q_zt1 (List.mem_of_getElem? (i := 100) rfl) rfl
theorem zw1_102 : u_lay RX6 TX6 1 ∈ q_Z := q_zt1 (List.mem_of_getElem? (i := 102) rfl) rfl
theorem zw1_208 : u_lay RX7 TX7 0 ∈ q_Z := q_zt1 (List.mem_of_getElem? (i := 208) rfl) rfl
theorem zw1_210 : u_lay RX7 TX7 1 ∈ q_Z := q_zt1 (List.mem_of_getElem? (i := 210) rfl) rfl
theorem zw1_212 : u_lay RX7 TX7 2 ∈ q_Z := q_zt1 (List.mem_of_getElem? (i := 212) rfl) rfl
theorem zw1_214 : u_lay RX7 TX7 3 ∈ q_Z := q_zt1 (List.mem_of_getElem? (i := 214) rfl) rfl
theorem zw1_216 : u_lay RX7 TX7 4 ∈ q_Z := q_zt1 (List.mem_of_getElem? (i := 216) rfl) rfl
theorem zw1_218 : u_lay RX7 TX7 5 ∈ q_Z := q_zt1 (List.mem_of_getElem? (i := 218) rfl) rfl
theorem zw1_220 : u_lay RX7 TX7 6 ∈ q_Z := q_zt1 (List.mem_of_getElem? (i := 220) rfl) rfl
theorem zw1_222 : u_lay RX7 TX7 7 ∈ q_Z := q_zt1 (List.mem_of_getElem? (i := 222) rfl) rfl
theorem zw1_224 : u_lay RX7 TX7 8 ∈ q_Z := q_zt1 (List.mem_of_getElem? (i := 224) rfl) rfl
theorem zw4_108 : u_lay RX8 TX8 0 ∈ q_Z := q_zt4 (List.mem_of_getElem? (i := 108) rfl) rfl
theorem zw4_110 : u_lay RX8 TX8 1 ∈ q_Z := q_zt4 (List.mem_of_getElem? (i := 110) rfl) rfl
theorem zw4_112 : u_lay RX8 TX8 2 ∈ q_Z := q_zt4 (List.mem_of_getElem? (i := 112) rfl) rfl
theorem zw4_114 : u_lay RX8 TX8 3 ∈ q_Z := q_zt4 (List.mem_of_getElem? (i := 114) rfl) rfl
theorem zw4_116 : u_lay RX8 TX8 4 ∈ q_Z := q_zt4 (List.mem_of_getElem? (i := 116) rfl) rfl
theorem zw4_118 : u_lay RX8 TX8 5 ∈ q_Z := q_zt4 (List.mem_of_getElem? (i := 118) rfl) rfl
theorem zw4_120 : u_lay RX8 TX8 6 ∈ q_Z := q_zt4 (List.mem_of_getElem? (i := 120) rfl) rfl
theorem zw4_122 : u_lay RX8 TX8 7 ∈ q_Z := q_zt4 (List.mem_of_getElem? (i := 122) rfl) rfl
theorem zw4_124 : u_lay RX8 TX8 8 ∈ q_Z := q_zt4 (List.mem_of_getElem? (i := 124) rfl) rfl
theorem zw4_126 : u_lay RX8 TX8 9 ∈ q_Z := q_zt4 (List.mem_of_getElem? (i := 126) rfl) rfl
theorem zw4_128 : u_lay RX8 TX8 10 ∈ q_Z := q_zt4 (List.mem_of_getElem? (i := 128) rfl) rfl
theorem zw4_130 : u_lay RX8 TX8 11 ∈ q_Z := q_zt4 (List.mem_of_getElem? (i := 130) rfl) rfl
theorem zw4_132 : u_lay RX8 TX8 12 ∈ q_Z := q_zt4 (List.mem_of_getElem? (i := 132) rfl) rfl
theorem zw4_134 : u_lay RX8 TX8 13 ∈ q_Z := q_zt4 (List.mem_of_getElem? (i := 134) rfl) rfl
theorem zw4_136 : u_lay RX8 TX8 14 ∈ q_Z := q_zt4 (List.mem_of_getElem? (i := 136) rfl) rfl
theorem zw4_138 : u_lay RX8 TX8 15 ∈ q_Z := q_zt4 (List.mem_of_getElem? (i := 138) rfl) rfl
theorem zw4_140 : u_lay RX8 TX8 16 ∈ q_Z := q_zt4 (List.mem_of_getElem? (i := 140) rfl) rfl
theorem zw4_142 : u_lay RX8 TX8 17 ∈ q_Z := q_zt4 (List.mem_of_getElem? (i := 142) rfl) rfl
theorem zw4_144 : u_lay RX8 TX8 18 ∈ q_Z := q_zt4 (List.mem_of_getElem? (i := 144) rfl) rfl
theorem zw4_146 : u_lay RX8 TX8 19 ∈ q_Z := q_zt4 (List.mem_of_getElem? (i := 146) rfl) rfl
theorem zw4_148 : u_lay RX8 TX8 20 ∈ q_Z := q_zt4 (List.mem_of_getElem? (i := 148) rfl) rfl
theorem zw4_150 : u_lay RX8 TX8 21 ∈ q_Z := q_zt4 (List.mem_of_getElem? (i := 150) rfl) rfl
theorem zw1_141 : Cond.methodLink RX0 3 objectInit ∈ q_Z := q_zt1 (List.mem_of_getElem? (i := 141) rfl) rfl
theorem zw1_22 : Cond.instanceMethod objectInit ∈ q_Z := q_zt1 (List.mem_of_getElem? (i := 22) rfl) rfl
theorem zw1_23 : Cond.code objectInit ⟨#[0xb1]⟩ 1 none ∈ q_Z := q_zt1 (List.mem_of_getElem? (i := 23) rfl) rfl
theorem zw1_144 : Cond.fieldLink RX0 11 RX0 (TX0 0).2.1 (TX0 0).2.2.1 ∈ q_Z := q_zt1 (List.mem_of_getElem? (i := 144) rfl) rfl
theorem zw1_49 : Cond.code yX4_init cX4_init 1 none ∈ q_Z := q_zt1 (List.mem_of_getElem? (i := 49) rfl) rfl
theorem zw1_3 : Cond.initialized RX4 ∈ q_Z := q_zt1 (List.mem_of_getElem? (i := 3) rfl) rfl
theorem zw1_145 : Cond.fieldLink RX0 18 RX0 (TX0 1).2.1 (TX0 1).2.2.1 ∈ q_Z := q_zt1 (List.mem_of_getElem? (i := 145) rfl) rfl
theorem zw2_238 : Cond.code yX0_at cX0_at 2 (some (.object "TurningDishes$Table")) ∈ q_Z := q_zt2 (List.mem_of_getElem? (i := 238) rfl) rfl
theorem zw1_6 : Cond.initialized RX0 ∈ q_Z := q_zt1 (List.mem_of_getElem? (i := 6) rfl) rfl
theorem zw2_235 : Cond.methodLink RX0 22 yX0_at ∈ q_Z := q_zt2 (List.mem_of_getElem? (i := 235) rfl) rfl
theorem zw2_237 : Cond.instanceMethod yX0_at ∈ q_Z := q_zt2 (List.mem_of_getElem? (i := 237) rfl) rfl
theorem zs_10 : Cond.selects RX0 yX0_at yX0_at ∈ q_Z := q_zts (List.mem_of_getElem? (i := 10) rfl) rfl
theorem zw2_211 : Cond.code yX4_become cX4_become 2 none ∈ q_Z := q_zt2 (List.mem_of_getElem? (i := 211) rfl) rfl
theorem zw2_239 : Cond.methodLink RX0 26 yX4_become ∈ q_Z := q_zt2 (List.mem_of_getElem? (i := 239) rfl) rfl
theorem zw2_209 : Cond.instanceMethod yX4_become ∈ q_Z := q_zt2 (List.mem_of_getElem? (i := 209) rfl) rfl
theorem zw2_210 : Cond.selects RX4 yX4_become yX4_become ∈ q_Z := q_zt2 (List.mem_of_getElem? (i := 210) rfl) rfl
theorem zw3_2 : Cond.code yX7_leftOver cX7_leftOver 3 (some .int) ∈ q_Z := q_zt3 (List.mem_of_getElem? (i := 2) rfl) rfl
theorem zw1_1 : Cond.initialized RX7 ∈ q_Z := q_zt1 (List.mem_of_getElem? (i := 1) rfl) rfl
theorem zw3_1 : Cond.static yX7_leftOver ∈ q_Z := q_zt3 (List.mem_of_getElem? (i := 1) rfl) rfl
theorem zw1_146 : Cond.fieldLink RX0 34 RX0 (TX0 2).2.1 (TX0 2).2.2.1 ∈ q_Z := q_zt1 (List.mem_of_getElem? (i := 146) rfl) rfl
theorem zw3_3 : Cond.methodLink RX0 37 Lib.Math.min.name ∈ q_Z := q_zt3 (List.mem_of_getElem? (i := 3) rfl) rfl
theorem zw2_9 : Cond.static Lib.Math.min.name ∈ q_Z := q_zt2 (List.mem_of_getElem? (i := 9) rfl) rfl
theorem zw1_10 : Cond.initialized "java/lang/Math" ∈ q_Z := q_zt1 (List.mem_of_getElem? (i := 10) rfl) rfl
theorem zw2_10 : Cond.code Lib.Math.min.name Lib.Math.min.code 2 (some .int) ∈ q_Z := q_zt2 (List.mem_of_getElem? (i := 10) rfl) rfl
theorem zw1_179 : Cond.methodLink RX1 3 objectInit ∈ q_Z := q_zt1 (List.mem_of_getElem? (i := 179) rfl) rfl
theorem zw1_180 : Cond.fieldLink RX1 9 RX1 (TX1 0).2.1 (TX1 0).2.2.1 ∈ q_Z := q_zt1 (List.mem_of_getElem? (i := 180) rfl) rfl
theorem zw1_181 : Cond.fieldLink RX1 15 RX1 (TX1 1).2.1 (TX1 1).2.2.1 ∈ q_Z := q_zt1 (List.mem_of_getElem? (i := 181) rfl) rfl
theorem zw1_182 : Cond.fieldLink RX1 19 RX1 (TX1 2).2.1 (TX1 2).2.2.1 ∈ q_Z := q_zt1 (List.mem_of_getElem? (i := 182) rfl) rfl
theorem zw3_12 : Cond.code yX4_of cX4_of 4 (some .int) ∈ q_Z := q_zt3 (List.mem_of_getElem? (i := 12) rfl) rfl
theorem zw4_2 : Cond.methodLink RX1 24 yX4_of ∈ q_Z := q_zt4 (List.mem_of_getElem? (i := 2) rfl) rfl
theorem zw3_10 : Cond.instanceMethod yX4_of ∈ q_Z := q_zt3 (List.mem_of_getElem? (i := 10) rfl) rfl
theorem zw3_11 : Cond.selects RX4 yX4_of yX4_of ∈ q_Z := q_zt3 (List.mem_of_getElem? (i := 11) rfl) rfl
theorem zw1_183 : Cond.fieldLink RX1 28 RX1 (TX1 3).2.1 (TX1 3).2.2.1 ∈ q_Z := q_zt1 (List.mem_of_getElem? (i := 183) rfl) rfl
theorem zw1_184 : Cond.fieldLink RX1 31 RX1 (TX1 4).2.1 (TX1 4).2.2.1 ∈ q_Z := q_zt1 (List.mem_of_getElem? (i := 184) rfl) rfl
theorem zw1_185 : Cond.fieldLink RX1 34 RX1 (TX1 5).2.1 (TX1 5).2.2.1 ∈ q_Z := q_zt1 (List.mem_of_getElem? (i := 185) rfl) rfl
theorem zw4_63 : Cond.constant RX1 37 (-1000000) ∈ q_Z := q_zt4 (List.mem_of_getElem? (i := 63) rfl) rfl
theorem zw4_10 : Cond.code yX1_size12 cX1_size12 1 (some .int) ∈ q_Z := q_zt4 (List.mem_of_getElem? (i := 10) rfl) rfl
theorem zw1_8 : Cond.initialized RX1 ∈ q_Z := q_zt1 (List.mem_of_getElem? (i := 8) rfl) rfl
theorem zw4_7 : Cond.methodLink RX1 38 yX1_size12 ∈ q_Z := q_zt4 (List.mem_of_getElem? (i := 7) rfl) rfl
theorem zw4_9 : Cond.instanceMethod yX1_size12 ∈ q_Z := q_zt4 (List.mem_of_getElem? (i := 9) rfl) rfl
theorem zs_19 : Cond.selects RX1 yX1_size12 yX1_size12 ∈ q_Z := q_zts (List.mem_of_getElem? (i := 19) rfl) rfl
theorem zw4_42 : Cond.code yX1_size13 cX1_size13 1 (some .int) ∈ q_Z := q_zt4 (List.mem_of_getElem? (i := 42) rfl) rfl
theorem zw4_39 : Cond.methodLink RX1 42 yX1_size13 ∈ q_Z := q_zt4 (List.mem_of_getElem? (i := 39) rfl) rfl
theorem zw4_41 : Cond.instanceMethod yX1_size13 ∈ q_Z := q_zt4 (List.mem_of_getElem? (i := 41) rfl) rfl
theorem zs_27 : Cond.selects RX1 yX1_size13 yX1_size13 ∈ q_Z := q_zts (List.mem_of_getElem? (i := 27) rfl) rfl
theorem zw4_46 : Cond.code yX1_size14 cX1_size14 1 (some .int) ∈ q_Z := q_zt4 (List.mem_of_getElem? (i := 46) rfl) rfl
theorem zw4_43 : Cond.methodLink RX1 45 yX1_size14 ∈ q_Z := q_zt4 (List.mem_of_getElem? (i := 43) rfl) rfl
theorem zw4_45 : Cond.instanceMethod yX1_size14 ∈ q_Z := q_zt4 (List.mem_of_getElem? (i := 45) rfl) rfl
theorem zs_28 : Cond.selects RX1 yX1_size14 yX1_size14 ∈ q_Z := q_zts (List.mem_of_getElem? (i := 28) rfl) rfl
theorem zw4_18 : Cond.code yX1_size11 cX1_size11 2 (some .int) ∈ q_Z := q_zt4 (List.mem_of_getElem? (i := 18) rfl) rfl
theorem zw4_15 : Cond.methodLink RX1 48 yX1_size11 ∈ q_Z := q_zt4 (List.mem_of_getElem? (i := 15) rfl) rfl
theorem zw4_17 : Cond.instanceMethod yX1_size11 ∈ q_Z := q_zt4 (List.mem_of_getElem? (i := 17) rfl) rfl
theorem zs_21 : Cond.selects RX1 yX1_size11 yX1_size11 ∈ q_Z := q_zts (List.mem_of_getElem? (i := 21) rfl) rfl
theorem zw4_26 : Cond.code yX1_mark24 cX1_mark24 1 (some .int) ∈ q_Z := q_zt4 (List.mem_of_getElem? (i := 26) rfl) rfl
theorem zw4_23 : Cond.methodLink RX1 51 yX1_mark24 ∈ q_Z := q_zt4 (List.mem_of_getElem? (i := 23) rfl) rfl
theorem zw4_25 : Cond.instanceMethod yX1_mark24 ∈ q_Z := q_zt4 (List.mem_of_getElem? (i := 25) rfl) rfl
theorem zs_23 : Cond.selects RX1 yX1_mark24 yX1_mark24 ∈ q_Z := q_zts (List.mem_of_getElem? (i := 23) rfl) rfl
theorem zw4_38 : Cond.code yX1_mark22 cX1_mark22 1 (some .int) ∈ q_Z := q_zt4 (List.mem_of_getElem? (i := 38) rfl) rfl
theorem zw4_35 : Cond.methodLink RX1 54 yX1_mark22 ∈ q_Z := q_zt4 (List.mem_of_getElem? (i := 35) rfl) rfl
theorem zw4_37 : Cond.instanceMethod yX1_mark22 ∈ q_Z := q_zt4 (List.mem_of_getElem? (i := 37) rfl) rfl
theorem zs_26 : Cond.selects RX1 yX1_mark22 yX1_mark22 ∈ q_Z := q_zts (List.mem_of_getElem? (i := 26) rfl) rfl
theorem zw4_54 : Cond.code yX1_mark23 cX1_mark23 2 (some .int) ∈ q_Z := q_zt4 (List.mem_of_getElem? (i := 54) rfl) rfl
theorem zw4_51 : Cond.methodLink RX1 57 yX1_mark23 ∈ q_Z := q_zt4 (List.mem_of_getElem? (i := 51) rfl) rfl
theorem zw4_53 : Cond.instanceMethod yX1_mark23 ∈ q_Z := q_zt4 (List.mem_of_getElem? (i := 53) rfl) rfl
theorem zs_29 : Cond.selects RX1 yX1_mark23 yX1_mark23 ∈ q_Z := q_zts (List.mem_of_getElem? (i := 29) rfl) rfl
theorem zw4_30 : Cond.code yX1_mark21 cX1_mark21 1 (some .int) ∈ q_Z := q_zt4 (List.mem_of_getElem? (i := 30) rfl) rfl
theorem zw4_27 : Cond.methodLink RX1 60 yX1_mark21 ∈ q_Z := q_zt4 (List.mem_of_getElem? (i := 27) rfl) rfl
theorem zw4_29 : Cond.instanceMethod yX1_mark21 ∈ q_Z := q_zt4 (List.mem_of_getElem? (i := 29) rfl) rfl
theorem zs_24 : Cond.selects RX1 yX1_mark21 yX1_mark21 ∈ q_Z := q_zts (List.mem_of_getElem? (i := 24) rfl) rfl
theorem zw4_14 : Cond.code yX1_leave cX1_leave 2 none ∈ q_Z := q_zt4 (List.mem_of_getElem? (i := 14) rfl) rfl
theorem zw4_11 : Cond.methodLink RX1 63 yX1_leave ∈ q_Z := q_zt4 (List.mem_of_getElem? (i := 11) rfl) rfl
theorem zw4_13 : Cond.instanceMethod yX1_leave ∈ q_Z := q_zt4 (List.mem_of_getElem? (i := 13) rfl) rfl
theorem zs_20 : Cond.selects RX1 yX1_leave yX1_leave ∈ q_Z := q_zts (List.mem_of_getElem? (i := 20) rfl) rfl
theorem zw4_22 : Cond.code yX1_size10 cX1_size10 1 (some .int) ∈ q_Z := q_zt4 (List.mem_of_getElem? (i := 22) rfl) rfl
theorem zw4_19 : Cond.methodLink RX1 67 yX1_size10 ∈ q_Z := q_zt4 (List.mem_of_getElem? (i := 19) rfl) rfl
theorem zw4_21 : Cond.instanceMethod yX1_size10 ∈ q_Z := q_zt4 (List.mem_of_getElem? (i := 21) rfl) rfl
theorem zs_22 : Cond.selects RX1 yX1_size10 yX1_size10 ∈ q_Z := q_zts (List.mem_of_getElem? (i := 22) rfl) rfl
theorem zw4_34 : Cond.code yX1_mark20 cX1_mark20 1 (some .int) ∈ q_Z := q_zt4 (List.mem_of_getElem? (i := 34) rfl) rfl
theorem zw4_31 : Cond.methodLink RX1 70 yX1_mark20 ∈ q_Z := q_zt4 (List.mem_of_getElem? (i := 31) rfl) rfl
theorem zw4_33 : Cond.instanceMethod yX1_mark20 ∈ q_Z := q_zt4 (List.mem_of_getElem? (i := 33) rfl) rfl
theorem zs_25 : Cond.selects RX1 yX1_mark20 yX1_mark20 ∈ q_Z := q_zts (List.mem_of_getElem? (i := 25) rfl) rfl
theorem zw1_160 : Cond.methodLink RX2 3 objectInit ∈ q_Z := q_zt1 (List.mem_of_getElem? (i := 160) rfl) rfl
theorem zw1_163 : Cond.fieldLink RX2 12 RX2 (TX2 0).2.1 (TX2 0).2.2.1 ∈ q_Z := q_zt1 (List.mem_of_getElem? (i := 163) rfl) rfl
theorem zw1_165 : Cond.fieldLink RX2 18 RX2 (TX2 1).2.1 (TX2 1).2.2.1 ∈ q_Z := q_zt1 (List.mem_of_getElem? (i := 165) rfl) rfl
theorem zw1_166 : Cond.fieldLink RX2 22 RX2 (TX2 2).2.1 (TX2 2).2.2.1 ∈ q_Z := q_zt1 (List.mem_of_getElem? (i := 166) rfl) rfl
theorem zw3_99 : Cond.methodLink RX2 25 yX4_become ∈ q_Z := q_zt3 (List.mem_of_getElem? (i := 99) rfl) rfl
theorem zw3_100 : Cond.constant RX2 29 (1000000) ∈ q_Z := q_zt3 (List.mem_of_getElem? (i := 100) rfl) rfl
theorem zw3_104 : Cond.code yX2_passMinutes cX2_passMinutes 5 (some .int) ∈ q_Z := q_zt3 (List.mem_of_getElem? (i := 104) rfl) rfl
theorem zw1_7 : Cond.initialized RX2 ∈ q_Z := q_zt1 (List.mem_of_getElem? (i := 7) rfl) rfl
theorem zw3_101 : Cond.methodLink RX2 30 yX2_passMinutes ∈ q_Z := q_zt3 (List.mem_of_getElem? (i := 101) rfl) rfl
theorem zw3_103 : Cond.instanceMethod yX2_passMinutes ∈ q_Z := q_zt3 (List.mem_of_getElem? (i := 103) rfl) rfl
theorem zs_13 : Cond.selects RX2 yX2_passMinutes yX2_passMinutes ∈ q_Z := q_zts (List.mem_of_getElem? (i := 13) rfl) rfl
theorem zw3_7 : Cond.code yX4_passMinute cX4_passMinute 2 none ∈ q_Z := q_zt3 (List.mem_of_getElem? (i := 7) rfl) rfl
theorem zw3_105 : Cond.methodLink RX2 34 yX4_passMinute ∈ q_Z := q_zt3 (List.mem_of_getElem? (i := 105) rfl) rfl
theorem zw3_5 : Cond.instanceMethod yX4_passMinute ∈ q_Z := q_zt3 (List.mem_of_getElem? (i := 5) rfl) rfl
theorem zw3_6 : Cond.selects RX4 yX4_passMinute yX4_passMinute ∈ q_Z := q_zt3 (List.mem_of_getElem? (i := 6) rfl) rfl
theorem zw3_65 : Cond.code yX4_swapSeats cX4_swapSeats 5 none ∈ q_Z := q_zt3 (List.mem_of_getElem? (i := 65) rfl) rfl
theorem zw3_118 : Cond.methodLink RX2 41 yX4_swapSeats ∈ q_Z := q_zt3 (List.mem_of_getElem? (i := 118) rfl) rfl
theorem zw3_63 : Cond.instanceMethod yX4_swapSeats ∈ q_Z := q_zt3 (List.mem_of_getElem? (i := 63) rfl) rfl
theorem zw3_64 : Cond.selects RX4 yX4_swapSeats yX4_swapSeats ∈ q_Z := q_zt3 (List.mem_of_getElem? (i := 64) rfl) rfl
theorem zw3_119 : Cond.methodLink RX2 45 yX4_of ∈ q_Z := q_zt3 (List.mem_of_getElem? (i := 119) rfl) rfl
theorem zw3_117 : Cond.code yX2_eatsSeatedAs cX2_eatsSeatedAs 5 (some .int) ∈ q_Z := q_zt3 (List.mem_of_getElem? (i := 117) rfl) rfl
theorem zw3_210 : Cond.methodLink RX2 51 yX2_eatsSeatedAs ∈ q_Z := q_zt3 (List.mem_of_getElem? (i := 210) rfl) rfl
theorem zw3_115 : Cond.instanceMethod yX2_eatsSeatedAs ∈ q_Z := q_zt3 (List.mem_of_getElem? (i := 115) rfl) rfl
theorem zw3_116 : Cond.selects RX2 yX2_eatsSeatedAs yX2_eatsSeatedAs ∈ q_Z := q_zt3 (List.mem_of_getElem? (i := 116) rfl) rfl
theorem zw3_128 : Cond.constant RX2 61 (-1000000) ∈ q_Z := q_zt3 (List.mem_of_getElem? (i := 128) rfl) rfl
theorem zw3_156 : Cond.code yX2_toTheRightForOthers cX2_toTheRightForOthers 6 (some .int) ∈ q_Z := q_zt3 (List.mem_of_getElem? (i := 156) rfl) rfl
theorem zw3_155 : Cond.static yX2_toTheRightForOthers ∈ q_Z := q_zt3 (List.mem_of_getElem? (i := 155) rfl) rfl
theorem zw3_154 : Cond.methodLink RX2 62 yX2_toTheRightForOthers ∈ q_Z := q_zt3 (List.mem_of_getElem? (i := 154) rfl) rfl
theorem zw3_160 : Cond.methodLink RX2 66 Lib.Math.min.name ∈ q_Z := q_zt3 (List.mem_of_getElem? (i := 160) rfl) rfl
theorem zw3_25 : Cond.code yX4_toTheLeft cX4_toTheLeft 3 (some .int) ∈ q_Z := q_zt3 (List.mem_of_getElem? (i := 25) rfl) rfl
theorem zw3_157 : Cond.methodLink RX2 71 yX4_toTheLeft ∈ q_Z := q_zt3 (List.mem_of_getElem? (i := 157) rfl) rfl
theorem zw3_23 : Cond.instanceMethod yX4_toTheLeft ∈ q_Z := q_zt3 (List.mem_of_getElem? (i := 23) rfl) rfl
theorem zw3_24 : Cond.selects RX4 yX4_toTheLeft yX4_toTheLeft ∈ q_Z := q_zt3 (List.mem_of_getElem? (i := 24) rfl) rfl
theorem zw3_20 : Cond.code yX4_has cX4_has 2 (some .boolean) ∈ q_Z := q_zt3 (List.mem_of_getElem? (i := 20) rfl) rfl
theorem zw3_158 : Cond.methodLink RX2 74 yX4_has ∈ q_Z := q_zt3 (List.mem_of_getElem? (i := 158) rfl) rfl
theorem zw3_18 : Cond.instanceMethod yX4_has ∈ q_Z := q_zt3 (List.mem_of_getElem? (i := 18) rfl) rfl
theorem zw3_19 : Cond.selects RX4 yX4_has yX4_has ∈ q_Z := q_zt3 (List.mem_of_getElem? (i := 19) rfl) rfl
theorem zw3_159 : Cond.methodLink RX2 78 Lib.Math.max.name ∈ q_Z := q_zt3 (List.mem_of_getElem? (i := 159) rfl) rfl
theorem zw2_12 : Cond.static Lib.Math.max.name ∈ q_Z := q_zt2 (List.mem_of_getElem? (i := 12) rfl) rfl
theorem zw2_13 : Cond.code Lib.Math.max.name Lib.Math.max.code 2 (some .int) ∈ q_Z := q_zt2 (List.mem_of_getElem? (i := 13) rfl) rfl
theorem zw3_172 : Cond.code yX2_layAsTried cX2_layAsTried 2 none ∈ q_Z := q_zt3 (List.mem_of_getElem? (i := 172) rfl) rfl
theorem zw3_169 : Cond.methodLink RX2 81 yX2_layAsTried ∈ q_Z := q_zt3 (List.mem_of_getElem? (i := 169) rfl) rfl
theorem zw3_171 : Cond.instanceMethod yX2_layAsTried ∈ q_Z := q_zt3 (List.mem_of_getElem? (i := 171) rfl) rfl
theorem zs_14 : Cond.selects RX2 yX2_layAsTried yX2_layAsTried ∈ q_Z := q_zts (List.mem_of_getElem? (i := 14) rfl) rfl
theorem zw3_174 : Cond.methodLink RX2 84 arraycopyName ∈ q_Z := q_zt3 (List.mem_of_getElem? (i := 174) rfl) rfl
theorem zw2_49 : Cond.native arraycopyName ∈ q_Z := q_zt2 (List.mem_of_getElem? (i := 49) rfl) rfl
theorem zw2_48 : Cond.static arraycopyName ∈ q_Z := q_zt2 (List.mem_of_getElem? (i := 48) rfl) rfl
theorem zw1_11 : Cond.initialized "java/lang/System" ∈ q_Z := q_zt1 (List.mem_of_getElem? (i := 11) rfl) rfl
theorem zw3_178 : Cond.code yX2_toNextOrder cX2_toNextOrder 6 (some .boolean) ∈ q_Z := q_zt3 (List.mem_of_getElem? (i := 178) rfl) rfl
theorem zw3_175 : Cond.methodLink RX2 90 yX2_toNextOrder ∈ q_Z := q_zt3 (List.mem_of_getElem? (i := 175) rfl) rfl
theorem zw3_177 : Cond.instanceMethod yX2_toNextOrder ∈ q_Z := q_zt3 (List.mem_of_getElem? (i := 177) rfl) rfl
theorem zs_15 : Cond.selects RX2 yX2_toNextOrder yX2_toNextOrder ∈ q_Z := q_zts (List.mem_of_getElem? (i := 15) rfl) rfl
theorem zw2_196 : Cond.code yX4_layIn cX4_layIn 3 none ∈ q_Z := q_zt2 (List.mem_of_getElem? (i := 196) rfl) rfl
theorem zw3_173 : Cond.methodLink RX2 93 yX4_layIn ∈ q_Z := q_zt3 (List.mem_of_getElem? (i := 173) rfl) rfl
theorem zw2_194 : Cond.instanceMethod yX4_layIn ∈ q_Z := q_zt2 (List.mem_of_getElem? (i := 194) rfl) rfl
theorem zw2_195 : Cond.selects RX4 yX4_layIn yX4_layIn ∈ q_Z := q_zt2 (List.mem_of_getElem? (i := 195) rfl) rfl
theorem zw3_182 : Cond.code yX2_swapTried cX2_swapTried 4 none ∈ q_Z := q_zt3 (List.mem_of_getElem? (i := 182) rfl) rfl
theorem zw3_179 : Cond.methodLink RX2 96 yX2_swapTried ∈ q_Z := q_zt3 (List.mem_of_getElem? (i := 179) rfl) rfl
theorem zw3_181 : Cond.instanceMethod yX2_swapTried ∈ q_Z := q_zt3 (List.mem_of_getElem? (i := 181) rfl) rfl
theorem zs_16 : Cond.selects RX2 yX2_swapTried yX2_swapTried ∈ q_Z := q_zts (List.mem_of_getElem? (i := 16) rfl) rfl
theorem zw1_237 : Cond.code yX7_within cX7_within 3 (some .boolean) ∈ q_Z := q_zt1 (List.mem_of_getElem? (i := 237) rfl) rfl
theorem zw1_236 : Cond.static yX7_within ∈ q_Z := q_zt1 (List.mem_of_getElem? (i := 236) rfl) rfl
theorem zw2_192 : Cond.code yX4_put cX4_put 5 none ∈ q_Z := q_zt2 (List.mem_of_getElem? (i := 192) rfl) rfl
theorem zw3_196 : Cond.methodLink RX2 103 yX4_put ∈ q_Z := q_zt3 (List.mem_of_getElem? (i := 196) rfl) rfl
theorem zw2_190 : Cond.instanceMethod yX4_put ∈ q_Z := q_zt2 (List.mem_of_getElem? (i := 190) rfl) rfl
theorem zw2_191 : Cond.selects RX4 yX4_put yX4_put ∈ q_Z := q_zt2 (List.mem_of_getElem? (i := 191) rfl) rfl
theorem zw3_200 : Cond.code yX2_isLeft cX2_isLeft 4 (some .boolean) ∈ q_Z := q_zt3 (List.mem_of_getElem? (i := 200) rfl) rfl
theorem zw3_197 : Cond.methodLink RX2 107 yX2_isLeft ∈ q_Z := q_zt3 (List.mem_of_getElem? (i := 197) rfl) rfl
theorem zw3_199 : Cond.instanceMethod yX2_isLeft ∈ q_Z := q_zt3 (List.mem_of_getElem? (i := 199) rfl) rfl
theorem zs_17 : Cond.selects RX2 yX2_isLeft yX2_isLeft ∈ q_Z := q_zts (List.mem_of_getElem? (i := 17) rfl) rfl
theorem zw2_37 : Cond.code yX3_item cX3_item 2 (some .int) ∈ q_Z := q_zt2 (List.mem_of_getElem? (i := 37) rfl) rfl
theorem zw1_2 : Cond.initialized RX3 ∈ q_Z := q_zt1 (List.mem_of_getElem? (i := 2) rfl) rfl
theorem zw3_201 : Cond.methodLink RX2 111 yX3_item ∈ q_Z := q_zt3 (List.mem_of_getElem? (i := 201) rfl) rfl
theorem zw2_35 : Cond.instanceMethod yX3_item ∈ q_Z := q_zt2 (List.mem_of_getElem? (i := 35) rfl) rfl
theorem zw2_36 : Cond.selects RX3 yX3_item yX3_item ∈ q_Z := q_zt2 (List.mem_of_getElem? (i := 36) rfl) rfl
theorem zw1_30 : Cond.methodLink RX3 3 objectInit ∈ q_Z := q_zt1 (List.mem_of_getElem? (i := 30) rfl) rfl
theorem zw1_31 : Cond.fieldLink RX3 9 RX3 (TX3 0).2.1 (TX3 0).2.2.1 ∈ q_Z := q_zt1 (List.mem_of_getElem? (i := 31) rfl) rfl
theorem zw1_32 : Cond.fieldLink RX3 15 RX3 (TX3 1).2.1 (TX3 1).2.2.1 ∈ q_Z := q_zt1 (List.mem_of_getElem? (i := 32) rfl) rfl
theorem zw2_8 : Cond.methodLink RX3 19 Lib.Math.min.name ∈ q_Z := q_zt2 (List.mem_of_getElem? (i := 8) rfl) rfl
theorem zw2_11 : Cond.methodLink RX3 25 Lib.Math.max.name ∈ q_Z := q_zt2 (List.mem_of_getElem? (i := 11) rfl) rfl
theorem zw1_34 : Cond.fieldLink RX3 28 RX3 (TX3 2).2.1 (TX3 2).2.2.1 ∈ q_Z := q_zt1 (List.mem_of_getElem? (i := 34) rfl) rfl
theorem zw2_29 : Cond.code yX3_hasPlaces cX3_hasPlaces 3 (some .boolean) ∈ q_Z := q_zt2 (List.mem_of_getElem? (i := 29) rfl) rfl
theorem zw2_46 : Cond.methodLink RX3 31 yX3_hasPlaces ∈ q_Z := q_zt2 (List.mem_of_getElem? (i := 46) rfl) rfl
theorem zw2_27 : Cond.instanceMethod yX3_hasPlaces ∈ q_Z := q_zt2 (List.mem_of_getElem? (i := 27) rfl) rfl
theorem zw2_28 : Cond.selects RX3 yX3_hasPlaces yX3_hasPlaces ∈ q_Z := q_zt2 (List.mem_of_getElem? (i := 28) rfl) rfl
theorem zw2_47 : Cond.methodLink RX3 35 arraycopyName ∈ q_Z := q_zt2 (List.mem_of_getElem? (i := 47) rfl) rfl
theorem zw1_50 : Cond.methodLink RX4 3 objectInit ∈ q_Z := q_zt1 (List.mem_of_getElem? (i := 50) rfl) rfl
theorem zw1_51 : Cond.fieldLink RX4 11 RX4 (TX4 0).2.1 (TX4 0).2.2.1 ∈ q_Z := q_zt1 (List.mem_of_getElem? (i := 51) rfl) rfl
theorem zw3_9 : Cond.methodLink RX4 15 yX4_of ∈ q_Z := q_zt3 (List.mem_of_getElem? (i := 9) rfl) rfl
theorem zw2_189 : Cond.methodLink RX4 19 yX4_put ∈ q_Z := q_zt2 (List.mem_of_getElem? (i := 189) rfl) rfl
theorem zw1_53 : Cond.fieldLink RX4 23 RX4 (TX4 1).2.1 (TX4 1).2.2.1 ∈ q_Z := q_zt1 (List.mem_of_getElem? (i := 53) rfl) rfl
theorem zw1_56 : Cond.fieldLink RX4 27 RX4 (TX4 2).2.1 (TX4 2).2.2.1 ∈ q_Z := q_zt1 (List.mem_of_getElem? (i := 56) rfl) rfl
theorem zw1_58 : Cond.fieldLink RX4 30 RX4 (TX4 3).2.1 (TX4 3).2.2.1 ∈ q_Z := q_zt1 (List.mem_of_getElem? (i := 58) rfl) rfl
theorem zw2_212 : Cond.methodLink RX4 33 arraycopyName ∈ q_Z := q_zt2 (List.mem_of_getElem? (i := 212) rfl) rfl
theorem zw2_193 : Cond.methodLink RX4 39 yX4_layIn ∈ q_Z := q_zt2 (List.mem_of_getElem? (i := 193) rfl) rfl
theorem zw1_60 : Cond.fieldLink RX4 46 RX4 (TX4 4).2.1 (TX4 4).2.2.1 ∈ q_Z := q_zt1 (List.mem_of_getElem? (i := 60) rfl) rfl
theorem zw3_16 : Cond.code yX4_pushBy cX4_pushBy 7 (some .int) ∈ q_Z := q_zt3 (List.mem_of_getElem? (i := 16) rfl) rfl
theorem zw3_13 : Cond.methodLink RX4 49 yX4_pushBy ∈ q_Z := q_zt3 (List.mem_of_getElem? (i := 13) rfl) rfl
theorem zw3_15 : Cond.instanceMethod yX4_pushBy ∈ q_Z := q_zt3 (List.mem_of_getElem? (i := 15) rfl) rfl
theorem zs_11 : Cond.selects RX4 yX4_pushBy yX4_pushBy ∈ q_Z := q_zts (List.mem_of_getElem? (i := 11) rfl) rfl
theorem zw3_27 : Cond.methodLink RX4 53 Lib.Math.abs.name ∈ q_Z := q_zt3 (List.mem_of_getElem? (i := 27) rfl) rfl
theorem zw3_28 : Cond.static Lib.Math.abs.name ∈ q_Z := q_zt3 (List.mem_of_getElem? (i := 28) rfl) rfl
theorem zw3_29 : Cond.code Lib.Math.abs.name Lib.Math.abs.code 1 (some .int) ∈ q_Z := q_zt3 (List.mem_of_getElem? (i := 29) rfl) rfl
theorem zw1_63 : Cond.fieldLink RX4 58 RX4 (TX4 5).2.1 (TX4 5).2.2.1 ∈ q_Z := q_zt1 (List.mem_of_getElem? (i := 63) rfl) rfl
theorem zw3_33 : Cond.code yX4_turnLeft cX4_turnLeft 2 none ∈ q_Z := q_zt3 (List.mem_of_getElem? (i := 33) rfl) rfl
theorem zw3_30 : Cond.methodLink RX4 61 yX4_turnLeft ∈ q_Z := q_zt3 (List.mem_of_getElem? (i := 30) rfl) rfl
theorem zw3_31 : Cond.instanceMethod yX4_turnLeft ∈ q_Z := q_zt3 (List.mem_of_getElem? (i := 31) rfl) rfl
theorem zw3_32 : Cond.selects RX4 yX4_turnLeft yX4_turnLeft ∈ q_Z := q_zt3 (List.mem_of_getElem? (i := 32) rfl) rfl
theorem zw3_37 : Cond.code yX4_dishBefore cX4_dishBefore 2 (some .int) ∈ q_Z := q_zt3 (List.mem_of_getElem? (i := 37) rfl) rfl
theorem zw3_34 : Cond.methodLink RX4 65 yX4_dishBefore ∈ q_Z := q_zt3 (List.mem_of_getElem? (i := 34) rfl) rfl
theorem zw3_35 : Cond.instanceMethod yX4_dishBefore ∈ q_Z := q_zt3 (List.mem_of_getElem? (i := 35) rfl) rfl
theorem zw3_36 : Cond.selects RX4 yX4_dishBefore yX4_dishBefore ∈ q_Z := q_zt3 (List.mem_of_getElem? (i := 36) rfl) rfl
theorem zw1_65 : Cond.fieldLink RX4 68 RX4 (TX4 6).2.1 (TX4 6).2.2.1 ∈ q_Z := q_zt1 (List.mem_of_getElem? (i := 65) rfl) rfl
theorem zw3_41 : Cond.code yX4_biteOf cX4_biteOf 6 (some .int) ∈ q_Z := q_zt3 (List.mem_of_getElem? (i := 41) rfl) rfl
theorem zw3_38 : Cond.methodLink RX4 71 yX4_biteOf ∈ q_Z := q_zt3 (List.mem_of_getElem? (i := 38) rfl) rfl
theorem zw3_40 : Cond.instanceMethod yX4_biteOf ∈ q_Z := q_zt3 (List.mem_of_getElem? (i := 40) rfl) rfl
theorem zs_12 : Cond.selects RX4 yX4_biteOf yX4_biteOf ∈ q_Z := q_zts (List.mem_of_getElem? (i := 12) rfl) rfl
theorem zw1_67 : Cond.fieldLink RX4 74 RX4 (TX4 7).2.1 (TX4 7).2.2.1 ∈ q_Z := q_zt1 (List.mem_of_getElem? (i := 67) rfl) rfl
theorem zw3_45 : Cond.code yX4_add cX4_add 4 none ∈ q_Z := q_zt3 (List.mem_of_getElem? (i := 45) rfl) rfl
theorem zw3_42 : Cond.methodLink RX4 77 yX4_add ∈ q_Z := q_zt3 (List.mem_of_getElem? (i := 42) rfl) rfl
theorem zw3_43 : Cond.instanceMethod yX4_add ∈ q_Z := q_zt3 (List.mem_of_getElem? (i := 43) rfl) rfl
theorem zw3_44 : Cond.selects RX4 yX4_add yX4_add ∈ q_Z := q_zt3 (List.mem_of_getElem? (i := 44) rfl) rfl
theorem zw3_17 : Cond.methodLink RX4 80 yX4_has ∈ q_Z := q_zt3 (List.mem_of_getElem? (i := 17) rfl) rfl
theorem zw3_21 : Cond.methodLink RX4 84 Lib.Math.max.name ∈ q_Z := q_zt3 (List.mem_of_getElem? (i := 21) rfl) rfl
theorem zw3_22 : Cond.methodLink RX4 87 yX4_toTheLeft ∈ q_Z := q_zt3 (List.mem_of_getElem? (i := 22) rfl) rfl
theorem zw3_26 : Cond.methodLink RX4 90 Lib.Math.min.name ∈ q_Z := q_zt3 (List.mem_of_getElem? (i := 26) rfl) rfl
theorem zw1_90 : Cond.methodLink RX5 3 objectInit ∈ q_Z := q_zt1 (List.mem_of_getElem? (i := 90) rfl) rfl
theorem zw1_95 : Cond.code yX6_init cX6_init 1 none ∈ q_Z := q_zt1 (List.mem_of_getElem? (i := 95) rfl) rfl
theorem zw1_5 : Cond.initialized RX6 ∈ q_Z := q_zt1 (List.mem_of_getElem? (i := 5) rfl) rfl
theorem zw1_107 : Cond.fieldLink RX5 12 RX5 (TX5 0).2.1 (TX5 0).2.2.1 ∈ q_Z := q_zt1 (List.mem_of_getElem? (i := 107) rfl) rfl
theorem zw1_109 : Cond.fieldLink RX5 21 RX5 (TX5 1).2.1 (TX5 1).2.2.1 ∈ q_Z := q_zt1 (List.mem_of_getElem? (i := 109) rfl) rfl
theorem zw2_78 : Cond.code yX4_clear cX4_clear 2 none ∈ q_Z := q_zt2 (List.mem_of_getElem? (i := 78) rfl) rfl
theorem zw2_75 : Cond.methodLink RX5 25 yX4_clear ∈ q_Z := q_zt2 (List.mem_of_getElem? (i := 75) rfl) rfl
theorem zw2_76 : Cond.instanceMethod yX4_clear ∈ q_Z := q_zt2 (List.mem_of_getElem? (i := 76) rfl) rfl
theorem zw2_77 : Cond.selects RX4 yX4_clear yX4_clear ∈ q_Z := q_zt2 (List.mem_of_getElem? (i := 77) rfl) rfl
theorem zw1_114 : Cond.fieldLink RX5 28 RX5 (TX5 4).2.1 (TX5 4).2.2.1 ∈ q_Z := q_zt1 (List.mem_of_getElem? (i := 114) rfl) rfl
theorem zw1_116 : Cond.fieldLink RX5 32 RX5 (TX5 6).2.1 (TX5 6).2.2.1 ∈ q_Z := q_zt1 (List.mem_of_getElem? (i := 116) rfl) rfl
theorem zw2_82 : Cond.code yX5_next cX5_next 2 none ∈ q_Z := q_zt2 (List.mem_of_getElem? (i := 82) rfl) rfl
theorem zw1_4 : Cond.initialized RX5 ∈ q_Z := q_zt1 (List.mem_of_getElem? (i := 4) rfl) rfl
theorem zw2_79 : Cond.methodLink RX5 35 yX5_next ∈ q_Z := q_zt2 (List.mem_of_getElem? (i := 79) rfl) rfl
theorem zw2_81 : Cond.instanceMethod yX5_next ∈ q_Z := q_zt2 (List.mem_of_getElem? (i := 81) rfl) rfl
theorem zs_3 : Cond.selects RX5 yX5_next yX5_next ∈ q_Z := q_zts (List.mem_of_getElem? (i := 3) rfl) rfl
theorem zw2_119 : Cond.code yX5_isWord cX5_isWord 3 (some .boolean) ∈ q_Z := q_zt2 (List.mem_of_getElem? (i := 119) rfl) rfl
theorem zw2_116 : Cond.methodLink RX5 40 yX5_isWord ∈ q_Z := q_zt2 (List.mem_of_getElem? (i := 116) rfl) rfl
theorem zw2_118 : Cond.instanceMethod yX5_isWord ∈ q_Z := q_zt2 (List.mem_of_getElem? (i := 118) rfl) rfl
theorem zs_5 : Cond.selects RX5 yX5_isWord yX5_isWord ∈ q_Z := q_zts (List.mem_of_getElem? (i := 5) rfl) rfl
theorem zw1_117 : Cond.fieldLink RX5 44 RX5 (TX5 7).2.1 (TX5 7).2.2.1 ∈ q_Z := q_zt1 (List.mem_of_getElem? (i := 117) rfl) rfl
theorem zw2_171 : Cond.code yX5_readGuest cX5_readGuest 3 none ∈ q_Z := q_zt2 (List.mem_of_getElem? (i := 171) rfl) rfl
theorem zw2_168 : Cond.methodLink RX5 47 yX5_readGuest ∈ q_Z := q_zt2 (List.mem_of_getElem? (i := 168) rfl) rfl
theorem zw2_170 : Cond.instanceMethod yX5_readGuest ∈ q_Z := q_zt2 (List.mem_of_getElem? (i := 170) rfl) rfl
theorem zs_6 : Cond.selects RX5 yX5_readGuest yX5_readGuest ∈ q_Z := q_zts (List.mem_of_getElem? (i := 6) rfl) rfl
theorem zw2_201 : Cond.code yX5_readDish cX5_readDish 2 none ∈ q_Z := q_zt2 (List.mem_of_getElem? (i := 201) rfl) rfl
theorem zw2_198 : Cond.methodLink RX5 52 yX5_readDish ∈ q_Z := q_zt2 (List.mem_of_getElem? (i := 198) rfl) rfl
theorem zw2_200 : Cond.instanceMethod yX5_readDish ∈ q_Z := q_zt2 (List.mem_of_getElem? (i := 200) rfl) rfl
theorem zs_9 : Cond.selects RX5 yX5_readDish yX5_readDish ∈ q_Z := q_zts (List.mem_of_getElem? (i := 9) rfl) rfl
theorem zw1_111 : Cond.fieldLink RX5 55 RX5 (TX5 2).2.1 (TX5 2).2.2.1 ∈ q_Z := q_zt1 (List.mem_of_getElem? (i := 111) rfl) rfl
theorem zw2_175 : Cond.code yX5_sortNamed cX5_sortNamed 1 (some .int) ∈ q_Z := q_zt2 (List.mem_of_getElem? (i := 175) rfl) rfl
theorem zw2_172 : Cond.methodLink RX5 61 yX5_sortNamed ∈ q_Z := q_zt2 (List.mem_of_getElem? (i := 172) rfl) rfl
theorem zw2_174 : Cond.instanceMethod yX5_sortNamed ∈ q_Z := q_zt2 (List.mem_of_getElem? (i := 174) rfl) rfl
theorem zs_7 : Cond.selects RX5 yX5_sortNamed yX5_sortNamed ∈ q_Z := q_zts (List.mem_of_getElem? (i := 7) rfl) rfl
theorem zw2_184 : Cond.code yX5_readNumberAndEnd cX5_readNumberAndEnd 3 (some .int) ∈ q_Z := q_zt2 (List.mem_of_getElem? (i := 184) rfl) rfl
theorem zw2_181 : Cond.methodLink RX5 65 yX5_readNumberAndEnd ∈ q_Z := q_zt2 (List.mem_of_getElem? (i := 181) rfl) rfl
theorem zw2_183 : Cond.instanceMethod yX5_readNumberAndEnd ∈ q_Z := q_zt2 (List.mem_of_getElem? (i := 183) rfl) rfl
theorem zs_8 : Cond.selects RX5 yX5_readNumberAndEnd yX5_readNumberAndEnd ∈ q_Z := q_zts (List.mem_of_getElem? (i := 8) rfl) rfl
theorem zw2_188 : Cond.code yX4_seat cX4_seat 3 none ∈ q_Z := q_zt2 (List.mem_of_getElem? (i := 188) rfl) rfl
theorem zw2_185 : Cond.methodLink RX5 69 yX4_seat ∈ q_Z := q_zt2 (List.mem_of_getElem? (i := 185) rfl) rfl
theorem zw2_186 : Cond.instanceMethod yX4_seat ∈ q_Z := q_zt2 (List.mem_of_getElem? (i := 186) rfl) rfl
theorem zw2_187 : Cond.selects RX4 yX4_seat yX4_seat ∈ q_Z := q_zt2 (List.mem_of_getElem? (i := 187) rfl) rfl
theorem zw2_202 : Cond.methodLink RX5 73 yX4_put ∈ q_Z := q_zt2 (List.mem_of_getElem? (i := 202) rfl) rfl
theorem zw1_115 : Cond.fieldLink RX5 77 RX5 (TX5 5).2.1 (TX5 5).2.2.1 ∈ q_Z := q_zt1 (List.mem_of_getElem? (i := 115) rfl) rfl
theorem zw1_112 : Cond.fieldLink RX5 90 RX5 (TX5 3).2.1 (TX5 3).2.2.1 ∈ q_Z := q_zt1 (List.mem_of_getElem? (i := 112) rfl) rfl
theorem zw2_90 : Cond.code yX6_at cX6_at 2 (some .int) ∈ q_Z := q_zt2 (List.mem_of_getElem? (i := 90) rfl) rfl
theorem zw2_94 : Cond.methodLink RX5 98 yX6_at ∈ q_Z := q_zt2 (List.mem_of_getElem? (i := 94) rfl) rfl
theorem zw2_88 : Cond.instanceMethod yX6_at ∈ q_Z := q_zt2 (List.mem_of_getElem? (i := 88) rfl) rfl
theorem zw2_89 : Cond.selects RX6 yX6_at yX6_at ∈ q_Z := q_zt2 (List.mem_of_getElem? (i := 89) rfl) rfl
theorem zw2_86 : Cond.code yX6_endOfBlanks cX6_endOfBlanks 3 (some .int) ∈ q_Z := q_zt2 (List.mem_of_getElem? (i := 86) rfl) rfl
theorem zw2_83 : Cond.methodLink RX5 105 yX6_endOfBlanks ∈ q_Z := q_zt2 (List.mem_of_getElem? (i := 83) rfl) rfl
theorem zw2_84 : Cond.instanceMethod yX6_endOfBlanks ∈ q_Z := q_zt2 (List.mem_of_getElem? (i := 84) rfl) rfl
theorem zw2_85 : Cond.selects RX6 yX6_endOfBlanks yX6_endOfBlanks ∈ q_Z := q_zt2 (List.mem_of_getElem? (i := 85) rfl) rfl
theorem zw2_97 : Cond.code yX6_isLetter cX6_isLetter 1 (some .boolean) ∈ q_Z := q_zt2 (List.mem_of_getElem? (i := 97) rfl) rfl
theorem zw2_96 : Cond.static yX6_isLetter ∈ q_Z := q_zt2 (List.mem_of_getElem? (i := 96) rfl) rfl
theorem zw2_95 : Cond.methodLink RX5 108 yX6_isLetter ∈ q_Z := q_zt2 (List.mem_of_getElem? (i := 95) rfl) rfl
theorem zw2_101 : Cond.code yX6_endOfLetters cX6_endOfLetters 3 (some .int) ∈ q_Z := q_zt2 (List.mem_of_getElem? (i := 101) rfl) rfl
theorem zw2_98 : Cond.methodLink RX5 112 yX6_endOfLetters ∈ q_Z := q_zt2 (List.mem_of_getElem? (i := 98) rfl) rfl
theorem zw2_99 : Cond.instanceMethod yX6_endOfLetters ∈ q_Z := q_zt2 (List.mem_of_getElem? (i := 99) rfl) rfl
theorem zw2_100 : Cond.selects RX6 yX6_endOfLetters yX6_endOfLetters ∈ q_Z := q_zt2 (List.mem_of_getElem? (i := 100) rfl) rfl
theorem zw2_105 : Cond.code yX6_isFigure cX6_isFigure 1 (some .boolean) ∈ q_Z := q_zt2 (List.mem_of_getElem? (i := 105) rfl) rfl
theorem zw2_104 : Cond.static yX6_isFigure ∈ q_Z := q_zt2 (List.mem_of_getElem? (i := 104) rfl) rfl
theorem zw2_103 : Cond.methodLink RX5 115 yX6_isFigure ∈ q_Z := q_zt2 (List.mem_of_getElem? (i := 103) rfl) rfl
theorem zw2_109 : Cond.code yX6_endOfFigures cX6_endOfFigures 3 (some .int) ∈ q_Z := q_zt2 (List.mem_of_getElem? (i := 109) rfl) rfl
theorem zw2_106 : Cond.methodLink RX5 118 yX6_endOfFigures ∈ q_Z := q_zt2 (List.mem_of_getElem? (i := 106) rfl) rfl
theorem zw2_107 : Cond.instanceMethod yX6_endOfFigures ∈ q_Z := q_zt2 (List.mem_of_getElem? (i := 107) rfl) rfl
theorem zw2_108 : Cond.selects RX6 yX6_endOfFigures yX6_endOfFigures ∈ q_Z := q_zt2 (List.mem_of_getElem? (i := 108) rfl) rfl
theorem zw2_114 : Cond.code yX5_valueOfFigures cX5_valueOfFigures 3 (some .int) ∈ q_Z := q_zt2 (List.mem_of_getElem? (i := 114) rfl) rfl
theorem zw2_111 : Cond.methodLink RX5 121 yX5_valueOfFigures ∈ q_Z := q_zt2 (List.mem_of_getElem? (i := 111) rfl) rfl
theorem zw2_113 : Cond.instanceMethod yX5_valueOfFigures ∈ q_Z := q_zt2 (List.mem_of_getElem? (i := 113) rfl) rfl
theorem zs_4 : Cond.selects RX5 yX5_valueOfFigures yX5_valueOfFigures ∈ q_Z := q_zts (List.mem_of_getElem? (i := 4) rfl) rfl
theorem zw1_96 : Cond.methodLink RX6 3 objectInit ∈ q_Z := q_zt1 (List.mem_of_getElem? (i := 96) rfl) rfl
theorem zw1_97 : Cond.fieldLink RX6 9 RX6 (TX6 0).2.1 (TX6 0).2.2.1 ∈ q_Z := q_zt1 (List.mem_of_getElem? (i := 97) rfl) rfl
theorem zw1_98 : Cond.fieldLink RX6 15 RX6 (TX6 1).2.1 (TX6 1).2.2.1 ∈ q_Z := q_zt1 (List.mem_of_getElem? (i := 98) rfl) rfl
theorem zw2_87 : Cond.methodLink RX6 19 yX6_at ∈ q_Z := q_zt2 (List.mem_of_getElem? (i := 87) rfl) rfl
theorem zw2_93 : Cond.code yX6_isBlank cX6_isBlank 1 (some .boolean) ∈ q_Z := q_zt2 (List.mem_of_getElem? (i := 93) rfl) rfl
theorem zw2_92 : Cond.static yX6_isBlank ∈ q_Z := q_zt2 (List.mem_of_getElem? (i := 92) rfl) rfl
theorem zw2_91 : Cond.methodLink RX6 23 yX6_isBlank ∈ q_Z := q_zt2 (List.mem_of_getElem? (i := 91) rfl) rfl
theorem zw2_102 : Cond.methodLink RX6 27 yX6_isLetter ∈ q_Z := q_zt2 (List.mem_of_getElem? (i := 102) rfl) rfl
theorem zw2_110 : Cond.methodLink RX6 30 yX6_isFigure ∈ q_Z := q_zt2 (List.mem_of_getElem? (i := 110) rfl) rfl
theorem zw1_21 : Cond.methodLink RX7 1 objectInit ∈ q_Z := q_zt1 (List.mem_of_getElem? (i := 21) rfl) rfl
theorem zw1_199 : Cond.fieldLink RX7 11 RX7 (TX7 0).2.1 (TX7 0).2.2.1 ∈ q_Z := q_zt1 (List.mem_of_getElem? (i := 199) rfl) rfl
theorem zw1_29 : Cond.code yX3_init cX3_init 1 none ∈ q_Z := q_zt1 (List.mem_of_getElem? (i := 29) rfl) rfl
theorem zw1_203 : Cond.fieldLink RX7 18 RX7 (TX7 4).2.1 (TX7 4).2.2.1 ∈ q_Z := q_zt1 (List.mem_of_getElem? (i := 203) rfl) rfl
theorem zw1_89 : Cond.code yX5_init cX5_init 1 none ∈ q_Z := q_zt1 (List.mem_of_getElem? (i := 89) rfl) rfl
theorem zw1_200 : Cond.fieldLink RX7 26 RX7 (TX7 1).2.1 (TX7 1).2.2.1 ∈ q_Z := q_zt1 (List.mem_of_getElem? (i := 200) rfl) rfl
theorem zw1_201 : Cond.fieldLink RX7 30 RX7 (TX7 2).2.1 (TX7 2).2.2.1 ∈ q_Z := q_zt1 (List.mem_of_getElem? (i := 201) rfl) rfl
theorem zw1_140 : Cond.code yX0_init cX0_init 2 none ∈ q_Z := q_zt1 (List.mem_of_getElem? (i := 140) rfl) rfl
theorem zw1_202 : Cond.fieldLink RX7 37 RX7 (TX7 3).2.1 (TX7 3).2.2.1 ∈ q_Z := q_zt1 (List.mem_of_getElem? (i := 202) rfl) rfl
theorem zw1_159 : Cond.code yX2_init cX2_init 1 none ∈ q_Z := q_zt1 (List.mem_of_getElem? (i := 159) rfl) rfl
theorem zw1_204 : Cond.fieldLink RX7 44 RX7 (TX7 5).2.1 (TX7 5).2.2.1 ∈ q_Z := q_zt1 (List.mem_of_getElem? (i := 204) rfl) rfl
theorem zw1_178 : Cond.code yX1_init cX1_init 1 none ∈ q_Z := q_zt1 (List.mem_of_getElem? (i := 178) rfl) rfl
theorem zw1_205 : Cond.fieldLink RX7 51 RX7 (TX7 6).2.1 (TX7 6).2.2.1 ∈ q_Z := q_zt1 (List.mem_of_getElem? (i := 205) rfl) rfl
theorem zw1_234 : Cond.code yX7_rowAt cX7_rowAt 2 (some (.object "TurningDishes$Row")) ∈ q_Z := q_zt1 (List.mem_of_getElem? (i := 234) rfl) rfl
theorem zw1_231 : Cond.methodLink RX7 55 yX7_rowAt ∈ q_Z := q_zt1 (List.mem_of_getElem? (i := 231) rfl) rfl
theorem zw1_233 : Cond.instanceMethod yX7_rowAt ∈ q_Z := q_zt1 (List.mem_of_getElem? (i := 233) rfl) rfl
theorem zs_0 : Cond.selects RX7 yX7_rowAt yX7_rowAt ∈ q_Z := q_zts (List.mem_of_getElem? (i := 0) rfl) rfl
theorem zw1_235 : Cond.methodLink RX7 59 yX7_within ∈ q_Z := q_zt1 (List.mem_of_getElem? (i := 235) rfl) rfl
theorem zw1_238 : Cond.constant RX7 63 (-1000001) ∈ q_Z := q_zt1 (List.mem_of_getElem? (i := 238) rfl) rfl
theorem zw2_2 : Cond.code yX7_found cX7_found 2 (some .int) ∈ q_Z := q_zt2 (List.mem_of_getElem? (i := 2) rfl) rfl
theorem zw1_239 : Cond.methodLink RX7 64 yX7_found ∈ q_Z := q_zt1 (List.mem_of_getElem? (i := 239) rfl) rfl
theorem zw2_1 : Cond.instanceMethod yX7_found ∈ q_Z := q_zt2 (List.mem_of_getElem? (i := 1) rfl) rfl
theorem zs_1 : Cond.selects RX7 yX7_found yX7_found ∈ q_Z := q_zts (List.mem_of_getElem? (i := 1) rfl) rfl
theorem zw2_7 : Cond.code yX3_begin cX3_begin 4 none ∈ q_Z := q_zt2 (List.mem_of_getElem? (i := 7) rfl) rfl
theorem zw2_4 : Cond.methodLink RX7 68 yX3_begin ∈ q_Z := q_zt2 (List.mem_of_getElem? (i := 4) rfl) rfl
theorem zw2_5 : Cond.instanceMethod yX3_begin ∈ q_Z := q_zt2 (List.mem_of_getElem? (i := 5) rfl) rfl
theorem zw2_6 : Cond.selects RX3 yX3_begin yX3_begin ∈ q_Z := q_zt2 (List.mem_of_getElem? (i := 6) rfl) rfl
theorem zw2_17 : Cond.code yX7_fine cX7_fine 2 (some .int) ∈ q_Z := q_zt2 (List.mem_of_getElem? (i := 17) rfl) rfl
theorem zw2_14 : Cond.methodLink RX7 72 yX7_fine ∈ q_Z := q_zt2 (List.mem_of_getElem? (i := 14) rfl) rfl
theorem zw2_16 : Cond.instanceMethod yX7_fine ∈ q_Z := q_zt2 (List.mem_of_getElem? (i := 16) rfl) rfl
theorem zs_2 : Cond.selects RX7 yX7_fine yX7_fine ∈ q_Z := q_zts (List.mem_of_getElem? (i := 2) rfl) rfl
theorem zw2_25 : Cond.code yX3_isMissing cX3_isMissing 1 (some .boolean) ∈ q_Z := q_zt2 (List.mem_of_getElem? (i := 25) rfl) rfl
theorem zw2_22 : Cond.methodLink RX7 75 yX3_isMissing ∈ q_Z := q_zt2 (List.mem_of_getElem? (i := 22) rfl) rfl
theorem zw2_23 : Cond.instanceMethod yX3_isMissing ∈ q_Z := q_zt2 (List.mem_of_getElem? (i := 23) rfl) rfl
theorem zw2_24 : Cond.selects RX3 yX3_isMissing yX3_isMissing ∈ q_Z := q_zt2 (List.mem_of_getElem? (i := 24) rfl) rfl
theorem zw2_26 : Cond.methodLink RX7 79 yX3_hasPlaces ∈ q_Z := q_zt2 (List.mem_of_getElem? (i := 26) rfl) rfl
theorem zw2_33 : Cond.code yX3_store cX3_store 3 none ∈ q_Z := q_zt2 (List.mem_of_getElem? (i := 33) rfl) rfl
theorem zw2_30 : Cond.methodLink RX7 83 yX3_store ∈ q_Z := q_zt2 (List.mem_of_getElem? (i := 30) rfl) rfl
theorem zw2_31 : Cond.instanceMethod yX3_store ∈ q_Z := q_zt2 (List.mem_of_getElem? (i := 31) rfl) rfl
theorem zw2_32 : Cond.selects RX3 yX3_store yX3_store ∈ q_Z := q_zt2 (List.mem_of_getElem? (i := 32) rfl) rfl
theorem zw2_34 : Cond.methodLink RX7 86 yX3_item ∈ q_Z := q_zt2 (List.mem_of_getElem? (i := 34) rfl) rfl
theorem zw2_45 : Cond.code yX3_take cX3_take 5 none ∈ q_Z := q_zt2 (List.mem_of_getElem? (i := 45) rfl) rfl
theorem zw2_42 : Cond.methodLink RX7 93 yX3_take ∈ q_Z := q_zt2 (List.mem_of_getElem? (i := 42) rfl) rfl
theorem zw2_43 : Cond.instanceMethod yX3_take ∈ q_Z := q_zt2 (List.mem_of_getElem? (i := 43) rfl) rfl
theorem zw2_44 : Cond.selects RX3 yX3_take yX3_take ∈ q_Z := q_zt2 (List.mem_of_getElem? (i := 44) rfl) rfl
theorem zw2_57 : Cond.code yX3_end cX3_end 1 none ∈ q_Z := q_zt2 (List.mem_of_getElem? (i := 57) rfl) rfl
theorem zw2_54 : Cond.methodLink RX7 100 yX3_end ∈ q_Z := q_zt2 (List.mem_of_getElem? (i := 54) rfl) rfl
theorem zw2_55 : Cond.instanceMethod yX3_end ∈ q_Z := q_zt2 (List.mem_of_getElem? (i := 55) rfl) rfl
theorem zw2_56 : Cond.selects RX3 yX3_end yX3_end ∈ q_Z := q_zt2 (List.mem_of_getElem? (i := 56) rfl) rfl
theorem zw2_62 : Cond.constant RX7 110 (-1000003) ∈ q_Z := q_zt2 (List.mem_of_getElem? (i := 62) rfl) rfl
theorem zw2_66 : Cond.code yX6_add cX6_add 2 none ∈ q_Z := q_zt2 (List.mem_of_getElem? (i := 66) rfl) rfl
theorem zw2_63 : Cond.methodLink RX7 111 yX6_add ∈ q_Z := q_zt2 (List.mem_of_getElem? (i := 63) rfl) rfl
theorem zw2_64 : Cond.instanceMethod yX6_add ∈ q_Z := q_zt2 (List.mem_of_getElem? (i := 64) rfl) rfl
theorem zw2_65 : Cond.selects RX6 yX6_add yX6_add ∈ q_Z := q_zt2 (List.mem_of_getElem? (i := 65) rfl) rfl
theorem zw2_74 : Cond.code yX5_read cX5_read 2 none ∈ q_Z := q_zt2 (List.mem_of_getElem? (i := 74) rfl) rfl
theorem zw2_71 : Cond.methodLink RX7 115 yX5_read ∈ q_Z := q_zt2 (List.mem_of_getElem? (i := 71) rfl) rfl
theorem zw2_72 : Cond.instanceMethod yX5_read ∈ q_Z := q_zt2 (List.mem_of_getElem? (i := 72) rfl) rfl
theorem zw2_73 : Cond.selects RX5 yX5_read yX5_read ∈ q_Z := q_zt2 (List.mem_of_getElem? (i := 73) rfl) rfl
theorem zw2_206 : Cond.code yX6_clear cX6_clear 1 none ∈ q_Z := q_zt2 (List.mem_of_getElem? (i := 206) rfl) rfl
theorem zw2_203 : Cond.methodLink RX7 118 yX6_clear ∈ q_Z := q_zt2 (List.mem_of_getElem? (i := 203) rfl) rfl
theorem zw2_204 : Cond.instanceMethod yX6_clear ∈ q_Z := q_zt2 (List.mem_of_getElem? (i := 204) rfl) rfl
theorem zw2_205 : Cond.selects RX6 yX6_clear yX6_clear ∈ q_Z := q_zt2 (List.mem_of_getElem? (i := 205) rfl) rfl
theorem zw1_206 : Cond.fieldLink RX7 124 RX7 (TX7 7).2.1 (TX7 7).2.2.1 ∈ q_Z := q_zt1 (List.mem_of_getElem? (i := 206) rfl) rfl
theorem zw2_207 : Cond.constant RX7 127 (-1000100) ∈ q_Z := q_zt2 (List.mem_of_getElem? (i := 207) rfl) rfl
theorem zw2_208 : Cond.methodLink RX7 134 yX4_become ∈ q_Z := q_zt2 (List.mem_of_getElem? (i := 208) rfl) rfl
theorem zw2_216 : Cond.code yX0_forget cX0_forget 1 none ∈ q_Z := q_zt2 (List.mem_of_getElem? (i := 216) rfl) rfl
theorem zw2_213 : Cond.methodLink RX7 138 yX0_forget ∈ q_Z := q_zt2 (List.mem_of_getElem? (i := 213) rfl) rfl
theorem zw2_214 : Cond.instanceMethod yX0_forget ∈ q_Z := q_zt2 (List.mem_of_getElem? (i := 214) rfl) rfl
theorem zw2_215 : Cond.selects RX0 yX0_forget yX0_forget ∈ q_Z := q_zt2 (List.mem_of_getElem? (i := 215) rfl) rfl
theorem zw2_229 : Cond.code yX4_stands cX4_stands 1 (some .boolean) ∈ q_Z := q_zt2 (List.mem_of_getElem? (i := 229) rfl) rfl
theorem zw2_226 : Cond.methodLink RX7 144 yX4_stands ∈ q_Z := q_zt2 (List.mem_of_getElem? (i := 226) rfl) rfl
theorem zw2_227 : Cond.instanceMethod yX4_stands ∈ q_Z := q_zt2 (List.mem_of_getElem? (i := 227) rfl) rfl
theorem zw2_228 : Cond.selects RX4 yX4_stands yX4_stands ∈ q_Z := q_zt2 (List.mem_of_getElem? (i := 228) rfl) rfl
theorem zw2_230 : Cond.constant RX7 147 (-1000002) ∈ q_Z := q_zt2 (List.mem_of_getElem? (i := 230) rfl) rfl
theorem zw2_234 : Cond.code yX0_keep cX0_keep 3 none ∈ q_Z := q_zt2 (List.mem_of_getElem? (i := 234) rfl) rfl
theorem zw2_231 : Cond.methodLink RX7 151 yX0_keep ∈ q_Z := q_zt2 (List.mem_of_getElem? (i := 231) rfl) rfl
theorem zw2_232 : Cond.instanceMethod yX0_keep ∈ q_Z := q_zt2 (List.mem_of_getElem? (i := 232) rfl) rfl
theorem zw2_233 : Cond.selects RX0 yX0_keep yX0_keep ∈ q_Z := q_zt2 (List.mem_of_getElem? (i := 233) rfl) rfl
theorem zw3_4 : Cond.methodLink RX7 154 yX4_passMinute ∈ q_Z := q_zt3 (List.mem_of_getElem? (i := 4) rfl) rfl
theorem zw3_50 : Cond.methodLink RX7 160 yX4_turnLeft ∈ q_Z := q_zt3 (List.mem_of_getElem? (i := 50) rfl) rfl
theorem zw3_55 : Cond.methodLink RX7 163 yX4_has ∈ q_Z := q_zt3 (List.mem_of_getElem? (i := 55) rfl) rfl
theorem zw3_56 : Cond.methodLink RX7 167 yX4_of ∈ q_Z := q_zt3 (List.mem_of_getElem? (i := 56) rfl) rfl
theorem zw3_57 : Cond.methodLink RX7 171 yX4_add ∈ q_Z := q_zt3 (List.mem_of_getElem? (i := 57) rfl) rfl
theorem zw3_62 : Cond.methodLink RX7 174 yX4_swapSeats ∈ q_Z := q_zt3 (List.mem_of_getElem? (i := 62) rfl) rfl
theorem zw3_73 : Cond.code yX4_swapSlots cX4_swapSlots 4 none ∈ q_Z := q_zt3 (List.mem_of_getElem? (i := 73) rfl) rfl
theorem zw3_70 : Cond.methodLink RX7 177 yX4_swapSlots ∈ q_Z := q_zt3 (List.mem_of_getElem? (i := 70) rfl) rfl
theorem zw3_71 : Cond.instanceMethod yX4_swapSlots ∈ q_Z := q_zt3 (List.mem_of_getElem? (i := 71) rfl) rfl
theorem zw3_72 : Cond.selects RX4 yX4_swapSlots yX4_swapSlots ∈ q_Z := q_zt3 (List.mem_of_getElem? (i := 72) rfl) rfl
theorem zw3_81 : Cond.code yX0_giveBack cX0_giveBack 2 none ∈ q_Z := q_zt3 (List.mem_of_getElem? (i := 81) rfl) rfl
theorem zw3_78 : Cond.methodLink RX7 183 yX0_giveBack ∈ q_Z := q_zt3 (List.mem_of_getElem? (i := 78) rfl) rfl
theorem zw3_79 : Cond.instanceMethod yX0_giveBack ∈ q_Z := q_zt3 (List.mem_of_getElem? (i := 79) rfl) rfl
theorem zw3_80 : Cond.selects RX0 yX0_giveBack yX0_giveBack ∈ q_Z := q_zt3 (List.mem_of_getElem? (i := 80) rfl) rfl
theorem zw3_86 : Cond.methodLink RX7 186 yX4_dishBefore ∈ q_Z := q_zt3 (List.mem_of_getElem? (i := 86) rfl) rfl
theorem zw3_98 : Cond.code yX2_look cX2_look 3 (some .int) ∈ q_Z := q_zt3 (List.mem_of_getElem? (i := 98) rfl) rfl
theorem zw3_95 : Cond.methodLink RX7 189 yX2_look ∈ q_Z := q_zt3 (List.mem_of_getElem? (i := 95) rfl) rfl
theorem zw3_96 : Cond.instanceMethod yX2_look ∈ q_Z := q_zt3 (List.mem_of_getElem? (i := 96) rfl) rfl
theorem zw3_97 : Cond.selects RX2 yX2_look yX2_look ∈ q_Z := q_zt3 (List.mem_of_getElem? (i := 97) rfl) rfl
theorem zw3_114 : Cond.methodLink RX7 196 yX2_eatsSeatedAs ∈ q_Z := q_zt3 (List.mem_of_getElem? (i := 114) rfl) rfl
theorem zw3_127 : Cond.code yX2_minuteOfLastPortion cX2_minuteOfLastPortion 5 (some .int) ∈ q_Z := q_zt3 (List.mem_of_getElem? (i := 127) rfl) rfl
theorem zw3_124 : Cond.methodLink RX7 200 yX2_minuteOfLastPortion ∈ q_Z := q_zt3 (List.mem_of_getElem? (i := 124) rfl) rfl
theorem zw3_125 : Cond.instanceMethod yX2_minuteOfLastPortion ∈ q_Z := q_zt3 (List.mem_of_getElem? (i := 125) rfl) rfl
theorem zw3_126 : Cond.selects RX2 yX2_minuteOfLastPortion yX2_minuteOfLastPortion ∈ q_Z := q_zt3 (List.mem_of_getElem? (i := 126) rfl) rfl
theorem zw3_129 : Cond.constant RX7 203 (-1000000) ∈ q_Z := q_zt3 (List.mem_of_getElem? (i := 129) rfl) rfl
theorem zw3_137 : Cond.code yX4_whoAteNothing cX4_whoAteNothing 3 (some .int) ∈ q_Z := q_zt3 (List.mem_of_getElem? (i := 137) rfl) rfl
theorem zw3_134 : Cond.methodLink RX7 207 yX4_whoAteNothing ∈ q_Z := q_zt3 (List.mem_of_getElem? (i := 134) rfl) rfl
theorem zw3_135 : Cond.instanceMethod yX4_whoAteNothing ∈ q_Z := q_zt3 (List.mem_of_getElem? (i := 135) rfl) rfl
theorem zw3_136 : Cond.selects RX4 yX4_whoAteNothing yX4_whoAteNothing ∈ q_Z := q_zt3 (List.mem_of_getElem? (i := 136) rfl) rfl
theorem zw3_145 : Cond.code yX2_minutesToRest cX2_minutesToRest 4 (some .int) ∈ q_Z := q_zt3 (List.mem_of_getElem? (i := 145) rfl) rfl
theorem zw3_142 : Cond.methodLink RX7 211 yX2_minutesToRest ∈ q_Z := q_zt3 (List.mem_of_getElem? (i := 142) rfl) rfl
theorem zw3_143 : Cond.instanceMethod yX2_minutesToRest ∈ q_Z := q_zt3 (List.mem_of_getElem? (i := 143) rfl) rfl
theorem zw3_144 : Cond.selects RX2 yX2_minutesToRest yX2_minutesToRest ∈ q_Z := q_zt3 (List.mem_of_getElem? (i := 144) rfl) rfl
theorem zw3_153 : Cond.code yX2_turnsToServe cX2_turnsToServe 5 (some .int) ∈ q_Z := q_zt3 (List.mem_of_getElem? (i := 153) rfl) rfl
theorem zw3_150 : Cond.methodLink RX7 215 yX2_turnsToServe ∈ q_Z := q_zt3 (List.mem_of_getElem? (i := 150) rfl) rfl
theorem zw3_151 : Cond.instanceMethod yX2_turnsToServe ∈ q_Z := q_zt3 (List.mem_of_getElem? (i := 151) rfl) rfl
theorem zw3_152 : Cond.selects RX2 yX2_turnsToServe yX2_turnsToServe ∈ q_Z := q_zt3 (List.mem_of_getElem? (i := 152) rfl) rfl
theorem zw3_168 : Cond.code yX2_findBestSlots cX2_findBestSlots 7 (some .int) ∈ q_Z := q_zt3 (List.mem_of_getElem? (i := 168) rfl) rfl
theorem zw3_165 : Cond.methodLink RX7 218 yX2_findBestSlots ∈ q_Z := q_zt3 (List.mem_of_getElem? (i := 165) rfl) rfl
theorem zw3_166 : Cond.instanceMethod yX2_findBestSlots ∈ q_Z := q_zt3 (List.mem_of_getElem? (i := 166) rfl) rfl
theorem zw3_167 : Cond.selects RX2 yX2_findBestSlots yX2_findBestSlots ∈ q_Z := q_zt3 (List.mem_of_getElem? (i := 167) rfl) rfl
theorem zw3_187 : Cond.code yX2_bestSlot cX2_bestSlot 2 (some .int) ∈ q_Z := q_zt3 (List.mem_of_getElem? (i := 187) rfl) rfl
theorem zw3_184 : Cond.methodLink RX7 221 yX2_bestSlot ∈ q_Z := q_zt3 (List.mem_of_getElem? (i := 184) rfl) rfl
theorem zw3_185 : Cond.instanceMethod yX2_bestSlot ∈ q_Z := q_zt3 (List.mem_of_getElem? (i := 185) rfl) rfl
theorem zw3_186 : Cond.selects RX2 yX2_bestSlot yX2_bestSlot ∈ q_Z := q_zt3 (List.mem_of_getElem? (i := 186) rfl) rfl
theorem zw3_195 : Cond.code yX2_dishesToWant cX2_dishesToWant 8 (some .int) ∈ q_Z := q_zt3 (List.mem_of_getElem? (i := 195) rfl) rfl
theorem zw3_192 : Cond.methodLink RX7 224 yX2_dishesToWant ∈ q_Z := q_zt3 (List.mem_of_getElem? (i := 192) rfl) rfl
theorem zw3_193 : Cond.instanceMethod yX2_dishesToWant ∈ q_Z := q_zt3 (List.mem_of_getElem? (i := 193) rfl) rfl
theorem zw3_194 : Cond.selects RX2 yX2_dishesToWant yX2_dishesToWant ∈ q_Z := q_zt3 (List.mem_of_getElem? (i := 194) rfl) rfl
theorem zw3_209 : Cond.code yX2_bestToSitAs cX2_bestToSitAs 8 (some .int) ∈ q_Z := q_zt3 (List.mem_of_getElem? (i := 209) rfl) rfl
theorem zw3_206 : Cond.methodLink RX7 228 yX2_bestToSitAs ∈ q_Z := q_zt3 (List.mem_of_getElem? (i := 206) rfl) rfl
theorem zw3_207 : Cond.instanceMethod yX2_bestToSitAs ∈ q_Z := q_zt3 (List.mem_of_getElem? (i := 207) rfl) rfl
theorem zw3_208 : Cond.selects RX2 yX2_bestToSitAs yX2_bestToSitAs ∈ q_Z := q_zt3 (List.mem_of_getElem? (i := 208) rfl) rfl
theorem zw3_218 : Cond.code yX7_imageAt cX7_imageAt 2 (some (.object "TurningDishes$Table")) ∈ q_Z := q_zt3 (List.mem_of_getElem? (i := 218) rfl) rfl
theorem zw3_215 : Cond.methodLink RX7 232 yX7_imageAt ∈ q_Z := q_zt3 (List.mem_of_getElem? (i := 215) rfl) rfl
theorem zw3_217 : Cond.instanceMethod yX7_imageAt ∈ q_Z := q_zt3 (List.mem_of_getElem? (i := 217) rfl) rfl
theorem zs_18 : Cond.selects RX7 yX7_imageAt yX7_imageAt ∈ q_Z := q_zts (List.mem_of_getElem? (i := 18) rfl) rfl
theorem zw3_233 : Cond.code yX7_isOne cX7_isOne 2 (some .boolean) ∈ q_Z := q_zt3 (List.mem_of_getElem? (i := 233) rfl) rfl
theorem zw3_232 : Cond.static yX7_isOne ∈ q_Z := q_zt3 (List.mem_of_getElem? (i := 232) rfl) rfl
theorem zw3_231 : Cond.methodLink RX7 236 yX7_isOne ∈ q_Z := q_zt3 (List.mem_of_getElem? (i := 231) rfl) rfl
theorem zw4_1 : Cond.code yX1_begin cX1_begin 3 none ∈ q_Z := q_zt4 (List.mem_of_getElem? (i := 1) rfl) rfl
theorem zw3_238 : Cond.methodLink RX7 239 yX1_begin ∈ q_Z := q_zt3 (List.mem_of_getElem? (i := 238) rfl) rfl
theorem zw3_239 : Cond.instanceMethod yX1_begin ∈ q_Z := q_zt3 (List.mem_of_getElem? (i := 239) rfl) rfl
theorem zw4_0 : Cond.selects RX1 yX1_begin yX1_begin ∈ q_Z := q_zt4 (List.mem_of_getElem? (i := 0) rfl) rfl
theorem zw4_6 : Cond.code yX1_size cX1_size 1 (some .int) ∈ q_Z := q_zt4 (List.mem_of_getElem? (i := 6) rfl) rfl
theorem zw4_3 : Cond.methodLink RX7 242 yX1_size ∈ q_Z := q_zt4 (List.mem_of_getElem? (i := 3) rfl) rfl
theorem zw4_4 : Cond.instanceMethod yX1_size ∈ q_Z := q_zt4 (List.mem_of_getElem? (i := 4) rfl) rfl
theorem zw4_5 : Cond.selects RX1 yX1_size yX1_size ∈ q_Z := q_zt4 (List.mem_of_getElem? (i := 5) rfl) rfl
theorem zw4_50 : Cond.code yX1_mark cX1_mark 1 (some .int) ∈ q_Z := q_zt4 (List.mem_of_getElem? (i := 50) rfl) rfl
theorem zw4_47 : Cond.methodLink RX7 245 yX1_mark ∈ q_Z := q_zt4 (List.mem_of_getElem? (i := 47) rfl) rfl
theorem zw4_48 : Cond.instanceMethod yX1_mark ∈ q_Z := q_zt4 (List.mem_of_getElem? (i := 48) rfl) rfl
theorem zw4_49 : Cond.selects RX1 yX1_mark yX1_mark ∈ q_Z := q_zt4 (List.mem_of_getElem? (i := 49) rfl) rfl
theorem zw4_62 : Cond.code yX1_traced cX1_traced 2 (some .int) ∈ q_Z := q_zt4 (List.mem_of_getElem? (i := 62) rfl) rfl
theorem zw4_59 : Cond.methodLink RX7 248 yX1_traced ∈ q_Z := q_zt4 (List.mem_of_getElem? (i := 59) rfl) rfl
theorem zw4_60 : Cond.instanceMethod yX1_traced ∈ q_Z := q_zt4 (List.mem_of_getElem? (i := 60) rfl) rfl
theorem zw4_61 : Cond.selects RX1 yX1_traced yX1_traced ∈ q_Z := q_zt4 (List.mem_of_getElem? (i := 61) rfl) rfl
theorem zw4_71 : Cond.code yX7_rowsThere cX7_rowsThere 4 (some .int) ∈ q_Z := q_zt4 (List.mem_of_getElem? (i := 71) rfl) rfl
theorem zw4_68 : Cond.methodLink RX7 251 yX7_rowsThere ∈ q_Z := q_zt4 (List.mem_of_getElem? (i := 68) rfl) rfl
theorem zw4_70 : Cond.instanceMethod yX7_rowsThere ∈ q_Z := q_zt4 (List.mem_of_getElem? (i := 70) rfl) rfl
theorem zs_30 : Cond.selects RX7 yX7_rowsThere yX7_rowsThere ∈ q_Z := q_zts (List.mem_of_getElem? (i := 30) rfl) rfl
theorem zw4_75 : Cond.code yX4_portionsOfAll cX4_portionsOfAll 3 (some .int) ∈ q_Z := q_zt4 (List.mem_of_getElem? (i := 75) rfl) rfl
theorem zw4_72 : Cond.methodLink RX7 254 yX4_portionsOfAll ∈ q_Z := q_zt4 (List.mem_of_getElem? (i := 72) rfl) rfl
theorem zw4_73 : Cond.instanceMethod yX4_portionsOfAll ∈ q_Z := q_zt4 (List.mem_of_getElem? (i := 73) rfl) rfl
theorem zw4_74 : Cond.selects RX4 yX4_portionsOfAll yX4_portionsOfAll ∈ q_Z := q_zt4 (List.mem_of_getElem? (i := 74) rfl) rfl
theorem zw1_207 : Cond.fieldLink RX7 257 RX7 (TX7 8).2.1 (TX7 8).2.2.1 ∈ q_Z := q_zt1 (List.mem_of_getElem? (i := 207) rfl) rfl
theorem zw2_3 : Cond.constant RX7 260 (-1000010) ∈ q_Z := q_zt2 (List.mem_of_getElem? (i := 3) rfl) rfl
theorem zw4_85 : Cond.methodLink RX8 1 objectInit ∈ q_Z := q_zt4 (List.mem_of_getElem? (i := 85) rfl) rfl
theorem zw4_86 : Cond.fieldLink RX8 7 RX8 (TX8 0).2.1 (TX8 0).2.2.1 ∈ q_Z := q_zt4 (List.mem_of_getElem? (i := 86) rfl) rfl
theorem zw4_88 : Cond.fieldLink RX8 13 RX8 (TX8 2).2.1 (TX8 2).2.2.1 ∈ q_Z := q_zt4 (List.mem_of_getElem? (i := 88) rfl) rfl
theorem zw4_92 : Cond.fieldLink RX8 16 RX8 (TX8 6).2.1 (TX8 6).2.2.1 ∈ q_Z := q_zt4 (List.mem_of_getElem? (i := 92) rfl) rfl
theorem zw4_93 : Cond.fieldLink RX8 19 RX8 (TX8 7).2.1 (TX8 7).2.2.1 ∈ q_Z := q_zt4 (List.mem_of_getElem? (i := 93) rfl) rfl
theorem zw4_94 : Cond.fieldLink RX8 22 RX8 (TX8 8).2.1 (TX8 8).2.2.1 ∈ q_Z := q_zt4 (List.mem_of_getElem? (i := 94) rfl) rfl
theorem zw4_95 : Cond.fieldLink RX8 25 RX8 (TX8 9).2.1 (TX8 9).2.2.1 ∈ q_Z := q_zt4 (List.mem_of_getElem? (i := 95) rfl) rfl
theorem zw4_105 : Cond.fieldLink RX8 28 RX8 (TX8 19).2.1 (TX8 19).2.2.1 ∈ q_Z := q_zt4 (List.mem_of_getElem? (i := 105) rfl) rfl
theorem zw4_106 : Cond.fieldLink RX8 32 RX8 (TX8 20).2.1 (TX8 20).2.2.1 ∈ q_Z := q_zt4 (List.mem_of_getElem? (i := 106) rfl) rfl
theorem zw4_161 : Cond.constantLong RX8 35 (7) ∈ q_Z := q_zt4 (List.mem_of_getElem? (i := 161) rfl) rfl
theorem zw4_164 : Cond.code yX8_in cX8_in 6 (some .boolean) ∈ q_Z := q_zt4 (List.mem_of_getElem? (i := 164) rfl) rfl
theorem zw1_9 : Cond.initialized RX8 ∈ q_Z := q_zt1 (List.mem_of_getElem? (i := 9) rfl) rfl
theorem zw4_163 : Cond.static yX8_in ∈ q_Z := q_zt4 (List.mem_of_getElem? (i := 163) rfl) rfl
theorem zw4_162 : Cond.methodLink RX8 37 yX8_in ∈ q_Z := q_zt4 (List.mem_of_getElem? (i := 162) rfl) rfl
theorem zw4_91 : Cond.fieldLink RX8 41 RX8 (TX8 5).2.1 (TX8 5).2.2.1 ∈ q_Z := q_zt4 (List.mem_of_getElem? (i := 91) rfl) rfl
theorem zw4_171 : Cond.constant RX8 45 (-1000010) ∈ q_Z := q_zt4 (List.mem_of_getElem? (i := 171) rfl) rfl
theorem zw4_160 : Cond.code yX8_isRow cX8_isRow 1 (some .boolean) ∈ q_Z := q_zt4 (List.mem_of_getElem? (i := 160) rfl) rfl
theorem zw4_159 : Cond.static yX8_isRow ∈ q_Z := q_zt4 (List.mem_of_getElem? (i := 159) rfl) rfl
theorem zw4_158 : Cond.methodLink RX8 46 yX8_isRow ∈ q_Z := q_zt4 (List.mem_of_getElem? (i := 158) rfl) rfl
theorem zw4_165 : Cond.constantLong RX8 50 (2) ∈ q_Z := q_zt4 (List.mem_of_getElem? (i := 165) rfl) rfl
theorem zw4_166 : Cond.constant RX8 52 (-1000001) ∈ q_Z := q_zt4 (List.mem_of_getElem? (i := 166) rfl) rfl
theorem zw4_170 : Cond.code yX8_found cX8_found 2 (some .int) ∈ q_Z := q_zt4 (List.mem_of_getElem? (i := 170) rfl) rfl
theorem zw4_167 : Cond.methodLink RX8 53 yX8_found ∈ q_Z := q_zt4 (List.mem_of_getElem? (i := 167) rfl) rfl
theorem zw4_169 : Cond.instanceMethod yX8_found ∈ q_Z := q_zt4 (List.mem_of_getElem? (i := 169) rfl) rfl
theorem zs_31 : Cond.selects RX8 yX8_found yX8_found ∈ q_Z := q_zts (List.mem_of_getElem? (i := 31) rfl) rfl
theorem zw4_175 : Cond.code yX8_well cX8_well 2 (some .int) ∈ q_Z := q_zt4 (List.mem_of_getElem? (i := 175) rfl) rfl
theorem zw4_172 : Cond.methodLink RX8 57 yX8_well ∈ q_Z := q_zt4 (List.mem_of_getElem? (i := 172) rfl) rfl
theorem zw4_174 : Cond.instanceMethod yX8_well ∈ q_Z := q_zt4 (List.mem_of_getElem? (i := 174) rfl) rfl
theorem zs_32 : Cond.selects RX8 yX8_well yX8_well ∈ q_Z := q_zts (List.mem_of_getElem? (i := 32) rfl) rfl
theorem zw4_186 : Cond.code yX8_isPart cX8_isPart 3 (some .boolean) ∈ q_Z := q_zt4 (List.mem_of_getElem? (i := 186) rfl) rfl
theorem zw4_185 : Cond.static yX8_isPart ∈ q_Z := q_zt4 (List.mem_of_getElem? (i := 185) rfl) rfl
theorem zw4_184 : Cond.methodLink RX8 60 yX8_isPart ∈ q_Z := q_zt4 (List.mem_of_getElem? (i := 184) rfl) rfl
theorem zw4_195 : Cond.constantLong RX8 64 (8) ∈ q_Z := q_zt4 (List.mem_of_getElem? (i := 195) rfl) rfl
theorem zw4_89 : Cond.fieldLink RX8 66 RX8 (TX8 3).2.1 (TX8 3).2.2.1 ∈ q_Z := q_zt4 (List.mem_of_getElem? (i := 89) rfl) rfl
theorem zw4_196 : Cond.constant RX8 69 (-1000003) ∈ q_Z := q_zt4 (List.mem_of_getElem? (i := 196) rfl) rfl
theorem zw4_197 : Cond.constantLong RX8 70 (255) ∈ q_Z := q_zt4 (List.mem_of_getElem? (i := 197) rfl) rfl
theorem zw4_217 : Cond.constantLong RX8 72 (97) ∈ q_Z := q_zt4 (List.mem_of_getElem? (i := 217) rfl) rfl
theorem zw4_218 : Cond.constantLong RX8 74 (122) ∈ q_Z := q_zt4 (List.mem_of_getElem? (i := 218) rfl) rfl
theorem zw4_219 : Cond.constantLong RX8 76 (48) ∈ q_Z := q_zt4 (List.mem_of_getElem? (i := 219) rfl) rfl
theorem zw4_220 : Cond.constantLong RX8 78 (57) ∈ q_Z := q_zt4 (List.mem_of_getElem? (i := 220) rfl) rfl
theorem zw4_97 : Cond.fieldLink RX8 80 RX8 (TX8 11).2.1 (TX8 11).2.2.1 ∈ q_Z := q_zt4 (List.mem_of_getElem? (i := 97) rfl) rfl
theorem zw4_96 : Cond.fieldLink RX8 83 RX8 (TX8 10).2.1 (TX8 10).2.2.1 ∈ q_Z := q_zt4 (List.mem_of_getElem? (i := 96) rfl) rfl
theorem zw4_213 : Cond.code yX8_byteAt cX8_byteAt 2 (some .int) ∈ q_Z := q_zt4 (List.mem_of_getElem? (i := 213) rfl) rfl
theorem zw4_210 : Cond.methodLink RX8 86 yX8_byteAt ∈ q_Z := q_zt4 (List.mem_of_getElem? (i := 210) rfl) rfl
theorem zw4_212 : Cond.instanceMethod yX8_byteAt ∈ q_Z := q_zt4 (List.mem_of_getElem? (i := 212) rfl) rfl
theorem zs_35 : Cond.selects RX8 yX8_byteAt yX8_byteAt ∈ q_Z := q_zts (List.mem_of_getElem? (i := 35) rfl) rfl
theorem zw4_216 : Cond.code yX8_sortOf cX8_sortOf 1 (some .int) ∈ q_Z := q_zt4 (List.mem_of_getElem? (i := 216) rfl) rfl
theorem zw4_215 : Cond.static yX8_sortOf ∈ q_Z := q_zt4 (List.mem_of_getElem? (i := 215) rfl) rfl
theorem zw4_214 : Cond.methodLink RX8 89 yX8_sortOf ∈ q_Z := q_zt4 (List.mem_of_getElem? (i := 214) rfl) rfl
theorem zw4_98 : Cond.fieldLink RX8 92 RX8 (TX8 12).2.1 (TX8 12).2.2.1 ∈ q_Z := q_zt4 (List.mem_of_getElem? (i := 98) rfl) rfl
theorem zw4_90 : Cond.fieldLink RX8 95 RX8 (TX8 4).2.1 (TX8 4).2.2.1 ∈ q_Z := q_zt4 (List.mem_of_getElem? (i := 90) rfl) rfl
theorem zw4_232 : Cond.code yX8_isWord cX8_isWord 6 (some .boolean) ∈ q_Z := q_zt4 (List.mem_of_getElem? (i := 232) rfl) rfl
theorem zw4_229 : Cond.methodLink RX8 98 yX8_isWord ∈ q_Z := q_zt4 (List.mem_of_getElem? (i := 229) rfl) rfl
theorem zw4_231 : Cond.instanceMethod yX8_isWord ∈ q_Z := q_zt4 (List.mem_of_getElem? (i := 231) rfl) rfl
theorem zs_38 : Cond.selects RX8 yX8_isWord yX8_isWord ∈ q_Z := q_zts (List.mem_of_getElem? (i := 38) rfl) rfl
theorem zw4_236 : Cond.code yX8_isFourth cX8_isFourth 2 (some .boolean) ∈ q_Z := q_zt4 (List.mem_of_getElem? (i := 236) rfl) rfl
theorem zw4_233 : Cond.methodLink RX8 102 yX8_isFourth ∈ q_Z := q_zt4 (List.mem_of_getElem? (i := 233) rfl) rfl
theorem zw4_235 : Cond.instanceMethod yX8_isFourth ∈ q_Z := q_zt4 (List.mem_of_getElem? (i := 235) rfl) rfl
theorem zs_39 : Cond.selects RX8 yX8_isFourth yX8_isFourth ∈ q_Z := q_zts (List.mem_of_getElem? (i := 39) rfl) rfl
theorem zw4_209 : Cond.code yX8_token cX8_token 1 none ∈ q_Z := q_zt4 (List.mem_of_getElem? (i := 209) rfl) rfl
theorem zw4_206 : Cond.methodLink RX8 105 yX8_token ∈ q_Z := q_zt4 (List.mem_of_getElem? (i := 206) rfl) rfl
theorem zw4_208 : Cond.instanceMethod yX8_token ∈ q_Z := q_zt4 (List.mem_of_getElem? (i := 208) rfl) rfl
theorem zs_34 : Cond.selects RX8 yX8_token yX8_token ∈ q_Z := q_zts (List.mem_of_getElem? (i := 34) rfl) rfl
theorem zw4_224 : Cond.code yX8_wrong cX8_wrong 2 (some .boolean) ∈ q_Z := q_zt4 (List.mem_of_getElem? (i := 224) rfl) rfl
theorem zw4_221 : Cond.methodLink RX8 108 yX8_wrong ∈ q_Z := q_zt4 (List.mem_of_getElem? (i := 221) rfl) rfl
theorem zw4_223 : Cond.instanceMethod yX8_wrong ∈ q_Z := q_zt4 (List.mem_of_getElem? (i := 223) rfl) rfl
theorem zs_36 : Cond.selects RX8 yX8_wrong yX8_wrong ∈ q_Z := q_zts (List.mem_of_getElem? (i := 36) rfl) rfl
theorem zw5_8 : Cond.code yX8_sortNow cX8_sortNow 1 (some .int) ∈ q_Z := q_zt5 (List.mem_of_getElem? (i := 8) rfl) rfl
theorem zw5_5 : Cond.methodLink RX8 111 yX8_sortNow ∈ q_Z := q_zt5 (List.mem_of_getElem? (i := 5) rfl) rfl
theorem zw5_7 : Cond.instanceMethod yX8_sortNow ∈ q_Z := q_zt5 (List.mem_of_getElem? (i := 7) rfl) rfl
theorem zs_42 : Cond.selects RX8 yX8_sortNow yX8_sortNow ∈ q_Z := q_zts (List.mem_of_getElem? (i := 42) rfl) rfl
theorem zw5_12 : Cond.code yX8_takesNumber cX8_takesNumber 5 (some .boolean) ∈ q_Z := q_zt5 (List.mem_of_getElem? (i := 12) rfl) rfl
theorem zw5_9 : Cond.methodLink RX8 115 yX8_takesNumber ∈ q_Z := q_zt5 (List.mem_of_getElem? (i := 9) rfl) rfl
theorem zw5_11 : Cond.instanceMethod yX8_takesNumber ∈ q_Z := q_zt5 (List.mem_of_getElem? (i := 11) rfl) rfl
theorem zs_43 : Cond.selects RX8 yX8_takesNumber yX8_takesNumber ∈ q_Z := q_zts (List.mem_of_getElem? (i := 43) rfl) rfl
theorem zw5_16 : Cond.code yX8_stops cX8_stops 1 (some .boolean) ∈ q_Z := q_zt5 (List.mem_of_getElem? (i := 16) rfl) rfl
theorem zw5_13 : Cond.methodLink RX8 119 yX8_stops ∈ q_Z := q_zt5 (List.mem_of_getElem? (i := 13) rfl) rfl
theorem zw5_15 : Cond.instanceMethod yX8_stops ∈ q_Z := q_zt5 (List.mem_of_getElem? (i := 15) rfl) rfl
theorem zs_44 : Cond.selects RX8 yX8_stops yX8_stops ∈ q_Z := q_zts (List.mem_of_getElem? (i := 44) rfl) rfl
theorem zw4_99 : Cond.fieldLink RX8 123 RX8 (TX8 13).2.1 (TX8 13).2.2.1 ∈ q_Z := q_zt4 (List.mem_of_getElem? (i := 99) rfl) rfl
theorem zw4_228 : Cond.code yX8_isGuestWord cX8_isGuestWord 1 (some .boolean) ∈ q_Z := q_zt4 (List.mem_of_getElem? (i := 228) rfl) rfl
theorem zw4_225 : Cond.methodLink RX8 126 yX8_isGuestWord ∈ q_Z := q_zt4 (List.mem_of_getElem? (i := 225) rfl) rfl
theorem zw4_227 : Cond.instanceMethod yX8_isGuestWord ∈ q_Z := q_zt4 (List.mem_of_getElem? (i := 227) rfl) rfl
theorem zs_37 : Cond.selects RX8 yX8_isGuestWord yX8_isGuestWord ∈ q_Z := q_zts (List.mem_of_getElem? (i := 37) rfl) rfl
theorem zw5_0 : Cond.code yX8_isDishWord cX8_isDishWord 1 (some .boolean) ∈ q_Z := q_zt5 (List.mem_of_getElem? (i := 0) rfl) rfl
theorem zw4_237 : Cond.methodLink RX8 129 yX8_isDishWord ∈ q_Z := q_zt4 (List.mem_of_getElem? (i := 237) rfl) rfl
theorem zw4_239 : Cond.instanceMethod yX8_isDishWord ∈ q_Z := q_zt4 (List.mem_of_getElem? (i := 239) rfl) rfl
theorem zs_40 : Cond.selects RX8 yX8_isDishWord yX8_isDishWord ∈ q_Z := q_zts (List.mem_of_getElem? (i := 40) rfl) rfl
theorem zw5_4 : Cond.code yX8_readsGuest cX8_readsGuest 2 (some .boolean) ∈ q_Z := q_zt5 (List.mem_of_getElem? (i := 4) rfl) rfl
theorem zw5_1 : Cond.methodLink RX8 132 yX8_readsGuest ∈ q_Z := q_zt5 (List.mem_of_getElem? (i := 1) rfl) rfl
theorem zw5_3 : Cond.instanceMethod yX8_readsGuest ∈ q_Z := q_zt5 (List.mem_of_getElem? (i := 3) rfl) rfl
theorem zs_41 : Cond.selects RX8 yX8_readsGuest yX8_readsGuest ∈ q_Z := q_zts (List.mem_of_getElem? (i := 41) rfl) rfl
theorem zw5_20 : Cond.code yX8_readsDish cX8_readsDish 1 (some .boolean) ∈ q_Z := q_zt5 (List.mem_of_getElem? (i := 20) rfl) rfl
theorem zw5_17 : Cond.methodLink RX8 135 yX8_readsDish ∈ q_Z := q_zt5 (List.mem_of_getElem? (i := 17) rfl) rfl
theorem zw5_19 : Cond.instanceMethod yX8_readsDish ∈ q_Z := q_zt5 (List.mem_of_getElem? (i := 19) rfl) rfl
theorem zs_45 : Cond.selects RX8 yX8_readsDish yX8_readsDish ∈ q_Z := q_zts (List.mem_of_getElem? (i := 45) rfl) rfl
theorem zw4_205 : Cond.code yX8_reads cX8_reads 4 (some .boolean) ∈ q_Z := q_zt4 (List.mem_of_getElem? (i := 205) rfl) rfl
theorem zw4_202 : Cond.methodLink RX8 138 yX8_reads ∈ q_Z := q_zt4 (List.mem_of_getElem? (i := 202) rfl) rfl
theorem zw4_204 : Cond.instanceMethod yX8_reads ∈ q_Z := q_zt4 (List.mem_of_getElem? (i := 204) rfl) rfl
theorem zs_33 : Cond.selects RX8 yX8_reads yX8_reads ∈ q_Z := q_zts (List.mem_of_getElem? (i := 33) rfl) rfl
theorem zw5_21 : Cond.constant RX8 141 (-1000100) ∈ q_Z := q_zt5 (List.mem_of_getElem? (i := 21) rfl) rfl
theorem zw5_25 : Cond.code yX8_copyRow cX8_copyRow 4 none ∈ q_Z := q_zt5 (List.mem_of_getElem? (i := 25) rfl) rfl
theorem zw5_22 : Cond.methodLink RX8 142 yX8_copyRow ∈ q_Z := q_zt5 (List.mem_of_getElem? (i := 22) rfl) rfl
theorem zw5_24 : Cond.instanceMethod yX8_copyRow ∈ q_Z := q_zt5 (List.mem_of_getElem? (i := 24) rfl) rfl
theorem zs_46 : Cond.selects RX8 yX8_copyRow yX8_copyRow ∈ q_Z := q_zts (List.mem_of_getElem? (i := 46) rfl) rfl
theorem zw4_87 : Cond.fieldLink RX8 146 RX8 (TX8 1).2.1 (TX8 1).2.2.1 ∈ q_Z := q_zt4 (List.mem_of_getElem? (i := 87) rfl) rfl
theorem zw4_100 : Cond.fieldLink RX8 149 RX8 (TX8 14).2.1 (TX8 14).2.2.1 ∈ q_Z := q_zt4 (List.mem_of_getElem? (i := 100) rfl) rfl
theorem zw5_59 : Cond.code yX8_turnBy cX8_turnBy 4 none ∈ q_Z := q_zt5 (List.mem_of_getElem? (i := 59) rfl) rfl
theorem zw5_56 : Cond.methodLink RX8 152 yX8_turnBy ∈ q_Z := q_zt5 (List.mem_of_getElem? (i := 56) rfl) rfl
theorem zw5_58 : Cond.instanceMethod yX8_turnBy ∈ q_Z := q_zt5 (List.mem_of_getElem? (i := 58) rfl) rfl
theorem zs_52 : Cond.selects RX8 yX8_turnBy yX8_turnBy ∈ q_Z := q_zts (List.mem_of_getElem? (i := 52) rfl) rfl
theorem zw5_63 : Cond.code yX8_leftTo cX8_leftTo 4 (some .int) ∈ q_Z := q_zt5 (List.mem_of_getElem? (i := 63) rfl) rfl
theorem zw5_60 : Cond.methodLink RX8 155 yX8_leftTo ∈ q_Z := q_zt5 (List.mem_of_getElem? (i := 60) rfl) rfl
theorem zw5_62 : Cond.instanceMethod yX8_leftTo ∈ q_Z := q_zt5 (List.mem_of_getElem? (i := 62) rfl) rfl
theorem zs_53 : Cond.selects RX8 yX8_leftTo yX8_leftTo ∈ q_Z := q_zts (List.mem_of_getElem? (i := 53) rfl) rfl
theorem zw5_51 : Cond.code yX8_guestAt cX8_guestAt 4 (some .int) ∈ q_Z := q_zt5 (List.mem_of_getElem? (i := 51) rfl) rfl
theorem zw5_48 : Cond.methodLink RX8 159 yX8_guestAt ∈ q_Z := q_zt5 (List.mem_of_getElem? (i := 48) rfl) rfl
theorem zw5_50 : Cond.instanceMethod yX8_guestAt ∈ q_Z := q_zt5 (List.mem_of_getElem? (i := 50) rfl) rfl
theorem zs_50 : Cond.selects RX8 yX8_guestAt yX8_guestAt ∈ q_Z := q_zts (List.mem_of_getElem? (i := 50) rfl) rfl
theorem zw5_55 : Cond.code yX8_pushes cX8_pushes 9 none ∈ q_Z := q_zt5 (List.mem_of_getElem? (i := 55) rfl) rfl
theorem zw5_52 : Cond.methodLink RX8 162 yX8_pushes ∈ q_Z := q_zt5 (List.mem_of_getElem? (i := 52) rfl) rfl
theorem zw5_54 : Cond.instanceMethod yX8_pushes ∈ q_Z := q_zt5 (List.mem_of_getElem? (i := 54) rfl) rfl
theorem zs_51 : Cond.selects RX8 yX8_pushes yX8_pushes ∈ q_Z := q_zts (List.mem_of_getElem? (i := 51) rfl) rfl
theorem zw5_67 : Cond.code yX8_dishBefore cX8_dishBefore 5 (some .int) ∈ q_Z := q_zt5 (List.mem_of_getElem? (i := 67) rfl) rfl
theorem zw5_64 : Cond.methodLink RX8 165 yX8_dishBefore ∈ q_Z := q_zt5 (List.mem_of_getElem? (i := 64) rfl) rfl
theorem zw5_66 : Cond.instanceMethod yX8_dishBefore ∈ q_Z := q_zt5 (List.mem_of_getElem? (i := 66) rfl) rfl
theorem zs_54 : Cond.selects RX8 yX8_dishBefore yX8_dishBefore ∈ q_Z := q_zts (List.mem_of_getElem? (i := 54) rfl) rfl
theorem zw4_101 : Cond.fieldLink RX8 168 RX8 (TX8 15).2.1 (TX8 15).2.2.1 ∈ q_Z := q_zt4 (List.mem_of_getElem? (i := 101) rfl) rfl
theorem zw4_102 : Cond.fieldLink RX8 171 RX8 (TX8 16).2.1 (TX8 16).2.2.1 ∈ q_Z := q_zt4 (List.mem_of_getElem? (i := 102) rfl) rfl
theorem zw4_103 : Cond.fieldLink RX8 174 RX8 (TX8 17).2.1 (TX8 17).2.2.1 ∈ q_Z := q_zt4 (List.mem_of_getElem? (i := 103) rfl) rfl
theorem zw5_37 : Cond.code yX8_isNone cX8_isNone 1 (some .boolean) ∈ q_Z := q_zt5 (List.mem_of_getElem? (i := 37) rfl) rfl
theorem zw5_34 : Cond.methodLink RX8 177 yX8_isNone ∈ q_Z := q_zt5 (List.mem_of_getElem? (i := 34) rfl) rfl
theorem zw5_36 : Cond.instanceMethod yX8_isNone ∈ q_Z := q_zt5 (List.mem_of_getElem? (i := 36) rfl) rfl
theorem zs_47 : Cond.selects RX8 yX8_isNone yX8_isNone ∈ q_Z := q_zts (List.mem_of_getElem? (i := 47) rfl) rfl
theorem zw5_38 : Cond.constant RX8 180 (-1000002) ∈ q_Z := q_zt5 (List.mem_of_getElem? (i := 38) rfl) rfl
theorem zw5_39 : Cond.constantLong RX8 181 (24) ∈ q_Z := q_zt5 (List.mem_of_getElem? (i := 39) rfl) rfl
theorem zw5_43 : Cond.code yX8_minds cX8_minds 2 none ∈ q_Z := q_zt5 (List.mem_of_getElem? (i := 43) rfl) rfl
theorem zw5_40 : Cond.methodLink RX8 183 yX8_minds ∈ q_Z := q_zt5 (List.mem_of_getElem? (i := 40) rfl) rfl
theorem zw5_42 : Cond.instanceMethod yX8_minds ∈ q_Z := q_zt5 (List.mem_of_getElem? (i := 42) rfl) rfl
theorem zs_48 : Cond.selects RX8 yX8_minds yX8_minds ∈ q_Z := q_zts (List.mem_of_getElem? (i := 48) rfl) rfl
theorem zw5_47 : Cond.code yX8_goMinute cX8_goMinute 7 none ∈ q_Z := q_zt5 (List.mem_of_getElem? (i := 47) rfl) rfl
theorem zw5_44 : Cond.methodLink RX8 186 yX8_goMinute ∈ q_Z := q_zt5 (List.mem_of_getElem? (i := 44) rfl) rfl
theorem zw5_46 : Cond.instanceMethod yX8_goMinute ∈ q_Z := q_zt5 (List.mem_of_getElem? (i := 46) rfl) rfl
theorem zs_49 : Cond.selects RX8 yX8_goMinute yX8_goMinute ∈ q_Z := q_zts (List.mem_of_getElem? (i := 49) rfl) rfl
theorem zw5_72 : Cond.constantLong RX8 190 (-9) ∈ q_Z := q_zt5 (List.mem_of_getElem? (i := 72) rfl) rfl
theorem zw5_73 : Cond.constantLong RX8 192 (9) ∈ q_Z := q_zt5 (List.mem_of_getElem? (i := 73) rfl) rfl
theorem zw5_81 : Cond.code yX8_isOne cX8_isOne 2 (some .boolean) ∈ q_Z := q_zt5 (List.mem_of_getElem? (i := 81) rfl) rfl
theorem zw5_78 : Cond.methodLink RX8 194 yX8_isOne ∈ q_Z := q_zt5 (List.mem_of_getElem? (i := 78) rfl) rfl
theorem zw5_80 : Cond.instanceMethod yX8_isOne ∈ q_Z := q_zt5 (List.mem_of_getElem? (i := 80) rfl) rfl
theorem zs_55 : Cond.selects RX8 yX8_isOne yX8_isOne ∈ q_Z := q_zts (List.mem_of_getElem? (i := 55) rfl) rfl
theorem zw5_82 : Cond.constantLong RX8 197 (30) ∈ q_Z := q_zt5 (List.mem_of_getElem? (i := 82) rfl) rfl
theorem zw5_90 : Cond.code yX8_swaps cX8_swaps 5 (some .int) ∈ q_Z := q_zt5 (List.mem_of_getElem? (i := 90) rfl) rfl
theorem zw5_87 : Cond.methodLink RX8 199 yX8_swaps ∈ q_Z := q_zt5 (List.mem_of_getElem? (i := 87) rfl) rfl
theorem zw5_89 : Cond.instanceMethod yX8_swaps ∈ q_Z := q_zt5 (List.mem_of_getElem? (i := 89) rfl) rfl
theorem zs_56 : Cond.selects RX8 yX8_swaps yX8_swaps ∈ q_Z := q_zts (List.mem_of_getElem? (i := 56) rfl) rfl
theorem zw5_103 : Cond.constantLong RX8 203 (3) ∈ q_Z := q_zt5 (List.mem_of_getElem? (i := 103) rfl) rfl
theorem zw4_104 : Cond.fieldLink RX8 205 RX8 (TX8 18).2.1 (TX8 18).2.2.1 ∈ q_Z := q_zt4 (List.mem_of_getElem? (i := 104) rfl) rfl
theorem zw5_115 : Cond.constantLong RX8 208 (99) ∈ q_Z := q_zt5 (List.mem_of_getElem? (i := 115) rfl) rfl
theorem zw5_114 : Cond.code yX8_isLater cX8_isLater 1 (some .boolean) ∈ q_Z := q_zt5 (List.mem_of_getElem? (i := 114) rfl) rfl
theorem zw5_113 : Cond.static yX8_isLater ∈ q_Z := q_zt5 (List.mem_of_getElem? (i := 113) rfl) rfl
theorem zw5_112 : Cond.methodLink RX8 210 yX8_isLater ∈ q_Z := q_zt5 (List.mem_of_getElem? (i := 112) rfl) rfl
theorem zw5_119 : Cond.code yX8_goMinutes cX8_goMinutes 3 none ∈ q_Z := q_zt5 (List.mem_of_getElem? (i := 119) rfl) rfl
theorem zw5_116 : Cond.methodLink RX8 213 yX8_goMinutes ∈ q_Z := q_zt5 (List.mem_of_getElem? (i := 116) rfl) rfl
theorem zw5_118 : Cond.instanceMethod yX8_goMinutes ∈ q_Z := q_zt5 (List.mem_of_getElem? (i := 118) rfl) rfl
theorem zs_57 : Cond.selects RX8 yX8_goMinutes yX8_goMinutes ∈ q_Z := q_zts (List.mem_of_getElem? (i := 57) rfl) rfl
theorem zw5_132 : Cond.constant RX8 216 (-1000000) ∈ q_Z := q_zt5 (List.mem_of_getElem? (i := 132) rfl) rfl
theorem zw5_145 : Cond.constant RX8 217 (1000000) ∈ q_Z := q_zt5 (List.mem_of_getElem? (i := 145) rfl) rfl
theorem zw5_150 : Cond.constantLong RX8 218 (20) ∈ q_Z := q_zt5 (List.mem_of_getElem? (i := 150) rfl) rfl
theorem zw5_151 : Cond.constantLong RX8 220 (-1) ∈ q_Z := q_zt5 (List.mem_of_getElem? (i := 151) rfl) rfl
theorem zw5_155 : Cond.code yX8_laysBy cX8_laysBy 5 (some .boolean) ∈ q_Z := q_zt5 (List.mem_of_getElem? (i := 155) rfl) rfl
theorem zw5_152 : Cond.methodLink RX8 222 yX8_laysBy ∈ q_Z := q_zt5 (List.mem_of_getElem? (i := 152) rfl) rfl
theorem zw5_154 : Cond.instanceMethod yX8_laysBy ∈ q_Z := q_zt5 (List.mem_of_getElem? (i := 154) rfl) rfl
theorem zs_58 : Cond.selects RX8 yX8_laysBy yX8_laysBy ∈ q_Z := q_zts (List.mem_of_getElem? (i := 58) rfl) rfl
theorem zw4_107 : Cond.fieldLink RX8 225 RX8 (TX8 21).2.1 (TX8 21).2.2.1 ∈ q_Z := q_zt4 (List.mem_of_getElem? (i := 107) rfl) rfl
theorem zw5_180 : Cond.constantLong RX8 228 (5) ∈ q_Z := q_zt5 (List.mem_of_getElem? (i := 180) rfl) rfl
theorem zw5_183 : Cond.code yX8_isOf cX8_isOf 2 (some .boolean) ∈ q_Z := q_zt5 (List.mem_of_getElem? (i := 183) rfl) rfl
theorem zw5_182 : Cond.static yX8_isOf ∈ q_Z := q_zt5 (List.mem_of_getElem? (i := 182) rfl) rfl
theorem zw5_181 : Cond.methodLink RX8 230 yX8_isOf ∈ q_Z := q_zt5 (List.mem_of_getElem? (i := 181) rfl) rfl
theorem zw5_195 : Cond.code yX8_leaves cX8_leaves 2 none ∈ q_Z := q_zt5 (List.mem_of_getElem? (i := 195) rfl) rfl
theorem zw5_192 : Cond.methodLink RX8 233 yX8_leaves ∈ q_Z := q_zt5 (List.mem_of_getElem? (i := 192) rfl) rfl
theorem zw5_194 : Cond.instanceMethod yX8_leaves ∈ q_Z := q_zt5 (List.mem_of_getElem? (i := 194) rfl) rfl
theorem zs_60 : Cond.selects RX8 yX8_leaves yX8_leaves ∈ q_Z := q_zts (List.mem_of_getElem? (i := 60) rfl) rfl
theorem zw5_199 : Cond.code yX8_markOfEater cX8_markOfEater 4 (some .int) ∈ q_Z := q_zt5 (List.mem_of_getElem? (i := 199) rfl) rfl
theorem zw5_196 : Cond.methodLink RX8 236 yX8_markOfEater ∈ q_Z := q_zt5 (List.mem_of_getElem? (i := 196) rfl) rfl
theorem zw5_198 : Cond.instanceMethod yX8_markOfEater ∈ q_Z := q_zt5 (List.mem_of_getElem? (i := 198) rfl) rfl
theorem zs_61 : Cond.selects RX8 yX8_markOfEater yX8_markOfEater ∈ q_Z := q_zts (List.mem_of_getElem? (i := 61) rfl) rfl
theorem zw5_191 : Cond.code yX8_sizeOf cX8_sizeOf 5 (some .int) ∈ q_Z := q_zt5 (List.mem_of_getElem? (i := 191) rfl) rfl
theorem zw5_188 : Cond.methodLink RX8 239 yX8_sizeOf ∈ q_Z := q_zt5 (List.mem_of_getElem? (i := 188) rfl) rfl
theorem zw5_190 : Cond.instanceMethod yX8_sizeOf ∈ q_Z := q_zt5 (List.mem_of_getElem? (i := 190) rfl) rfl
theorem zs_59 : Cond.selects RX8 yX8_sizeOf yX8_sizeOf ∈ q_Z := q_zts (List.mem_of_getElem? (i := 59) rfl) rfl
theorem zw5_203 : Cond.code yX8_markOf cX8_markOf 2 (some .int) ∈ q_Z := q_zt5 (List.mem_of_getElem? (i := 203) rfl) rfl
theorem zw5_200 : Cond.methodLink RX8 242 yX8_markOf ∈ q_Z := q_zt5 (List.mem_of_getElem? (i := 200) rfl) rfl
theorem zw5_202 : Cond.instanceMethod yX8_markOf ∈ q_Z := q_zt5 (List.mem_of_getElem? (i := 202) rfl) rfl
theorem zs_62 : Cond.selects RX8 yX8_markOf yX8_markOf ∈ q_Z := q_zts (List.mem_of_getElem? (i := 62) rfl) rfl
theorem us0 : ∀ w ∈ u_ws RX0 TX0 3, w ∈ q_Z := by
  intro w hw
  obtain ⟨k, hk, rfl⟩ := List.mem_map.mp hw
  have hk := List.mem_range.mp hk
  match k, hk with
  | 0, _ => exact zw1_148
  | 1, _ => exact zw1_150
  | 2, _ => exact zw1_152
  | k + 3, hk => omega
theorem us1 : ∀ w ∈ u_ws RX1 TX1 6, w ∈ q_Z := by
  intro w hw
  obtain ⟨k, hk, rfl⟩ := List.mem_map.mp hw
  have hk := List.mem_range.mp hk
  match k, hk with
  | 0, _ => exact zw1_186
  | 1, _ => exact zw1_188
  | 2, _ => exact zw1_190
  | 3, _ => exact zw1_192
  | 4, _ => exact zw1_194
  | 5, _ => exact zw1_196
  | k + 6, hk => omega
theorem us2 : ∀ w ∈ u_ws RX2 TX2 3, w ∈ q_Z := by
  intro w hw
  obtain ⟨k, hk, rfl⟩ := List.mem_map.mp hw
  have hk := List.mem_range.mp hk
  match k, hk with
  | 0, _ => exact zw1_167
  | 1, _ => exact zw1_169
  | 2, _ => exact zw1_171
  | k + 3, hk => omega
theorem us3 : ∀ w ∈ u_ws RX3 TX3 3, w ∈ q_Z := by
  intro w hw
  obtain ⟨k, hk, rfl⟩ := List.mem_map.mp hw
  have hk := List.mem_range.mp hk
  match k, hk with
  | 0, _ => exact zw1_36
  | 1, _ => exact zw1_38
  | 2, _ => exact zw1_40
  | k + 3, hk => omega
theorem us4 : ∀ w ∈ u_ws RX4 TX4 8, w ∈ q_Z := by
  intro w hw
  obtain ⟨k, hk, rfl⟩ := List.mem_map.mp hw
  have hk := List.mem_range.mp hk
  match k, hk with
  | 0, _ => exact zw1_68
  | 1, _ => exact zw1_70
  | 2, _ => exact zw1_72
  | 3, _ => exact zw1_74
  | 4, _ => exact zw1_76
  | 5, _ => exact zw1_78
  | 6, _ => exact zw1_80
  | 7, _ => exact zw1_82
  | k + 8, hk => omega
theorem us5 : ∀ w ∈ u_ws RX5 TX5 8, w ∈ q_Z := by
  intro w hw
  obtain ⟨k, hk, rfl⟩ := List.mem_map.mp hw
  have hk := List.mem_range.mp hk
  match k, hk with
  | 0, _ => exact zw1_119
  | 1, _ => exact zw1_121
  | 2, _ => exact zw1_123
  | 3, _ => exact zw1_125
  | 4, _ => exact zw1_127
  | 5, _ => exact zw1_129
  | 6, _ => exact zw1_131
  | 7, _ => exact zw1_133
  | k + 8, hk => omega
theorem us6 : ∀ w ∈ u_ws RX6 TX6 2, w ∈ q_Z := by
  intro w hw
  obtain ⟨k, hk, rfl⟩ := List.mem_map.mp hw
  have hk := List.mem_range.mp hk
  match k, hk with
  | 0, _ => exact zw1_100
  | 1, _ => exact zw1_102
  | k + 2, hk => omega
theorem us7 : ∀ w ∈ u_ws RX7 TX7 9, w ∈ q_Z := by
  intro w hw
  obtain ⟨k, hk, rfl⟩ := List.mem_map.mp hw
  have hk := List.mem_range.mp hk
  match k, hk with
  | 0, _ => exact zw1_208
  | 1, _ => exact zw1_210
  | 2, _ => exact zw1_212
  | 3, _ => exact zw1_214
  | 4, _ => exact zw1_216
  | 5, _ => exact zw1_218
  | 6, _ => exact zw1_220
  | 7, _ => exact zw1_222
  | 8, _ => exact zw1_224
  | k + 9, hk => omega
theorem us8 : ∀ w ∈ u_ws RX8 TX8 22, w ∈ q_Z := by
  intro w hw
  obtain ⟨k, hk, rfl⟩ := List.mem_map.mp hw
  have hk := List.mem_range.mp hk
  match k, hk with
  | 0, _ => exact zw4_108
  | 1, _ => exact zw4_110
  | 2, _ => exact zw4_112
  | 3, _ => exact zw4_114
  | 4, _ => exact zw4_116
  | 5, _ => exact zw4_118
  | 6, _ => exact zw4_120
  | 7, _ => exact zw4_122
  | 8, _ => exact zw4_124
  | 9, _ => exact zw4_126
  | 10, _ => exact zw4_128
  | 11, _ => exact zw4_130
  | 12, _ => exact zw4_132
  | 13, _ => exact zw4_134
  | 14, _ => exact zw4_136
  | 15, _ => exact zw4_138
  | 16, _ => exact zw4_140
  | 17, _ => exact zw4_142
  | 18, _ => exact zw4_144
  | 19, _ => exact zw4_146
  | 20, _ => exact zw4_148
  | 21, _ => exact zw4_150
  | k + 22, hk => omega
theorem lo0_3 : q_LO RX0 3 := ⟨zw1_141, zw1_22, zw1_23⟩
theorem ff0_11 : q_FF RX0 11 0 0 := ⟨RX0, TX0, 3, tyX0, rfl, by decide, us0, zw1_144, rfl, tyX0_ok, nmX0, rfl, rfl, by first | exact Or.inl ⟨_, rfl⟩ | exact Or.inr ⟨_, rfl⟩⟩
theorem fl0_11 : q_FL RX0 11 0 0 := ⟨RX0, TX0, 3, tyX0, rfl, by decide, us0, Or.inl zw1_144, rfl, tyX0_ok, nmX0⟩
theorem fl0_18 : q_FL RX0 18 0 1 := ⟨RX0, TX0, 3, tyX0, rfl, by decide, us0, Or.inl zw1_145, rfl, tyX0_ok, nmX0⟩
theorem lv0_22 : q_LV RX0 22 0 yX0_at cX0_at 2 (some (.object "TurningDishes$Table")) 1 := ⟨⟨zw2_235, zw2_237, zs_10, zw1_6, zw2_238⟩, ⟨by decide, by decide, by decide +kernel⟩, rfl, by decide, by decide⟩
theorem lv0_26 : q_LV RX0 26 4 yX4_become cX4_become 2 none 1 := ⟨⟨zw2_239, zw2_209, zw2_210, zw1_3, zw2_211⟩, ⟨by decide, by decide, by decide +kernel⟩, rfl, by decide, by decide⟩
theorem ls0_30 : q_LS RX0 30 yX7_leftOver cX7_leftOver 3 (some .int) 2 := ⟨⟨Or.inr ⟨RX7, List.mem_of_getElem? (i := 9) rfl⟩, zw3_1, zw1_1, zw3_2⟩, ⟨by decide, by decide, by decide +kernel⟩, by decide⟩
theorem fp0_18 : q_FP RX0 18 0 1 := ⟨RX0, TX0, 3, tyX0, rfl, by decide, us0, zw1_145, rfl, tyX0_ok, nmX0, rfl, rfl⟩
theorem fl0_34 : q_FL RX0 34 0 2 := ⟨RX0, TX0, 3, tyX0, rfl, by decide, us0, Or.inl zw1_146, rfl, tyX0_ok, nmX0⟩
theorem lm0_37 : q_LM RX0 37 Lib.Math.min.name Lib.Math.min.code 2 := ⟨zw3_3, zw2_9, zw1_10, zw2_10⟩
theorem fp0_34 : q_FP RX0 34 0 2 := ⟨RX0, TX0, 3, tyX0, rfl, by decide, us0, zw1_146, rfl, tyX0_ok, nmX0, rfl, rfl⟩
theorem lo1_3 : q_LO RX1 3 := ⟨zw1_179, zw1_22, zw1_23⟩
theorem ff1_9 : q_FF RX1 9 1 0 := ⟨RX1, TX1, 6, tyX1, rfl, by decide, us1, zw1_180, rfl, tyX1_ok, nmX1, rfl, rfl, by first | exact Or.inl ⟨_, rfl⟩ | exact Or.inr ⟨_, rfl⟩⟩
theorem fp1_15 : q_FP RX1 15 1 1 := ⟨RX1, TX1, 6, tyX1, rfl, by decide, us1, zw1_181, rfl, tyX1_ok, nmX1, rfl, rfl⟩
theorem fp1_19 : q_FP RX1 19 1 2 := ⟨RX1, TX1, 6, tyX1, rfl, by decide, us1, zw1_182, rfl, tyX1_ok, nmX1, rfl, rfl⟩
theorem lv1_24 : q_LV RX1 24 4 yX4_of cX4_of 4 (some .int) 2 := ⟨⟨zw4_2, zw3_10, zw3_11, zw1_3, zw3_12⟩, ⟨by decide, by decide, by decide +kernel⟩, rfl, by decide, by decide⟩
theorem fp1_28 : q_FP RX1 28 1 3 := ⟨RX1, TX1, 6, tyX1, rfl, by decide, us1, zw1_183, rfl, tyX1_ok, nmX1, rfl, rfl⟩
theorem fp1_31 : q_FP RX1 31 1 4 := ⟨RX1, TX1, 6, tyX1, rfl, by decide, us1, zw1_184, rfl, tyX1_ok, nmX1, rfl, rfl⟩
theorem fp1_34 : q_FP RX1 34 1 5 := ⟨RX1, TX1, 6, tyX1, rfl, by decide, us1, zw1_185, rfl, tyX1_ok, nmX1, rfl, rfl⟩
theorem fl1_15 : q_FL RX1 15 1 1 := ⟨RX1, TX1, 6, tyX1, rfl, by decide, us1, Or.inl zw1_181, rfl, tyX1_ok, nmX1⟩
theorem fl1_9 : q_FL RX1 9 1 0 := ⟨RX1, TX1, 6, tyX1, rfl, by decide, us1, Or.inl zw1_180, rfl, tyX1_ok, nmX1⟩
theorem zk1_37 : Cond.constant RX1 37 (-1000000) ∈ q_Z := zw4_63
theorem fl1_28 : q_FL RX1 28 1 3 := ⟨RX1, TX1, 6, tyX1, rfl, by decide, us1, Or.inl zw1_183, rfl, tyX1_ok, nmX1⟩
theorem lv1_38 : q_LV RX1 38 1 yX1_size12 cX1_size12 1 (some .int) 0 := ⟨⟨zw4_7, zw4_9, zs_19, zw1_8, zw4_10⟩, ⟨by decide, by decide, by decide +kernel⟩, rfl, by decide, by decide⟩
theorem lv1_42 : q_LV RX1 42 1 yX1_size13 cX1_size13 1 (some .int) 0 := ⟨⟨zw4_39, zw4_41, zs_27, zw1_8, zw4_42⟩, ⟨by decide, by decide, by decide +kernel⟩, rfl, by decide, by decide⟩
theorem lv1_45 : q_LV RX1 45 1 yX1_size14 cX1_size14 1 (some .int) 0 := ⟨⟨zw4_43, zw4_45, zs_28, zw1_8, zw4_46⟩, ⟨by decide, by decide, by decide +kernel⟩, rfl, by decide, by decide⟩
theorem lv1_48 : q_LV RX1 48 1 yX1_size11 cX1_size11 2 (some .int) 0 := ⟨⟨zw4_15, zw4_17, zs_21, zw1_8, zw4_18⟩, ⟨by decide, by decide, by decide +kernel⟩, rfl, by decide, by decide⟩
theorem lv1_51 : q_LV RX1 51 1 yX1_mark24 cX1_mark24 1 (some .int) 0 := ⟨⟨zw4_23, zw4_25, zs_23, zw1_8, zw4_26⟩, ⟨by decide, by decide, by decide +kernel⟩, rfl, by decide, by decide⟩
theorem lv1_54 : q_LV RX1 54 1 yX1_mark22 cX1_mark22 1 (some .int) 0 := ⟨⟨zw4_35, zw4_37, zs_26, zw1_8, zw4_38⟩, ⟨by decide, by decide, by decide +kernel⟩, rfl, by decide, by decide⟩
theorem lv1_57 : q_LV RX1 57 1 yX1_mark23 cX1_mark23 2 (some .int) 0 := ⟨⟨zw4_51, zw4_53, zs_29, zw1_8, zw4_54⟩, ⟨by decide, by decide, by decide +kernel⟩, rfl, by decide, by decide⟩
theorem lv1_60 : q_LV RX1 60 1 yX1_mark21 cX1_mark21 1 (some .int) 0 := ⟨⟨zw4_27, zw4_29, zs_24, zw1_8, zw4_30⟩, ⟨by decide, by decide, by decide +kernel⟩, rfl, by decide, by decide⟩
theorem lv1_63 : q_LV RX1 63 1 yX1_leave cX1_leave 2 none 1 := ⟨⟨zw4_11, zw4_13, zs_20, zw1_8, zw4_14⟩, ⟨by decide, by decide, by decide +kernel⟩, rfl, by decide, by decide⟩
theorem fl1_34 : q_FL RX1 34 1 5 := ⟨RX1, TX1, 6, tyX1, rfl, by decide, us1, Or.inl zw1_185, rfl, tyX1_ok, nmX1⟩
theorem lv1_67 : q_LV RX1 67 1 yX1_size10 cX1_size10 1 (some .int) 0 := ⟨⟨zw4_19, zw4_21, zs_22, zw1_8, zw4_22⟩, ⟨by decide, by decide, by decide +kernel⟩, rfl, by decide, by decide⟩
theorem fl1_19 : q_FL RX1 19 1 2 := ⟨RX1, TX1, 6, tyX1, rfl, by decide, us1, Or.inl zw1_182, rfl, tyX1_ok, nmX1⟩
theorem lv1_70 : q_LV RX1 70 1 yX1_mark20 cX1_mark20 1 (some .int) 0 := ⟨⟨zw4_31, zw4_33, zs_25, zw1_8, zw4_34⟩, ⟨by decide, by decide, by decide +kernel⟩, rfl, by decide, by decide⟩
theorem fl1_31 : q_FL RX1 31 1 4 := ⟨RX1, TX1, 6, tyX1, rfl, by decide, us1, Or.inl zw1_184, rfl, tyX1_ok, nmX1⟩
theorem lo2_3 : q_LO RX2 3 := ⟨zw1_160, zw1_22, zw1_23⟩
theorem ff2_12 : q_FF RX2 12 2 0 := ⟨RX2, TX2, 3, tyX2, rfl, by decide, us2, zw1_163, rfl, tyX2_ok, nmX2, rfl, rfl, by first | exact Or.inl ⟨_, rfl⟩ | exact Or.inr ⟨_, rfl⟩⟩
theorem ff2_18 : q_FF RX2 18 2 1 := ⟨RX2, TX2, 3, tyX2, rfl, by decide, us2, zw1_165, rfl, tyX2_ok, nmX2, rfl, rfl, by first | exact Or.inl ⟨_, rfl⟩ | exact Or.inr ⟨_, rfl⟩⟩
theorem ff2_22 : q_FF RX2 22 2 2 := ⟨RX2, TX2, 3, tyX2, rfl, by decide, us2, zw1_166, rfl, tyX2_ok, nmX2, rfl, rfl, by first | exact Or.inl ⟨_, rfl⟩ | exact Or.inr ⟨_, rfl⟩⟩
theorem fl2_12 : q_FL RX2 12 2 0 := ⟨RX2, TX2, 3, tyX2, rfl, by decide, us2, Or.inl zw1_163, rfl, tyX2_ok, nmX2⟩
theorem lv2_25 : q_LV RX2 25 4 yX4_become cX4_become 2 none 1 := ⟨⟨zw3_99, zw2_209, zw2_210, zw1_3, zw2_211⟩, ⟨by decide, by decide, by decide +kernel⟩, rfl, by decide, by decide⟩
theorem zk2_29 : Cond.constant RX2 29 (1000000) ∈ q_Z := zw3_100
theorem lv2_30 : q_LV RX2 30 2 yX2_passMinutes cX2_passMinutes 5 (some .int) 2 := ⟨⟨zw3_101, zw3_103, zs_13, zw1_7, zw3_104⟩, ⟨by decide, by decide, by decide +kernel⟩, rfl, by decide, by decide⟩
theorem lv2_34 : q_LV RX2 34 4 yX4_passMinute cX4_passMinute 2 none 0 := ⟨⟨zw3_105, zw3_5, zw3_6, zw1_3, zw3_7⟩, ⟨by decide, by decide, by decide +kernel⟩, rfl, by decide, by decide⟩
theorem fl2_37 : q_FL RX2 37 4 5 := ⟨RX4, TX4, 8, tyX4, rfl, by decide, us4, Or.inr ⟨RX7, List.mem_of_getElem? (i := 8) rfl⟩, rfl, tyX4_ok, nmX4⟩
theorem lv2_41 : q_LV RX2 41 4 yX4_swapSeats cX4_swapSeats 5 none 2 := ⟨⟨zw3_118, zw3_63, zw3_64, zw1_3, zw3_65⟩, ⟨by decide, by decide, by decide +kernel⟩, rfl, by decide, by decide⟩
theorem lv2_45 : q_LV RX2 45 4 yX4_of cX4_of 4 (some .int) 2 := ⟨⟨zw3_119, zw3_10, zw3_11, zw1_3, zw3_12⟩, ⟨by decide, by decide, by decide +kernel⟩, rfl, by decide, by decide⟩
theorem fl2_48 : q_FL RX2 48 4 1 := ⟨RX4, TX4, 8, tyX4, rfl, by decide, us4, Or.inr ⟨RX7, List.mem_of_getElem? (i := 3) rfl⟩, rfl, tyX4_ok, nmX4⟩
theorem lv2_51 : q_LV RX2 51 2 yX2_eatsSeatedAs cX2_eatsSeatedAs 5 (some .int) 4 := ⟨⟨zw3_210, zw3_115, zw3_116, zw1_7, zw3_117⟩, ⟨by decide, by decide, by decide +kernel⟩, rfl, by decide, by decide⟩
theorem fl2_55 : q_FL RX2 55 4 7 := ⟨RX4, TX4, 8, tyX4, rfl, by decide, us4, Or.inr ⟨RX7, List.mem_of_getElem? (i := 10) rfl⟩, rfl, tyX4_ok, nmX4⟩
theorem fl2_58 : q_FL RX2 58 4 6 := ⟨RX4, TX4, 8, tyX4, rfl, by decide, us4, Or.inr ⟨RX7, List.mem_of_getElem? (i := 9) rfl⟩, rfl, tyX4_ok, nmX4⟩
theorem zk2_61 : Cond.constant RX2 61 (-1000000) ∈ q_Z := zw3_128
theorem ls2_62 : q_LS RX2 62 yX2_toTheRightForOthers cX2_toTheRightForOthers 6 (some .int) 2 := ⟨⟨Or.inl zw3_154, zw3_155, zw1_7, zw3_156⟩, ⟨by decide, by decide, by decide +kernel⟩, by decide⟩
theorem lm2_66 : q_LM RX2 66 Lib.Math.min.name Lib.Math.min.code 2 := ⟨zw3_160, zw2_9, zw1_10, zw2_10⟩
theorem lv2_71 : q_LV RX2 71 4 yX4_toTheLeft cX4_toTheLeft 3 (some .int) 2 := ⟨⟨zw3_157, zw3_23, zw3_24, zw1_3, zw3_25⟩, ⟨by decide, by decide, by decide +kernel⟩, rfl, by decide, by decide⟩
theorem lv2_74 : q_LV RX2 74 4 yX4_has cX4_has 2 (some .boolean) 1 := ⟨⟨zw3_158, zw3_18, zw3_19, zw1_3, zw3_20⟩, ⟨by decide, by decide, by decide +kernel⟩, rfl, by decide, by decide⟩
theorem lm2_78 : q_LM RX2 78 Lib.Math.max.name Lib.Math.max.code 2 := ⟨zw3_159, zw2_12, zw1_10, zw2_13⟩
theorem fl2_18 : q_FL RX2 18 2 1 := ⟨RX2, TX2, 3, tyX2, rfl, by decide, us2, Or.inl zw1_165, rfl, tyX2_ok, nmX2⟩
theorem lv2_81 : q_LV RX2 81 2 yX2_layAsTried cX2_layAsTried 2 none 0 := ⟨⟨zw3_169, zw3_171, zs_14, zw1_7, zw3_172⟩, ⟨by decide, by decide, by decide +kernel⟩, rfl, by decide, by decide⟩
theorem fl2_22 : q_FL RX2 22 2 2 := ⟨RX2, TX2, 3, tyX2, rfl, by decide, us2, Or.inl zw1_166, rfl, tyX2_ok, nmX2⟩
theorem ly2_84 : q_LY RX2 84 := ⟨zw3_174, zw2_49, zw2_48, zw1_11⟩
theorem lv2_90 : q_LV RX2 90 2 yX2_toNextOrder cX2_toNextOrder 6 (some .boolean) 1 := ⟨⟨zw3_175, zw3_177, zs_15, zw1_7, zw3_178⟩, ⟨by decide, by decide, by decide +kernel⟩, rfl, by decide, by decide⟩
theorem lv2_93 : q_LV RX2 93 4 yX4_layIn cX4_layIn 3 none 2 := ⟨⟨zw3_173, zw2_194, zw2_195, zw1_3, zw2_196⟩, ⟨by decide, by decide, by decide +kernel⟩, rfl, by decide, by decide⟩
theorem lv2_96 : q_LV RX2 96 2 yX2_swapTried cX2_swapTried 4 none 2 := ⟨⟨zw3_179, zw3_181, zs_16, zw1_7, zw3_182⟩, ⟨by decide, by decide, by decide +kernel⟩, rfl, by decide, by decide⟩
theorem ls2_99 : q_LS RX2 99 yX7_within cX7_within 3 (some .boolean) 3 := ⟨⟨Or.inr ⟨RX7, List.mem_of_getElem? (i := 11) rfl⟩, zw1_236, zw1_1, zw1_237⟩, ⟨by decide, by decide, by decide +kernel⟩, by decide⟩
theorem lv2_103 : q_LV RX2 103 4 yX4_put cX4_put 5 none 3 := ⟨⟨zw3_196, zw2_190, zw2_191, zw1_3, zw2_192⟩, ⟨by decide, by decide, by decide +kernel⟩, rfl, by decide, by decide⟩
theorem lv2_107 : q_LV RX2 107 2 yX2_isLeft cX2_isLeft 4 (some .boolean) 2 := ⟨⟨zw3_197, zw3_199, zs_17, zw1_7, zw3_200⟩, ⟨by decide, by decide, by decide +kernel⟩, rfl, by decide, by decide⟩
theorem lv2_111 : q_LV RX2 111 3 yX3_item cX3_item 2 (some .int) 1 := ⟨⟨zw3_201, zw2_35, zw2_36, zw1_2, zw2_37⟩, ⟨by decide, by decide, by decide +kernel⟩, rfl, by decide, by decide⟩
theorem lo3_3 : q_LO RX3 3 := ⟨zw1_30, zw1_22, zw1_23⟩
theorem ff3_9 : q_FF RX3 9 3 0 := ⟨RX3, TX3, 3, tyX3, rfl, by decide, us3, zw1_31, rfl, tyX3_ok, nmX3, rfl, rfl, by first | exact Or.inl ⟨_, rfl⟩ | exact Or.inr ⟨_, rfl⟩⟩
theorem fp3_15 : q_FP RX3 15 3 1 := ⟨RX3, TX3, 3, tyX3, rfl, by decide, us3, zw1_32, rfl, tyX3_ok, nmX3, rfl, rfl⟩
theorem fl3_15 : q_FL RX3 15 3 1 := ⟨RX3, TX3, 3, tyX3, rfl, by decide, us3, Or.inl zw1_32, rfl, tyX3_ok, nmX3⟩
theorem fl3_9 : q_FL RX3 9 3 0 := ⟨RX3, TX3, 3, tyX3, rfl, by decide, us3, Or.inl zw1_31, rfl, tyX3_ok, nmX3⟩
theorem lm3_19 : q_LM RX3 19 Lib.Math.min.name Lib.Math.min.code 2 := ⟨zw2_8, zw2_9, zw1_10, zw2_10⟩
theorem lm3_25 : q_LM RX3 25 Lib.Math.max.name Lib.Math.max.code 2 := ⟨zw2_11, zw2_12, zw1_10, zw2_13⟩
theorem fp3_28 : q_FP RX3 28 3 2 := ⟨RX3, TX3, 3, tyX3, rfl, by decide, us3, zw1_34, rfl, tyX3_ok, nmX3, rfl, rfl⟩
theorem fl3_28 : q_FL RX3 28 3 2 := ⟨RX3, TX3, 3, tyX3, rfl, by decide, us3, Or.inl zw1_34, rfl, tyX3_ok, nmX3⟩
theorem lv3_31 : q_LV RX3 31 3 yX3_hasPlaces cX3_hasPlaces 3 (some .boolean) 2 := ⟨⟨zw2_46, zw2_27, zw2_28, zw1_2, zw2_29⟩, ⟨by decide, by decide, by decide +kernel⟩, rfl, by decide, by decide⟩
theorem ly3_35 : q_LY RX3 35 := ⟨zw2_47, zw2_49, zw2_48, zw1_11⟩
theorem lo4_3 : q_LO RX4 3 := ⟨zw1_50, zw1_22, zw1_23⟩
theorem ff4_11 : q_FF RX4 11 4 0 := ⟨RX4, TX4, 8, tyX4, rfl, by decide, us4, zw1_51, rfl, tyX4_ok, nmX4, rfl, rfl, by first | exact Or.inl ⟨_, rfl⟩ | exact Or.inr ⟨_, rfl⟩⟩
theorem fl4_11 : q_FL RX4 11 4 0 := ⟨RX4, TX4, 8, tyX4, rfl, by decide, us4, Or.inl zw1_51, rfl, tyX4_ok, nmX4⟩
theorem lv4_15 : q_LV RX4 15 4 yX4_of cX4_of 4 (some .int) 2 := ⟨⟨zw3_9, zw3_10, zw3_11, zw1_3, zw3_12⟩, ⟨by decide, by decide, by decide +kernel⟩, rfl, by decide, by decide⟩
theorem lv4_19 : q_LV RX4 19 4 yX4_put cX4_put 5 none 3 := ⟨⟨zw2_189, zw2_190, zw2_191, zw1_3, zw2_192⟩, ⟨by decide, by decide, by decide +kernel⟩, rfl, by decide, by decide⟩
theorem fl4_23 : q_FL RX4 23 4 1 := ⟨RX4, TX4, 8, tyX4, rfl, by decide, us4, Or.inl zw1_53, rfl, tyX4_ok, nmX4⟩
theorem fp4_23 : q_FP RX4 23 4 1 := ⟨RX4, TX4, 8, tyX4, rfl, by decide, us4, zw1_53, rfl, tyX4_ok, nmX4, rfl, rfl⟩
theorem fp4_27 : q_FP RX4 27 4 2 := ⟨RX4, TX4, 8, tyX4, rfl, by decide, us4, zw1_56, rfl, tyX4_ok, nmX4, rfl, rfl⟩
theorem fp4_30 : q_FP RX4 30 4 3 := ⟨RX4, TX4, 8, tyX4, rfl, by decide, us4, zw1_58, rfl, tyX4_ok, nmX4, rfl, rfl⟩
theorem ly4_33 : q_LY RX4 33 := ⟨zw2_212, zw2_49, zw2_48, zw1_11⟩
theorem fl4_27 : q_FL RX4 27 4 2 := ⟨RX4, TX4, 8, tyX4, rfl, by decide, us4, Or.inl zw1_56, rfl, tyX4_ok, nmX4⟩
theorem fl4_30 : q_FL RX4 30 4 3 := ⟨RX4, TX4, 8, tyX4, rfl, by decide, us4, Or.inl zw1_58, rfl, tyX4_ok, nmX4⟩
theorem lv4_39 : q_LV RX4 39 4 yX4_layIn cX4_layIn 3 none 2 := ⟨⟨zw2_193, zw2_194, zw2_195, zw1_3, zw2_196⟩, ⟨by decide, by decide, by decide +kernel⟩, rfl, by decide, by decide⟩
theorem ls4_43 : q_LS RX4 43 yX7_leftOver cX7_leftOver 3 (some .int) 2 := ⟨⟨Or.inr ⟨RX7, List.mem_of_getElem? (i := 10) rfl⟩, zw3_1, zw1_1, zw3_2⟩, ⟨by decide, by decide, by decide +kernel⟩, by decide⟩
theorem fp4_46 : q_FP RX4 46 4 4 := ⟨RX4, TX4, 8, tyX4, rfl, by decide, us4, zw1_60, rfl, tyX4_ok, nmX4, rfl, rfl⟩
theorem fl4_46 : q_FL RX4 46 4 4 := ⟨RX4, TX4, 8, tyX4, rfl, by decide, us4, Or.inl zw1_60, rfl, tyX4_ok, nmX4⟩
theorem lv4_49 : q_LV RX4 49 4 yX4_pushBy cX4_pushBy 7 (some .int) 1 := ⟨⟨zw3_13, zw3_15, zs_11, zw1_3, zw3_16⟩, ⟨by decide, by decide, by decide +kernel⟩, rfl, by decide, by decide⟩
theorem lm4_53 : q_LM RX4 53 Lib.Math.abs.name Lib.Math.abs.code 1 := ⟨zw3_27, zw3_28, zw1_10, zw3_29⟩
theorem fp4_58 : q_FP RX4 58 4 5 := ⟨RX4, TX4, 8, tyX4, rfl, by decide, us4, zw1_63, rfl, tyX4_ok, nmX4, rfl, rfl⟩
theorem lv4_61 : q_LV RX4 61 4 yX4_turnLeft cX4_turnLeft 2 none 1 := ⟨⟨zw3_30, zw3_31, zw3_32, zw1_3, zw3_33⟩, ⟨by decide, by decide, by decide +kernel⟩, rfl, by decide, by decide⟩
theorem lv4_65 : q_LV RX4 65 4 yX4_dishBefore cX4_dishBefore 2 (some .int) 1 := ⟨⟨zw3_34, zw3_35, zw3_36, zw1_3, zw3_37⟩, ⟨by decide, by decide, by decide +kernel⟩, rfl, by decide, by decide⟩
theorem fp4_68 : q_FP RX4 68 4 6 := ⟨RX4, TX4, 8, tyX4, rfl, by decide, us4, zw1_65, rfl, tyX4_ok, nmX4, rfl, rfl⟩
theorem fl4_68 : q_FL RX4 68 4 6 := ⟨RX4, TX4, 8, tyX4, rfl, by decide, us4, Or.inl zw1_65, rfl, tyX4_ok, nmX4⟩
theorem lv4_71 : q_LV RX4 71 4 yX4_biteOf cX4_biteOf 6 (some .int) 2 := ⟨⟨zw3_38, zw3_40, zs_12, zw1_3, zw3_41⟩, ⟨by decide, by decide, by decide +kernel⟩, rfl, by decide, by decide⟩
theorem fp4_74 : q_FP RX4 74 4 7 := ⟨RX4, TX4, 8, tyX4, rfl, by decide, us4, zw1_67, rfl, tyX4_ok, nmX4, rfl, rfl⟩
theorem fl4_74 : q_FL RX4 74 4 7 := ⟨RX4, TX4, 8, tyX4, rfl, by decide, us4, Or.inl zw1_67, rfl, tyX4_ok, nmX4⟩
theorem lv4_77 : q_LV RX4 77 4 yX4_add cX4_add 4 none 3 := ⟨⟨zw3_42, zw3_43, zw3_44, zw1_3, zw3_45⟩, ⟨by decide, by decide, by decide +kernel⟩, rfl, by decide, by decide⟩
theorem lv4_80 : q_LV RX4 80 4 yX4_has cX4_has 2 (some .boolean) 1 := ⟨⟨zw3_17, zw3_18, zw3_19, zw1_3, zw3_20⟩, ⟨by decide, by decide, by decide +kernel⟩, rfl, by decide, by decide⟩
theorem lm4_84 : q_LM RX4 84 Lib.Math.max.name Lib.Math.max.code 2 := ⟨zw3_21, zw2_12, zw1_10, zw2_13⟩
theorem lv4_87 : q_LV RX4 87 4 yX4_toTheLeft cX4_toTheLeft 3 (some .int) 2 := ⟨⟨zw3_22, zw3_23, zw3_24, zw1_3, zw3_25⟩, ⟨by decide, by decide, by decide +kernel⟩, rfl, by decide, by decide⟩
theorem lm4_90 : q_LM RX4 90 Lib.Math.min.name Lib.Math.min.code 2 := ⟨zw3_26, zw2_9, zw1_10, zw2_10⟩
theorem lo5_3 : q_LO RX5 3 := ⟨zw1_90, zw1_22, zw1_23⟩
theorem ff5_12 : q_FF RX5 12 5 0 := ⟨RX5, TX5, 8, tyX5, rfl, by decide, us5, zw1_107, rfl, tyX5_ok, nmX5, rfl, rfl, by first | exact Or.inl ⟨_, rfl⟩ | exact Or.inr ⟨_, rfl⟩⟩
theorem ff5_21 : q_FF RX5 21 5 1 := ⟨RX5, TX5, 8, tyX5, rfl, by decide, us5, zw1_109, rfl, tyX5_ok, nmX5, rfl, rfl, by first | exact Or.inl ⟨_, rfl⟩ | exact Or.inr ⟨_, rfl⟩⟩
theorem fl5_21 : q_FL RX5 21 5 1 := ⟨RX5, TX5, 8, tyX5, rfl, by decide, us5, Or.inl zw1_109, rfl, tyX5_ok, nmX5⟩
theorem lv5_25 : q_LV RX5 25 4 yX4_clear cX4_clear 2 none 0 := ⟨⟨zw2_75, zw2_76, zw2_77, zw1_3, zw2_78⟩, ⟨by decide, by decide, by decide +kernel⟩, rfl, by decide, by decide⟩
theorem fp5_28 : q_FP RX5 28 5 4 := ⟨RX5, TX5, 8, tyX5, rfl, by decide, us5, zw1_114, rfl, tyX5_ok, nmX5, rfl, rfl⟩
theorem fp5_32 : q_FP RX5 32 5 6 := ⟨RX5, TX5, 8, tyX5, rfl, by decide, us5, zw1_116, rfl, tyX5_ok, nmX5, rfl, rfl⟩
theorem lv5_35 : q_LV RX5 35 5 yX5_next cX5_next 2 none 0 := ⟨⟨zw2_79, zw2_81, zs_3, zw1_4, zw2_82⟩, ⟨by decide, by decide, by decide +kernel⟩, rfl, by decide, by decide⟩
theorem lv5_40 : q_LV RX5 40 5 yX5_isWord cX5_isWord 3 (some .boolean) 1 := ⟨⟨zw2_116, zw2_118, zs_5, zw1_4, zw2_119⟩, ⟨by decide, by decide, by decide +kernel⟩, rfl, by decide, by decide⟩
theorem fp5_44 : q_FP RX5 44 5 7 := ⟨RX5, TX5, 8, tyX5, rfl, by decide, us5, zw1_117, rfl, tyX5_ok, nmX5, rfl, rfl⟩
theorem fl5_44 : q_FL RX5 44 5 7 := ⟨RX5, TX5, 8, tyX5, rfl, by decide, us5, Or.inl zw1_117, rfl, tyX5_ok, nmX5⟩
theorem lv5_47 : q_LV RX5 47 5 yX5_readGuest cX5_readGuest 3 none 0 := ⟨⟨zw2_168, zw2_170, zs_6, zw1_4, zw2_171⟩, ⟨by decide, by decide, by decide +kernel⟩, rfl, by decide, by decide⟩
theorem lv5_52 : q_LV RX5 52 5 yX5_readDish cX5_readDish 2 none 0 := ⟨⟨zw2_198, zw2_200, zs_9, zw1_4, zw2_201⟩, ⟨by decide, by decide, by decide +kernel⟩, rfl, by decide, by decide⟩
theorem fl5_55 : q_FL RX5 55 5 2 := ⟨RX5, TX5, 8, tyX5, rfl, by decide, us5, Or.inl zw1_111, rfl, tyX5_ok, nmX5⟩
theorem fl5_58 : q_FL RX5 58 4 1 := ⟨RX4, TX4, 8, tyX4, rfl, by decide, us4, Or.inr ⟨RX7, List.mem_of_getElem? (i := 2) rfl⟩, rfl, tyX4_ok, nmX4⟩
theorem lv5_61 : q_LV RX5 61 5 yX5_sortNamed cX5_sortNamed 1 (some .int) 0 := ⟨⟨zw2_172, zw2_174, zs_7, zw1_4, zw2_175⟩, ⟨by decide, by decide, by decide +kernel⟩, rfl, by decide, by decide⟩
theorem lv5_65 : q_LV RX5 65 5 yX5_readNumberAndEnd cX5_readNumberAndEnd 3 (some .int) 1 := ⟨⟨zw2_181, zw2_183, zs_8, zw1_4, zw2_184⟩, ⟨by decide, by decide, by decide +kernel⟩, rfl, by decide, by decide⟩
theorem lv5_69 : q_LV RX5 69 4 yX4_seat cX4_seat 3 none 2 := ⟨⟨zw2_185, zw2_186, zw2_187, zw1_3, zw2_188⟩, ⟨by decide, by decide, by decide +kernel⟩, rfl, by decide, by decide⟩
theorem fl5_32 : q_FL RX5 32 5 6 := ⟨RX5, TX5, 8, tyX5, rfl, by decide, us5, Or.inl zw1_116, rfl, tyX5_ok, nmX5⟩
theorem lv5_73 : q_LV RX5 73 4 yX4_put cX4_put 5 none 3 := ⟨⟨zw2_202, zw2_190, zw2_191, zw1_3, zw2_192⟩, ⟨by decide, by decide, by decide +kernel⟩, rfl, by decide, by decide⟩
theorem fl5_77 : q_FL RX5 77 5 5 := ⟨RX5, TX5, 8, tyX5, rfl, by decide, us5, Or.inl zw1_115, rfl, tyX5_ok, nmX5⟩
theorem fl5_28 : q_FL RX5 28 5 4 := ⟨RX5, TX5, 8, tyX5, rfl, by decide, us5, Or.inl zw1_114, rfl, tyX5_ok, nmX5⟩
theorem fl5_90 : q_FL RX5 90 5 3 := ⟨RX5, TX5, 8, tyX5, rfl, by decide, us5, Or.inl zw1_112, rfl, tyX5_ok, nmX5⟩
theorem fl5_12 : q_FL RX5 12 5 0 := ⟨RX5, TX5, 8, tyX5, rfl, by decide, us5, Or.inl zw1_107, rfl, tyX5_ok, nmX5⟩
theorem lv5_98 : q_LV RX5 98 6 yX6_at cX6_at 2 (some .int) 1 := ⟨⟨zw2_94, zw2_88, zw2_89, zw1_5, zw2_90⟩, ⟨by decide, by decide, by decide +kernel⟩, rfl, by decide, by decide⟩
theorem lv5_105 : q_LV RX5 105 6 yX6_endOfBlanks cX6_endOfBlanks 3 (some .int) 1 := ⟨⟨zw2_83, zw2_84, zw2_85, zw1_5, zw2_86⟩, ⟨by decide, by decide, by decide +kernel⟩, rfl, by decide, by decide⟩
theorem fp5_90 : q_FP RX5 90 5 3 := ⟨RX5, TX5, 8, tyX5, rfl, by decide, us5, zw1_112, rfl, tyX5_ok, nmX5, rfl, rfl⟩
theorem fp5_55 : q_FP RX5 55 5 2 := ⟨RX5, TX5, 8, tyX5, rfl, by decide, us5, zw1_111, rfl, tyX5_ok, nmX5, rfl, rfl⟩
theorem ls5_108 : q_LS RX5 108 yX6_isLetter cX6_isLetter 1 (some .boolean) 1 := ⟨⟨Or.inl zw2_95, zw2_96, zw1_5, zw2_97⟩, ⟨by decide, by decide, by decide +kernel⟩, by decide⟩
theorem lv5_112 : q_LV RX5 112 6 yX6_endOfLetters cX6_endOfLetters 3 (some .int) 1 := ⟨⟨zw2_98, zw2_99, zw2_100, zw1_5, zw2_101⟩, ⟨by decide, by decide, by decide +kernel⟩, rfl, by decide, by decide⟩
theorem ls5_115 : q_LS RX5 115 yX6_isFigure cX6_isFigure 1 (some .boolean) 1 := ⟨⟨Or.inl zw2_103, zw2_104, zw1_5, zw2_105⟩, ⟨by decide, by decide, by decide +kernel⟩, by decide⟩
theorem lv5_118 : q_LV RX5 118 6 yX6_endOfFigures cX6_endOfFigures 3 (some .int) 1 := ⟨⟨zw2_106, zw2_107, zw2_108, zw1_5, zw2_109⟩, ⟨by decide, by decide, by decide +kernel⟩, rfl, by decide, by decide⟩
theorem lv5_121 : q_LV RX5 121 5 yX5_valueOfFigures cX5_valueOfFigures 3 (some .int) 0 := ⟨⟨zw2_111, zw2_113, zs_4, zw1_4, zw2_114⟩, ⟨by decide, by decide, by decide +kernel⟩, rfl, by decide, by decide⟩
theorem fp5_77 : q_FP RX5 77 5 5 := ⟨RX5, TX5, 8, tyX5, rfl, by decide, us5, zw1_115, rfl, tyX5_ok, nmX5, rfl, rfl⟩
theorem lo6_3 : q_LO RX6 3 := ⟨zw1_96, zw1_22, zw1_23⟩
theorem ff6_9 : q_FF RX6 9 6 0 := ⟨RX6, TX6, 2, tyX6, rfl, by decide, us6, zw1_97, rfl, tyX6_ok, nmX6, rfl, rfl, by first | exact Or.inl ⟨_, rfl⟩ | exact Or.inr ⟨_, rfl⟩⟩
theorem fl6_15 : q_FL RX6 15 6 1 := ⟨RX6, TX6, 2, tyX6, rfl, by decide, us6, Or.inl zw1_98, rfl, tyX6_ok, nmX6⟩
theorem fl6_9 : q_FL RX6 9 6 0 := ⟨RX6, TX6, 2, tyX6, rfl, by decide, us6, Or.inl zw1_97, rfl, tyX6_ok, nmX6⟩
theorem fp6_15 : q_FP RX6 15 6 1 := ⟨RX6, TX6, 2, tyX6, rfl, by decide, us6, zw1_98, rfl, tyX6_ok, nmX6, rfl, rfl⟩
theorem lv6_19 : q_LV RX6 19 6 yX6_at cX6_at 2 (some .int) 1 := ⟨⟨zw2_87, zw2_88, zw2_89, zw1_5, zw2_90⟩, ⟨by decide, by decide, by decide +kernel⟩, rfl, by decide, by decide⟩
theorem ls6_23 : q_LS RX6 23 yX6_isBlank cX6_isBlank 1 (some .boolean) 1 := ⟨⟨Or.inl zw2_91, zw2_92, zw1_5, zw2_93⟩, ⟨by decide, by decide, by decide +kernel⟩, by decide⟩
theorem ls6_27 : q_LS RX6 27 yX6_isLetter cX6_isLetter 1 (some .boolean) 1 := ⟨⟨Or.inl zw2_102, zw2_96, zw1_5, zw2_97⟩, ⟨by decide, by decide, by decide +kernel⟩, by decide⟩
theorem ls6_30 : q_LS RX6 30 yX6_isFigure cX6_isFigure 1 (some .boolean) 1 := ⟨⟨Or.inl zw2_110, zw2_104, zw1_5, zw2_105⟩, ⟨by decide, by decide, by decide +kernel⟩, by decide⟩
theorem lo7_1 : q_LO RX7 1 := ⟨zw1_21, zw1_22, zw1_23⟩
theorem ff7_11 : q_FF RX7 11 7 0 := ⟨RX7, TX7, 9, tyX7, rfl, by decide, us7, zw1_199, rfl, tyX7_ok, nmX7, rfl, rfl, by first | exact Or.inl ⟨_, rfl⟩ | exact Or.inr ⟨_, rfl⟩⟩
theorem fl7_11 : q_FL RX7 11 7 0 := ⟨RX7, TX7, 9, tyX7, rfl, by decide, us7, Or.inl zw1_199, rfl, tyX7_ok, nmX7⟩
theorem ff7_18 : q_FF RX7 18 7 4 := ⟨RX7, TX7, 9, tyX7, rfl, by decide, us7, zw1_203, rfl, tyX7_ok, nmX7, rfl, rfl, by first | exact Or.inl ⟨_, rfl⟩ | exact Or.inr ⟨_, rfl⟩⟩
theorem fl7_18 : q_FL RX7 18 7 4 := ⟨RX7, TX7, 9, tyX7, rfl, by decide, us7, Or.inl zw1_203, rfl, tyX7_ok, nmX7⟩
theorem ff7_26 : q_FF RX7 26 7 1 := ⟨RX7, TX7, 9, tyX7, rfl, by decide, us7, zw1_200, rfl, tyX7_ok, nmX7, rfl, rfl, by first | exact Or.inl ⟨_, rfl⟩ | exact Or.inr ⟨_, rfl⟩⟩
theorem ff7_30 : q_FF RX7 30 7 2 := ⟨RX7, TX7, 9, tyX7, rfl, by decide, us7, zw1_201, rfl, tyX7_ok, nmX7, rfl, rfl, by first | exact Or.inl ⟨_, rfl⟩ | exact Or.inr ⟨_, rfl⟩⟩
theorem ff7_37 : q_FF RX7 37 7 3 := ⟨RX7, TX7, 9, tyX7, rfl, by decide, us7, zw1_202, rfl, tyX7_ok, nmX7, rfl, rfl, by first | exact Or.inl ⟨_, rfl⟩ | exact Or.inr ⟨_, rfl⟩⟩
theorem ff7_44 : q_FF RX7 44 7 5 := ⟨RX7, TX7, 9, tyX7, rfl, by decide, us7, zw1_204, rfl, tyX7_ok, nmX7, rfl, rfl, by first | exact Or.inl ⟨_, rfl⟩ | exact Or.inr ⟨_, rfl⟩⟩
theorem ff7_51 : q_FF RX7 51 7 6 := ⟨RX7, TX7, 9, tyX7, rfl, by decide, us7, zw1_205, rfl, tyX7_ok, nmX7, rfl, rfl, by first | exact Or.inl ⟨_, rfl⟩ | exact Or.inr ⟨_, rfl⟩⟩
theorem lv7_55 : q_LV RX7 55 7 yX7_rowAt cX7_rowAt 2 (some (.object "TurningDishes$Row")) 1 := ⟨⟨zw1_231, zw1_233, zs_0, zw1_1, zw1_234⟩, ⟨by decide, by decide, by decide +kernel⟩, rfl, by decide, by decide⟩
theorem ls7_59 : q_LS RX7 59 yX7_within cX7_within 3 (some .boolean) 3 := ⟨⟨Or.inl zw1_235, zw1_236, zw1_1, zw1_237⟩, ⟨by decide, by decide, by decide +kernel⟩, by decide⟩
theorem zk7_63 : Cond.constant RX7 63 (-1000001) ∈ q_Z := zw1_238
theorem lv7_64 : q_LV RX7 64 7 yX7_found cX7_found 2 (some .int) 1 := ⟨⟨zw1_239, zw2_1, zs_1, zw1_1, zw2_2⟩, ⟨by decide, by decide, by decide +kernel⟩, rfl, by decide, by decide⟩
theorem lv7_68 : q_LV RX7 68 3 yX3_begin cX3_begin 4 none 2 := ⟨⟨zw2_4, zw2_5, zw2_6, zw1_2, zw2_7⟩, ⟨by decide, by decide, by decide +kernel⟩, rfl, by decide, by decide⟩
theorem lv7_72 : q_LV RX7 72 7 yX7_fine cX7_fine 2 (some .int) 1 := ⟨⟨zw2_14, zw2_16, zs_2, zw1_1, zw2_17⟩, ⟨by decide, by decide, by decide +kernel⟩, rfl, by decide, by decide⟩
theorem lv7_75 : q_LV RX7 75 3 yX3_isMissing cX3_isMissing 1 (some .boolean) 0 := ⟨⟨zw2_22, zw2_23, zw2_24, zw1_2, zw2_25⟩, ⟨by decide, by decide, by decide +kernel⟩, rfl, by decide, by decide⟩
theorem lv7_79 : q_LV RX7 79 3 yX3_hasPlaces cX3_hasPlaces 3 (some .boolean) 2 := ⟨⟨zw2_26, zw2_27, zw2_28, zw1_2, zw2_29⟩, ⟨by decide, by decide, by decide +kernel⟩, rfl, by decide, by decide⟩
theorem lv7_83 : q_LV RX7 83 3 yX3_store cX3_store 3 none 2 := ⟨⟨zw2_30, zw2_31, zw2_32, zw1_2, zw2_33⟩, ⟨by decide, by decide, by decide +kernel⟩, rfl, by decide, by decide⟩
theorem lv7_86 : q_LV RX7 86 3 yX3_item cX3_item 2 (some .int) 1 := ⟨⟨zw2_34, zw2_35, zw2_36, zw1_2, zw2_37⟩, ⟨by decide, by decide, by decide +kernel⟩, rfl, by decide, by decide⟩
theorem fl7_89 : q_FL RX7 89 3 1 := ⟨RX3, TX3, 3, tyX3, rfl, by decide, us3, Or.inr ⟨RX7, List.mem_of_getElem? (i := 0) rfl⟩, rfl, tyX3_ok, nmX3⟩
theorem lv7_93 : q_LV RX7 93 3 yX3_take cX3_take 5 none 4 := ⟨⟨zw2_42, zw2_43, zw2_44, zw1_2, zw2_45⟩, ⟨by decide, by decide, by decide +kernel⟩, rfl, by decide, by decide⟩
theorem fl7_97 : q_FL RX7 97 3 2 := ⟨RX3, TX3, 3, tyX3, rfl, by decide, us3, Or.inr ⟨RX7, List.mem_of_getElem? (i := 1) rfl⟩, rfl, tyX3_ok, nmX3⟩
theorem lv7_100 : q_LV RX7 100 3 yX3_end cX3_end 1 none 0 := ⟨⟨zw2_54, zw2_55, zw2_56, zw1_2, zw2_57⟩, ⟨by decide, by decide, by decide +kernel⟩, rfl, by decide, by decide⟩
theorem fl7_26 : q_FL RX7 26 7 1 := ⟨RX7, TX7, 9, tyX7, rfl, by decide, us7, Or.inl zw1_200, rfl, tyX7_ok, nmX7⟩
theorem fl7_103 : q_FL RX7 103 5 0 := ⟨RX5, TX5, 8, tyX5, rfl, by decide, us5, Or.inr ⟨RX7, List.mem_of_getElem? (i := 12) rfl⟩, rfl, tyX5_ok, nmX5⟩
theorem fl7_107 : q_FL RX7 107 6 1 := ⟨RX6, TX6, 2, tyX6, rfl, by decide, us6, Or.inr ⟨RX7, List.mem_of_getElem? (i := 11) rfl⟩, rfl, tyX6_ok, nmX6⟩
theorem zk7_110 : Cond.constant RX7 110 (-1000003) ∈ q_Z := zw2_62
theorem lv7_111 : q_LV RX7 111 6 yX6_add cX6_add 2 none 1 := ⟨⟨zw2_63, zw2_64, zw2_65, zw1_5, zw2_66⟩, ⟨by decide, by decide, by decide +kernel⟩, rfl, by decide, by decide⟩
theorem lv7_115 : q_LV RX7 115 5 yX5_read cX5_read 2 none 0 := ⟨⟨zw2_71, zw2_72, zw2_73, zw1_4, zw2_74⟩, ⟨by decide, by decide, by decide +kernel⟩, rfl, by decide, by decide⟩
theorem lv7_118 : q_LV RX7 118 6 yX6_clear cX6_clear 1 none 0 := ⟨⟨zw2_203, zw2_204, zw2_205, zw1_5, zw2_206⟩, ⟨by decide, by decide, by decide +kernel⟩, rfl, by decide, by decide⟩
theorem fl7_121 : q_FL RX7 121 5 7 := ⟨RX5, TX5, 8, tyX5, rfl, by decide, us5, Or.inr ⟨RX7, List.mem_of_getElem? (i := 15) rfl⟩, rfl, tyX5_ok, nmX5⟩
theorem fp7_124 : q_FP RX7 124 7 7 := ⟨RX7, TX7, 9, tyX7, rfl, by decide, us7, zw1_206, rfl, tyX7_ok, nmX7, rfl, rfl⟩
theorem zk7_127 : Cond.constant RX7 127 (-1000100) ∈ q_Z := zw2_207
theorem fl7_128 : q_FL RX7 128 5 3 := ⟨RX5, TX5, 8, tyX5, rfl, by decide, us5, Or.inr ⟨RX7, List.mem_of_getElem? (i := 14) rfl⟩, rfl, tyX5_ok, nmX5⟩
theorem fl7_30 : q_FL RX7 30 7 2 := ⟨RX7, TX7, 9, tyX7, rfl, by decide, us7, Or.inl zw1_201, rfl, tyX7_ok, nmX7⟩
theorem fl7_131 : q_FL RX7 131 5 1 := ⟨RX5, TX5, 8, tyX5, rfl, by decide, us5, Or.inr ⟨RX7, List.mem_of_getElem? (i := 13) rfl⟩, rfl, tyX5_ok, nmX5⟩
theorem lv7_134 : q_LV RX7 134 4 yX4_become cX4_become 2 none 1 := ⟨⟨zw2_208, zw2_209, zw2_210, zw1_3, zw2_211⟩, ⟨by decide, by decide, by decide +kernel⟩, rfl, by decide, by decide⟩
theorem fl7_37 : q_FL RX7 37 7 3 := ⟨RX7, TX7, 9, tyX7, rfl, by decide, us7, Or.inl zw1_202, rfl, tyX7_ok, nmX7⟩
theorem lv7_138 : q_LV RX7 138 0 yX0_forget cX0_forget 1 none 0 := ⟨⟨zw2_213, zw2_214, zw2_215, zw1_6, zw2_216⟩, ⟨by decide, by decide, by decide +kernel⟩, rfl, by decide, by decide⟩
theorem fl7_141 : q_FL RX7 141 4 1 := ⟨RX4, TX4, 8, tyX4, rfl, by decide, us4, Or.inr ⟨RX7, List.mem_of_getElem? (i := 4) rfl⟩, rfl, tyX4_ok, nmX4⟩
theorem fl7_124 : q_FL RX7 124 7 7 := ⟨RX7, TX7, 9, tyX7, rfl, by decide, us7, Or.inl zw1_206, rfl, tyX7_ok, nmX7⟩
theorem lv7_144 : q_LV RX7 144 4 yX4_stands cX4_stands 1 (some .boolean) 0 := ⟨⟨zw2_226, zw2_227, zw2_228, zw1_3, zw2_229⟩, ⟨by decide, by decide, by decide +kernel⟩, rfl, by decide, by decide⟩
theorem zk7_147 : Cond.constant RX7 147 (-1000002) ∈ q_Z := zw2_230
theorem fl7_148 : q_FL RX7 148 4 3 := ⟨RX4, TX4, 8, tyX4, rfl, by decide, us4, Or.inr ⟨RX7, List.mem_of_getElem? (i := 6) rfl⟩, rfl, tyX4_ok, nmX4⟩
theorem lv7_151 : q_LV RX7 151 0 yX0_keep cX0_keep 3 none 1 := ⟨⟨zw2_231, zw2_232, zw2_233, zw1_6, zw2_234⟩, ⟨by decide, by decide, by decide +kernel⟩, rfl, by decide, by decide⟩
theorem lv7_154 : q_LV RX7 154 4 yX4_passMinute cX4_passMinute 2 none 0 := ⟨⟨zw3_4, zw3_5, zw3_6, zw1_3, zw3_7⟩, ⟨by decide, by decide, by decide +kernel⟩, rfl, by decide, by decide⟩
theorem fl7_157 : q_FL RX7 157 4 2 := ⟨RX4, TX4, 8, tyX4, rfl, by decide, us4, Or.inr ⟨RX7, List.mem_of_getElem? (i := 5) rfl⟩, rfl, tyX4_ok, nmX4⟩
theorem lv7_160 : q_LV RX7 160 4 yX4_turnLeft cX4_turnLeft 2 none 1 := ⟨⟨zw3_50, zw3_31, zw3_32, zw1_3, zw3_33⟩, ⟨by decide, by decide, by decide +kernel⟩, rfl, by decide, by decide⟩
theorem lv7_163 : q_LV RX7 163 4 yX4_has cX4_has 2 (some .boolean) 1 := ⟨⟨zw3_55, zw3_18, zw3_19, zw1_3, zw3_20⟩, ⟨by decide, by decide, by decide +kernel⟩, rfl, by decide, by decide⟩
theorem lv7_167 : q_LV RX7 167 4 yX4_of cX4_of 4 (some .int) 2 := ⟨⟨zw3_56, zw3_10, zw3_11, zw1_3, zw3_12⟩, ⟨by decide, by decide, by decide +kernel⟩, rfl, by decide, by decide⟩
theorem lv7_171 : q_LV RX7 171 4 yX4_add cX4_add 4 none 3 := ⟨⟨zw3_57, zw3_43, zw3_44, zw1_3, zw3_45⟩, ⟨by decide, by decide, by decide +kernel⟩, rfl, by decide, by decide⟩
theorem lv7_174 : q_LV RX7 174 4 yX4_swapSeats cX4_swapSeats 5 none 2 := ⟨⟨zw3_62, zw3_63, zw3_64, zw1_3, zw3_65⟩, ⟨by decide, by decide, by decide +kernel⟩, rfl, by decide, by decide⟩
theorem lv7_177 : q_LV RX7 177 4 yX4_swapSlots cX4_swapSlots 4 none 2 := ⟨⟨zw3_70, zw3_71, zw3_72, zw1_3, zw3_73⟩, ⟨by decide, by decide, by decide +kernel⟩, rfl, by decide, by decide⟩
theorem fl7_180 : q_FL RX7 180 0 2 := ⟨RX0, TX0, 3, tyX0, rfl, by decide, us0, Or.inr ⟨RX7, List.mem_of_getElem? (i := 16) rfl⟩, rfl, tyX0_ok, nmX0⟩
theorem lv7_183 : q_LV RX7 183 0 yX0_giveBack cX0_giveBack 2 none 1 := ⟨⟨zw3_78, zw3_79, zw3_80, zw1_6, zw3_81⟩, ⟨by decide, by decide, by decide +kernel⟩, rfl, by decide, by decide⟩
theorem lv7_186 : q_LV RX7 186 4 yX4_dishBefore cX4_dishBefore 2 (some .int) 1 := ⟨⟨zw3_86, zw3_35, zw3_36, zw1_3, zw3_37⟩, ⟨by decide, by decide, by decide +kernel⟩, rfl, by decide, by decide⟩
theorem fl7_44 : q_FL RX7 44 7 5 := ⟨RX7, TX7, 9, tyX7, rfl, by decide, us7, Or.inl zw1_204, rfl, tyX7_ok, nmX7⟩
theorem lv7_189 : q_LV RX7 189 2 yX2_look cX2_look 3 (some .int) 2 := ⟨⟨zw3_95, zw3_96, zw3_97, zw1_7, zw3_98⟩, ⟨by decide, by decide, by decide +kernel⟩, rfl, by decide, by decide⟩
theorem fl7_193 : q_FL RX7 193 2 0 := ⟨RX2, TX2, 3, tyX2, rfl, by decide, us2, Or.inr ⟨RX7, List.mem_of_getElem? (i := 17) rfl⟩, rfl, tyX2_ok, nmX2⟩
theorem lv7_196 : q_LV RX7 196 2 yX2_eatsSeatedAs cX2_eatsSeatedAs 5 (some .int) 4 := ⟨⟨zw3_114, zw3_115, zw3_116, zw1_7, zw3_117⟩, ⟨by decide, by decide, by decide +kernel⟩, rfl, by decide, by decide⟩
theorem lv7_200 : q_LV RX7 200 2 yX2_minuteOfLastPortion cX2_minuteOfLastPortion 5 (some .int) 2 := ⟨⟨zw3_124, zw3_125, zw3_126, zw1_7, zw3_127⟩, ⟨by decide, by decide, by decide +kernel⟩, rfl, by decide, by decide⟩
theorem zk7_203 : Cond.constant RX7 203 (-1000000) ∈ q_Z := zw3_129
theorem fl7_204 : q_FL RX7 204 4 4 := ⟨RX4, TX4, 8, tyX4, rfl, by decide, us4, Or.inr ⟨RX7, List.mem_of_getElem? (i := 7) rfl⟩, rfl, tyX4_ok, nmX4⟩
theorem lv7_207 : q_LV RX7 207 4 yX4_whoAteNothing cX4_whoAteNothing 3 (some .int) 0 := ⟨⟨zw3_134, zw3_135, zw3_136, zw1_3, zw3_137⟩, ⟨by decide, by decide, by decide +kernel⟩, rfl, by decide, by decide⟩
theorem lv7_211 : q_LV RX7 211 2 yX2_minutesToRest cX2_minutesToRest 4 (some .int) 1 := ⟨⟨zw3_142, zw3_143, zw3_144, zw1_7, zw3_145⟩, ⟨by decide, by decide, by decide +kernel⟩, rfl, by decide, by decide⟩
theorem lv7_215 : q_LV RX7 215 2 yX2_turnsToServe cX2_turnsToServe 5 (some .int) 1 := ⟨⟨zw3_150, zw3_151, zw3_152, zw1_7, zw3_153⟩, ⟨by decide, by decide, by decide +kernel⟩, rfl, by decide, by decide⟩
theorem lv7_218 : q_LV RX7 218 2 yX2_findBestSlots cX2_findBestSlots 7 (some .int) 2 := ⟨⟨zw3_165, zw3_166, zw3_167, zw1_7, zw3_168⟩, ⟨by decide, by decide, by decide +kernel⟩, rfl, by decide, by decide⟩
theorem lv7_221 : q_LV RX7 221 2 yX2_bestSlot cX2_bestSlot 2 (some .int) 1 := ⟨⟨zw3_184, zw3_185, zw3_186, zw1_7, zw3_187⟩, ⟨by decide, by decide, by decide +kernel⟩, rfl, by decide, by decide⟩
theorem lv7_224 : q_LV RX7 224 2 yX2_dishesToWant cX2_dishesToWant 8 (some .int) 5 := ⟨⟨zw3_192, zw3_193, zw3_194, zw1_7, zw3_195⟩, ⟨by decide, by decide, by decide +kernel⟩, rfl, by decide, by decide⟩
theorem lv7_228 : q_LV RX7 228 2 yX2_bestToSitAs cX2_bestToSitAs 8 (some .int) 3 := ⟨⟨zw3_206, zw3_207, zw3_208, zw1_7, zw3_209⟩, ⟨by decide, by decide, by decide +kernel⟩, rfl, by decide, by decide⟩
theorem lv7_232 : q_LV RX7 232 7 yX7_imageAt cX7_imageAt 2 (some (.object "TurningDishes$Table")) 1 := ⟨⟨zw3_215, zw3_217, zs_18, zw1_1, zw3_218⟩, ⟨by decide, by decide, by decide +kernel⟩, rfl, by decide, by decide⟩
theorem ls7_236 : q_LS RX7 236 yX7_isOne cX7_isOne 2 (some .boolean) 2 := ⟨⟨Or.inl zw3_231, zw3_232, zw1_1, zw3_233⟩, ⟨by decide, by decide, by decide +kernel⟩, by decide⟩
theorem fl7_51 : q_FL RX7 51 7 6 := ⟨RX7, TX7, 9, tyX7, rfl, by decide, us7, Or.inl zw1_205, rfl, tyX7_ok, nmX7⟩
theorem lv7_239 : q_LV RX7 239 1 yX1_begin cX1_begin 3 none 2 := ⟨⟨zw3_238, zw3_239, zw4_0, zw1_8, zw4_1⟩, ⟨by decide, by decide, by decide +kernel⟩, rfl, by decide, by decide⟩
theorem lv7_242 : q_LV RX7 242 1 yX1_size cX1_size 1 (some .int) 0 := ⟨⟨zw4_3, zw4_4, zw4_5, zw1_8, zw4_6⟩, ⟨by decide, by decide, by decide +kernel⟩, rfl, by decide, by decide⟩
theorem lv7_245 : q_LV RX7 245 1 yX1_mark cX1_mark 1 (some .int) 0 := ⟨⟨zw4_47, zw4_48, zw4_49, zw1_8, zw4_50⟩, ⟨by decide, by decide, by decide +kernel⟩, rfl, by decide, by decide⟩
theorem lv7_248 : q_LV RX7 248 1 yX1_traced cX1_traced 2 (some .int) 1 := ⟨⟨zw4_59, zw4_60, zw4_61, zw1_8, zw4_62⟩, ⟨by decide, by decide, by decide +kernel⟩, rfl, by decide, by decide⟩
theorem lv7_251 : q_LV RX7 251 7 yX7_rowsThere cX7_rowsThere 4 (some .int) 0 := ⟨⟨zw4_68, zw4_70, zs_30, zw1_1, zw4_71⟩, ⟨by decide, by decide, by decide +kernel⟩, rfl, by decide, by decide⟩
theorem lv7_254 : q_LV RX7 254 4 yX4_portionsOfAll cX4_portionsOfAll 3 (some .int) 0 := ⟨⟨zw4_72, zw4_73, zw4_74, zw1_3, zw4_75⟩, ⟨by decide, by decide, by decide +kernel⟩, rfl, by decide, by decide⟩
theorem fl7_257 : q_FL RX7 257 7 8 := ⟨RX7, TX7, 9, tyX7, rfl, by decide, us7, Or.inl zw1_207, rfl, tyX7_ok, nmX7⟩
theorem fp7_257 : q_FP RX7 257 7 8 := ⟨RX7, TX7, 9, tyX7, rfl, by decide, us7, zw1_207, rfl, tyX7_ok, nmX7, rfl, rfl⟩
theorem zk7_260 : Cond.constant RX7 260 (-1000010) ∈ q_Z := zw2_3
theorem lo8_1 : q_LO RX8 1 := ⟨zw4_85, zw1_22, zw1_23⟩
theorem ff8_7 : q_FF RX8 7 8 0 := ⟨RX8, TX8, 22, tyX8, rfl, by decide, us8, zw4_86, rfl, tyX8_ok, nmX8, rfl, rfl, by first | exact Or.inl ⟨_, rfl⟩ | exact Or.inr ⟨_, rfl⟩⟩
theorem ff8_13 : q_FF RX8 13 8 2 := ⟨RX8, TX8, 22, tyX8, rfl, by decide, us8, zw4_88, rfl, tyX8_ok, nmX8, rfl, rfl, by first | exact Or.inl ⟨_, rfl⟩ | exact Or.inr ⟨_, rfl⟩⟩
theorem ff8_16 : q_FF RX8 16 8 6 := ⟨RX8, TX8, 22, tyX8, rfl, by decide, us8, zw4_92, rfl, tyX8_ok, nmX8, rfl, rfl, by first | exact Or.inl ⟨_, rfl⟩ | exact Or.inr ⟨_, rfl⟩⟩
theorem ff8_19 : q_FF RX8 19 8 7 := ⟨RX8, TX8, 22, tyX8, rfl, by decide, us8, zw4_93, rfl, tyX8_ok, nmX8, rfl, rfl, by first | exact Or.inl ⟨_, rfl⟩ | exact Or.inr ⟨_, rfl⟩⟩
theorem ff8_22 : q_FF RX8 22 8 8 := ⟨RX8, TX8, 22, tyX8, rfl, by decide, us8, zw4_94, rfl, tyX8_ok, nmX8, rfl, rfl, by first | exact Or.inl ⟨_, rfl⟩ | exact Or.inr ⟨_, rfl⟩⟩
theorem ff8_25 : q_FF RX8 25 8 9 := ⟨RX8, TX8, 22, tyX8, rfl, by decide, us8, zw4_95, rfl, tyX8_ok, nmX8, rfl, rfl, by first | exact Or.inl ⟨_, rfl⟩ | exact Or.inr ⟨_, rfl⟩⟩
theorem ff8_28 : q_FF RX8 28 8 19 := ⟨RX8, TX8, 22, tyX8, rfl, by decide, us8, zw4_105, rfl, tyX8_ok, nmX8, rfl, rfl, by first | exact Or.inl ⟨_, rfl⟩ | exact Or.inr ⟨_, rfl⟩⟩
theorem ff8_32 : q_FF RX8 32 8 20 := ⟨RX8, TX8, 22, tyX8, rfl, by decide, us8, zw4_106, rfl, tyX8_ok, nmX8, rfl, rfl, by first | exact Or.inl ⟨_, rfl⟩ | exact Or.inr ⟨_, rfl⟩⟩
theorem fl8_16 : q_FL RX8 16 8 6 := ⟨RX8, TX8, 22, tyX8, rfl, by decide, us8, Or.inl zw4_92, rfl, tyX8_ok, nmX8⟩
theorem fl8_7 : q_FL RX8 7 8 0 := ⟨RX8, TX8, 22, tyX8, rfl, by decide, us8, Or.inl zw4_86, rfl, tyX8_ok, nmX8⟩
theorem zk8_35 : Cond.constantLong RX8 35 (7) ∈ q_Z := zw4_161
theorem ls8_37 : q_LS RX8 37 yX8_in cX8_in 6 (some .boolean) 3 := ⟨⟨Or.inl zw4_162, zw4_163, zw1_9, zw4_164⟩, ⟨by decide, by decide, by decide +kernel⟩, by decide⟩
theorem fp8_41 : q_FP RX8 41 8 5 := ⟨RX8, TX8, 22, tyX8, rfl, by decide, us8, zw4_91, rfl, tyX8_ok, nmX8, rfl, rfl⟩
theorem zk8_45 : Cond.constant RX8 45 (-1000010) ∈ q_Z := zw4_171
theorem ls8_46 : q_LS RX8 46 yX8_isRow cX8_isRow 1 (some .boolean) 1 := ⟨⟨Or.inl zw4_158, zw4_159, zw1_9, zw4_160⟩, ⟨by decide, by decide, by decide +kernel⟩, by decide⟩
theorem zk8_50 : Cond.constantLong RX8 50 (2) ∈ q_Z := zw4_165
theorem zk8_52 : Cond.constant RX8 52 (-1000001) ∈ q_Z := zw4_166
theorem lv8_53 : q_LV RX8 53 8 yX8_found cX8_found 2 (some .int) 1 := ⟨⟨zw4_167, zw4_169, zs_31, zw1_9, zw4_170⟩, ⟨by decide, by decide, by decide +kernel⟩, rfl, by decide, by decide⟩
theorem fl8_19 : q_FL RX8 19 8 7 := ⟨RX8, TX8, 22, tyX8, rfl, by decide, us8, Or.inl zw4_93, rfl, tyX8_ok, nmX8⟩
theorem fl8_22 : q_FL RX8 22 8 8 := ⟨RX8, TX8, 22, tyX8, rfl, by decide, us8, Or.inl zw4_94, rfl, tyX8_ok, nmX8⟩
theorem lv8_57 : q_LV RX8 57 8 yX8_well cX8_well 2 (some .int) 1 := ⟨⟨zw4_172, zw4_174, zs_32, zw1_9, zw4_175⟩, ⟨by decide, by decide, by decide +kernel⟩, rfl, by decide, by decide⟩
theorem ls8_60 : q_LS RX8 60 yX8_isPart cX8_isPart 3 (some .boolean) 3 := ⟨⟨Or.inl zw4_184, zw4_185, zw1_9, zw4_186⟩, ⟨by decide, by decide, by decide +kernel⟩, by decide⟩
theorem fl8_25 : q_FL RX8 25 8 9 := ⟨RX8, TX8, 22, tyX8, rfl, by decide, us8, Or.inl zw4_95, rfl, tyX8_ok, nmX8⟩
theorem zk8_64 : Cond.constantLong RX8 64 (8) ∈ q_Z := zw4_195
theorem fl8_66 : q_FL RX8 66 8 3 := ⟨RX8, TX8, 22, tyX8, rfl, by decide, us8, Or.inl zw4_89, rfl, tyX8_ok, nmX8⟩
theorem zk8_69 : Cond.constant RX8 69 (-1000003) ∈ q_Z := zw4_196
theorem fl8_13 : q_FL RX8 13 8 2 := ⟨RX8, TX8, 22, tyX8, rfl, by decide, us8, Or.inl zw4_88, rfl, tyX8_ok, nmX8⟩
theorem zk8_70 : Cond.constantLong RX8 70 (255) ∈ q_Z := zw4_197
theorem fp8_66 : q_FP RX8 66 8 3 := ⟨RX8, TX8, 22, tyX8, rfl, by decide, us8, zw4_89, rfl, tyX8_ok, nmX8, rfl, rfl⟩
theorem zk8_72 : Cond.constantLong RX8 72 (97) ∈ q_Z := zw4_217
theorem zk8_74 : Cond.constantLong RX8 74 (122) ∈ q_Z := zw4_218
theorem zk8_76 : Cond.constantLong RX8 76 (48) ∈ q_Z := zw4_219
theorem zk8_78 : Cond.constantLong RX8 78 (57) ∈ q_Z := zw4_220
theorem fl8_80 : q_FL RX8 80 8 11 := ⟨RX8, TX8, 22, tyX8, rfl, by decide, us8, Or.inl zw4_97, rfl, tyX8_ok, nmX8⟩
theorem fp8_83 : q_FP RX8 83 8 10 := ⟨RX8, TX8, 22, tyX8, rfl, by decide, us8, zw4_96, rfl, tyX8_ok, nmX8, rfl, rfl⟩
theorem fl8_83 : q_FL RX8 83 8 10 := ⟨RX8, TX8, 22, tyX8, rfl, by decide, us8, Or.inl zw4_96, rfl, tyX8_ok, nmX8⟩
theorem lv8_86 : q_LV RX8 86 8 yX8_byteAt cX8_byteAt 2 (some .int) 1 := ⟨⟨zw4_210, zw4_212, zs_35, zw1_9, zw4_213⟩, ⟨by decide, by decide, by decide +kernel⟩, rfl, by decide, by decide⟩
theorem ls8_89 : q_LS RX8 89 yX8_sortOf cX8_sortOf 1 (some .int) 1 := ⟨⟨Or.inl zw4_214, zw4_215, zw1_9, zw4_216⟩, ⟨by decide, by decide, by decide +kernel⟩, by decide⟩
theorem fp8_92 : q_FP RX8 92 8 12 := ⟨RX8, TX8, 22, tyX8, rfl, by decide, us8, zw4_98, rfl, tyX8_ok, nmX8, rfl, rfl⟩
theorem fl8_92 : q_FL RX8 92 8 12 := ⟨RX8, TX8, 22, tyX8, rfl, by decide, us8, Or.inl zw4_98, rfl, tyX8_ok, nmX8⟩
theorem fp8_80 : q_FP RX8 80 8 11 := ⟨RX8, TX8, 22, tyX8, rfl, by decide, us8, zw4_97, rfl, tyX8_ok, nmX8, rfl, rfl⟩
theorem fp8_95 : q_FP RX8 95 8 4 := ⟨RX8, TX8, 22, tyX8, rfl, by decide, us8, zw4_90, rfl, tyX8_ok, nmX8, rfl, rfl⟩
theorem lv8_98 : q_LV RX8 98 8 yX8_isWord cX8_isWord 6 (some .boolean) 5 := ⟨⟨zw4_229, zw4_231, zs_38, zw1_9, zw4_232⟩, ⟨by decide, by decide, by decide +kernel⟩, rfl, by decide, by decide⟩
theorem lv8_102 : q_LV RX8 102 8 yX8_isFourth cX8_isFourth 2 (some .boolean) 1 := ⟨⟨zw4_233, zw4_235, zs_39, zw1_9, zw4_236⟩, ⟨by decide, by decide, by decide +kernel⟩, rfl, by decide, by decide⟩
theorem lv8_105 : q_LV RX8 105 8 yX8_token cX8_token 1 none 0 := ⟨⟨zw4_206, zw4_208, zs_34, zw1_9, zw4_209⟩, ⟨by decide, by decide, by decide +kernel⟩, rfl, by decide, by decide⟩
theorem lv8_108 : q_LV RX8 108 8 yX8_wrong cX8_wrong 2 (some .boolean) 1 := ⟨⟨zw4_221, zw4_223, zs_36, zw1_9, zw4_224⟩, ⟨by decide, by decide, by decide +kernel⟩, rfl, by decide, by decide⟩
theorem lv8_111 : q_LV RX8 111 8 yX8_sortNow cX8_sortNow 1 (some .int) 0 := ⟨⟨zw5_5, zw5_7, zs_42, zw1_9, zw5_8⟩, ⟨by decide, by decide, by decide +kernel⟩, rfl, by decide, by decide⟩
theorem lv8_115 : q_LV RX8 115 8 yX8_takesNumber cX8_takesNumber 5 (some .boolean) 2 := ⟨⟨zw5_9, zw5_11, zs_43, zw1_9, zw5_12⟩, ⟨by decide, by decide, by decide +kernel⟩, rfl, by decide, by decide⟩
theorem lv8_119 : q_LV RX8 119 8 yX8_stops cX8_stops 1 (some .boolean) 0 := ⟨⟨zw5_13, zw5_15, zs_44, zw1_9, zw5_16⟩, ⟨by decide, by decide, by decide +kernel⟩, rfl, by decide, by decide⟩
theorem fl8_123 : q_FL RX8 123 8 13 := ⟨RX8, TX8, 22, tyX8, rfl, by decide, us8, Or.inl zw4_99, rfl, tyX8_ok, nmX8⟩
theorem fp8_123 : q_FP RX8 123 8 13 := ⟨RX8, TX8, 22, tyX8, rfl, by decide, us8, zw4_99, rfl, tyX8_ok, nmX8, rfl, rfl⟩
theorem lv8_126 : q_LV RX8 126 8 yX8_isGuestWord cX8_isGuestWord 1 (some .boolean) 0 := ⟨⟨zw4_225, zw4_227, zs_37, zw1_9, zw4_228⟩, ⟨by decide, by decide, by decide +kernel⟩, rfl, by decide, by decide⟩
theorem lv8_129 : q_LV RX8 129 8 yX8_isDishWord cX8_isDishWord 1 (some .boolean) 0 := ⟨⟨zw4_237, zw4_239, zs_40, zw1_9, zw5_0⟩, ⟨by decide, by decide, by decide +kernel⟩, rfl, by decide, by decide⟩
theorem lv8_132 : q_LV RX8 132 8 yX8_readsGuest cX8_readsGuest 2 (some .boolean) 0 := ⟨⟨zw5_1, zw5_3, zs_41, zw1_9, zw5_4⟩, ⟨by decide, by decide, by decide +kernel⟩, rfl, by decide, by decide⟩
theorem lv8_135 : q_LV RX8 135 8 yX8_readsDish cX8_readsDish 1 (some .boolean) 0 := ⟨⟨zw5_17, zw5_19, zs_45, zw1_9, zw5_20⟩, ⟨by decide, by decide, by decide +kernel⟩, rfl, by decide, by decide⟩
theorem lv8_138 : q_LV RX8 138 8 yX8_reads cX8_reads 4 (some .boolean) 0 := ⟨⟨zw4_202, zw4_204, zs_33, zw1_9, zw4_205⟩, ⟨by decide, by decide, by decide +kernel⟩, rfl, by decide, by decide⟩
theorem zk8_141 : Cond.constant RX8 141 (-1000100) ∈ q_Z := zw5_21
theorem lv8_142 : q_LV RX8 142 8 yX8_copyRow cX8_copyRow 4 none 2 := ⟨⟨zw5_22, zw5_24, zs_46, zw1_9, zw5_25⟩, ⟨by decide, by decide, by decide +kernel⟩, rfl, by decide, by decide⟩
theorem fp8_146 : q_FP RX8 146 8 1 := ⟨RX8, TX8, 22, tyX8, rfl, by decide, us8, zw4_87, rfl, tyX8_ok, nmX8, rfl, rfl⟩
theorem fl8_95 : q_FL RX8 95 8 4 := ⟨RX8, TX8, 22, tyX8, rfl, by decide, us8, Or.inl zw4_90, rfl, tyX8_ok, nmX8⟩
theorem fp8_149 : q_FP RX8 149 8 14 := ⟨RX8, TX8, 22, tyX8, rfl, by decide, us8, zw4_100, rfl, tyX8_ok, nmX8, rfl, rfl⟩
theorem lv8_152 : q_LV RX8 152 8 yX8_turnBy cX8_turnBy 4 none 2 := ⟨⟨zw5_56, zw5_58, zs_52, zw1_9, zw5_59⟩, ⟨by decide, by decide, by decide +kernel⟩, rfl, by decide, by decide⟩
theorem lv8_155 : q_LV RX8 155 8 yX8_leftTo cX8_leftTo 4 (some .int) 2 := ⟨⟨zw5_60, zw5_62, zs_53, zw1_9, zw5_63⟩, ⟨by decide, by decide, by decide +kernel⟩, rfl, by decide, by decide⟩
theorem fl8_149 : q_FL RX8 149 8 14 := ⟨RX8, TX8, 22, tyX8, rfl, by decide, us8, Or.inl zw4_100, rfl, tyX8_ok, nmX8⟩
theorem lv8_159 : q_LV RX8 159 8 yX8_guestAt cX8_guestAt 4 (some .int) 2 := ⟨⟨zw5_48, zw5_50, zs_50, zw1_9, zw5_51⟩, ⟨by decide, by decide, by decide +kernel⟩, rfl, by decide, by decide⟩
theorem lv8_162 : q_LV RX8 162 8 yX8_pushes cX8_pushes 9 none 2 := ⟨⟨zw5_52, zw5_54, zs_51, zw1_9, zw5_55⟩, ⟨by decide, by decide, by decide +kernel⟩, rfl, by decide, by decide⟩
theorem lv8_165 : q_LV RX8 165 8 yX8_dishBefore cX8_dishBefore 5 (some .int) 2 := ⟨⟨zw5_64, zw5_66, zs_54, zw1_9, zw5_67⟩, ⟨by decide, by decide, by decide +kernel⟩, rfl, by decide, by decide⟩
theorem fp8_168 : q_FP RX8 168 8 15 := ⟨RX8, TX8, 22, tyX8, rfl, by decide, us8, zw4_101, rfl, tyX8_ok, nmX8, rfl, rfl⟩
theorem fl8_168 : q_FL RX8 168 8 15 := ⟨RX8, TX8, 22, tyX8, rfl, by decide, us8, Or.inl zw4_101, rfl, tyX8_ok, nmX8⟩
theorem fp8_171 : q_FP RX8 171 8 16 := ⟨RX8, TX8, 22, tyX8, rfl, by decide, us8, zw4_102, rfl, tyX8_ok, nmX8, rfl, rfl⟩
theorem fp8_174 : q_FP RX8 174 8 17 := ⟨RX8, TX8, 22, tyX8, rfl, by decide, us8, zw4_103, rfl, tyX8_ok, nmX8, rfl, rfl⟩
theorem fl8_146 : q_FL RX8 146 8 1 := ⟨RX8, TX8, 22, tyX8, rfl, by decide, us8, Or.inl zw4_87, rfl, tyX8_ok, nmX8⟩
theorem lv8_177 : q_LV RX8 177 8 yX8_isNone cX8_isNone 1 (some .boolean) 0 := ⟨⟨zw5_34, zw5_36, zs_47, zw1_9, zw5_37⟩, ⟨by decide, by decide, by decide +kernel⟩, rfl, by decide, by decide⟩
theorem zk8_180 : Cond.constant RX8 180 (-1000002) ∈ q_Z := zw5_38
theorem zk8_181 : Cond.constantLong RX8 181 (24) ∈ q_Z := zw5_39
theorem lv8_183 : q_LV RX8 183 8 yX8_minds cX8_minds 2 none 0 := ⟨⟨zw5_40, zw5_42, zs_48, zw1_9, zw5_43⟩, ⟨by decide, by decide, by decide +kernel⟩, rfl, by decide, by decide⟩
theorem lv8_186 : q_LV RX8 186 8 yX8_goMinute cX8_goMinute 7 none 1 := ⟨⟨zw5_44, zw5_46, zs_49, zw1_9, zw5_47⟩, ⟨by decide, by decide, by decide +kernel⟩, rfl, by decide, by decide⟩
theorem zk8_190 : Cond.constantLong RX8 190 (-9) ∈ q_Z := zw5_72
theorem zk8_192 : Cond.constantLong RX8 192 (9) ∈ q_Z := zw5_73
theorem lv8_194 : q_LV RX8 194 8 yX8_isOne cX8_isOne 2 (some .boolean) 1 := ⟨⟨zw5_78, zw5_80, zs_55, zw1_9, zw5_81⟩, ⟨by decide, by decide, by decide +kernel⟩, rfl, by decide, by decide⟩
theorem zk8_197 : Cond.constantLong RX8 197 (30) ∈ q_Z := zw5_82
theorem lv8_199 : q_LV RX8 199 8 yX8_swaps cX8_swaps 5 (some .int) 3 := ⟨⟨zw5_87, zw5_89, zs_56, zw1_9, zw5_90⟩, ⟨by decide, by decide, by decide +kernel⟩, rfl, by decide, by decide⟩
theorem zk8_203 : Cond.constantLong RX8 203 (3) ∈ q_Z := zw5_103
theorem fp8_205 : q_FP RX8 205 8 18 := ⟨RX8, TX8, 22, tyX8, rfl, by decide, us8, zw4_104, rfl, tyX8_ok, nmX8, rfl, rfl⟩
theorem fl8_205 : q_FL RX8 205 8 18 := ⟨RX8, TX8, 22, tyX8, rfl, by decide, us8, Or.inl zw4_104, rfl, tyX8_ok, nmX8⟩
theorem zk8_208 : Cond.constantLong RX8 208 (99) ∈ q_Z := zw5_115
theorem ls8_210 : q_LS RX8 210 yX8_isLater cX8_isLater 1 (some .boolean) 1 := ⟨⟨Or.inl zw5_112, zw5_113, zw1_9, zw5_114⟩, ⟨by decide, by decide, by decide +kernel⟩, by decide⟩
theorem lv8_213 : q_LV RX8 213 8 yX8_goMinutes cX8_goMinutes 3 none 1 := ⟨⟨zw5_116, zw5_118, zs_57, zw1_9, zw5_119⟩, ⟨by decide, by decide, by decide +kernel⟩, rfl, by decide, by decide⟩
theorem fl8_174 : q_FL RX8 174 8 17 := ⟨RX8, TX8, 22, tyX8, rfl, by decide, us8, Or.inl zw4_103, rfl, tyX8_ok, nmX8⟩
theorem fl8_171 : q_FL RX8 171 8 16 := ⟨RX8, TX8, 22, tyX8, rfl, by decide, us8, Or.inl zw4_102, rfl, tyX8_ok, nmX8⟩
theorem zk8_216 : Cond.constant RX8 216 (-1000000) ∈ q_Z := zw5_132
theorem zk8_217 : Cond.constant RX8 217 (1000000) ∈ q_Z := zw5_145
theorem zk8_218 : Cond.constantLong RX8 218 (20) ∈ q_Z := zw5_150
theorem zk8_220 : Cond.constantLong RX8 220 (-1) ∈ q_Z := zw5_151
theorem lv8_222 : q_LV RX8 222 8 yX8_laysBy cX8_laysBy 5 (some .boolean) 1 := ⟨⟨zw5_152, zw5_154, zs_58, zw1_9, zw5_155⟩, ⟨by decide, by decide, by decide +kernel⟩, rfl, by decide, by decide⟩
theorem fl8_28 : q_FL RX8 28 8 19 := ⟨RX8, TX8, 22, tyX8, rfl, by decide, us8, Or.inl zw4_105, rfl, tyX8_ok, nmX8⟩
theorem fl8_225 : q_FL RX8 225 8 21 := ⟨RX8, TX8, 22, tyX8, rfl, by decide, us8, Or.inl zw4_107, rfl, tyX8_ok, nmX8⟩
theorem fl8_32 : q_FL RX8 32 8 20 := ⟨RX8, TX8, 22, tyX8, rfl, by decide, us8, Or.inl zw4_106, rfl, tyX8_ok, nmX8⟩
theorem fp8_225 : q_FP RX8 225 8 21 := ⟨RX8, TX8, 22, tyX8, rfl, by decide, us8, zw4_107, rfl, tyX8_ok, nmX8, rfl, rfl⟩
theorem zk8_228 : Cond.constantLong RX8 228 (5) ∈ q_Z := zw5_180
theorem ls8_230 : q_LS RX8 230 yX8_isOf cX8_isOf 2 (some .boolean) 2 := ⟨⟨Or.inl zw5_181, zw5_182, zw1_9, zw5_183⟩, ⟨by decide, by decide, by decide +kernel⟩, by decide⟩
theorem lv8_233 : q_LV RX8 233 8 yX8_leaves cX8_leaves 2 none 1 := ⟨⟨zw5_192, zw5_194, zs_60, zw1_9, zw5_195⟩, ⟨by decide, by decide, by decide +kernel⟩, rfl, by decide, by decide⟩
theorem lv8_236 : q_LV RX8 236 8 yX8_markOfEater cX8_markOfEater 4 (some .int) 1 := ⟨⟨zw5_196, zw5_198, zs_61, zw1_9, zw5_199⟩, ⟨by decide, by decide, by decide +kernel⟩, rfl, by decide, by decide⟩
theorem lv8_239 : q_LV RX8 239 8 yX8_sizeOf cX8_sizeOf 5 (some .int) 1 := ⟨⟨zw5_188, zw5_190, zs_59, zw1_9, zw5_191⟩, ⟨by decide, by decide, by decide +kernel⟩, rfl, by decide, by decide⟩
theorem lv8_242 : q_LV RX8 242 8 yX8_markOf cX8_markOf 2 (some .int) 1 := ⟨⟨zw5_200, zw5_202, zs_62, zw1_9, zw5_203⟩, ⟨by decide, by decide, by decide +kernel⟩, rfl, by decide, by decide⟩
theorem fl8_41 : q_FL RX8 41 8 5 := ⟨RX8, TX8, 22, tyX8, rfl, by decide, us8, Or.inl zw4_91, rfl, tyX8_ok, nmX8⟩
end
section
section QN
variable {Γ : q_X} {ad : Nat → Nat} {d mc ms : Nat} {own : String} {y : MethodName} {cc : ByteArray} {nL : Nat} {ret : Option FieldType} {pc : Nat} {la : List (Option Value)} {st : List Value} {n : Nat} {h : q_H} {k1 k2 : Nat}
def qN (f : Nat → Nat) : Nat → Int32 := fun k => nI (f k)
theorem qN_up (f : Nat → Nat) (k x : Nat) : upd (qN f) k (nI x) = qN (va_up f k x) := by
  funext j
  unfold upd qN va_up
  by_cases hj : j = k <;> simp [hj]
theorem g_iaddN (C : q_C Γ ad d mc ms own y cc nL ret) {a b : Nat} (hdg : decode cc pc = .ok (.iadd, 1)) (kk : q_G Γ ad nL (pc + 1) la (.int (nI (a + b)) :: st) n h k1 k2) : q_G Γ ad nL pc la (.int (nI b) :: .int (nI a) :: st) n h k1 k2 := g_iadd C hdg (by rw [nI_add]; exact kk)
theorem g_isubN (C : q_C Γ ad d mc ms own y cc nL ret) {a b : Nat} (hdg : decode cc pc = .ok (.isub, 1)) (hb : b ≤ a) (kk : q_G Γ ad nL (pc + 1) la (.int (nI (a - b)) :: st) n h k1 k2) : q_G Γ ad nL pc la (.int (nI b) :: .int (nI a) :: st) n h k1 k2 := g_isub C hdg (by rw [pk_sub hb]; exact kk)
theorem g_imulN (C : q_C Γ ad d mc ms own y cc nL ret) {a b : Nat} (hdg : decode cc pc = .ok (.imul, 1)) (kk : q_G Γ ad nL (pc + 1) la (.int (nI (a * b)) :: st) n h k1 k2) : q_G Γ ad nL pc la (.int (nI b) :: .int (nI a) :: st) n h k1 k2 := g_imul C hdg (by rw [pk_mul]; exact kk)
theorem g_iremN (C : q_C Γ ad d mc ms own y cc nL ret) {a b : Nat} (hdg : decode cc pc = .ok (.irem, 1)) (hq : a < 2 ^ 31 ∧ 0 < b ∧ b < 2 ^ 31) (kk : q_G Γ ad nL (pc + 1) la (.int (nI (a % b)) :: st) n h k1 k2) : q_G Γ ad nL pc la (.int (nI b) :: .int (nI a) :: st) n h k1 k2 := g_irem C (nI_ne0 hq.2.1 hq.2.2) hdg (by rw [pk_rem hq.1 hq.2.1 hq.2.2]; exact kk)
theorem g_idivN (C : q_C Γ ad d mc ms own y cc nL ret) {a b : Nat} (hdg : decode cc pc = .ok (.idiv, 1)) (hq : a < 2 ^ 31 ∧ 0 < b ∧ b < 2 ^ 31) (kk : q_G Γ ad nL (pc + 1) la (.int (nI (a / b)) :: st) n h k1 k2) : q_G Γ ad nL pc la (.int (nI b) :: .int (nI a) :: st) n h k1 k2 := g_idiv C (nI_ne0 hq.2.1 hq.2.2) hdg (by rw [pk_div hq.1 hq.2.1 hq.2.2]; exact kk)
theorem g_iincN (C : q_C Γ ad d mc ms own y cc nL ret) {k a b : Nat} {z : Int} (hl : la[k]? = some (some (.int (nI a)))) (hv : nI a + Int32.ofInt z = nI b) (hst : q_st la k = true) (hdg : decode cc pc = .ok (.iinc k z, 3)) (kk : q_G Γ ad nL (pc + 3) (la.set k (some (.int (nI b)))) st n h k1 k2) : q_G Γ ad nL pc la st n h k1 k2 := g_iinc C hl hv hst hdg kk
theorem q_inc1 (a : Nat) : nI a + Int32.ofInt 1 = nI (a + 1) := nI_1 a
theorem q_dec1 (a : Nat) : nI (a + 1) + Int32.ofInt (-1) = nI a := pk_m1 a
theorem g_ialdN (C : q_C Γ ad d mc ms own y cc nL ret) {a N j : Nat} {f : Nat → Nat} (hdg : decode cc pc = .ok (.iaload, 1)) (hh : h a = .inl (0, N, qN f)) (hj : j < N ∧ N < 2 ^ 31) (kk : q_G Γ ad nL (pc + 1) la (.int (nI (f j)) :: st) n h k1 k2) : q_G Γ ad nL pc la (.int (nI j) :: .ref a :: st) n h k1 k2 := by
  refine g_iald C hdg hh (vp_in_nI hj.1 hj.2) ?_
  rw [nI_clamp (Nat.lt_trans hj.1 hj.2)]
  exact kk
theorem g_ialdM (C : q_C Γ ad d mc ms own y cc nL ret) {a N j : Nat} {f : Nat → Int32} (hdg : decode cc pc = .ok (.iaload, 1)) (hh : h a = .inl (0, N, f)) (hj : j < N ∧ N < 2 ^ 31) (kk : q_G Γ ad nL (pc + 1) la (.int (f j) :: st) n h k1 k2) : q_G Γ ad nL pc la (.int (nI j) :: .ref a :: st) n h k1 k2 := by
  refine g_iald C hdg hh (vp_in_nI hj.1 hj.2) ?_
  rw [nI_clamp (Nat.lt_trans hj.1 hj.2)]
  exact kk
theorem g_zaldN (C : q_C Γ ad d mc ms own y cc nL ret) {a N j : Nat} {f : Nat → Nat} (hdg : decode cc pc = .ok (.baload, 1)) (hh : h a = .inl (1, N, qN f)) (hj : j < N ∧ N < 2 ^ 31) (kk : q_G Γ ad nL (pc + 1) la (.int (nI (f j)) :: st) n h k1 k2) : q_G Γ ad nL pc la (.int (nI j) :: .ref a :: st) n h k1 k2 := by
  refine g_zald C hdg hh (vp_in_nI hj.1 hj.2) ?_
  rw [nI_clamp (Nat.lt_trans hj.1 hj.2)]
  exact kk
theorem g_iastN (C : q_C Γ ad d mc ms own y cc nL ret) {a N j x : Nat} {f : Nat → Nat} (hdg : decode cc pc = .ok (.iastore, 1)) (hh : h a = .inl (0, N, qN f)) (hj : j < N ∧ N < 2 ^ 31) (kk : q_G Γ ad nL (pc + 1) la st n (q_up h a (.inl (0, N, qN (va_up f j x)))) k1 k2) : q_G Γ ad nL pc la (.int (nI x) :: .int (nI j) :: .ref a :: st) n h k1 k2 := by
  refine g_iast C hdg hh (vp_in_nI hj.1 hj.2) ?_
  rw [nI_clamp (Nat.lt_trans hj.1 hj.2), qN_up]
  exact kk
theorem g_iastM (C : q_C Γ ad d mc ms own y cc nL ret) {a N j : Nat} {f : Nat → Int32} {x : Int32} (hdg : decode cc pc = .ok (.iastore, 1)) (hh : h a = .inl (0, N, f)) (hj : j < N ∧ N < 2 ^ 31) (kk : q_G Γ ad nL (pc + 1) la st n (q_up h a (.inl (0, N, va_up f j x))) k1 k2) : q_G Γ ad nL pc la (.int x :: .int (nI j) :: .ref a :: st) n h k1 k2 := by
  refine g_iast C hdg hh (vp_in_nI hj.1 hj.2) ?_
  rw [nI_clamp (Nat.lt_trans hj.1 hj.2)]
  exact kk
theorem g_zastN (C : q_C Γ ad d mc ms own y cc nL ret) {a N j x : Nat} {f : Nat → Nat} (hdg : decode cc pc = .ok (.bastore, 1)) (hh : h a = .inl (1, N, qN f)) (hj : j < N ∧ N < 2 ^ 31) (hx : vp_nar .boolean (nI x) = nI x) (kk : q_G Γ ad nL (pc + 1) la st n (q_up h a (.inl (1, N, qN (va_up f j x)))) k1 k2) : q_G Γ ad nL pc la (.int (nI x) :: .int (nI j) :: .ref a :: st) n h k1 k2 := by
  refine g_zast C hdg hh (vp_in_nI hj.1 hj.2) ?_
  rw [nI_clamp (Nat.lt_trans hj.1 hj.2), hx, qN_up]
  exact kk
theorem g_aaldN (C : q_C Γ ad d mc ms own y cc nL ret) {a N t j b : Nat} {f : Nat → Option Nat} (hdg : decode cc pc = .ok (.aaload, 1)) (hh : h a = .inr (.inl (t, N, f))) (hj : j < N ∧ N < 2 ^ 31) (hb : f j = some b) (kk : q_G Γ ad nL (pc + 1) la (.ref b :: st) n h k1 k2) : q_G Γ ad nL pc la (.int (nI j) :: .ref a :: st) n h k1 k2 :=
  g_aald C hdg hh (vp_in_nI hj.1 hj.2) (by rw [nI_clamp (Nat.lt_trans hj.1 hj.2), hb]; rfl) kk
theorem g_alenN (C : q_C Γ ad d mc ms own y cc nL ret) {a k N : Nat} {f : Nat → Int32} (hdg : decode cc pc = .ok (.arraylength, 1)) (hh : h a = .inl (k, N, f)) (kk : q_G Γ ad nL (pc + 1) la (.int (nI N) :: st) n h k1 k2) : q_G Γ ad nL pc la (.ref a :: st) n h k1 k2 := g_alen C hdg hh rfl kk
theorem g_alenrN (C : q_C Γ ad d mc ms own y cc nL ret) {a k N : Nat} {f : Nat → Option Nat} (hdg : decode cc pc = .ok (.arraylength, 1)) (hh : h a = .inr (.inl (k, N, f))) (kk : q_G Γ ad nL (pc + 1) la (.int (nI N) :: st) n h k1 k2) : q_G Γ ad nL pc la (.ref a :: st) n h k1 k2 := g_alenr C hdg hh rfl kk
theorem g_minN (C : q_C Γ ad d mc ms own y cc nL ret) {ix a b : Nat} (hl : q_LM own ix Lib.Math.min.name Lib.Math.min.code 2) (hdg : decode cc pc = .ok (.invokestatic ix, 3)) (hq : a < 2 ^ 31 ∧ b < 2 ^ 31) (hd : 1 ≤ d) (hst : (st.map fun v => v.category).sum ≤ 8) (hk : k1 ≤ mc ∧ k2 ≤ ms) (kk : q_G Γ ad nL (pc + 3) la (.int (nI (min a b)) :: st) n h k1 k2) : q_G Γ ad nL pc la (.int (nI b) :: .int (nI a) :: st) n h k1 k2 := by
  refine g_min C hl hdg hd hst hk ?_
  rw [show (if nI b < nI a then nI b else nI a) = nI (min a b) by
    by_cases hb : b < a
    · rw [if_pos (nI_lt hb hq.1), Nat.min_eq_right (Nat.le_of_lt hb)]
    · rw [if_neg (nI_nlt (Nat.not_lt.mp hb) hq.2), Nat.min_eq_left (Nat.not_lt.mp hb)]]
  exact kk
theorem g_maxN (C : q_C Γ ad d mc ms own y cc nL ret) {ix a b : Nat} (hl : q_LM own ix Lib.Math.max.name Lib.Math.max.code 2) (hdg : decode cc pc = .ok (.invokestatic ix, 3)) (hq : a < 2 ^ 31 ∧ b < 2 ^ 31) (hd : 1 ≤ d) (hst : (st.map fun v => v.category).sum ≤ 8) (hk : k1 ≤ mc ∧ k2 ≤ ms) (kk : q_G Γ ad nL (pc + 3) la (.int (nI (max a b)) :: st) n h k1 k2) : q_G Γ ad nL pc la (.int (nI b) :: .int (nI a) :: st) n h k1 k2 := by
  refine g_max C hl hdg hd hst hk ?_
  rw [show (if nI a < nI b then nI b else nI a) = nI (max a b) by
    by_cases hb : a < b
    · rw [if_pos (nI_lt hb hq.2), Nat.max_eq_right (Nat.le_of_lt hb)]
    · rw [if_neg (nI_nlt (Nat.not_lt.mp hb) hq.1), Nat.max_eq_left (Nat.not_lt.mp hb)]]
  exact kk
theorem g_ic_eqN (C : q_C Γ ad d mc ms own y cc nL ret) {a b : Nat} {off : Int} (tgt : Nat) (hdg : decode cc pc = .ok (.if_icmp .eq off, 3)) (ht : (pc : Int) + off = (tgt : Int)) (hq : a < 2 ^ 31 ∧ b < 2 ^ 31) (kt : a = b → q_G Γ ad nL tgt la st n h k1 k2) (kf : ¬ (a = b) → q_G Γ ad nL (pc + 3) la st n h k1 k2) : q_G Γ ad nL pc la (.int (nI b) :: .int (nI a) :: st) n h k1 k2 := g_ic_eq C tgt hdg ht (fun q => kt ((nI_eq hq.1 hq.2).mp q)) (fun q => kf (fun z => q ((nI_eq hq.1 hq.2).mpr z)))
theorem g_ic_neN (C : q_C Γ ad d mc ms own y cc nL ret) {a b : Nat} {off : Int} (tgt : Nat) (hdg : decode cc pc = .ok (.if_icmp .ne off, 3)) (ht : (pc : Int) + off = (tgt : Int)) (hq : a < 2 ^ 31 ∧ b < 2 ^ 31) (kt : ¬ a = b → q_G Γ ad nL tgt la st n h k1 k2) (kf : a = b → q_G Γ ad nL (pc + 3) la st n h k1 k2) : q_G Γ ad nL pc la (.int (nI b) :: .int (nI a) :: st) n h k1 k2 := g_ic_ne C tgt hdg ht (fun q => kt (fun z => q ((nI_eq hq.1 hq.2).mpr z))) (fun q => kf ((nI_eq hq.1 hq.2).mp q))
theorem g_ic_ltN (C : q_C Γ ad d mc ms own y cc nL ret) {a b : Nat} {off : Int} (tgt : Nat) (hdg : decode cc pc = .ok (.if_icmp .lt off, 3)) (ht : (pc : Int) + off = (tgt : Int)) (hq : a < 2 ^ 31 ∧ b < 2 ^ 31) (kt : a < b → q_G Γ ad nL tgt la st n h k1 k2) (kf : ¬ (a < b) → q_G Γ ad nL (pc + 3) la st n h k1 k2) : q_G Γ ad nL pc la (.int (nI b) :: .int (nI a) :: st) n h k1 k2 := g_ic_lt C tgt hdg ht (fun q => kt ((nI_ltI hq.1 hq.2).mp q)) (fun q => kf (fun z => q ((nI_ltI hq.1 hq.2).mpr z)))
theorem g_ic_geN (C : q_C Γ ad d mc ms own y cc nL ret) {a b : Nat} {off : Int} (tgt : Nat) (hdg : decode cc pc = .ok (.if_icmp .ge off, 3)) (ht : (pc : Int) + off = (tgt : Int)) (hq : a < 2 ^ 31 ∧ b < 2 ^ 31) (kt : b ≤ a → q_G Γ ad nL tgt la st n h k1 k2) (kf : ¬ (b ≤ a) → q_G Γ ad nL (pc + 3) la st n h k1 k2) : q_G Γ ad nL pc la (.int (nI b) :: .int (nI a) :: st) n h k1 k2 := g_ic_ge C tgt hdg ht (fun q => kt ((nI_leI hq.2 hq.1).mp q)) (fun q => kf (fun z => q ((nI_leI hq.2 hq.1).mpr z)))
theorem g_ic_gtN (C : q_C Γ ad d mc ms own y cc nL ret) {a b : Nat} {off : Int} (tgt : Nat) (hdg : decode cc pc = .ok (.if_icmp .gt off, 3)) (ht : (pc : Int) + off = (tgt : Int)) (hq : a < 2 ^ 31 ∧ b < 2 ^ 31) (kt : b < a → q_G Γ ad nL tgt la st n h k1 k2) (kf : ¬ (b < a) → q_G Γ ad nL (pc + 3) la st n h k1 k2) : q_G Γ ad nL pc la (.int (nI b) :: .int (nI a) :: st) n h k1 k2 := g_ic_gt C tgt hdg ht (fun q => kt ((nI_ltI hq.2 hq.1).mp q)) (fun q => kf (fun z => q ((nI_ltI hq.2 hq.1).mpr z)))
theorem g_ic_leN (C : q_C Γ ad d mc ms own y cc nL ret) {a b : Nat} {off : Int} (tgt : Nat) (hdg : decode cc pc = .ok (.if_icmp .le off, 3)) (ht : (pc : Int) + off = (tgt : Int)) (hq : a < 2 ^ 31 ∧ b < 2 ^ 31) (kt : a ≤ b → q_G Γ ad nL tgt la st n h k1 k2) (kf : ¬ (a ≤ b) → q_G Γ ad nL (pc + 3) la st n h k1 k2) : q_G Γ ad nL pc la (.int (nI b) :: .int (nI a) :: st) n h k1 k2 := g_ic_le C tgt hdg ht (fun q => kt ((nI_leI hq.1 hq.2).mp q)) (fun q => kf (fun z => q ((nI_leI hq.1 hq.2).mpr z)))
theorem q_n0 {a : Nat} (ha : a < 2 ^ 31) : nI a = 0 ↔ a = 0 := ⟨fun q => by rcases Nat.eq_zero_or_pos a with z | z; exact z; exact absurd q (nI_ne0 z ha), fun q => by subst q; rfl⟩
theorem g_if_eqN (C : q_C Γ ad d mc ms own y cc nL ret) {a : Nat} {off : Int} (tgt : Nat) (hdg : decode cc pc = .ok (.ifCond .eq off, 3)) (ht : (pc : Int) + off = (tgt : Int)) (hq : a < 2 ^ 31) (kt : a = 0 → q_G Γ ad nL tgt la st n h k1 k2) (kf : ¬ a = 0 → q_G Γ ad nL (pc + 3) la st n h k1 k2) : q_G Γ ad nL pc la (.int (nI a) :: st) n h k1 k2 := g_if_eq C tgt hdg ht (fun q => kt ((q_n0 hq).mp q)) (fun q => kf (fun z => q ((q_n0 hq).mpr z)))
theorem g_if_neN (C : q_C Γ ad d mc ms own y cc nL ret) {a : Nat} {off : Int} (tgt : Nat) (hdg : decode cc pc = .ok (.ifCond .ne off, 3)) (ht : (pc : Int) + off = (tgt : Int)) (hq : a < 2 ^ 31) (kt : ¬ a = 0 → q_G Γ ad nL tgt la st n h k1 k2) (kf : a = 0 → q_G Γ ad nL (pc + 3) la st n h k1 k2) : q_G Γ ad nL pc la (.int (nI a) :: st) n h k1 k2 := g_if_ne C tgt hdg ht (fun q => kt (fun z => q ((q_n0 hq).mpr z))) (fun q => kf ((q_n0 hq).mp q))
theorem g_if_ltN (C : q_C Γ ad d mc ms own y cc nL ret) {a : Nat} {off : Int} (tgt : Nat) (hdg : decode cc pc = .ok (.ifCond .lt off, 3)) (ht : (pc : Int) + off = (tgt : Int)) (hq : a < 2 ^ 31) (kf : q_G Γ ad nL (pc + 3) la st n h k1 k2) : q_G Γ ad nL pc la (.int (nI a) :: st) n h k1 k2 := g_if_lt C tgt hdg ht (fun q => absurd q (nI_pos hq)) (fun _ => kf)
theorem g_if_geN (C : q_C Γ ad d mc ms own y cc nL ret) {a : Nat} {off : Int} (tgt : Nat) (hdg : decode cc pc = .ok (.ifCond .ge off, 3)) (ht : (pc : Int) + off = (tgt : Int)) (hq : a < 2 ^ 31) (kt : q_G Γ ad nL tgt la st n h k1 k2) : q_G Γ ad nL pc la (.int (nI a) :: st) n h k1 k2 := g_if_ge C tgt hdg ht (fun _ => kt) (fun q => absurd (nI_pos' hq) q)
theorem q_p0 {a : Nat} (ha : a < 2 ^ 31) : 0 < nI a ↔ 0 < a := by have h := nI_ltI (a := 0) (b := a) (by decide) ha; exact h
theorem g_if_gtN (C : q_C Γ ad d mc ms own y cc nL ret) {a : Nat} {off : Int} (tgt : Nat) (hdg : decode cc pc = .ok (.ifCond .gt off, 3)) (ht : (pc : Int) + off = (tgt : Int)) (hq : a < 2 ^ 31) (kt : 0 < a → q_G Γ ad nL tgt la st n h k1 k2) (kf : ¬ 0 < a → q_G Γ ad nL (pc + 3) la st n h k1 k2) : q_G Γ ad nL pc la (.int (nI a) :: st) n h k1 k2 := g_if_gt C tgt hdg ht (fun q => kt ((q_p0 hq).mp q)) (fun q => kf (fun z => q ((q_p0 hq).mpr z)))
theorem q_l0 {a : Nat} (ha : a < 2 ^ 31) : nI a ≤ 0 ↔ a ≤ 0 := by have h := nI_leI (a := a) (b := 0) ha (by decide); exact h
theorem g_if_leN (C : q_C Γ ad d mc ms own y cc nL ret) {a : Nat} {off : Int} (tgt : Nat) (hdg : decode cc pc = .ok (.ifCond .le off, 3)) (ht : (pc : Int) + off = (tgt : Int)) (hq : a < 2 ^ 31) (kt : a ≤ 0 → q_G Γ ad nL tgt la st n h k1 k2) (kf : ¬ a ≤ 0 → q_G Γ ad nL (pc + 3) la st n h k1 k2) : q_G Γ ad nL pc la (.int (nI a) :: st) n h k1 k2 := g_if_le C tgt hdg ht (fun q => kt ((q_l0 hq).mp q)) (fun q => kf (fun z => q ((q_l0 hq).mpr z)))
theorem qk_bipush_m100 : (Int8.ofInt (-100)).toInt32 = (-100 : Int32) := by decide +kernel
theorem qk_bipush_m9 : (Int8.ofInt (-9)).toInt32 = (-9 : Int32) := by decide +kernel
theorem qk_bipush_6 : (Int8.ofInt (6)).toInt32 = nI 6 := by decide +kernel
theorem qk_bipush_7 : (Int8.ofInt (7)).toInt32 = nI 7 := by decide +kernel
theorem qk_bipush_8 : (Int8.ofInt (8)).toInt32 = nI 8 := by decide +kernel
theorem qk_bipush_9 : (Int8.ofInt (9)).toInt32 = nI 9 := by decide +kernel
theorem qk_bipush_10 : (Int8.ofInt (10)).toInt32 = nI 10 := by decide +kernel
theorem qk_bipush_11 : (Int8.ofInt (11)).toInt32 = nI 11 := by decide +kernel
theorem qk_bipush_12 : (Int8.ofInt (12)).toInt32 = nI 12 := by decide +kernel
theorem qk_bipush_13 : (Int8.ofInt (13)).toInt32 = nI 13 := by decide +kernel
theorem qk_bipush_14 : (Int8.ofInt (14)).toInt32 = nI 14 := by decide +kernel
theorem qk_bipush_15 : (Int8.ofInt (15)).toInt32 = nI 15 := by decide +kernel
theorem qk_bipush_16 : (Int8.ofInt (16)).toInt32 = nI 16 := by decide +kernel
theorem qk_bipush_20 : (Int8.ofInt (20)).toInt32 = nI 20 := by decide +kernel
theorem qk_bipush_21 : (Int8.ofInt (21)).toInt32 = nI 21 := by decide +kernel
theorem qk_bipush_22 : (Int8.ofInt (22)).toInt32 = nI 22 := by decide +kernel
theorem qk_bipush_23 : (Int8.ofInt (23)).toInt32 = nI 23 := by decide +kernel
theorem qk_bipush_24 : (Int8.ofInt (24)).toInt32 = nI 24 := by decide +kernel
theorem qk_bipush_27 : (Int8.ofInt (27)).toInt32 = nI 27 := by decide +kernel
theorem qk_bipush_30 : (Int8.ofInt (30)).toInt32 = nI 30 := by decide +kernel
theorem qk_bipush_32 : (Int8.ofInt (32)).toInt32 = nI 32 := by decide +kernel
theorem qk_bipush_33 : (Int8.ofInt (33)).toInt32 = nI 33 := by decide +kernel
theorem qk_bipush_39 : (Int8.ofInt (39)).toInt32 = nI 39 := by decide +kernel
theorem qk_bipush_40 : (Int8.ofInt (40)).toInt32 = nI 40 := by decide +kernel
theorem qk_bipush_48 : (Int8.ofInt (48)).toInt32 = nI 48 := by decide +kernel
theorem qk_bipush_57 : (Int8.ofInt (57)).toInt32 = nI 57 := by decide +kernel
theorem qk_bipush_59 : (Int8.ofInt (59)).toInt32 = nI 59 := by decide +kernel
theorem qk_bipush_63 : (Int8.ofInt (63)).toInt32 = nI 63 := by decide +kernel
theorem qk_bipush_97 : (Int8.ofInt (97)).toInt32 = nI 97 := by decide +kernel
theorem qk_bipush_99 : (Int8.ofInt (99)).toInt32 = nI 99 := by decide +kernel
theorem qk_bipush_100 : (Int8.ofInt (100)).toInt32 = nI 100 := by decide +kernel
theorem qk_bipush_101 : (Int8.ofInt (101)).toInt32 = nI 101 := by decide +kernel
theorem qk_bipush_102 : (Int8.ofInt (102)).toInt32 = nI 102 := by decide +kernel
theorem qk_bipush_103 : (Int8.ofInt (103)).toInt32 = nI 103 := by decide +kernel
theorem qk_bipush_104 : (Int8.ofInt (104)).toInt32 = nI 104 := by decide +kernel
theorem qk_bipush_105 : (Int8.ofInt (105)).toInt32 = nI 105 := by decide +kernel
theorem qk_bipush_107 : (Int8.ofInt (107)).toInt32 = nI 107 := by decide +kernel
theorem qk_bipush_110 : (Int8.ofInt (110)).toInt32 = nI 110 := by decide +kernel
theorem qk_bipush_114 : (Int8.ofInt (114)).toInt32 = nI 114 := by decide +kernel
theorem qk_bipush_115 : (Int8.ofInt (115)).toInt32 = nI 115 := by decide +kernel
theorem qk_bipush_116 : (Int8.ofInt (116)).toInt32 = nI 116 := by decide +kernel
theorem qk_bipush_117 : (Int8.ofInt (117)).toInt32 = nI 117 := by decide +kernel
theorem qk_bipush_121 : (Int8.ofInt (121)).toInt32 = nI 121 := by decide +kernel
theorem qk_bipush_122 : (Int8.ofInt (122)).toInt32 = nI 122 := by decide +kernel
theorem qk_iconst_m1 : Int32.ofInt (-1) = (-1 : Int32) := by decide +kernel
theorem qk_iconst_0 : Int32.ofInt (0) = nI 0 := by decide +kernel
theorem qk_iconst_1 : Int32.ofInt (1) = nI 1 := by decide +kernel
theorem qk_iconst_2 : Int32.ofInt (2) = nI 2 := by decide +kernel
theorem qk_iconst_3 : Int32.ofInt (3) = nI 3 := by decide +kernel
theorem qk_iconst_4 : Int32.ofInt (4) = nI 4 := by decide +kernel
theorem qk_iconst_5 : Int32.ofInt (5) = nI 5 := by decide +kernel
theorem qk_sipush_200 : (Int16.ofInt (200)).toInt32 = nI 200 := by decide +kernel
theorem qk_sipush_255 : (Int16.ofInt (255)).toInt32 = nI 255 := by decide +kernel
theorem qk_sipush_300 : (Int16.ofInt (300)).toInt32 = nI 300 := by decide +kernel
theorem qk_sipush_320 : (Int16.ofInt (320)).toInt32 = nI 320 := by decide +kernel
theorem qk_sipush_897 : (Int16.ofInt (897)).toInt32 = nI 897 := by decide +kernel
theorem qk_sipush_999 : (Int16.ofInt (999)).toInt32 = nI 999 := by decide +kernel
theorem qk_sipush_1000 : (Int16.ofInt (1000)).toInt32 = nI 1000 := by decide +kernel
theorem qk_sipush_1053 : (Int16.ofInt (1053)).toInt32 = nI 1053 := by decide +kernel
theorem qk_sipush_1054 : (Int16.ofInt (1054)).toInt32 = nI 1054 := by decide +kernel
theorem qk_sipush_1062 : (Int16.ofInt (1062)).toInt32 = nI 1062 := by decide +kernel
theorem qk_sipush_1068 : (Int16.ofInt (1068)).toInt32 = nI 1068 := by decide +kernel
theorem qk_sipush_1074 : (Int16.ofInt (1074)).toInt32 = nI 1074 := by decide +kernel
theorem qk_sipush_1080 : (Int16.ofInt (1080)).toInt32 = nI 1080 := by decide +kernel
theorem qk_sipush_1086 : (Int16.ofInt (1086)).toInt32 = nI 1086 := by decide +kernel
theorem qk_sipush_1092 : (Int16.ofInt (1092)).toInt32 = nI 1092 := by decide +kernel
theorem qk_sipush_1095 : (Int16.ofInt (1095)).toInt32 = nI 1095 := by decide +kernel
theorem qk_sipush_1101 : (Int16.ofInt (1101)).toInt32 = nI 1101 := by decide +kernel
theorem qk_sipush_1113 : (Int16.ofInt (1113)).toInt32 = nI 1113 := by decide +kernel
theorem qk_sipush_1119 : (Int16.ofInt (1119)).toInt32 = nI 1119 := by decide +kernel
theorem qk_sipush_1125 : (Int16.ofInt (1125)).toInt32 = nI 1125 := by decide +kernel
theorem qk_sipush_1131 : (Int16.ofInt (1131)).toInt32 = nI 1131 := by decide +kernel
end QN
end
section
def qI (z : Int) : Int32 := Int32.ofInt z
theorem qI_toInt {z : Int} (h1 : -2147483648 ≤ z) (h2 : z < 2147483648) : (qI z).toInt = z := by
  unfold qI
  exact Int32.toInt_ofInt_of_le (by omega) (by omega)
theorem qI_of (x : Int32) : qI x.toInt = x := by unfold qI; rw [Int32.ofInt_toInt]
theorem qI_N (k : Nat) : nI k = qI k := by unfold qI nI; rw [← Int32.ofInt_eq_ofNat]
theorem qI_add (a b : Int) : qI a + qI b = qI (a + b) := (Int32.ofInt_add a b).symm
theorem qI_sub (a b : Int) : qI a - qI b = qI (a - b) := (Int32.ofInt_sub a b).symm
theorem qI_mul (a b : Int) : qI a * qI b = qI (a * b) := (Int32.ofInt_mul a b).symm
theorem qI_neg (a : Int) : -qI a = qI (-a) := (Int32.ofInt_neg a).symm
theorem qI_lt {a b : Int} (h1 : -2147483648 ≤ a) (h2 : a < 2147483648) (h3 : -2147483648 ≤ b) (h4 : b < 2147483648) : qI a < qI b ↔ a < b := by
  rw [Int32.lt_iff_toInt_lt, qI_toInt h1 h2, qI_toInt h3 h4]
theorem qI_le {a b : Int} (h1 : -2147483648 ≤ a) (h2 : a < 2147483648) (h3 : -2147483648 ≤ b) (h4 : b < 2147483648) : qI a ≤ qI b ↔ a ≤ b := by
  rw [Int32.le_iff_toInt_le, qI_toInt h1 h2, qI_toInt h3 h4]
theorem qI_inj {a b : Int} (h1 : -2147483648 ≤ a) (h2 : a < 2147483648) (h3 : -2147483648 ≤ b) (h4 : b < 2147483648) (h : qI a = qI b) : a = b := by
  rw [← qI_toInt h1 h2, ← qI_toInt h3 h4, h]
theorem qI_0 : qI 0 = 0 := by decide
theorem qI_range (x : Int32) : -2147483648 ≤ x.toInt ∧ x.toInt < 2147483648 := ⟨by have := Int32.le_toInt x; omega, by have := Int32.toInt_lt x; omega⟩
theorem qI_div {a b : Int} (h1 : -2147483648 ≤ a) (h2 : a < 2147483648) (h3 : 0 < b) (h4 : b < 2147483648) : qI a / qI b = qI (a.tdiv b) := by
  apply Int32.toInt_inj.mp
  have h5 : -2147483648 ≤ a.tdiv b ∧ a.tdiv b < 2147483648 := by
    rcases Int.le_total 0 a with h | h
    · have := Int.tdiv_nonneg h (Int.le_of_lt h3)
      have := Int.tdiv_le_self b h
      omega
    · have e : a = -(-a) := by omega
      have := Int.tdiv_nonneg (a := -a) (by omega) (Int.le_of_lt h3)
      have := Int.tdiv_le_self (a := -a) b (by omega)
      rw [e, Int.neg_tdiv]
      omega
  rw [Int32.toInt_div_of_ne_right, qI_toInt h1 h2, qI_toInt (by omega) h4, qI_toInt h5.1 h5.2]
  intro h
  have h6 := congrArg Int32.toInt h
  rw [qI_toInt (by omega) h4] at h6
  have : (-1 : Int32).toInt = -1 := by decide
  omega
/-- left over, as the class has it -/
theorem q_lo (x : Int32) (g : Nat) (hg : 0 < g) (h2 : g < 2147483648) : (0 ≤ x - x / nI g * nI g → x - x / nI g * nI g = nI ((x.toInt % g).toNat)) ∧ (¬ 0 ≤ x - x / nI g * nI g → (x - x / nI g * nI g) + nI g = nI ((x.toInt % g).toNat)) := by
  obtain ⟨r1, r2⟩ := qI_range x
  have hgI : (0 : Int) < (g : Int) := by omega
  have e : x - x / nI g * nI g = qI (x.toInt.tmod g) := by
    conv => lhs; rw [← qI_of x]
    rw [qI_N g, qI_div r1 r2 (by omega) (by omega), qI_mul, qI_sub]
    congr 1
    have := Int.tmod_add_mul_tdiv x.toInt g
    rw [Int.mul_comm] at this
    omega
  have b1 : x.toInt.tmod g < g := Int.tmod_lt_of_pos _ hgI
  have b2 : -(g : Int) < x.toInt.tmod g := Int.lt_tmod_of_pos _ hgI
  have hem : x.toInt % g = if 0 ≤ x.toInt.tmod g then x.toInt.tmod g else x.toInt.tmod g + g := by
    have h0 := Int.emod_nonneg x.toInt (by omega : (g : Int) ≠ 0)
    have h1 := Int.emod_lt_of_pos x.toInt hgI
    have h2 := Int.mul_tdiv_add_tmod x.toInt g
    have h3 := Int.mul_ediv_add_emod x.toInt g
    have key : ∃ k : Int, x.toInt % g - x.toInt.tmod g = g * k := ⟨x.toInt.tdiv g - x.toInt / g, by rw [Int.mul_sub]; omega⟩
    obtain ⟨k, hk⟩ := key
    split
    · have : k = 0 := by
        rcases Int.lt_trichotomy k 0 with z | z | z
        · have : (g : Int) * k ≤ g * (-1) := Int.mul_le_mul_of_nonneg_left (by omega) (by omega)
          omega
        · exact z
        · have : (g : Int) * 1 ≤ g * k := Int.mul_le_mul_of_nonneg_left (by omega) (by omega)
          omega
      subst this
      omega
    · have : k = 1 := by
        rcases Int.lt_trichotomy k 1 with z | z | z
        · have : (g : Int) * k ≤ g * 0 := Int.mul_le_mul_of_nonneg_left (by omega) (by omega)
          omega
        · exact z
        · have : (g : Int) * 2 ≤ g * k := Int.mul_le_mul_of_nonneg_left (by omega) (by omega)
          omega
      subst this
      omega
  rw [e, ← qI_0]
  have h0 := Int.emod_nonneg x.toInt (by omega : (g : Int) ≠ 0)
  constructor
  · intro h
    rw [qI_le (by omega) (by omega) (by omega) (by omega)] at h
    rw [if_pos h] at hem
    rw [qI_N, Int.toNat_of_nonneg h0, hem]
  · intro h
    rw [qI_le (by omega) (by omega) (by omega) (by omega)] at h
    rw [if_neg h] at hem
    rw [qI_N, qI_N, Int.toNat_of_nonneg h0, hem, qI_add]
abbrev TO (c g tu mi o p e b : Nat) : q_E := .inr (.inr (4, [.ref c, .int (nI g), .int (nI tu), .int (nI mi), .int (nI o), .int (nI p), .int (nI e), .int (nI b)]))
abbrev TA (f : Nat → Nat) : q_E := .inl (0, 48, qN f)
theorem q_up_u (h : q_H) (a : Nat) (x z : q_E) : q_up (q_up h a x) a z = q_up h a z := by funext k; unfold q_up; by_cases hk : k = a <;> simp [hk]
theorem q_up_c (h : q_H) {a b : Nat} (hab : a ≠ b) (x z : q_E) : q_up (q_up h a x) b z = q_up (q_up h b z) a x := by
  funext k; unfold q_up
  by_cases hk : k = a
  · subst hk; simp [hab]
  · simp [hk]
section QE
variable {Γ : q_X} {ad : Nat → Nat} {d mc ms : Nat} {own : String} {y : MethodName} {cc : ByteArray} {nL : Nat} {ret : Option FieldType} {pc : Nat} {la : List (Option Value)} {st : List Value} {n : Nat} {h : q_H} {k1 k2 : Nat}
theorem g_iaddE (C : q_C Γ ad d mc ms own y cc nL ret) {x z w : Int32} (hw : x + z = w) (hdg : decode cc pc = .ok (.iadd, 1)) (kk : q_G Γ ad nL (pc + 1) la (.int w :: st) n h k1 k2) : q_G Γ ad nL pc la (.int z :: .int x :: st) n h k1 k2 := g_iadd C hdg (by rw [hw]; exact kk)
theorem g_isubE (C : q_C Γ ad d mc ms own y cc nL ret) {x z w : Int32} (hw : x - z = w) (hdg : decode cc pc = .ok (.isub, 1)) (kk : q_G Γ ad nL (pc + 1) la (.int w :: st) n h k1 k2) : q_G Γ ad nL pc la (.int z :: .int x :: st) n h k1 k2 := g_isub C hdg (by rw [hw]; exact kk)
theorem g_absE (C : q_C Γ ad d mc ms own y cc nL ret) {ix : Nat} {x w : Int32} (hw : (if 0 ≤ x then x else 0 - x) = w) (hl : q_LM own ix Lib.Math.abs.name Lib.Math.abs.code 1) (hdg : decode cc pc = .ok (.invokestatic ix, 3)) (hd : 1 ≤ d) (hst : (st.map fun v => v.category).sum ≤ 8) (hk : k1 ≤ mc ∧ k2 ≤ ms) (kk : q_G Γ ad nL (pc + 3) la (.int w :: st) n h k1 k2) : q_G Γ ad nL pc la (.int x :: st) n h k1 k2 := g_abs C hl hdg hd hst hk (by rw [hw]; exact kk)
end QE
set_option maxHeartbeats 2000000 in
set_option maxRecDepth 20000 in
theorem s7_leftOver {n : Nat} {h : q_H} (x : Int32) (g : Nat) (hg : 0 < g) (h2 : g < 2147483648) : SP 0 yX7_leftOver cX7_leftOver 3 (some .int) [.int x, .int (nI g)] n h (some (.int (nI ((x.toInt % g).toNat)))) h := by
  refine q_SPi RX7 rfl (by decide +kernel) (la := _) rfl rfl (fun Γ ad C F => ?_)
  refine g_iload_n (pc := 0) C (hl := rfl) dX7_leftOver_0 ?_
  refine g_if_gtN (pc := 1) C 6 dX7_leftOver_1 (by decide) (by omega) (fun c1 => ?_) (fun c1 => ?_)
  · refine g_iload_n (pc := 6) C (hl := rfl) dX7_leftOver_6 ?_
    refine g_iload_n (pc := 7) C (hl := rfl) dX7_leftOver_7 ?_
    refine g_irem (pc := 8) C (by exact nI_ne0 hg h2) dX7_leftOver_8 ?_
    refine g_istore_n (pc := 9) C rfl dX7_leftOver_9 ?_
    refine g_iload_n (pc := 10) C (hl := rfl) dX7_leftOver_10 ?_
    refine g_if_ge (pc := 11) C 20 dX7_leftOver_11 (by decide) (fun c11 => ?_) (fun c11 => ?_)
    · refine g_iload_n (pc := 20) C (hl := rfl) dX7_leftOver_20 ?_
      exact g_iret (pc := 21) C F dX7_leftOver_21 rfl rfl (by first | rw [(q_lo x g hg h2).1 c11] | rw [(q_lo x g hg h2).2 c11] | omega) (rfl)
    · refine g_iload_n (pc := 14) C (hl := rfl) dX7_leftOver_14 ?_
      refine g_iload_n (pc := 15) C (hl := rfl) dX7_leftOver_15 ?_
      refine g_iadd (pc := 16) C dX7_leftOver_16 ?_
      refine g_goto (pc := 17) C 21 dX7_leftOver_17 (by decide) ?_
      exact g_iret (pc := 21) C F dX7_leftOver_21 rfl rfl (by first | rw [(q_lo x g hg h2).1 c11] | rw [(q_lo x g hg h2).2 c11] | omega) (rfl)
  · refine g_iconst (pc := 4) C qk_iconst_0 dX7_leftOver_4 ?_
    exact absurd hg c1
set_option maxHeartbeats 2000000 in
set_option maxRecDepth 20000 in
theorem s7_within {n : Nat} {h : q_H} (x a b : Int32) : SP 0 yX7_within cX7_within 3 (some .boolean) [.int x, .int a, .int b] n h (some (.int (if x < a ∨ b < x then nI 0 else nI 1))) h := by
  refine q_SPi RX7 rfl (by decide +kernel) (la := _) rfl rfl (fun Γ ad C F => ?_)
  refine g_iload_n (pc := 0) C (hl := rfl) dX7_within_0 ?_
  refine g_iload_n (pc := 1) C (hl := rfl) dX7_within_1 ?_
  refine g_ic_lt (pc := 2) C 14 dX7_within_2 (by decide) (fun c2 => ?_) (fun c2 => ?_)
  · refine g_iconst (pc := 14) C qk_iconst_0 dX7_within_14 ?_
    exact g_iret (pc := 15) C F dX7_within_15 rfl rfl (by simp [*]) (rfl)
  · refine g_iload_n (pc := 5) C (hl := rfl) dX7_within_5 ?_
    refine g_iload_n (pc := 6) C (hl := rfl) dX7_within_6 ?_
    refine g_ic_gt (pc := 7) C 14 dX7_within_7 (by decide) (fun c7 => ?_) (fun c7 => ?_)
    · refine g_iconst (pc := 14) C qk_iconst_0 dX7_within_14 ?_
      exact g_iret (pc := 15) C F dX7_within_15 rfl rfl (by simp [*]) (rfl)
    · refine g_iconst (pc := 10) C qk_iconst_1 dX7_within_10 ?_
      refine g_goto (pc := 11) C 15 dX7_within_11 (by decide) ?_
      exact g_iret (pc := 15) C F dX7_within_15 rfl rfl (by simp [*]) (rfl)
set_option maxHeartbeats 2000000 in
set_option maxRecDepth 20000 in
theorem s4_of {n : Nat} {h : q_H} {t c g tu mi o p e b : Nat} {f : Nat → Nat} (k j : Nat) (ht : h t = TO c g tu mi o p e b) (hc : h c = TA f) (hk : k < 8) (hj : j < 6) : SP 0 yX4_of cX4_of 4 (some .int) [.ref t, .int (nI k), .int (nI j)] n h (some (.int (nI (f (k * 6 + j))))) h := by
  refine q_SPi RX4 rfl (by decide +kernel) (la := _) rfl rfl (fun Γ ad C F => ?_)
  refine g_iload_n (pc := 0) C (hl := rfl) dX4_of_0 ?_
  refine g_bipush (pc := 1) C qk_bipush_6 dX4_of_1 ?_
  refine g_imulN (pc := 3) C dX4_of_3 ?_
  refine g_iload_n (pc := 4) C (hl := rfl) dX4_of_4 ?_
  refine g_iaddN (pc := 5) C dX4_of_5 ?_
  refine g_istore_n (pc := 6) C rfl dX4_of_6 ?_
  refine g_iload_n (pc := 7) C (hl := rfl) dX4_of_7 ?_
  refine g_if_ltN (pc := 8) C 39 dX4_of_8 (by decide) (by omega) ?_
  refine g_iload_n (pc := 11) C (hl := rfl) dX4_of_11 ?_
  refine g_bipush (pc := 12) C qk_bipush_6 dX4_of_12 ?_
  refine g_ic_geN (pc := 14) C 39 dX4_of_14 (by decide) (by omega) (fun q => absurd q (by omega)) (fun _ => ?_)
  refine g_iload_n (pc := 17) C (hl := rfl) dX4_of_17 ?_
  refine g_if_ltN (pc := 18) C 39 dX4_of_18 (by decide) (by omega) ?_
  refine g_iload_n (pc := 21) C (hl := rfl) dX4_of_21 ?_
  refine g_aload_n (pc := 22) C (hl := rfl) dX4_of_22 ?_
  refine g_get (pc := 23) C fl4_11 dX4_of_23 ht rfl ?_
  refine g_alenN (pc := 26) C dX4_of_26 hc ?_
  refine g_ic_geN (pc := 27) C 39 dX4_of_27 (by decide) (by omega) (fun q => absurd q (by omega)) (fun _ => ?_)
  refine g_aload_n (pc := 30) C (hl := rfl) dX4_of_30 ?_
  refine g_get (pc := 31) C fl4_11 dX4_of_31 ht rfl ?_
  refine g_iload_n (pc := 34) C (hl := rfl) dX4_of_34 ?_
  refine g_ialdN (pc := 35) C dX4_of_35 hc (by omega) ?_
  refine g_goto (pc := 36) C 40 dX4_of_36 (by decide) ?_
  exact g_iret (pc := 40) C F dX4_of_40 rfl rfl (rfl) (rfl)
theorem s4_of0 {n : Nat} {h : q_H} {t c g tu mi o p e b : Nat} {f : Nat → Nat} (j : Nat) (ht : h t = TO c g tu mi o p e b) (hc : h c = TA f) (hj : j < 6) : SP 0 yX4_of cX4_of 4 (some .int) [.ref t, .int (nI 0), .int (nI j)] n h (some (.int (nI (f (0 + j))))) h := s4_of 0 j ht hc (by decide) hj
theorem s4_of1 {n : Nat} {h : q_H} {t c g tu mi o p e b : Nat} {f : Nat → Nat} (j : Nat) (ht : h t = TO c g tu mi o p e b) (hc : h c = TA f) (hj : j < 6) : SP 0 yX4_of cX4_of 4 (some .int) [.ref t, .int (nI 1), .int (nI j)] n h (some (.int (nI (f (6 + j))))) h := s4_of 1 j ht hc (by decide) hj
theorem s4_of2 {n : Nat} {h : q_H} {t c g tu mi o p e b : Nat} {f : Nat → Nat} (j : Nat) (ht : h t = TO c g tu mi o p e b) (hc : h c = TA f) (hj : j < 6) : SP 0 yX4_of cX4_of 4 (some .int) [.ref t, .int (nI 2), .int (nI j)] n h (some (.int (nI (f (12 + j))))) h := s4_of 2 j ht hc (by decide) hj
theorem s4_of3 {n : Nat} {h : q_H} {t c g tu mi o p e b : Nat} {f : Nat → Nat} (j : Nat) (ht : h t = TO c g tu mi o p e b) (hc : h c = TA f) (hj : j < 6) : SP 0 yX4_of cX4_of 4 (some .int) [.ref t, .int (nI 3), .int (nI j)] n h (some (.int (nI (f (18 + j))))) h := s4_of 3 j ht hc (by decide) hj
theorem s4_of4 {n : Nat} {h : q_H} {t c g tu mi o p e b : Nat} {f : Nat → Nat} (j : Nat) (ht : h t = TO c g tu mi o p e b) (hc : h c = TA f) (hj : j < 6) : SP 0 yX4_of cX4_of 4 (some .int) [.ref t, .int (nI 4), .int (nI j)] n h (some (.int (nI (f (24 + j))))) h := s4_of 4 j ht hc (by decide) hj
theorem s4_of5 {n : Nat} {h : q_H} {t c g tu mi o p e b : Nat} {f : Nat → Nat} (j : Nat) (ht : h t = TO c g tu mi o p e b) (hc : h c = TA f) (hj : j < 6) : SP 0 yX4_of cX4_of 4 (some .int) [.ref t, .int (nI 5), .int (nI j)] n h (some (.int (nI (f (30 + j))))) h := s4_of 5 j ht hc (by decide) hj
theorem s4_of6 {n : Nat} {h : q_H} {t c g tu mi o p e b : Nat} {f : Nat → Nat} (j : Nat) (ht : h t = TO c g tu mi o p e b) (hc : h c = TA f) (hj : j < 6) : SP 0 yX4_of cX4_of 4 (some .int) [.ref t, .int (nI 6), .int (nI j)] n h (some (.int (nI (f (36 + j))))) h := s4_of 6 j ht hc (by decide) hj
theorem s4_of7 {n : Nat} {h : q_H} {t c g tu mi o p e b : Nat} {f : Nat → Nat} (j : Nat) (ht : h t = TO c g tu mi o p e b) (hc : h c = TA f) (hj : j < 6) : SP 0 yX4_of cX4_of 4 (some .int) [.ref t, .int (nI 7), .int (nI j)] n h (some (.int (nI (f (42 + j))))) h := s4_of 7 j ht hc (by decide) hj
set_option maxHeartbeats 2000000 in
set_option maxRecDepth 20000 in
theorem s4_put {n : Nat} {h : q_H} {t c g tu mi o p e b : Nat} {f : Nat → Nat} (k j v : Nat) (ht : h t = TO c g tu mi o p e b) (hc : h c = TA f) (hk : k < 8) (hj : j < 6) : SP 0 yX4_put cX4_put 5 none [.ref t, .int (nI k), .int (nI j), .int (nI v)] n h none (q_up h c (TA (va_up f (k * 6 + j) v))) := by
  refine q_SPi RX4 rfl (by decide +kernel) (la := _) rfl rfl (fun Γ ad C F => ?_)
  refine g_iload_n (pc := 0) C (hl := rfl) dX4_put_0 ?_
  refine g_bipush (pc := 1) C qk_bipush_6 dX4_put_1 ?_
  refine g_imulN (pc := 3) C dX4_put_3 ?_
  refine g_iload_n (pc := 4) C (hl := rfl) dX4_put_4 ?_
  refine g_iaddN (pc := 5) C dX4_put_5 ?_
  refine g_istore (pc := 6) C rfl dX4_put_6 ?_
  refine g_iload_n (pc := 8) C (hl := rfl) dX4_put_8 ?_
  refine g_if_ltN (pc := 9) C 41 dX4_put_9 (by decide) (by omega) ?_
  refine g_iload_n (pc := 12) C (hl := rfl) dX4_put_12 ?_
  refine g_bipush (pc := 13) C qk_bipush_6 dX4_put_13 ?_
  refine g_ic_geN (pc := 15) C 41 dX4_put_15 (by decide) (by omega) (fun q => absurd q (by omega)) (fun _ => ?_)
  refine g_iload (pc := 18) C (hl := rfl) dX4_put_18 ?_
  refine g_if_ltN (pc := 20) C 41 dX4_put_20 (by decide) (by omega) ?_
  refine g_iload (pc := 23) C (hl := rfl) dX4_put_23 ?_
  refine g_aload_n (pc := 25) C (hl := rfl) dX4_put_25 ?_
  refine g_get (pc := 26) C fl4_11 dX4_put_26 ht rfl ?_
  refine g_alenN (pc := 29) C dX4_put_29 hc ?_
  refine g_ic_geN (pc := 30) C 41 dX4_put_30 (by decide) (by omega) (fun q => absurd q (by omega)) (fun _ => ?_)
  refine g_aload_n (pc := 33) C (hl := rfl) dX4_put_33 ?_
  refine g_get (pc := 34) C fl4_11 dX4_put_34 ht rfl ?_
  refine g_iload (pc := 37) C (hl := rfl) dX4_put_37 ?_
  refine g_iload_n (pc := 39) C (hl := rfl) dX4_put_39 ?_
  refine g_iastN (pc := 40) C dX4_put_40 hc (by omega) ?_
  exact g_vret (pc := 41) C F dX4_put_41 rfl rfl (rfl)
theorem s4_put0 {n : Nat} {h : q_H} {t c g tu mi o p e b : Nat} {f : Nat → Nat} (j v : Nat) (ht : h t = TO c g tu mi o p e b) (hc : h c = TA f) (hj : j < 6) : SP 0 yX4_put cX4_put 5 none [.ref t, .int (nI 0), .int (nI j), .int (nI v)] n h none (q_up h c (TA (va_up f (0 + j) v))) := s4_put 0 j v ht hc (by decide) hj
theorem s4_put1 {n : Nat} {h : q_H} {t c g tu mi o p e b : Nat} {f : Nat → Nat} (j v : Nat) (ht : h t = TO c g tu mi o p e b) (hc : h c = TA f) (hj : j < 6) : SP 0 yX4_put cX4_put 5 none [.ref t, .int (nI 1), .int (nI j), .int (nI v)] n h none (q_up h c (TA (va_up f (6 + j) v))) := s4_put 1 j v ht hc (by decide) hj
theorem s4_put2 {n : Nat} {h : q_H} {t c g tu mi o p e b : Nat} {f : Nat → Nat} (j v : Nat) (ht : h t = TO c g tu mi o p e b) (hc : h c = TA f) (hj : j < 6) : SP 0 yX4_put cX4_put 5 none [.ref t, .int (nI 2), .int (nI j), .int (nI v)] n h none (q_up h c (TA (va_up f (12 + j) v))) := s4_put 2 j v ht hc (by decide) hj
theorem s4_put3 {n : Nat} {h : q_H} {t c g tu mi o p e b : Nat} {f : Nat → Nat} (j v : Nat) (ht : h t = TO c g tu mi o p e b) (hc : h c = TA f) (hj : j < 6) : SP 0 yX4_put cX4_put 5 none [.ref t, .int (nI 3), .int (nI j), .int (nI v)] n h none (q_up h c (TA (va_up f (18 + j) v))) := s4_put 3 j v ht hc (by decide) hj
theorem s4_put4 {n : Nat} {h : q_H} {t c g tu mi o p e b : Nat} {f : Nat → Nat} (j v : Nat) (ht : h t = TO c g tu mi o p e b) (hc : h c = TA f) (hj : j < 6) : SP 0 yX4_put cX4_put 5 none [.ref t, .int (nI 4), .int (nI j), .int (nI v)] n h none (q_up h c (TA (va_up f (24 + j) v))) := s4_put 4 j v ht hc (by decide) hj
theorem s4_put5 {n : Nat} {h : q_H} {t c g tu mi o p e b : Nat} {f : Nat → Nat} (j v : Nat) (ht : h t = TO c g tu mi o p e b) (hc : h c = TA f) (hj : j < 6) : SP 0 yX4_put cX4_put 5 none [.ref t, .int (nI 5), .int (nI j), .int (nI v)] n h none (q_up h c (TA (va_up f (30 + j) v))) := s4_put 5 j v ht hc (by decide) hj
theorem s4_put6 {n : Nat} {h : q_H} {t c g tu mi o p e b : Nat} {f : Nat → Nat} (j v : Nat) (ht : h t = TO c g tu mi o p e b) (hc : h c = TA f) (hj : j < 6) : SP 0 yX4_put cX4_put 5 none [.ref t, .int (nI 6), .int (nI j), .int (nI v)] n h none (q_up h c (TA (va_up f (36 + j) v))) := s4_put 6 j v ht hc (by decide) hj
theorem s4_put7 {n : Nat} {h : q_H} {t c g tu mi o p e b : Nat} {f : Nat → Nat} (j v : Nat) (ht : h t = TO c g tu mi o p e b) (hc : h c = TA f) (hj : j < 6) : SP 0 yX4_put cX4_put 5 none [.ref t, .int (nI 7), .int (nI j), .int (nI v)] n h none (q_up h c (TA (va_up f (42 + j) v))) := s4_put 7 j v ht hc (by decide) hj
set_option maxHeartbeats 2000000 in
set_option maxRecDepth 20000 in
theorem s4_add {n : Nat} {h : q_H} {t c g tu mi o p e b : Nat} {f : Nat → Nat} (k j v : Nat) (x : Int32) (ht : h t = TO c g tu mi o p e b) (hc : h c = TA f) (hk : k < 8) (hj : j < 6) (hv : nI (f (k * 6 + j)) + x = nI v) : SP 1 yX4_add cX4_add 4 none [.ref t, .int (nI k), .int (nI j), .int x] n h none (q_up h c (TA (va_up f (k * 6 + j) v))) := by
  refine q_SPi RX4 rfl (by decide +kernel) (la := _) rfl rfl (fun Γ ad C F => ?_)
  refine g_aload_n (pc := 0) C (hl := rfl) dX4_add_0 ?_
  refine g_iload_n (pc := 1) C (hl := rfl) dX4_add_1 ?_
  refine g_iload_n (pc := 2) C (hl := rfl) dX4_add_2 ?_
  refine g_aload_n (pc := 3) C (hl := rfl) dX4_add_3 ?_
  refine g_iload_n (pc := 4) C (hl := rfl) dX4_add_4 ?_
  refine g_iload_n (pc := 5) C (hl := rfl) dX4_add_5 ?_
  refine g_V2v (pc := 6) C lv4_15 dX4_add_6 (s4_of k j ht hc hk hj) ht (by decide) (Nat.le_of_ble_eq_true rfl) ?_
  refine g_iload_n (pc := 9) C (hl := rfl) dX4_add_9 ?_
  refine g_iaddE (pc := 10) C hv dX4_add_10 ?_
  refine g_V3u (pc := 11) C lv4_19 dX4_add_11 (s4_put k j v ht hc hk hj) ht (by decide) (Nat.le_of_ble_eq_true rfl) ?_
  exact g_vret (pc := 14) C F dX4_add_14 rfl rfl (rfl)
theorem s4_add0 {n : Nat} {h : q_H} {t c g tu mi o p e b : Nat} {f : Nat → Nat} (j v : Nat) (x : Int32) (ht : h t = TO c g tu mi o p e b) (hc : h c = TA f) (hj : j < 6) (hv : nI (f (0 + j)) + x = nI v) : SP 1 yX4_add cX4_add 4 none [.ref t, .int (nI 0), .int (nI j), .int x] n h none (q_up h c (TA (va_up f (0 + j) v))) := s4_add 0 j v x ht hc (by decide) hj hv
theorem s4_add1 {n : Nat} {h : q_H} {t c g tu mi o p e b : Nat} {f : Nat → Nat} (j v : Nat) (x : Int32) (ht : h t = TO c g tu mi o p e b) (hc : h c = TA f) (hj : j < 6) (hv : nI (f (6 + j)) + x = nI v) : SP 1 yX4_add cX4_add 4 none [.ref t, .int (nI 1), .int (nI j), .int x] n h none (q_up h c (TA (va_up f (6 + j) v))) := s4_add 1 j v x ht hc (by decide) hj hv
theorem s4_add2 {n : Nat} {h : q_H} {t c g tu mi o p e b : Nat} {f : Nat → Nat} (j v : Nat) (x : Int32) (ht : h t = TO c g tu mi o p e b) (hc : h c = TA f) (hj : j < 6) (hv : nI (f (12 + j)) + x = nI v) : SP 1 yX4_add cX4_add 4 none [.ref t, .int (nI 2), .int (nI j), .int x] n h none (q_up h c (TA (va_up f (12 + j) v))) := s4_add 2 j v x ht hc (by decide) hj hv
theorem s4_add3 {n : Nat} {h : q_H} {t c g tu mi o p e b : Nat} {f : Nat → Nat} (j v : Nat) (x : Int32) (ht : h t = TO c g tu mi o p e b) (hc : h c = TA f) (hj : j < 6) (hv : nI (f (18 + j)) + x = nI v) : SP 1 yX4_add cX4_add 4 none [.ref t, .int (nI 3), .int (nI j), .int x] n h none (q_up h c (TA (va_up f (18 + j) v))) := s4_add 3 j v x ht hc (by decide) hj hv
theorem s4_add4 {n : Nat} {h : q_H} {t c g tu mi o p e b : Nat} {f : Nat → Nat} (j v : Nat) (x : Int32) (ht : h t = TO c g tu mi o p e b) (hc : h c = TA f) (hj : j < 6) (hv : nI (f (24 + j)) + x = nI v) : SP 1 yX4_add cX4_add 4 none [.ref t, .int (nI 4), .int (nI j), .int x] n h none (q_up h c (TA (va_up f (24 + j) v))) := s4_add 4 j v x ht hc (by decide) hj hv
theorem s4_add5 {n : Nat} {h : q_H} {t c g tu mi o p e b : Nat} {f : Nat → Nat} (j v : Nat) (x : Int32) (ht : h t = TO c g tu mi o p e b) (hc : h c = TA f) (hj : j < 6) (hv : nI (f (30 + j)) + x = nI v) : SP 1 yX4_add cX4_add 4 none [.ref t, .int (nI 5), .int (nI j), .int x] n h none (q_up h c (TA (va_up f (30 + j) v))) := s4_add 5 j v x ht hc (by decide) hj hv
theorem s4_add6 {n : Nat} {h : q_H} {t c g tu mi o p e b : Nat} {f : Nat → Nat} (j v : Nat) (x : Int32) (ht : h t = TO c g tu mi o p e b) (hc : h c = TA f) (hj : j < 6) (hv : nI (f (36 + j)) + x = nI v) : SP 1 yX4_add cX4_add 4 none [.ref t, .int (nI 6), .int (nI j), .int x] n h none (q_up h c (TA (va_up f (36 + j) v))) := s4_add 6 j v x ht hc (by decide) hj hv
theorem s4_add7 {n : Nat} {h : q_H} {t c g tu mi o p e b : Nat} {f : Nat → Nat} (j v : Nat) (x : Int32) (ht : h t = TO c g tu mi o p e b) (hc : h c = TA f) (hj : j < 6) (hv : nI (f (42 + j)) + x = nI v) : SP 1 yX4_add cX4_add 4 none [.ref t, .int (nI 7), .int (nI j), .int x] n h none (q_up h c (TA (va_up f (42 + j) v))) := s4_add 7 j v x ht hc (by decide) hj hv
set_option maxHeartbeats 2000000 in
set_option maxRecDepth 20000 in
theorem s4_stands {n : Nat} {h : q_H} {t c g tu mi o p e b : Nat} (ht : h t = TO c g tu mi o p e b) (hg : g < 100) : SP 0 yX4_stands cX4_stands 1 (some .boolean) [.ref t] n h (some (.int (if 0 < g then nI 1 else nI 0))) h := by
  refine q_SPi RX4 rfl (by decide +kernel) (la := _) rfl rfl (fun Γ ad C F => ?_)
  refine g_aload_n (pc := 0) C (hl := rfl) dX4_stands_0 ?_
  refine g_get (pc := 1) C fl4_23 dX4_stands_1 ht rfl ?_
  refine g_if_leN (pc := 4) C 11 dX4_stands_4 (by decide) (by omega) (fun c4 => ?_) (fun c4 => ?_)
  · refine g_iconst (pc := 11) C qk_iconst_0 dX4_stands_11 ?_
    exact g_iret (pc := 12) C F dX4_stands_12 rfl rfl (by first | rw [if_pos (by omega)] | rw [if_neg (by omega)]) (rfl)
  · refine g_iconst (pc := 7) C qk_iconst_1 dX4_stands_7 ?_
    refine g_goto (pc := 8) C 12 dX4_stands_8 (by decide) ?_
    exact g_iret (pc := 12) C F dX4_stands_12 rfl rfl (by first | rw [if_pos (by omega)] | rw [if_neg (by omega)]) (rfl)
set_option maxHeartbeats 2000000 in
set_option maxRecDepth 20000 in
theorem s4_has {n : Nat} {h : q_H} {t c g tu mi o p e b : Nat} (x : Int32) (ht : h t = TO c g tu mi o p e b) : SP 0 yX4_has cX4_has 2 (some .boolean) [.ref t, .int x] n h (some (.int (if x < 0 ∨ nI g ≤ x then nI 0 else nI 1))) h := by
  refine q_SPi RX4 rfl (by decide +kernel) (la := _) rfl rfl (fun Γ ad C F => ?_)
  refine g_iload_n (pc := 0) C (hl := rfl) dX4_has_0 ?_
  refine g_if_lt (pc := 1) C 16 dX4_has_1 (by decide) (fun c1 => ?_) (fun c1 => ?_)
  · refine g_iconst (pc := 16) C qk_iconst_0 dX4_has_16 ?_
    exact g_iret (pc := 17) C F dX4_has_17 rfl rfl (by simp [*]) (rfl)
  · refine g_iload_n (pc := 4) C (hl := rfl) dX4_has_4 ?_
    refine g_aload_n (pc := 5) C (hl := rfl) dX4_has_5 ?_
    refine g_get (pc := 6) C fl4_23 dX4_has_6 ht rfl ?_
    refine g_ic_ge (pc := 9) C 16 dX4_has_9 (by decide) (fun c9 => ?_) (fun c9 => ?_)
    · refine g_iconst (pc := 16) C qk_iconst_0 dX4_has_16 ?_
      exact g_iret (pc := 17) C F dX4_has_17 rfl rfl (by simp [*]) (rfl)
    · refine g_iconst (pc := 12) C qk_iconst_1 dX4_has_12 ?_
      refine g_goto (pc := 13) C 17 dX4_has_13 (by decide) ?_
      exact g_iret (pc := 17) C F dX4_has_17 rfl rfl (by simp [*]) (rfl)
theorem s4_hasN {n : Nat} {h : q_H} {t c g tu mi o p e b : Nat} (j : Nat) (ht : h t = TO c g tu mi o p e b) (hg : g < 100) (hj : j < 2147483648) : SP 0 yX4_has cX4_has 2 (some .boolean) [.ref t, .int (nI j)] n h (some (.int (if j < g then nI 1 else nI 0))) h := by
  have := s4_has (n := n) (nI j) ht
  rw [show (if j < g then nI 1 else nI 0) = (if nI j < 0 ∨ nI g ≤ nI j then nI 0 else nI 1) by
    have h0 := nI_pos hj
    by_cases hjg : j < g
    · rw [if_pos hjg, if_neg (fun q => q.elim h0 (fun z => absurd ((nI_leI (by omega) hj).mp z) (by omega)))]
    · rw [if_neg hjg, if_pos (Or.inr ((nI_leI (by omega) hj).mpr (by omega)))]]
  exact this
end
section
theorem s7_leftOverZ {n : Nat} {h : q_H} (z : Int) (g : Nat) (hg : 0 < g ∧ g < 2147483648) (hz : -2147483648 ≤ z ∧ z < 2147483648) : SP 0 yX7_leftOver cX7_leftOver 3 (some .int) [.int (qI z), .int (nI g)] n h (some (.int (nI ((z % g).toNat)))) h := by
  have := s7_leftOver (n := n) (h := h) (qI z) g hg.1 hg.2
  rw [qI_toInt hz.1 hz.2] at this
  exact this
theorem s7_leftOverN {n : Nat} {h : q_H} (a g : Nat) (hg : 0 < g ∧ g < 2147483648) (hz : a < 2147483648) : SP 0 yX7_leftOver cX7_leftOver 3 (some .int) [.int (nI a), .int (nI g)] n h (some (.int (nI (a % g)))) h := by
  have := s7_leftOverZ (n := n) (h := h) (a : Int) g hg ⟨by omega, by omega⟩
  rw [← qI_N, ← Int.natCast_emod, Int.toNat_natCast] at this
  exact this
def mLeft (f : Nat → Nat) (g tu guest dish : Nat) : Nat := (((f (30 + dish) : Int) - (f (12 + guest) : Int) - (tu : Int)) % (g : Int)).toNat
def mPush (f : Nat → Nat) (g tu guest : Nat) : Int :=
  if f (0 + guest) = 5 then 1 else if f (0 + guest) = 4 ∨ g ≤ f (6 + guest) ∨ f (24 + f (6 + guest)) = 0 then 0
  else if mLeft f g tu guest (f (6 + guest)) ≤ g - mLeft f g tu guest (f (6 + guest)) then (min (mLeft f g tu guest (f (6 + guest))) (max 1 (g / 4)) : Nat) else -(min (g - mLeft f g tu guest (f (6 + guest))) (max 1 (g / 4)) : Nat)
def mTurn (g tu : Nat) (z : Int) : Nat := (((tu : Int) + z) % (g : Int)).toNat
def mDish (f : Nat → Nat) (g tu guest : Nat) : Nat := f (42 + (f (12 + guest) + tu) % g)
def mBite (f : Nat → Nat) (guest dish : Nat) : Nat :=
  if ¬ (f (0 + guest) = 3 ∨ f (0 + guest) = 5) ∧ ¬ f (6 + guest) = dish then 0 else min (f (24 + dish)) (if f (0 + guest) = 2 then 2 else 1)
theorem mLeft_lt (f : Nat → Nat) (g tu guest dish : Nat) (hg : 0 < g) : mLeft f g tu guest dish < g := by
  unfold mLeft
  have h1 := Int.emod_nonneg ((f (30 + dish) : Int) - (f (12 + guest) : Int) - (tu : Int)) (by omega : (g : Int) ≠ 0)
  have h2 := Int.emod_lt_of_pos ((f (30 + dish) : Int) - (f (12 + guest) : Int) - (tu : Int)) (by omega : (0 : Int) < g)
  omega
theorem mTurn_lt (g tu : Nat) (z : Int) (hg : 0 < g) : mTurn g tu z < g := by
  unfold mTurn
  have h1 := Int.emod_nonneg ((tu : Int) + z) (by omega : (g : Int) ≠ 0)
  have h2 := Int.emod_lt_of_pos ((tu : Int) + z) (by omega : (0 : Int) < g)
  omega
theorem mPush_b (f : Nat → Nat) (g tu guest : Nat) (hg : 0 < g) : -(g : Int) ≤ mPush f g tu guest ∧ mPush f g tu guest ≤ g := by
  have h1 := mLeft_lt f g tu guest (f (6 + guest)) hg
  unfold mPush
  split
  · omega
  · split
    · omega
    · split <;> omega
theorem q_be {P : Prop} [Decidable P] : ((if P then nI 1 else nI 0) = 0) ↔ ¬ P := by
  by_cases h : P
  · rw [if_pos h]; exact ⟨fun q => absurd q (by decide), fun q => absurd h q⟩
  · rw [if_neg h]; exact ⟨fun _ => h, fun _ => rfl⟩
theorem q_be2 {P : Prop} [Decidable P] : ((if P then nI 0 else nI 1) = 0) ↔ P := by
  by_cases h : P
  · rw [if_pos h]; exact ⟨fun _ => h, fun _ => rfl⟩
  · rw [if_neg h]; exact ⟨fun q => absurd q (by decide), fun q => absurd q h⟩
theorem mPush_1 {f : Nat → Nat} {g tu j : Nat} (h : f (0 + j) = 5) : mPush f g tu j = 1 := if_pos h
theorem mPush_0 {f : Nat → Nat} {g tu j : Nat} (h : ¬ f (0 + j) = 5) (h2 : f (0 + j) = 4 ∨ g ≤ f (6 + j) ∨ f (24 + f (6 + j)) = 0) : mPush f g tu j = 0 := by unfold mPush; rw [if_neg h, if_pos h2]
theorem mPush_L {f : Nat → Nat} {g tu j : Nat} (h : ¬ f (0 + j) = 5) (h2 : ¬ (f (0 + j) = 4 ∨ g ≤ f (6 + j) ∨ f (24 + f (6 + j)) = 0)) (h3 : mLeft f g tu j (f (6 + j)) ≤ g - mLeft f g tu j (f (6 + j))) : mPush f g tu j = (min (mLeft f g tu j (f (6 + j))) (max 1 (g / 4)) : Nat) := by unfold mPush; rw [if_neg h, if_neg h2, if_pos h3]
theorem mPush_R {f : Nat → Nat} {g tu j : Nat} (h : ¬ f (0 + j) = 5) (h2 : ¬ (f (0 + j) = 4 ∨ g ≤ f (6 + j) ∨ f (24 + f (6 + j)) = 0)) (h3 : ¬ mLeft f g tu j (f (6 + j)) ≤ g - mLeft f g tu j (f (6 + j))) : mPush f g tu j = -(min (g - mLeft f g tu j (f (6 + j))) (max 1 (g / 4)) : Nat) := by unfold mPush; rw [if_neg h, if_neg h2, if_neg h3]
set_option maxHeartbeats 2000000 in
set_option maxRecDepth 20000 in
theorem l4_clear {Γ : q_X} {ad : Nat → Nat} {n t c g tu mi o p e b : Nat} {hF : q_H} (C : q_C Γ ad 0 0 0 RX4 yX4_clear cX4_clear 2 none) (F : q_N Γ ad n none hF) : ∀ (m i : Nat) (K : Nat → Nat) (H : q_H), 48 < i + m → i ≤ 48 → H t = TO c g tu mi o p e b → H c = TA K → (∀ j, j < i → K j = 0) → hF = q_up H c (TA fun _ => 0) → q_G Γ ad 2 17 [some (.ref t), some (.int (nI i))] [] n H 0 0 := by
  intro m
  induction m with
  | zero => intro i; intros; omega
  | succ m ih =>
    intro i K H hm hi ht hc h0 hH
    refine g_iload_n (pc := 17) C (hl := rfl) dX4_clear_17 ?_
    refine g_aload_n (pc := 18) C (hl := rfl) dX4_clear_18 ?_
    refine g_get (pc := 19) C fl4_11 dX4_clear_19 ht rfl ?_
    refine g_alenN (pc := 22) C dX4_clear_22 hc ?_
    refine g_ic_geN (pc := 23) C 39 dX4_clear_23 (by decide) (by omega) (fun c23 => ?_) (fun c23 => ?_)
    · refine g_arr (F := qN fun _ => 0) hc (fun j hj => by show nI (K j) = nI 0; rw [h0 j (by omega)]) ?_
      exact g_vret (pc := 39) C F dX4_clear_39 rfl rfl hH.symm
    · refine g_aload_n (pc := 26) C (hl := rfl) dX4_clear_26 ?_
      refine g_get (pc := 27) C fl4_11 dX4_clear_27 ht rfl ?_
      refine g_iload_n (pc := 30) C (hl := rfl) dX4_clear_30 ?_
      refine g_iconst (pc := 31) C qk_iconst_0 dX4_clear_31 ?_
      refine g_iastN (pc := 32) C dX4_clear_32 hc (by omega) ?_
      refine g_iincN (pc := 33) C (hl := rfl) (q_inc1 _) rfl dX4_clear_33 ?_
      refine g_goto (pc := 36) C 17 dX4_clear_36 (by decide) ?_
      exact ih (i + 1) _ _ (by omega) (by omega) (by rw [q_up_n _ _ (fun q => by rw [q, hc] at ht; cases ht)]; exact ht) (q_up_s _ _ _) (fun j hj => by unfold va_up; split; rfl; exact h0 j (by omega)) (by rw [q_up_u]; exact hH)
set_option maxHeartbeats 2000000 in
set_option maxRecDepth 20000 in
theorem s4_clear {n : Nat} {h : q_H} {t c g tu mi o p e b : Nat} {f : Nat → Nat} (ht : h t = TO c g tu mi o p e b) (hc : h c = TA f) : SP 0 yX4_clear cX4_clear 2 none [.ref t] n h none (q_up (q_up h t (TO c 0 0 0 o p e b)) c (TA fun _ => 0)) := by
  have hne : t ≠ c := fun q => by rw [q, hc] at ht; cases ht
  refine q_SPi RX4 rfl (by decide +kernel) (la := _) rfl rfl (fun Γ ad C F => ?_)
  refine g_aload_n (pc := 0) C (hl := rfl) dX4_clear_0 ?_
  refine g_iconst (pc := 1) C qk_iconst_0 dX4_clear_1 ?_
  refine g_put (pc := 2) C fp4_23 dX4_clear_2 ht (Nat.le_of_ble_eq_true rfl) ?_
  refine g_aload_n (pc := 5) C (hl := rfl) dX4_clear_5 ?_
  refine g_iconst (pc := 6) C qk_iconst_0 dX4_clear_6 ?_
  refine g_put (pc := 7) C fp4_27 dX4_clear_7 (q_up_s _ _ _) (Nat.le_of_ble_eq_true rfl) ?_
  refine g_aload_n (pc := 10) C (hl := rfl) dX4_clear_10 ?_
  refine g_iconst (pc := 11) C qk_iconst_0 dX4_clear_11 ?_
  refine g_put (pc := 12) C fp4_30 dX4_clear_12 (q_up_s _ _ _) (Nat.le_of_ble_eq_true rfl) ?_
  refine g_iconst (pc := 15) C qk_iconst_0 dX4_clear_15 ?_
  refine g_istore_n (pc := 16) C rfl dX4_clear_16 ?_
  exact l4_clear C F 49 0 f _ (by omega) (by omega) (c := c) (g := 0) (tu := 0) (mi := 0) (o := o) (p := p) (e := e) (b := b) (q_up_s _ _ _) ((q_up_n _ _ (Ne.symm hne)).trans ((q_up_n _ _ (Ne.symm hne)).trans ((q_up_n _ _ (Ne.symm hne)).trans hc))) (fun j hj => absurd hj (Nat.not_lt_zero _)) (by rw [q_up_u, q_up_u]; rfl)
set_option maxHeartbeats 2000000 in
set_option maxRecDepth 20000 in
theorem s4_layIn {n : Nat} {h : q_H} {t c g tu mi o p e b : Nat} {f : Nat → Nat} (j k : Nat) (ht : h t = TO c g tu mi o p e b) (hc : h c = TA f) (hj : j < 6 ∧ k < 6) : SP 1 yX4_layIn cX4_layIn 3 none [.ref t, .int (nI j), .int (nI k)] n h none (q_up h c (TA (va_up (va_up f (30 + j) k) (42 + k) j))) := by
  have hne : t ≠ c := fun q => by rw [q, hc] at ht; cases ht
  refine q_SPi RX4 rfl (by decide +kernel) (la := _) rfl rfl (fun Γ ad C F => ?_)
  refine g_aload_n (pc := 0) C (hl := rfl) dX4_layIn_0 ?_
  refine g_iconst (pc := 1) C qk_iconst_5 dX4_layIn_1 ?_
  refine g_iload_n (pc := 2) C (hl := rfl) dX4_layIn_2 ?_
  refine g_iload_n (pc := 3) C (hl := rfl) dX4_layIn_3 ?_
  refine g_V3u (pc := 4) C lv4_19 dX4_layIn_4 (s4_put5 _ _ ht hc (by omega)) ht (by decide) (Nat.le_of_ble_eq_true rfl) ?_
  refine g_aload_n (pc := 7) C (hl := rfl) dX4_layIn_7 ?_
  refine g_bipush (pc := 8) C qk_bipush_7 dX4_layIn_8 ?_
  refine g_iload_n (pc := 10) C (hl := rfl) dX4_layIn_10 ?_
  refine g_iload_n (pc := 11) C (hl := rfl) dX4_layIn_11 ?_
  refine g_V3u (pc := 12) C lv4_19 dX4_layIn_12 (s4_put7 _ _ ((q_up_n _ _ hne).trans ht) (q_up_s _ _ _) (by omega)) ((q_up_n _ _ hne).trans ht) (by decide) (Nat.le_of_ble_eq_true rfl) ?_
  exact g_vret (pc := 15) C F dX4_layIn_15 rfl rfl (q_up_u _ _ _ _)
set_option maxHeartbeats 2000000 in
set_option maxRecDepth 20000 in
theorem s4_swapSeats {n : Nat} {h : q_H} {t c g tu mi o p e b : Nat} {f : Nat → Nat} (j k : Nat) (ht : h t = TO c g tu mi o p e b) (hc : h c = TA f) (hj : j < 6 ∧ k < 6 ∧ f (12 + j) < 6 ∧ f (12 + k) < 6) : SP 1 yX4_swapSeats cX4_swapSeats 5 none [.ref t, .int (nI j), .int (nI k)] n h none (q_up h c (TA (va_up (va_up (va_up (va_up f (12 + j) (f (12 + k))) (12 + k) (f (12 + j))) (36 + f (12 + k)) j) (36 + f (12 + j)) k))) := by
  have hne : t ≠ c := fun q => by rw [q, hc] at ht; cases ht
  refine q_SPi RX4 rfl (by decide +kernel) (la := _) rfl rfl (fun Γ ad C F => ?_)
  refine g_aload_n (pc := 0) C (hl := rfl) dX4_swapSeats_0 ?_
  refine g_iconst (pc := 1) C qk_iconst_2 dX4_swapSeats_1 ?_
  refine g_iload_n (pc := 2) C (hl := rfl) dX4_swapSeats_2 ?_
  refine g_V2v (pc := 3) C lv4_15 dX4_swapSeats_3 (s4_of2 _ ht hc (by omega)) ht (by decide) (Nat.le_of_ble_eq_true rfl) ?_
  refine g_istore_n (pc := 6) C rfl dX4_swapSeats_6 ?_
  refine g_aload_n (pc := 7) C (hl := rfl) dX4_swapSeats_7 ?_
  refine g_iconst (pc := 8) C qk_iconst_2 dX4_swapSeats_8 ?_
  refine g_iload_n (pc := 9) C (hl := rfl) dX4_swapSeats_9 ?_
  refine g_V2v (pc := 10) C lv4_15 dX4_swapSeats_10 (s4_of2 _ ht hc (by omega)) ht (by decide) (Nat.le_of_ble_eq_true rfl) ?_
  refine g_istore (pc := 13) C rfl dX4_swapSeats_13 ?_
  refine g_aload_n (pc := 15) C (hl := rfl) dX4_swapSeats_15 ?_
  refine g_iconst (pc := 16) C qk_iconst_2 dX4_swapSeats_16 ?_
  refine g_iload_n (pc := 17) C (hl := rfl) dX4_swapSeats_17 ?_
  refine g_iload (pc := 18) C (hl := rfl) dX4_swapSeats_18 ?_
  refine g_V3u (pc := 20) C lv4_19 dX4_swapSeats_20 (s4_put2 _ _ ht hc (by omega)) ht (by decide) (Nat.le_of_ble_eq_true rfl) ?_
  refine g_aload_n (pc := 23) C (hl := rfl) dX4_swapSeats_23 ?_
  refine g_iconst (pc := 24) C qk_iconst_2 dX4_swapSeats_24 ?_
  refine g_iload_n (pc := 25) C (hl := rfl) dX4_swapSeats_25 ?_
  refine g_iload_n (pc := 26) C (hl := rfl) dX4_swapSeats_26 ?_
  refine g_V3u (pc := 27) C lv4_19 dX4_swapSeats_27 (s4_put2 _ _ ((q_up_n _ _ hne).trans ht) (q_up_s _ _ _) (by omega)) ((q_up_n _ _ hne).trans ht) (by decide) (Nat.le_of_ble_eq_true rfl) ?_
  refine g_aload_n (pc := 30) C (hl := rfl) dX4_swapSeats_30 ?_
  refine g_bipush (pc := 31) C qk_bipush_6 dX4_swapSeats_31 ?_
  refine g_iload (pc := 33) C (hl := rfl) dX4_swapSeats_33 ?_
  refine g_iload_n (pc := 35) C (hl := rfl) dX4_swapSeats_35 ?_
  refine g_V3u (pc := 36) C lv4_19 dX4_swapSeats_36 (s4_put6 _ _ ((q_up_n _ _ hne).trans ((q_up_n _ _ hne).trans ht)) (q_up_s _ _ _) (by omega)) ((q_up_n _ _ hne).trans ((q_up_n _ _ hne).trans ht)) (by decide) (Nat.le_of_ble_eq_true rfl) ?_
  refine g_aload_n (pc := 39) C (hl := rfl) dX4_swapSeats_39 ?_
  refine g_bipush (pc := 40) C qk_bipush_6 dX4_swapSeats_40 ?_
  refine g_iload_n (pc := 42) C (hl := rfl) dX4_swapSeats_42 ?_
  refine g_iload_n (pc := 43) C (hl := rfl) dX4_swapSeats_43 ?_
  refine g_V3u (pc := 44) C lv4_19 dX4_swapSeats_44 (s4_put6 _ _ ((q_up_n _ _ hne).trans ((q_up_n _ _ hne).trans ((q_up_n _ _ hne).trans ht))) (q_up_s _ _ _) (by omega)) ((q_up_n _ _ hne).trans ((q_up_n _ _ hne).trans ((q_up_n _ _ hne).trans ht))) (by decide) (Nat.le_of_ble_eq_true rfl) ?_
  exact g_vret (pc := 47) C F dX4_swapSeats_47 rfl rfl (by simp only [q_up_u])
set_option maxHeartbeats 2000000 in
set_option maxRecDepth 20000 in
theorem s4_swapSlots {n : Nat} {h : q_H} {t c g tu mi o p e b : Nat} {f : Nat → Nat} (j k : Nat) (ht : h t = TO c g tu mi o p e b) (hc : h c = TA f) (hj : j < 6 ∧ k < 6 ∧ f (30 + j) < 6 ∧ f (30 + k) < 6) : SP 2 yX4_swapSlots cX4_swapSlots 4 none [.ref t, .int (nI j), .int (nI k)] n h none (q_up h c (TA (va_up (va_up (va_up (va_up f (30 + j) (f (30 + k))) (42 + f (30 + k)) j) (30 + k) (f (30 + j))) (42 + f (30 + j)) k))) := by
  have hne : t ≠ c := fun q => by rw [q, hc] at ht; cases ht
  refine q_SPi RX4 rfl (by decide +kernel) (la := _) rfl rfl (fun Γ ad C F => ?_)
  refine g_aload_n (pc := 0) C (hl := rfl) dX4_swapSlots_0 ?_
  refine g_iconst (pc := 1) C qk_iconst_5 dX4_swapSlots_1 ?_
  refine g_iload_n (pc := 2) C (hl := rfl) dX4_swapSlots_2 ?_
  refine g_V2v (pc := 3) C lv4_15 dX4_swapSlots_3 (s4_of5 _ ht hc (by omega)) ht (by decide) (Nat.le_of_ble_eq_true rfl) ?_
  refine g_istore_n (pc := 6) C rfl dX4_swapSlots_6 ?_
  refine g_aload_n (pc := 7) C (hl := rfl) dX4_swapSlots_7 ?_
  refine g_iload_n (pc := 8) C (hl := rfl) dX4_swapSlots_8 ?_
  refine g_aload_n (pc := 9) C (hl := rfl) dX4_swapSlots_9 ?_
  refine g_iconst (pc := 10) C qk_iconst_5 dX4_swapSlots_10 ?_
  refine g_iload_n (pc := 11) C (hl := rfl) dX4_swapSlots_11 ?_
  refine g_V2v (pc := 12) C lv4_15 dX4_swapSlots_12 (s4_of5 _ ht hc (by omega)) ht (by decide) (Nat.le_of_ble_eq_true rfl) ?_
  refine g_V2u (pc := 15) C lv4_39 dX4_swapSlots_15 (s4_layIn _ _ ht hc (by omega)) ht (by decide) (Nat.le_of_ble_eq_true rfl) ?_
  refine g_aload_n (pc := 18) C (hl := rfl) dX4_swapSlots_18 ?_
  refine g_iload_n (pc := 19) C (hl := rfl) dX4_swapSlots_19 ?_
  refine g_iload_n (pc := 20) C (hl := rfl) dX4_swapSlots_20 ?_
  refine g_V2u (pc := 21) C lv4_39 dX4_swapSlots_21 (s4_layIn _ _ ((q_up_n _ _ hne).trans ht) (q_up_s _ _ _) (by omega)) ((q_up_n _ _ hne).trans ht) (by decide) (Nat.le_of_ble_eq_true rfl) ?_
  exact g_vret (pc := 24) C F dX4_swapSlots_24 rfl rfl (by simp only [q_up_u])
set_option maxHeartbeats 2000000 in
set_option maxRecDepth 20000 in
theorem s4_seat {n : Nat} {h : q_H} {t c g tu mi o p e b : Nat} {f : Nat → Nat} (so wa : Nat) (ht : h t = TO c g tu mi o p e b) (hc : h c = TA f) (hj : g < 6) : SP 2 yX4_seat cX4_seat 3 none [.ref t, .int (nI so), .int (nI wa)] n h none (q_up (q_up h c (TA (va_up (va_up (va_up (va_up (va_up (va_up f (0 + g) so) (6 + g) wa) (12 + g) g) (36 + g) g) (30 + g) g) (42 + g) g))) t (TO c (g + 1) tu mi o p e b)) := by
  have hne : t ≠ c := fun q => by rw [q, hc] at ht; cases ht
  refine q_SPi RX4 rfl (by decide +kernel) (la := _) rfl rfl (fun Γ ad C F => ?_)
  refine g_aload_n (pc := 0) C (hl := rfl) dX4_seat_0 ?_
  refine g_iconst (pc := 1) C qk_iconst_0 dX4_seat_1 ?_
  refine g_aload_n (pc := 2) C (hl := rfl) dX4_seat_2 ?_
  refine g_get (pc := 3) C fl4_23 dX4_seat_3 ht rfl ?_
  refine g_iload_n (pc := 6) C (hl := rfl) dX4_seat_6 ?_
  refine g_V3u (pc := 7) C lv4_19 dX4_seat_7 (s4_put0 _ _ ht hc (by omega)) ht (by decide) (Nat.le_of_ble_eq_true rfl) ?_
  refine g_aload_n (pc := 10) C (hl := rfl) dX4_seat_10 ?_
  refine g_iconst (pc := 11) C qk_iconst_1 dX4_seat_11 ?_
  refine g_aload_n (pc := 12) C (hl := rfl) dX4_seat_12 ?_
  refine g_get (pc := 13) C fl4_23 dX4_seat_13 ((q_up_n _ _ hne).trans ht) rfl ?_
  refine g_iload_n (pc := 16) C (hl := rfl) dX4_seat_16 ?_
  refine g_V3u (pc := 17) C lv4_19 dX4_seat_17 (s4_put1 _ _ ((q_up_n _ _ hne).trans ht) (q_up_s _ _ _) (by omega)) ((q_up_n _ _ hne).trans ht) (by decide) (Nat.le_of_ble_eq_true rfl) ?_
  refine g_aload_n (pc := 20) C (hl := rfl) dX4_seat_20 ?_
  refine g_iconst (pc := 21) C qk_iconst_2 dX4_seat_21 ?_
  refine g_aload_n (pc := 22) C (hl := rfl) dX4_seat_22 ?_
  refine g_get (pc := 23) C fl4_23 dX4_seat_23 ((q_up_n _ _ hne).trans ((q_up_n _ _ hne).trans ht)) rfl ?_
  refine g_aload_n (pc := 26) C (hl := rfl) dX4_seat_26 ?_
  refine g_get (pc := 27) C fl4_23 dX4_seat_27 ((q_up_n _ _ hne).trans ((q_up_n _ _ hne).trans ht)) rfl ?_
  refine g_V3u (pc := 30) C lv4_19 dX4_seat_30 (s4_put2 _ _ ((q_up_n _ _ hne).trans ((q_up_n _ _ hne).trans ht)) (q_up_s _ _ _) (by omega)) ((q_up_n _ _ hne).trans ((q_up_n _ _ hne).trans ht)) (by decide) (Nat.le_of_ble_eq_true rfl) ?_
  refine g_aload_n (pc := 33) C (hl := rfl) dX4_seat_33 ?_
  refine g_bipush (pc := 34) C qk_bipush_6 dX4_seat_34 ?_
  refine g_aload_n (pc := 36) C (hl := rfl) dX4_seat_36 ?_
  refine g_get (pc := 37) C fl4_23 dX4_seat_37 ((q_up_n _ _ hne).trans ((q_up_n _ _ hne).trans ((q_up_n _ _ hne).trans ht))) rfl ?_
  refine g_aload_n (pc := 40) C (hl := rfl) dX4_seat_40 ?_
  refine g_get (pc := 41) C fl4_23 dX4_seat_41 ((q_up_n _ _ hne).trans ((q_up_n _ _ hne).trans ((q_up_n _ _ hne).trans ht))) rfl ?_
  refine g_V3u (pc := 44) C lv4_19 dX4_seat_44 (s4_put6 _ _ ((q_up_n _ _ hne).trans ((q_up_n _ _ hne).trans ((q_up_n _ _ hne).trans ht))) (q_up_s _ _ _) (by omega)) ((q_up_n _ _ hne).trans ((q_up_n _ _ hne).trans ((q_up_n _ _ hne).trans ht))) (by decide) (Nat.le_of_ble_eq_true rfl) ?_
  refine g_aload_n (pc := 47) C (hl := rfl) dX4_seat_47 ?_
  refine g_aload_n (pc := 48) C (hl := rfl) dX4_seat_48 ?_
  refine g_get (pc := 49) C fl4_23 dX4_seat_49 ((q_up_n _ _ hne).trans ((q_up_n _ _ hne).trans ((q_up_n _ _ hne).trans ((q_up_n _ _ hne).trans ht)))) rfl ?_
  refine g_aload_n (pc := 52) C (hl := rfl) dX4_seat_52 ?_
  refine g_get (pc := 53) C fl4_23 dX4_seat_53 ((q_up_n _ _ hne).trans ((q_up_n _ _ hne).trans ((q_up_n _ _ hne).trans ((q_up_n _ _ hne).trans ht)))) rfl ?_
  refine g_V2u (pc := 56) C lv4_39 dX4_seat_56 (s4_layIn _ _ ((q_up_n _ _ hne).trans ((q_up_n _ _ hne).trans ((q_up_n _ _ hne).trans ((q_up_n _ _ hne).trans ht)))) (q_up_s _ _ _) (by omega)) ((q_up_n _ _ hne).trans ((q_up_n _ _ hne).trans ((q_up_n _ _ hne).trans ((q_up_n _ _ hne).trans ht)))) (by decide) (Nat.le_of_ble_eq_true rfl) ?_
  refine g_aload_n (pc := 59) C (hl := rfl) dX4_seat_59 ?_
  refine g_dup (pc := 60) C rfl dX4_seat_60 ?_
  refine g_get (pc := 61) C fl4_23 dX4_seat_61 ((q_up_n _ _ hne).trans ((q_up_n _ _ hne).trans ((q_up_n _ _ hne).trans ((q_up_n _ _ hne).trans ((q_up_n _ _ hne).trans ht))))) rfl ?_
  refine g_iconst (pc := 64) C qk_iconst_1 dX4_seat_64 ?_
  refine g_iaddN (pc := 65) C dX4_seat_65 ?_
  refine g_put (pc := 66) C fp4_23 dX4_seat_66 ((q_up_n _ _ hne).trans ((q_up_n _ _ hne).trans ((q_up_n _ _ hne).trans ((q_up_n _ _ hne).trans ((q_up_n _ _ hne).trans ht))))) (Nat.le_of_ble_eq_true rfl) ?_
  exact g_vret (pc := 69) C F dX4_seat_69 rfl rfl (by simp only [q_up_u]; rfl)
set_option maxHeartbeats 2000000 in
set_option maxRecDepth 20000 in
theorem s4_turnLeft {n : Nat} {h : q_H} {t c g tu mi o p e b : Nat} (z : Int) (ht : h t = TO c g tu mi o p e b) (hg : 0 < g ∧ g < 100 ∧ tu < 1000000 ∧ -1000000 < z ∧ z < 1000000) : SP 1 yX4_turnLeft cX4_turnLeft 2 none [.ref t, .int (qI z)] n h none (q_up h t (TO c g (mTurn g tu z) mi o p e b)) := by
  refine q_SPi RX4 rfl (by decide +kernel) (la := _) rfl rfl (fun Γ ad C F => ?_)
  refine g_aload_n (pc := 0) C (hl := rfl) dX4_turnLeft_0 ?_
  refine g_aload_n (pc := 1) C (hl := rfl) dX4_turnLeft_1 ?_
  refine g_get (pc := 2) C fl4_27 dX4_turnLeft_2 ht rfl ?_
  refine g_iload_n (pc := 5) C (hl := rfl) dX4_turnLeft_5 ?_
  refine g_iaddE (pc := 6) C (w := qI ((tu : Int) + z)) (by rw [qI_N, qI_add]) dX4_turnLeft_6 ?_
  refine g_aload_n (pc := 7) C (hl := rfl) dX4_turnLeft_7 ?_
  refine g_get (pc := 8) C fl4_23 dX4_turnLeft_8 ht rfl ?_
  refine g_S2v (pc := 11) C ls4_43 dX4_turnLeft_11 (s7_leftOverZ _ _ (by omega) (by omega)) (by decide) (Nat.le_of_ble_eq_true rfl) ?_
  refine g_put (pc := 14) C fp4_27 dX4_turnLeft_14 ht (Nat.le_of_ble_eq_true rfl) ?_
  exact g_vret (pc := 17) C F dX4_turnLeft_17 rfl rfl (rfl)
set_option maxHeartbeats 2000000 in
set_option maxRecDepth 20000 in
theorem s4_dishBefore {n : Nat} {h : q_H} {t c g tu mi o p e b : Nat} {f : Nat → Nat} (j : Nat) (ht : h t = TO c g tu mi o p e b) (hc : h c = TA f) (hg : 0 < g ∧ g < 100 ∧ tu < 1000000 ∧ j < 6 ∧ f (12 + j) < 6) (hd : (f (12 + j) + tu) % g < 6) : SP 1 yX4_dishBefore cX4_dishBefore 2 (some .int) [.ref t, .int (nI j)] n h (some (.int (nI (mDish f g tu j)))) h := by
  refine q_SPi RX4 rfl (by decide +kernel) (la := _) rfl rfl (fun Γ ad C F => ?_)
  refine g_aload_n (pc := 0) C (hl := rfl) dX4_dishBefore_0 ?_
  refine g_bipush (pc := 1) C qk_bipush_7 dX4_dishBefore_1 ?_
  refine g_aload_n (pc := 3) C (hl := rfl) dX4_dishBefore_3 ?_
  refine g_iconst (pc := 4) C qk_iconst_2 dX4_dishBefore_4 ?_
  refine g_iload_n (pc := 5) C (hl := rfl) dX4_dishBefore_5 ?_
  refine g_V2v (pc := 6) C lv4_15 dX4_dishBefore_6 (s4_of2 _ ht hc (by omega)) ht (by decide) (Nat.le_of_ble_eq_true rfl) ?_
  refine g_aload_n (pc := 9) C (hl := rfl) dX4_dishBefore_9 ?_
  refine g_get (pc := 10) C fl4_27 dX4_dishBefore_10 ht rfl ?_
  refine g_iaddN (pc := 13) C dX4_dishBefore_13 ?_
  refine g_aload_n (pc := 14) C (hl := rfl) dX4_dishBefore_14 ?_
  refine g_get (pc := 15) C fl4_23 dX4_dishBefore_15 ht rfl ?_
  refine g_S2v (pc := 18) C ls4_43 dX4_dishBefore_18 (s7_leftOverN _ _ (by omega) (by omega)) (by decide) (Nat.le_of_ble_eq_true rfl) ?_
  refine g_V2v (pc := 21) C lv4_15 dX4_dishBefore_21 (s4_of7 _ ht hc (by exact hd)) ht (by decide) (Nat.le_of_ble_eq_true rfl) ?_
  exact g_iret (pc := 24) C F dX4_dishBefore_24 rfl rfl (rfl) (rfl)
set_option maxHeartbeats 2000000 in
set_option maxRecDepth 20000 in
theorem s4_toTheLeft {n : Nat} {h : q_H} {t c g tu mi o p e b : Nat} {f : Nat → Nat} (j k : Nat) (ht : h t = TO c g tu mi o p e b) (hc : h c = TA f) (hg : 0 < g ∧ g < 100 ∧ tu < 1000000 ∧ j < 6 ∧ k < 6 ∧ f (12 + j) < 1000000 ∧ f (30 + k) < 1000000) : SP 1 yX4_toTheLeft cX4_toTheLeft 3 (some .int) [.ref t, .int (nI j), .int (nI k)] n h (some (.int (nI (mLeft f g tu j k)))) h := by
  refine q_SPi RX4 rfl (by decide +kernel) (la := _) rfl rfl (fun Γ ad C F => ?_)
  refine g_aload_n (pc := 0) C (hl := rfl) dX4_toTheLeft_0 ?_
  refine g_iconst (pc := 1) C qk_iconst_5 dX4_toTheLeft_1 ?_
  refine g_iload_n (pc := 2) C (hl := rfl) dX4_toTheLeft_2 ?_
  refine g_V2v (pc := 3) C lv4_15 dX4_toTheLeft_3 (s4_of5 _ ht hc (by omega)) ht (by decide) (Nat.le_of_ble_eq_true rfl) ?_
  refine g_aload_n (pc := 6) C (hl := rfl) dX4_toTheLeft_6 ?_
  refine g_iconst (pc := 7) C qk_iconst_2 dX4_toTheLeft_7 ?_
  refine g_iload_n (pc := 8) C (hl := rfl) dX4_toTheLeft_8 ?_
  refine g_V2v (pc := 9) C lv4_15 dX4_toTheLeft_9 (s4_of2 _ ht hc (by omega)) ht (by decide) (Nat.le_of_ble_eq_true rfl) ?_
  refine g_isubE (pc := 12) C (w := qI ((f (30 + k) : Int) - f (12 + j))) (by rw [qI_N, qI_N, qI_sub]) dX4_toTheLeft_12 ?_
  refine g_aload_n (pc := 13) C (hl := rfl) dX4_toTheLeft_13 ?_
  refine g_get (pc := 14) C fl4_27 dX4_toTheLeft_14 ht rfl ?_
  refine g_isubE (pc := 17) C (w := qI ((f (30 + k) : Int) - f (12 + j) - tu)) (by rw [qI_N, qI_sub]) dX4_toTheLeft_17 ?_
  refine g_aload_n (pc := 18) C (hl := rfl) dX4_toTheLeft_18 ?_
  refine g_get (pc := 19) C fl4_23 dX4_toTheLeft_19 ht rfl ?_
  refine g_S2v (pc := 22) C ls4_43 dX4_toTheLeft_22 (s7_leftOverZ _ _ (by omega) (by omega)) (by decide) (Nat.le_of_ble_eq_true rfl) ?_
  exact g_iret (pc := 25) C F dX4_toTheLeft_25 rfl rfl (rfl) (rfl)
set_option maxHeartbeats 2000000 in
set_option maxRecDepth 20000 in
theorem s4_pushBy {n : Nat} {h : q_H} {t c g tu mi o p e b : Nat} {f : Nat → Nat} (j : Nat) (ht : h t = TO c g tu mi o p e b) (hc : h c = TA f) (hg : 0 < g ∧ g < 100 ∧ tu < 1000000 ∧ j < 6 ∧ f (0 + j) < 6 ∧ f (6 + j) < 6 ∧ f (12 + j) < 1000000 ∧ f (30 + f (6 + j)) < 1000000 ∧ f (24 + f (6 + j)) < 1000000) : SP 2 yX4_pushBy cX4_pushBy 7 (some .int) [.ref t, .int (nI j)] n h (some (.int (qI (mPush f g tu j)))) h := by
  refine q_SPi RX4 rfl (by decide +kernel) (la := _) rfl rfl (fun Γ ad C F => ?_)
  refine g_aload_n (pc := 0) C (hl := rfl) dX4_pushBy_0 ?_
  refine g_iconst (pc := 1) C qk_iconst_0 dX4_pushBy_1 ?_
  refine g_iload_n (pc := 2) C (hl := rfl) dX4_pushBy_2 ?_
  refine g_V2v (pc := 3) C lv4_15 dX4_pushBy_3 (s4_of0 _ ht hc (by omega)) ht (by decide) (Nat.le_of_ble_eq_true rfl) ?_
  refine g_istore_n (pc := 6) C rfl dX4_pushBy_6 ?_
  refine g_aload_n (pc := 7) C (hl := rfl) dX4_pushBy_7 ?_
  refine g_iconst (pc := 8) C qk_iconst_1 dX4_pushBy_8 ?_
  refine g_iload_n (pc := 9) C (hl := rfl) dX4_pushBy_9 ?_
  refine g_V2v (pc := 10) C lv4_15 dX4_pushBy_10 (s4_of1 _ ht hc (by omega)) ht (by decide) (Nat.le_of_ble_eq_true rfl) ?_
  refine g_istore_n (pc := 13) C rfl dX4_pushBy_13 ?_
  refine g_iload_n (pc := 14) C (hl := rfl) dX4_pushBy_14 ?_
  refine g_iconst (pc := 15) C qk_iconst_5 dX4_pushBy_15 ?_
  refine g_ic_neN (pc := 16) C 21 dX4_pushBy_16 (by decide) (by omega) (fun c16 => ?_) (fun c16 => ?_)
  · refine g_iload_n (pc := 21) C (hl := rfl) dX4_pushBy_21 ?_
    refine g_iconst (pc := 22) C qk_iconst_4 dX4_pushBy_22 ?_
    refine g_ic_eqN (pc := 23) C 43 dX4_pushBy_23 (by decide) (by omega) (fun c23 => ?_) (fun c23 => ?_)
    · refine g_iconst (pc := 43) C qk_iconst_0 dX4_pushBy_43 ?_
      exact g_iret (pc := 44) C F dX4_pushBy_44 rfl rfl (by rw [mPush_0 c16 (by first | exact Or.inl c23 | exact Or.inr (Or.inl (Nat.le_of_not_lt (q_be.mp c31))) | exact Or.inr (Or.inr c40))]; rfl) (rfl)
    · refine g_aload_n (pc := 26) C (hl := rfl) dX4_pushBy_26 ?_
      refine g_iload_n (pc := 27) C (hl := rfl) dX4_pushBy_27 ?_
      refine g_V1v (pc := 28) C lv4_80 dX4_pushBy_28 (s4_hasN _ ht (by omega) (by omega)) ht (by decide) (Nat.le_of_ble_eq_true rfl) ?_
      refine g_if_eq (pc := 31) C 43 dX4_pushBy_31 (by decide) (fun c31 => ?_) (fun c31 => ?_)
      · refine g_iconst (pc := 43) C qk_iconst_0 dX4_pushBy_43 ?_
        exact g_iret (pc := 44) C F dX4_pushBy_44 rfl rfl (by rw [mPush_0 c16 (by first | exact Or.inl c23 | exact Or.inr (Or.inl (Nat.le_of_not_lt (q_be.mp c31))) | exact Or.inr (Or.inr c40))]; rfl) (rfl)
      · refine g_aload_n (pc := 34) C (hl := rfl) dX4_pushBy_34 ?_
        refine g_iconst (pc := 35) C qk_iconst_4 dX4_pushBy_35 ?_
        refine g_iload_n (pc := 36) C (hl := rfl) dX4_pushBy_36 ?_
        refine g_V2v (pc := 37) C lv4_15 dX4_pushBy_37 (s4_of4 _ ht hc (by omega)) ht (by decide) (Nat.le_of_ble_eq_true rfl) ?_
        refine g_if_neN (pc := 40) C 45 dX4_pushBy_40 (by decide) (by omega) (fun c40 => ?_) (fun c40 => ?_)
        · refine g_iconst (pc := 45) C qk_iconst_1 dX4_pushBy_45 ?_
          refine g_aload_n (pc := 46) C (hl := rfl) dX4_pushBy_46 ?_
          refine g_get (pc := 47) C fl4_23 dX4_pushBy_47 ht rfl ?_
          refine g_iconst (pc := 50) C qk_iconst_4 dX4_pushBy_50 ?_
          refine g_idivN (pc := 51) C dX4_pushBy_51 (by omega) ?_
          refine g_maxN (pc := 52) C lm4_84 dX4_pushBy_52 (by omega) (by decide) (Nat.le_of_ble_eq_true rfl) ⟨Nat.zero_le _, Nat.zero_le _⟩ ?_
          refine g_istore (pc := 55) C rfl dX4_pushBy_55 ?_
          refine g_aload_n (pc := 57) C (hl := rfl) dX4_pushBy_57 ?_
          refine g_iload_n (pc := 58) C (hl := rfl) dX4_pushBy_58 ?_
          refine g_iload_n (pc := 59) C (hl := rfl) dX4_pushBy_59 ?_
          refine g_V2v (pc := 60) C lv4_87 dX4_pushBy_60 (s4_toTheLeft _ _ ht hc (by omega)) ht (by decide) (Nat.le_of_ble_eq_true rfl) ?_
          refine g_istore (pc := 63) C rfl dX4_pushBy_63 ?_
          refine g_aload_n (pc := 65) C (hl := rfl) dX4_pushBy_65 ?_
          refine g_get (pc := 66) C fl4_23 dX4_pushBy_66 ht rfl ?_
          refine g_iload (pc := 69) C (hl := rfl) dX4_pushBy_69 ?_
          refine g_isubN (pc := 71) C dX4_pushBy_71 (by exact Nat.le_of_lt (mLeft_lt _ _ _ _ _ hg.1)) ?_
          refine g_istore (pc := 72) C rfl dX4_pushBy_72 ?_
          refine g_iload (pc := 74) C (hl := rfl) dX4_pushBy_74 ?_
          refine g_iload (pc := 76) C (hl := rfl) dX4_pushBy_76 ?_
          refine g_ic_gtN (pc := 78) C 91 dX4_pushBy_78 (by decide) (by have := mLeft_lt f g tu j (f (6 + j)) hg.1; omega) (fun c78 => ?_) (fun c78 => ?_)
          · refine g_iload (pc := 91) C (hl := rfl) dX4_pushBy_91 ?_
            refine g_iload (pc := 93) C (hl := rfl) dX4_pushBy_93 ?_
            refine g_minN (pc := 95) C lm4_90 dX4_pushBy_95 (by have := mLeft_lt f g tu j (f (6 + j)) hg.1; omega) (by decide) (Nat.le_of_ble_eq_true rfl) ⟨Nat.zero_le _, Nat.zero_le _⟩ ?_
            refine g_ineg (pc := 98) C dX4_pushBy_98 ?_
            exact g_iret (pc := 99) C F dX4_pushBy_99 rfl rfl (by first | rw [mPush_L c16 (fun q => q.elim c23 (fun q => q.elim (fun q => c31 (q_be.mpr (by omega))) c40)) (by omega), qI_N] | rw [mPush_R c16 (fun q => q.elim c23 (fun q => q.elim (fun q => c31 (q_be.mpr (by omega))) c40)) (by omega), qI_N, qI_neg]) (rfl)
          · refine g_iload (pc := 81) C (hl := rfl) dX4_pushBy_81 ?_
            refine g_iload (pc := 83) C (hl := rfl) dX4_pushBy_83 ?_
            refine g_minN (pc := 85) C lm4_90 dX4_pushBy_85 (by have := mLeft_lt f g tu j (f (6 + j)) hg.1; omega) (by decide) (Nat.le_of_ble_eq_true rfl) ⟨Nat.zero_le _, Nat.zero_le _⟩ ?_
            refine g_goto (pc := 88) C 99 dX4_pushBy_88 (by decide) ?_
            exact g_iret (pc := 99) C F dX4_pushBy_99 rfl rfl (by first | rw [mPush_L c16 (fun q => q.elim c23 (fun q => q.elim (fun q => c31 (q_be.mpr (by omega))) c40)) (by omega), qI_N] | rw [mPush_R c16 (fun q => q.elim c23 (fun q => q.elim (fun q => c31 (q_be.mpr (by omega))) c40)) (by omega), qI_N, qI_neg]) (rfl)
        · refine g_iconst (pc := 43) C qk_iconst_0 dX4_pushBy_43 ?_
          exact g_iret (pc := 44) C F dX4_pushBy_44 rfl rfl (by rw [mPush_0 c16 (by first | exact Or.inl c23 | exact Or.inr (Or.inl (Nat.le_of_not_lt (q_be.mp c31))) | exact Or.inr (Or.inr c40))]; rfl) (rfl)
  · refine g_iconst (pc := 19) C qk_iconst_1 dX4_pushBy_19 ?_
    exact g_iret (pc := 20) C F dX4_pushBy_20 rfl rfl (by rw [mPush_1 c16]; rfl) (rfl)
set_option maxHeartbeats 2000000 in
set_option maxRecDepth 20000 in
theorem s4_biteOf {n : Nat} {h : q_H} {t c g tu mi o p e b : Nat} {f : Nat → Nat} (j k : Nat) (ht : h t = TO c g tu mi o p e b) (hc : h c = TA f) (hg : j < 6 ∧ k < 6 ∧ f (0 + j) < 6 ∧ f (6 + j) < 6 ∧ f (24 + k) < 1000000) : SP 1 yX4_biteOf cX4_biteOf 6 (some .int) [.ref t, .int (nI j), .int (nI k)] n h (some (.int (nI (mBite f j k)))) h := by
  refine q_SPi RX4 rfl (by decide +kernel) (la := _) rfl rfl (fun Γ ad C F => ?_)
  refine g_aload_n (pc := 0) C (hl := rfl) dX4_biteOf_0 ?_
  refine g_iconst (pc := 1) C qk_iconst_0 dX4_biteOf_1 ?_
  refine g_iload_n (pc := 2) C (hl := rfl) dX4_biteOf_2 ?_
  refine g_V2v (pc := 3) C lv4_15 dX4_biteOf_3 (s4_of0 _ ht hc (by omega)) ht (by decide) (Nat.le_of_ble_eq_true rfl) ?_
  refine g_istore_n (pc := 6) C rfl dX4_biteOf_6 ?_
  refine g_aload_n (pc := 7) C (hl := rfl) dX4_biteOf_7 ?_
  refine g_iconst (pc := 8) C qk_iconst_4 dX4_biteOf_8 ?_
  refine g_iload_n (pc := 9) C (hl := rfl) dX4_biteOf_9 ?_
  refine g_V2v (pc := 10) C lv4_15 dX4_biteOf_10 (s4_of4 _ ht hc (by omega)) ht (by decide) (Nat.le_of_ble_eq_true rfl) ?_
  refine g_istore (pc := 13) C rfl dX4_biteOf_13 ?_
  refine g_iload_n (pc := 15) C (hl := rfl) dX4_biteOf_15 ?_
  refine g_iconst (pc := 16) C qk_iconst_3 dX4_biteOf_16 ?_
  refine g_ic_eqN (pc := 17) C 25 dX4_biteOf_17 (by decide) (by omega) (fun c17 => ?_) (fun c17 => ?_)
  · refine g_iconst (pc := 25) C qk_iconst_1 dX4_biteOf_25 ?_
    refine g_goto (pc := 26) C 30 dX4_biteOf_26 (by decide) ?_
    refine g_istore (pc := 30) C rfl dX4_biteOf_30 ?_
    refine g_iload (pc := 32) C (hl := rfl) dX4_biteOf_32 ?_
    refine g_if_neN (pc := 34) C 49 dX4_biteOf_34 (by decide) (by omega) (fun c34 => ?_) (fun c34 => ?_)
    · refine g_iload (pc := 49) C (hl := rfl) dX4_biteOf_49 ?_
      refine g_iload_n (pc := 51) C (hl := rfl) dX4_biteOf_51 ?_
      refine g_iconst (pc := 52) C qk_iconst_2 dX4_biteOf_52 ?_
      refine g_ic_neN (pc := 53) C 60 dX4_biteOf_53 (by decide) (by omega) (fun c53 => ?_) (fun c53 => ?_)
      · refine g_iconst (pc := 60) C qk_iconst_1 dX4_biteOf_60 ?_
        refine g_minN (pc := 61) C lm4_90 dX4_biteOf_61 (by omega) (by decide) (Nat.le_of_ble_eq_true rfl) ⟨Nat.zero_le _, Nat.zero_le _⟩ ?_
        exact g_iret (pc := 64) C F dX4_biteOf_64 rfl rfl (by unfold mBite; simp_all) (rfl)
      · refine g_iconst (pc := 56) C qk_iconst_2 dX4_biteOf_56 ?_
        refine g_goto (pc := 57) C 61 dX4_biteOf_57 (by decide) ?_
        refine g_minN (pc := 61) C lm4_90 dX4_biteOf_61 (by omega) (by decide) (Nat.le_of_ble_eq_true rfl) ⟨Nat.zero_le _, Nat.zero_le _⟩ ?_
        exact g_iret (pc := 64) C F dX4_biteOf_64 rfl rfl (by unfold mBite; simp_all) (rfl)
    · refine g_aload_n (pc := 37) C (hl := rfl) dX4_biteOf_37 ?_
      refine g_iconst (pc := 38) C qk_iconst_1 dX4_biteOf_38 ?_
      refine g_iload_n (pc := 39) C (hl := rfl) dX4_biteOf_39 ?_
      refine g_V2v (pc := 40) C lv4_15 dX4_biteOf_40 (s4_of1 _ ht hc (by omega)) ht (by decide) (Nat.le_of_ble_eq_true rfl) ?_
      refine g_iload_n (pc := 43) C (hl := rfl) dX4_biteOf_43 ?_
      refine g_ic_eqN (pc := 44) C 49 dX4_biteOf_44 (by decide) (by omega) (fun c44 => ?_) (fun c44 => ?_)
      · refine g_iload (pc := 49) C (hl := rfl) dX4_biteOf_49 ?_
        refine g_iload_n (pc := 51) C (hl := rfl) dX4_biteOf_51 ?_
        refine g_iconst (pc := 52) C qk_iconst_2 dX4_biteOf_52 ?_
        refine g_ic_neN (pc := 53) C 60 dX4_biteOf_53 (by decide) (by omega) (fun c53 => ?_) (fun c53 => ?_)
        · refine g_iconst (pc := 60) C qk_iconst_1 dX4_biteOf_60 ?_
          refine g_minN (pc := 61) C lm4_90 dX4_biteOf_61 (by omega) (by decide) (Nat.le_of_ble_eq_true rfl) ⟨Nat.zero_le _, Nat.zero_le _⟩ ?_
          exact g_iret (pc := 64) C F dX4_biteOf_64 rfl rfl (by unfold mBite; simp_all) (rfl)
        · refine g_iconst (pc := 56) C qk_iconst_2 dX4_biteOf_56 ?_
          refine g_goto (pc := 57) C 61 dX4_biteOf_57 (by decide) ?_
          refine g_minN (pc := 61) C lm4_90 dX4_biteOf_61 (by omega) (by decide) (Nat.le_of_ble_eq_true rfl) ⟨Nat.zero_le _, Nat.zero_le _⟩ ?_
          exact g_iret (pc := 64) C F dX4_biteOf_64 rfl rfl (by unfold mBite; simp_all) (rfl)
      · refine g_iconst (pc := 47) C qk_iconst_0 dX4_biteOf_47 ?_
        exact g_iret (pc := 48) C F dX4_biteOf_48 rfl rfl (by unfold mBite; simp_all) (rfl)
  · refine g_iload_n (pc := 20) C (hl := rfl) dX4_biteOf_20 ?_
    refine g_iconst (pc := 21) C qk_iconst_5 dX4_biteOf_21 ?_
    refine g_ic_neN (pc := 22) C 29 dX4_biteOf_22 (by decide) (by omega) (fun c22 => ?_) (fun c22 => ?_)
    · refine g_iconst (pc := 29) C qk_iconst_0 dX4_biteOf_29 ?_
      refine g_istore (pc := 30) C rfl dX4_biteOf_30 ?_
      refine g_iload (pc := 32) C (hl := rfl) dX4_biteOf_32 ?_
      refine g_if_neN (pc := 34) C 49 dX4_biteOf_34 (by decide) (by omega) (fun c34 => ?_) (fun c34 => ?_)
      · refine g_iload (pc := 49) C (hl := rfl) dX4_biteOf_49 ?_
        refine g_iload_n (pc := 51) C (hl := rfl) dX4_biteOf_51 ?_
        refine g_iconst (pc := 52) C qk_iconst_2 dX4_biteOf_52 ?_
        refine g_ic_neN (pc := 53) C 60 dX4_biteOf_53 (by decide) (by omega) (fun c53 => ?_) (fun c53 => ?_)
        · refine g_iconst (pc := 60) C qk_iconst_1 dX4_biteOf_60 ?_
          refine g_minN (pc := 61) C lm4_90 dX4_biteOf_61 (by omega) (by decide) (Nat.le_of_ble_eq_true rfl) ⟨Nat.zero_le _, Nat.zero_le _⟩ ?_
          exact g_iret (pc := 64) C F dX4_biteOf_64 rfl rfl (by unfold mBite; simp_all) (rfl)
        · refine g_iconst (pc := 56) C qk_iconst_2 dX4_biteOf_56 ?_
          refine g_goto (pc := 57) C 61 dX4_biteOf_57 (by decide) ?_
          refine g_minN (pc := 61) C lm4_90 dX4_biteOf_61 (by omega) (by decide) (Nat.le_of_ble_eq_true rfl) ⟨Nat.zero_le _, Nat.zero_le _⟩ ?_
          exact g_iret (pc := 64) C F dX4_biteOf_64 rfl rfl (by unfold mBite; simp_all) (rfl)
      · refine g_aload_n (pc := 37) C (hl := rfl) dX4_biteOf_37 ?_
        refine g_iconst (pc := 38) C qk_iconst_1 dX4_biteOf_38 ?_
        refine g_iload_n (pc := 39) C (hl := rfl) dX4_biteOf_39 ?_
        refine g_V2v (pc := 40) C lv4_15 dX4_biteOf_40 (s4_of1 _ ht hc (by omega)) ht (by decide) (Nat.le_of_ble_eq_true rfl) ?_
        refine g_iload_n (pc := 43) C (hl := rfl) dX4_biteOf_43 ?_
        refine g_ic_eqN (pc := 44) C 49 dX4_biteOf_44 (by decide) (by omega) (fun c44 => ?_) (fun c44 => ?_)
        · refine g_iload (pc := 49) C (hl := rfl) dX4_biteOf_49 ?_
          refine g_iload_n (pc := 51) C (hl := rfl) dX4_biteOf_51 ?_
          refine g_iconst (pc := 52) C qk_iconst_2 dX4_biteOf_52 ?_
          refine g_ic_neN (pc := 53) C 60 dX4_biteOf_53 (by decide) (by omega) (fun c53 => ?_) (fun c53 => ?_)
          · refine g_iconst (pc := 60) C qk_iconst_1 dX4_biteOf_60 ?_
            refine g_minN (pc := 61) C lm4_90 dX4_biteOf_61 (by omega) (by decide) (Nat.le_of_ble_eq_true rfl) ⟨Nat.zero_le _, Nat.zero_le _⟩ ?_
            exact g_iret (pc := 64) C F dX4_biteOf_64 rfl rfl (by unfold mBite; simp_all) (rfl)
          · refine g_iconst (pc := 56) C qk_iconst_2 dX4_biteOf_56 ?_
            refine g_goto (pc := 57) C 61 dX4_biteOf_57 (by decide) ?_
            refine g_minN (pc := 61) C lm4_90 dX4_biteOf_61 (by omega) (by decide) (Nat.le_of_ble_eq_true rfl) ⟨Nat.zero_le _, Nat.zero_le _⟩ ?_
            exact g_iret (pc := 64) C F dX4_biteOf_64 rfl rfl (by unfold mBite; simp_all) (rfl)
        · refine g_iconst (pc := 47) C qk_iconst_0 dX4_biteOf_47 ?_
          exact g_iret (pc := 48) C F dX4_biteOf_48 rfl rfl (by unfold mBite; simp_all) (rfl)
    · refine g_iconst (pc := 25) C qk_iconst_1 dX4_biteOf_25 ?_
      refine g_goto (pc := 26) C 30 dX4_biteOf_26 (by decide) ?_
      refine g_istore (pc := 30) C rfl dX4_biteOf_30 ?_
      refine g_iload (pc := 32) C (hl := rfl) dX4_biteOf_32 ?_
      refine g_if_neN (pc := 34) C 49 dX4_biteOf_34 (by decide) (by omega) (fun c34 => ?_) (fun c34 => ?_)
      · refine g_iload (pc := 49) C (hl := rfl) dX4_biteOf_49 ?_
        refine g_iload_n (pc := 51) C (hl := rfl) dX4_biteOf_51 ?_
        refine g_iconst (pc := 52) C qk_iconst_2 dX4_biteOf_52 ?_
        refine g_ic_neN (pc := 53) C 60 dX4_biteOf_53 (by decide) (by omega) (fun c53 => ?_) (fun c53 => ?_)
        · refine g_iconst (pc := 60) C qk_iconst_1 dX4_biteOf_60 ?_
          refine g_minN (pc := 61) C lm4_90 dX4_biteOf_61 (by omega) (by decide) (Nat.le_of_ble_eq_true rfl) ⟨Nat.zero_le _, Nat.zero_le _⟩ ?_
          exact g_iret (pc := 64) C F dX4_biteOf_64 rfl rfl (by unfold mBite; simp_all) (rfl)
        · refine g_iconst (pc := 56) C qk_iconst_2 dX4_biteOf_56 ?_
          refine g_goto (pc := 57) C 61 dX4_biteOf_57 (by decide) ?_
          refine g_minN (pc := 61) C lm4_90 dX4_biteOf_61 (by omega) (by decide) (Nat.le_of_ble_eq_true rfl) ⟨Nat.zero_le _, Nat.zero_le _⟩ ?_
          exact g_iret (pc := 64) C F dX4_biteOf_64 rfl rfl (by unfold mBite; simp_all) (rfl)
      · refine g_aload_n (pc := 37) C (hl := rfl) dX4_biteOf_37 ?_
        refine g_iconst (pc := 38) C qk_iconst_1 dX4_biteOf_38 ?_
        refine g_iload_n (pc := 39) C (hl := rfl) dX4_biteOf_39 ?_
        refine g_V2v (pc := 40) C lv4_15 dX4_biteOf_40 (s4_of1 _ ht hc (by omega)) ht (by decide) (Nat.le_of_ble_eq_true rfl) ?_
        refine g_iload_n (pc := 43) C (hl := rfl) dX4_biteOf_43 ?_
        refine g_ic_eqN (pc := 44) C 49 dX4_biteOf_44 (by decide) (by omega) (fun c44 => ?_) (fun c44 => ?_)
        · refine g_iload (pc := 49) C (hl := rfl) dX4_biteOf_49 ?_
          refine g_iload_n (pc := 51) C (hl := rfl) dX4_biteOf_51 ?_
          refine g_iconst (pc := 52) C qk_iconst_2 dX4_biteOf_52 ?_
          refine g_ic_neN (pc := 53) C 60 dX4_biteOf_53 (by decide) (by omega) (fun c53 => ?_) (fun c53 => ?_)
          · refine g_iconst (pc := 60) C qk_iconst_1 dX4_biteOf_60 ?_
            refine g_minN (pc := 61) C lm4_90 dX4_biteOf_61 (by omega) (by decide) (Nat.le_of_ble_eq_true rfl) ⟨Nat.zero_le _, Nat.zero_le _⟩ ?_
            exact g_iret (pc := 64) C F dX4_biteOf_64 rfl rfl (by unfold mBite; simp_all) (rfl)
          · refine g_iconst (pc := 56) C qk_iconst_2 dX4_biteOf_56 ?_
            refine g_goto (pc := 57) C 61 dX4_biteOf_57 (by decide) ?_
            refine g_minN (pc := 61) C lm4_90 dX4_biteOf_61 (by omega) (by decide) (Nat.le_of_ble_eq_true rfl) ⟨Nat.zero_le _, Nat.zero_le _⟩ ?_
            exact g_iret (pc := 64) C F dX4_biteOf_64 rfl rfl (by unfold mBite; simp_all) (rfl)
        · refine g_iconst (pc := 47) C qk_iconst_0 dX4_biteOf_47 ?_
          exact g_iret (pc := 48) C F dX4_biteOf_48 rfl rfl (by unfold mBite; simp_all) (rfl)
end
section
theorem g_acopyN {Γ : q_X} {ad : Nat → Nat} {d mc ms : Nat} {own : String} {y : MethodName} {cc : ByteArray} {nL : Nat} {ret : Option FieldType} {pc : Nat} {la : List (Option Value)} {st : List Value} {n : Nat} {h : q_H} {k1 k2 : Nat} (C : q_C Γ ad d mc ms own y cc nL ret) {ix a a0 n0 n1 s0 d0 z : Nat} {f g F : Nat → Int32} (hl : q_LY own ix) (hdg : decode cc pc = .ok (.invokestatic ix, 3)) (h0 : h a0 = .inl (0, n0, f)) (h1 : h a = .inl (0, n1, g)) (hq : s0 + z ≤ n0 ∧ d0 + z ≤ n1 ∧ n0 < 2147483648 ∧ n1 < 2147483648) (hF : ∀ j : Nat, j < n1 → (if d0 ≤ j ∧ j < d0 + z then f (s0 + (j - d0)) else g j) = F j) (hd : 1 ≤ d) (hst : (st.map fun v => v.category).sum ≤ 8) (kk : q_G Γ ad nL (pc + 3) la st n (q_up h a (.inl (0, n1, F))) k1 k2) : q_G Γ ad nL pc la (.int (nI z) :: .int (nI d0) :: .ref a :: .int (nI s0) :: .ref a0 :: st) n h k1 k2 := by
  have e1 := nI_clamp (n := s0) (by omega)
  have e2 := nI_clamp (n := d0) (by omega)
  have e3 := nI_clamp (n := z) (by omega)
  refine g_acopy C hl hdg h0 h1 (nI_pos (by omega)) (nI_pos (by omega)) (nI_pos (by omega)) (by rw [e1, e3]; omega) (by rw [e2, e3]; omega) (fun j hj => ?_) hd hst kk
  rw [e1, e2, e3]
  exact hF j hj
theorem q_abs {z : Int} (h1 : -2147483648 < z) (h2 : z < 2147483648) : (if 0 ≤ qI z then qI z else 0 - qI z) = nI z.natAbs := by
  have e : (0 : Int32) = qI 0 := qI_0.symm
  by_cases h : 0 ≤ z
  · rw [if_pos (by rw [e]; exact (qI_le (by omega) (by omega) (by omega) (by omega)).mpr h), qI_N]
    congr 1; omega
  · rw [if_neg (by rw [e]; exact fun q => h ((qI_le (by omega) (by omega) (by omega) (by omega)).mp q)), qI_N, e, qI_sub]
    congr 1; omega
theorem q_subneg {a b : Nat} (hb : b ≤ a) : nI a + -nI b = nI (a - b) := by
  rw [qI_N, qI_N, qI_N, qI_neg, qI_add]
  congr 1; omega
def mV (f : Nat → Nat) (g tu mi : Nat) : Prop := (0 < g ∧ g ≤ 6 ∧ tu < g) ∧ (∀ i, i < g → f (12 + i) < g ∧ f (36 + i) < g ∧ f (30 + i) < g ∧ f (42 + i) < g ∧ f (36 + f (12 + i)) = i ∧ f (12 + f (36 + i)) = i ∧ f (42 + f (30 + i)) = i ∧ f (30 + f (42 + i)) = i ∧ 0 < f (0 + i)) ∧ (∀ i, i < 6 → f (0 + i) < 6 ∧ f (6 + i) < 6 ∧ f (18 + i) ≤ 2 * mi ∧ f (24 + i) ≤ 99 ∧ f (12 + i) < 6 ∧ f (30 + i) < 6)
/-- one minute: who is on, how much he pushes, the turn, the dish before him, the bite, the cells -/
def mOn (f : Nat → Nat) (g mi : Nat) : Nat := f (36 + mi % g)
def mZ (f : Nat → Nat) (g tu mi : Nat) : Int := mPush f g tu (mOn f g mi)
def mTu (f : Nat → Nat) (g tu mi : Nat) : Nat := mTurn g tu (mZ f g tu mi)
def mE (f : Nat → Nat) (g tu mi : Nat) : Nat := mDish f g (mTu f g tu mi) (mOn f g mi)
def mB (f : Nat → Nat) (g tu mi : Nat) : Nat := mBite f (mOn f g mi) (mE f g tu mi)
def mF (f : Nat → Nat) (g tu mi : Nat) : Nat → Nat := va_up (va_up f (24 + mE f g tu mi) (f (24 + mE f g tu mi) - mB f g tu mi)) (18 + mOn f g mi) (f (18 + mOn f g mi) + mB f g tu mi)
theorem mBite_le (f : Nat → Nat) (j k : Nat) : mBite f j k ≤ f (24 + k) ∧ mBite f j k ≤ 2 := by
  unfold mBite
  split
  · omega
  · split <;> omega
theorem mOn_lt {f : Nat → Nat} {g tu mi : Nat} (hv : mV f g tu mi) : mOn f g mi < g := (hv.2.1 _ (Nat.mod_lt _ hv.1.1)).2.1
theorem mE_lt {f : Nat → Nat} {g tu mi : Nat} (hv : mV f g tu mi) : mE f g tu mi < g := (hv.2.1 _ (Nat.mod_lt _ hv.1.1)).2.2.2.1
theorem va_up_n {f : Nat → Nat} {a b x : Nat} (h : b ≠ a) : va_up f a x b = f b := if_neg h

set_option maxHeartbeats 2000000 in
set_option maxRecDepth 20000 in
theorem s4_become {n : Nat} {h : q_H} {t c g tu mi o p e b : Nat} {f : Nat → Nat} {u cu g2 tu2 mi2 o2 p2 e2 b2 : Nat} {K : Nat → Nat} (ht : h t = TO c g tu mi o p e b) (hc : h c = TA f) (hu : h u = TO cu g2 tu2 mi2 o2 p2 e2 b2) (hcu : h cu = TA K) (hn3 : u ≠ t) : SP 1 yX4_become cX4_become 2 none [.ref t, .ref u] n h none (q_up (q_up h c (TA K)) t (TO c g2 tu2 mi2 o p e b)) := by
  have hne : t ≠ c := fun q => by rw [q, hc] at ht; cases ht
  have hn2 : u ≠ c := fun q => by rw [q, hc] at hu; cases hu
  refine q_SPi RX4 rfl (by decide +kernel) (la := _) rfl rfl (fun Γ ad C F => ?_)
  refine g_aload_n (pc := 0) C (hl := rfl) dX4_become_0 ?_
  refine g_ifnull (pc := 1) C dX4_become_1 ?_
  refine g_aload_n (pc := 4) C (hl := rfl) dX4_become_4 ?_
  refine g_get (pc := 5) C fl4_11 dX4_become_5 hu rfl ?_
  refine g_alenN (pc := 8) C dX4_become_8 hcu ?_
  refine g_aload_n (pc := 9) C (hl := rfl) dX4_become_9 ?_
  refine g_get (pc := 10) C fl4_11 dX4_become_10 ht rfl ?_
  refine g_alenN (pc := 13) C dX4_become_13 hc ?_
  refine g_ic_eqN (pc := 14) C 18 dX4_become_14 (by decide) (by omega) (fun _ => ?_) (fun q => absurd (rfl) q)
  refine g_aload_n (pc := 18) C (hl := rfl) dX4_become_18 ?_
  refine g_get (pc := 19) C fl4_11 dX4_become_19 hu rfl ?_
  refine g_iconst (pc := 22) C qk_iconst_0 dX4_become_22 ?_
  refine g_aload_n (pc := 23) C (hl := rfl) dX4_become_23 ?_
  refine g_get (pc := 24) C fl4_11 dX4_become_24 ht rfl ?_
  refine g_iconst (pc := 27) C qk_iconst_0 dX4_become_27 ?_
  refine g_aload_n (pc := 28) C (hl := rfl) dX4_become_28 ?_
  refine g_get (pc := 29) C fl4_11 dX4_become_29 ht rfl ?_
  refine g_alenN (pc := 32) C dX4_become_32 hc ?_
  refine g_acopyN (pc := 33) C ly4_33 dX4_become_33 hcu hc (F := qN K) (by omega) (fun j hj => by rw [if_pos (by omega), Nat.zero_add, Nat.sub_zero]) (by decide) (Nat.le_of_ble_eq_true rfl) ?_
  refine g_aload_n (pc := 36) C (hl := rfl) dX4_become_36 ?_
  refine g_aload_n (pc := 37) C (hl := rfl) dX4_become_37 ?_
  refine g_get (pc := 38) C fl4_23 dX4_become_38 ((q_up_n _ _ hn2).trans hu) rfl ?_
  refine g_put (pc := 41) C fp4_23 dX4_become_41 ((q_up_n _ _ hne).trans ht) (Nat.le_of_ble_eq_true rfl) ?_
  refine g_aload_n (pc := 44) C (hl := rfl) dX4_become_44 ?_
  refine g_aload_n (pc := 45) C (hl := rfl) dX4_become_45 ?_
  refine g_get (pc := 46) C fl4_27 dX4_become_46 ((q_up_n _ _ hn3).trans ((q_up_n _ _ hn2).trans hu)) rfl ?_
  refine g_put (pc := 49) C fp4_27 dX4_become_49 (q_up_s _ _ _) (Nat.le_of_ble_eq_true rfl) ?_
  refine g_aload_n (pc := 52) C (hl := rfl) dX4_become_52 ?_
  refine g_aload_n (pc := 53) C (hl := rfl) dX4_become_53 ?_
  refine g_get (pc := 54) C fl4_30 dX4_become_54 ((q_up_n _ _ hn3).trans ((q_up_n _ _ hn3).trans ((q_up_n _ _ hn2).trans hu))) rfl ?_
  refine g_put (pc := 57) C fp4_30 dX4_become_57 (q_up_s _ _ _) (Nat.le_of_ble_eq_true rfl) ?_
  exact g_vret (pc := 60) C F dX4_become_60 rfl rfl (by simp only [q_up_u]; rfl)
set_option maxHeartbeats 2000000 in
set_option maxRecDepth 20000 in
theorem s4_passMinute {n : Nat} {h : q_H} {t c g tu mi o p e b : Nat} {f : Nat → Nat} (ht : h t = TO c g tu mi o p e b) (hc : h c = TA f) (hv : mV f g tu mi) (hm : mi < 1000000) : SP 3 yX4_passMinute cX4_passMinute 2 none [.ref t] n h none (q_up (q_up h c (TA (mF f g tu mi))) t (TO c g (mTu f g tu mi) (mi + 1) (mOn f g mi) (mZ f g tu mi).natAbs (mE f g tu mi) (mB f g tu mi))) := by
  have hne : t ≠ c := fun q => by rw [q, hc] at ht; cases ht
  refine q_SPi RX4 rfl (by decide +kernel) (la := _) rfl rfl (fun Γ ad C F => ?_)
  obtain ⟨⟨v1, v2, v3⟩, v4, v5⟩ := id hv
  have ho := mOn_lt hv
  have hz := mPush_b f g tu (mOn f g mi) v1
  have hz1 := hz.1
  have hz2 := hz.2
  have hzl : -1000000 < mPush f g tu (mOn f g mi) := by omega
  have hzu : mPush f g tu (mOn f g mi) < 1000000 := by omega
  have ht1 : mTu f g tu mi < g := mTurn_lt g tu (mZ f g tu mi) v1
  have he := mE_lt hv
  have w5 := v5 (mOn f g mi) (by omega)
  have w6 := v5 (f (6 + mOn f g mi)) (by omega)
  have w7 := v5 (mE f g tu mi) (by omega)
  have hb := mBite_le f (mOn f g mi) (mE f g tu mi)
  have hb1 : mB f g tu mi ≤ f (24 + mE f g tu mi) := hb.1
  have hdd : (f (12 + mOn f g mi) + mTu f g tu mi) % g < 6 := Nat.lt_of_lt_of_le (Nat.mod_lt _ v1) v2
  have hmg : mi % g < 6 := Nat.lt_of_lt_of_le (Nat.mod_lt _ v1) v2
  refine g_aload_n (pc := 0) C (hl := rfl) dX4_passMinute_0 ?_
  refine g_aload_n (pc := 1) C (hl := rfl) dX4_passMinute_1 ?_
  refine g_bipush (pc := 2) C qk_bipush_6 dX4_passMinute_2 ?_
  refine g_aload_n (pc := 4) C (hl := rfl) dX4_passMinute_4 ?_
  refine g_get (pc := 5) C fl4_30 dX4_passMinute_5 ht rfl ?_
  refine g_aload_n (pc := 8) C (hl := rfl) dX4_passMinute_8 ?_
  refine g_get (pc := 9) C fl4_23 dX4_passMinute_9 ht rfl ?_
  refine g_S2v (pc := 12) C ls4_43 dX4_passMinute_12 (s7_leftOverN _ _ (by omega) (by omega)) (by decide) (Nat.le_of_ble_eq_true rfl) ?_
  refine g_V2v (pc := 15) C lv4_15 dX4_passMinute_15 (s4_of6 _ ht hc (by exact hmg)) ht (by decide) (Nat.le_of_ble_eq_true rfl) ?_
  refine g_put (pc := 18) C fp4_46 dX4_passMinute_18 ht (Nat.le_of_ble_eq_true rfl) ?_
  refine g_aload_n (pc := 21) C (hl := rfl) dX4_passMinute_21 ?_
  refine g_aload_n (pc := 22) C (hl := rfl) dX4_passMinute_22 ?_
  refine g_get (pc := 23) C fl4_46 dX4_passMinute_23 (q_up_s _ _ _) rfl ?_
  refine g_V1v (pc := 26) C lv4_49 dX4_passMinute_26 (s4_pushBy _ (q_up_s _ _ _) ((q_up_n _ _ (Ne.symm hne)).trans hc) (by exact ⟨v1, by omega, by omega, by exact Nat.lt_of_lt_of_le ho v2, w5.1, w5.2.1, by exact Nat.lt_of_lt_of_le w5.2.2.2.2.1 (by omega), by exact Nat.lt_of_lt_of_le w6.2.2.2.2.2 (by omega), by exact Nat.lt_of_le_of_lt w6.2.2.2.1 (by omega)⟩)) (q_up_s _ _ _) (by decide) (Nat.le_of_ble_eq_true rfl) ?_
  refine g_istore_n (pc := 29) C rfl dX4_passMinute_29 ?_
  refine g_aload_n (pc := 30) C (hl := rfl) dX4_passMinute_30 ?_
  refine g_iload_n (pc := 31) C (hl := rfl) dX4_passMinute_31 ?_
  refine g_absE (pc := 32) C (w := nI (mZ f g tu mi).natAbs) (q_abs (by show _ < mPush f g tu (mOn f g mi); omega) (by show mPush f g tu (mOn f g mi) < _; omega)) lm4_53 dX4_passMinute_32 (by decide) (Nat.le_of_ble_eq_true rfl) ⟨Nat.zero_le _, Nat.zero_le _⟩ ?_
  refine g_put (pc := 35) C fp4_58 dX4_passMinute_35 (q_up_s _ _ _) (Nat.le_of_ble_eq_true rfl) ?_
  refine g_aload_n (pc := 38) C (hl := rfl) dX4_passMinute_38 ?_
  refine g_iload_n (pc := 39) C (hl := rfl) dX4_passMinute_39 ?_
  refine g_V1u (pc := 40) C lv4_61 dX4_passMinute_40 (s4_turnLeft _ (q_up_s _ _ _) (by exact ⟨v1, by omega, by omega, hzl, hzu⟩)) (q_up_s _ _ _) (by decide) (Nat.le_of_ble_eq_true rfl) ?_
  refine g_aload_n (pc := 43) C (hl := rfl) dX4_passMinute_43 ?_
  refine g_aload_n (pc := 44) C (hl := rfl) dX4_passMinute_44 ?_
  refine g_aload_n (pc := 45) C (hl := rfl) dX4_passMinute_45 ?_
  refine g_get (pc := 46) C fl4_46 dX4_passMinute_46 (q_up_s _ _ _) rfl ?_
  refine g_V1v (pc := 49) C lv4_65 dX4_passMinute_49 (s4_dishBefore _ (q_up_s _ _ _) ((q_up_n _ _ (Ne.symm hne)).trans ((q_up_n _ _ (Ne.symm hne)).trans ((q_up_n _ _ (Ne.symm hne)).trans hc))) (by exact ⟨v1, by omega, by show mTu f g tu mi < _; omega, by exact Nat.lt_of_lt_of_le ho v2, w5.2.2.2.2.1⟩) (by exact hdd)) (q_up_s _ _ _) (by decide) (Nat.le_of_ble_eq_true rfl) ?_
  refine g_put (pc := 52) C fp4_68 dX4_passMinute_52 (q_up_s _ _ _) (Nat.le_of_ble_eq_true rfl) ?_
  refine g_aload_n (pc := 55) C (hl := rfl) dX4_passMinute_55 ?_
  refine g_aload_n (pc := 56) C (hl := rfl) dX4_passMinute_56 ?_
  refine g_aload_n (pc := 57) C (hl := rfl) dX4_passMinute_57 ?_
  refine g_get (pc := 58) C fl4_46 dX4_passMinute_58 (q_up_s _ _ _) rfl ?_
  refine g_aload_n (pc := 61) C (hl := rfl) dX4_passMinute_61 ?_
  refine g_get (pc := 62) C fl4_68 dX4_passMinute_62 (q_up_s _ _ _) rfl ?_
  refine g_V2v (pc := 65) C lv4_71 dX4_passMinute_65 (s4_biteOf _ _ (q_up_s _ _ _) ((q_up_n _ _ (Ne.symm hne)).trans ((q_up_n _ _ (Ne.symm hne)).trans ((q_up_n _ _ (Ne.symm hne)).trans ((q_up_n _ _ (Ne.symm hne)).trans hc)))) (by exact ⟨by exact Nat.lt_of_lt_of_le ho v2, by exact Nat.lt_of_lt_of_le he v2, w5.1, w5.2.1, by exact Nat.lt_of_le_of_lt w7.2.2.2.1 (by omega)⟩)) (q_up_s _ _ _) (by decide) (Nat.le_of_ble_eq_true rfl) ?_
  refine g_put (pc := 68) C fp4_74 dX4_passMinute_68 (q_up_s _ _ _) (Nat.le_of_ble_eq_true rfl) ?_
  refine g_aload_n (pc := 71) C (hl := rfl) dX4_passMinute_71 ?_
  refine g_iconst (pc := 72) C qk_iconst_4 dX4_passMinute_72 ?_
  refine g_aload_n (pc := 73) C (hl := rfl) dX4_passMinute_73 ?_
  refine g_get (pc := 74) C fl4_68 dX4_passMinute_74 (q_up_s _ _ _) rfl ?_
  refine g_aload_n (pc := 77) C (hl := rfl) dX4_passMinute_77 ?_
  refine g_get (pc := 78) C fl4_74 dX4_passMinute_78 (q_up_s _ _ _) rfl ?_
  refine g_ineg (pc := 81) C dX4_passMinute_81 ?_
  refine g_V3u (pc := 82) C lv4_77 dX4_passMinute_82 (s4_add4 _ _ _ (q_up_s _ _ _) ((q_up_n _ _ (Ne.symm hne)).trans ((q_up_n _ _ (Ne.symm hne)).trans ((q_up_n _ _ (Ne.symm hne)).trans ((q_up_n _ _ (Ne.symm hne)).trans ((q_up_n _ _ (Ne.symm hne)).trans hc))))) (by exact Nat.lt_of_lt_of_le he v2) (q_subneg hb1)) (q_up_s _ _ _) (by decide) (Nat.le_of_ble_eq_true rfl) ?_
  refine g_aload_n (pc := 85) C (hl := rfl) dX4_passMinute_85 ?_
  refine g_iconst (pc := 86) C qk_iconst_3 dX4_passMinute_86 ?_
  refine g_aload_n (pc := 87) C (hl := rfl) dX4_passMinute_87 ?_
  refine g_get (pc := 88) C fl4_46 dX4_passMinute_88 ((q_up_n _ _ hne).trans (q_up_s _ _ _)) rfl ?_
  refine g_aload_n (pc := 91) C (hl := rfl) dX4_passMinute_91 ?_
  refine g_get (pc := 92) C fl4_74 dX4_passMinute_92 ((q_up_n _ _ hne).trans (q_up_s _ _ _)) rfl ?_
  refine g_V3u (pc := 95) C lv4_77 dX4_passMinute_95 (s4_add3 _ _ _ ((q_up_n _ _ hne).trans (q_up_s _ _ _)) (q_up_s _ _ _) (by exact Nat.lt_of_lt_of_le ho v2) (by show nI (va_up f (24 + mE f g tu mi) _ (18 + mOn f g mi)) + nI (mB f g tu mi) = nI (f (18 + mOn f g mi) + mB f g tu mi); rw [va_up_n (by have := Nat.lt_of_lt_of_le ho v2; omega), nI_add])) ((q_up_n _ _ hne).trans (q_up_s _ _ _)) (by decide) (Nat.le_of_ble_eq_true rfl) ?_
  refine g_aload_n (pc := 98) C (hl := rfl) dX4_passMinute_98 ?_
  refine g_dup (pc := 99) C rfl dX4_passMinute_99 ?_
  refine g_get (pc := 100) C fl4_30 dX4_passMinute_100 ((q_up_n _ _ hne).trans ((q_up_n _ _ hne).trans (q_up_s _ _ _))) rfl ?_
  refine g_iconst (pc := 103) C qk_iconst_1 dX4_passMinute_103 ?_
  refine g_iaddN (pc := 104) C dX4_passMinute_104 ?_
  refine g_put (pc := 105) C fp4_30 dX4_passMinute_105 ((q_up_n _ _ hne).trans ((q_up_n _ _ hne).trans (q_up_s _ _ _))) (Nat.le_of_ble_eq_true rfl) ?_
  exact g_vret (pc := 108) C F dX4_passMinute_108 rfl rfl (by simp only [q_up_u, q_up_c _ hne]; rfl)
end
