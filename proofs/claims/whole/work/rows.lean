section
-- ===== PART A: goes FIRST, ahead of the names: the tables' words, and 'selects' of the private methods out of them =====
/-- a private method of a class that the tables say can be made, by its rows of tables_1 -/
def lw_okq (q : MethodName × Nat) : Prop := (q.1.cls ≠ "java/lang/invoke/MethodHandle" ∧ q.1.cls ≠ "java/lang/invoke/VarHandle") ∧ Cond.instantiable q.1.cls q.2 ∈ tables_1 ∧ Cond.privateMethod q.1 ∈ tables_1 ∧ Cond.instanceMethod q.1 ∈ tables_1
theorem lw_p0 : lw_okq (⟨"TramFaith", "found", "(I)I"⟩, 9) := ⟨⟨by decide +kernel, by decide +kernel⟩, List.mem_of_getElem? (i := 24) (by decide +kernel), List.mem_of_getElem? (i := 262) (by decide +kernel), List.mem_of_getElem? (i := 263) (by decide +kernel)⟩
theorem lw_p1 : lw_okq (⟨"TramFaith", "foundNothing", "(I)I"⟩, 9) := ⟨⟨by decide +kernel, by decide +kernel⟩, List.mem_of_getElem? (i := 24) (by decide +kernel), List.mem_of_getElem? (i := 271) (by decide +kernel), List.mem_of_getElem? (i := 272) (by decide +kernel)⟩
theorem lw_p2 : lw_okq (⟨"TramFaith$Shelf", "hasSpan", "(III)Z"⟩, 3) := ⟨⟨by decide +kernel, by decide +kernel⟩, List.mem_of_getElem? (i := 72) (by decide +kernel), List.mem_of_getElem? (i := 287) (by decide +kernel), List.mem_of_getElem? (i := 288) (by decide +kernel)⟩
theorem lw_p3 : lw_okq (⟨"TramFaith$Tape", "readLaw", "(LTramFaith$Line;)Z"⟩, 6) := ⟨⟨by decide +kernel, by decide +kernel⟩, List.mem_of_getElem? (i := 94) (by decide +kernel), List.mem_of_getElem? (i := 336) (by decide +kernel), List.mem_of_getElem? (i := 337) (by decide +kernel)⟩
theorem lw_p4 : lw_okq (⟨"TramFaith$Tape", "takeSign", "(C)Z"⟩, 6) := ⟨⟨by decide +kernel, by decide +kernel⟩, List.mem_of_getElem? (i := 94) (by decide +kernel), List.mem_of_getElem? (i := 340) (by decide +kernel), List.mem_of_getElem? (i := 341) (by decide +kernel)⟩
theorem lw_p5 : lw_okq (⟨"TramFaith$Tape", "fails", "(I)Z"⟩, 6) := ⟨⟨by decide +kernel, by decide +kernel⟩, List.mem_of_getElem? (i := 94) (by decide +kernel), List.mem_of_getElem? (i := 344) (by decide +kernel), List.mem_of_getElem? (i := 345) (by decide +kernel)⟩
theorem lw_p6 : lw_okq (⟨"TramFaith$Tape", "takeNumber", "(II)Z"⟩, 6) := ⟨⟨by decide +kernel, by decide +kernel⟩, List.mem_of_getElem? (i := 94) (by decide +kernel), List.mem_of_getElem? (i := 348) (by decide +kernel), List.mem_of_getElem? (i := 349) (by decide +kernel)⟩
theorem lw_p7 : lw_okq (⟨"TramFaith$Tape", "readPeople", "(LTramFaith$Line;)Z"⟩, 6) := ⟨⟨by decide +kernel, by decide +kernel⟩, List.mem_of_getElem? (i := 94) (by decide +kernel), List.mem_of_getElem? (i := 357) (by decide +kernel), List.mem_of_getElem? (i := 358) (by decide +kernel)⟩
theorem lw_p8 : lw_okq (⟨"TramFaith$Tape", "readPerson", "(LTramFaith$Line;I)Z"⟩, 6) := ⟨⟨by decide +kernel, by decide +kernel⟩, List.mem_of_getElem? (i := 94) (by decide +kernel), List.mem_of_getElem? (i := 448) (by decide +kernel), List.mem_of_getElem? (i := 449) (by decide +kernel)⟩
theorem lw_p9 : lw_okq (⟨"TramFaith", "hasLine", "()Z"⟩, 9) := ⟨⟨by decide +kernel, by decide +kernel⟩, List.mem_of_getElem? (i := 24) (by decide +kernel), List.mem_of_getElem? (i := 475) (by decide +kernel), List.mem_of_getElem? (i := 476) (by decide +kernel)⟩
theorem lw_p10 : lw_okq (⟨"TramFaith$Past", "pageOf", "(I)I"⟩, 3) := ⟨⟨by decide +kernel, by decide +kernel⟩, List.mem_of_getElem? (i := 181) (by decide +kernel), List.mem_of_getElem? (i := 484) (by decide +kernel), List.mem_of_getElem? (i := 485) (by decide +kernel)⟩
theorem lw_p11 : lw_okq (⟨"TramFaith$Line", "tellHopes", "(I)V"⟩, 12) := ⟨⟨by decide +kernel, by decide +kernel⟩, List.mem_of_getElem? (i := 122) (by decide +kernel), List.mem_of_getElem? (i := 497) (by decide +kernel), List.mem_of_getElem? (i := 498) (by decide +kernel)⟩
theorem lw_p12 : lw_okq (⟨"TramFaith$Line", "tellCrowds", "()V"⟩, 12) := ⟨⟨by decide +kernel, by decide +kernel⟩, List.mem_of_getElem? (i := 122) (by decide +kernel), List.mem_of_getElem? (i := 501) (by decide +kernel), List.mem_of_getElem? (i := 502) (by decide +kernel)⟩
theorem lw_p13 : lw_okq (⟨"TramFaith$Line", "leastHope", "()I"⟩, 12) := ⟨⟨by decide +kernel, by decide +kernel⟩, List.mem_of_getElem? (i := 122) (by decide +kernel), List.mem_of_getElem? (i := 531) (by decide +kernel), List.mem_of_getElem? (i := 532) (by decide +kernel)⟩
theorem lw_p14 : lw_okq (⟨"TramFaith", "isPerson", "(I)Z"⟩, 9) := ⟨⟨by decide +kernel, by decide +kernel⟩, List.mem_of_getElem? (i := 24) (by decide +kernel), List.mem_of_getElem? (i := 549) (by decide +kernel), List.mem_of_getElem? (i := 550) (by decide +kernel)⟩
theorem lw_p15 : lw_okq (⟨"TramFaith", "isStop", "(I)Z"⟩, 9) := ⟨⟨by decide +kernel, by decide +kernel⟩, List.mem_of_getElem? (i := 24) (by decide +kernel), List.mem_of_getElem? (i := 553) (by decide +kernel), List.mem_of_getElem? (i := 554) (by decide +kernel)⟩
def lw_privs_1 : List (MethodName × Nat) := [(⟨"TramFaith", "found", "(I)I"⟩, 9), (⟨"TramFaith", "foundNothing", "(I)I"⟩, 9), (⟨"TramFaith$Shelf", "hasSpan", "(III)Z"⟩, 3), (⟨"TramFaith$Tape", "readLaw", "(LTramFaith$Line;)Z"⟩, 6), (⟨"TramFaith$Tape", "takeSign", "(C)Z"⟩, 6), (⟨"TramFaith$Tape", "fails", "(I)Z"⟩, 6), (⟨"TramFaith$Tape", "takeNumber", "(II)Z"⟩, 6), (⟨"TramFaith$Tape", "readPeople", "(LTramFaith$Line;)Z"⟩, 6), (⟨"TramFaith$Tape", "readPerson", "(LTramFaith$Line;I)Z"⟩, 6), (⟨"TramFaith", "hasLine", "()Z"⟩, 9), (⟨"TramFaith$Past", "pageOf", "(I)I"⟩, 3), (⟨"TramFaith$Line", "tellHopes", "(I)V"⟩, 12), (⟨"TramFaith$Line", "tellCrowds", "()V"⟩, 12), (⟨"TramFaith$Line", "leastHope", "()I"⟩, 12), (⟨"TramFaith", "isPerson", "(I)Z"⟩, 9), (⟨"TramFaith", "isStop", "(I)Z"⟩, 9)]
theorem lw_r1 : ∀ q ∈ lw_privs_1, lw_okq q := List.forall_mem_cons.mpr ⟨lw_p0, List.forall_mem_cons.mpr ⟨lw_p1, List.forall_mem_cons.mpr ⟨lw_p2, List.forall_mem_cons.mpr ⟨lw_p3, List.forall_mem_cons.mpr ⟨lw_p4, List.forall_mem_cons.mpr ⟨lw_p5, List.forall_mem_cons.mpr ⟨lw_p6, List.forall_mem_cons.mpr ⟨lw_p7, List.forall_mem_cons.mpr ⟨lw_p8, List.forall_mem_cons.mpr ⟨lw_p9, List.forall_mem_cons.mpr ⟨lw_p10, List.forall_mem_cons.mpr ⟨lw_p11, List.forall_mem_cons.mpr ⟨lw_p12, List.forall_mem_cons.mpr ⟨lw_p13, List.forall_mem_cons.mpr ⟨lw_p14, List.forall_mem_cons.mpr ⟨lw_p15, fun _ h => absurd h List.not_mem_nil⟩⟩⟩⟩⟩⟩⟩⟩⟩⟩⟩⟩⟩⟩⟩⟩
theorem lw_p16 : lw_okq (⟨"TramFaith", "playFor", "(I)V"⟩, 9) := ⟨⟨by decide +kernel, by decide +kernel⟩, List.mem_of_getElem? (i := 24) (by decide +kernel), List.mem_of_getElem? (i := 605) (by decide +kernel), List.mem_of_getElem? (i := 606) (by decide +kernel)⟩
theorem lw_p17 : lw_okq (⟨"TramFaith", "playTill", "(III)I"⟩, 9) := ⟨⟨by decide +kernel, by decide +kernel⟩, List.mem_of_getElem? (i := 24) (by decide +kernel), List.mem_of_getElem? (i := 623) (by decide +kernel), List.mem_of_getElem? (i := 624) (by decide +kernel)⟩
theorem lw_p18 : lw_okq (⟨"TramFaith", "callerBy", "(II)I"⟩, 9) := ⟨⟨by decide +kernel, by decide +kernel⟩, List.mem_of_getElem? (i := 24) (by decide +kernel), List.mem_of_getElem? (i := 651) (by decide +kernel), List.mem_of_getElem? (i := 652) (by decide +kernel)⟩
theorem lw_p19 : lw_okq (⟨"TramFaith", "soonFrom", "(II)I"⟩, 9) := ⟨⟨by decide +kernel, by decide +kernel⟩, List.mem_of_getElem? (i := 24) (by decide +kernel), List.mem_of_getElem? (i := 659) (by decide +kernel), List.mem_of_getElem? (i := 660) (by decide +kernel)⟩
theorem lw_p20 : lw_okq (⟨"TramFaith", "leastWalkers", "(II)I"⟩, 9) := ⟨⟨by decide +kernel, by decide +kernel⟩, List.mem_of_getElem? (i := 24) (by decide +kernel), List.mem_of_getElem? (i := 667) (by decide +kernel), List.mem_of_getElem? (i := 668) (by decide +kernel)⟩
theorem lw_p21 : lw_okq (⟨"TramFaith", "faithsBy", "(IIII)I"⟩, 9) := ⟨⟨by decide +kernel, by decide +kernel⟩, List.mem_of_getElem? (i := 24) (by decide +kernel), List.mem_of_getElem? (i := 676) (by decide +kernel), List.mem_of_getElem? (i := 677) (by decide +kernel)⟩
theorem lw_p22 : lw_okq (⟨"TramFaith", "playIsAsTold", "(III)Z"⟩, 9) := ⟨⟨by decide +kernel, by decide +kernel⟩, List.mem_of_getElem? (i := 24) (by decide +kernel), List.mem_of_getElem? (i := 680) (by decide +kernel), List.mem_of_getElem? (i := 681) (by decide +kernel)⟩
theorem lw_p23 : lw_okq (⟨"TramFaith", "sortsBy", "(IIII)I"⟩, 9) := ⟨⟨by decide +kernel, by decide +kernel⟩, List.mem_of_getElem? (i := 24) (by decide +kernel), List.mem_of_getElem? (i := 688) (by decide +kernel), List.mem_of_getElem? (i := 689) (by decide +kernel)⟩
theorem lw_p24 : lw_okq (⟨"TramFaith", "boundsBy", "(III)I"⟩, 9) := ⟨⟨by decide +kernel, by decide +kernel⟩, List.mem_of_getElem? (i := 24) (by decide +kernel), List.mem_of_getElem? (i := 696) (by decide +kernel), List.mem_of_getElem? (i := 697) (by decide +kernel)⟩
theorem lw_p25 : lw_okq (⟨"TramFaith", "waysOf", "(II)I"⟩, 9) := ⟨⟨by decide +kernel, by decide +kernel⟩, List.mem_of_getElem? (i := 24) (by decide +kernel), List.mem_of_getElem? (i := 704) (by decide +kernel), List.mem_of_getElem? (i := 705) (by decide +kernel)⟩
theorem lw_p26 : lw_okq (⟨"TramFaith", "preachByDraw", "(J)V"⟩, 9) := ⟨⟨by decide +kernel, by decide +kernel⟩, List.mem_of_getElem? (i := 24) (by decide +kernel), List.mem_of_getElem? (i := 720) (by decide +kernel), List.mem_of_getElem? (i := 721) (by decide +kernel)⟩
theorem lw_p27 : lw_okq (⟨"TramFaithModel", "found", "(I)I"⟩, 22) := ⟨⟨by decide +kernel, by decide +kernel⟩, List.mem_of_getElem? (i := 826) (by decide +kernel), List.mem_of_getElem? (i := 912) (by decide +kernel), List.mem_of_getElem? (i := 913) (by decide +kernel)⟩
theorem lw_p28 : lw_okq (⟨"TramFaithModel", "well", "(I)I"⟩, 22) := ⟨⟨by decide +kernel, by decide +kernel⟩, List.mem_of_getElem? (i := 826) (by decide +kernel), List.mem_of_getElem? (i := 917) (by decide +kernel), List.mem_of_getElem? (i := 918) (by decide +kernel)⟩
theorem lw_p29 : lw_okq (⟨"TramFaithModel", "isMissing", "(I)Z"⟩, 22) := ⟨⟨by decide +kernel, by decide +kernel⟩, List.mem_of_getElem? (i := 826) (by decide +kernel), List.mem_of_getElem? (i := 925) (by decide +kernel), List.mem_of_getElem? (i := 926) (by decide +kernel)⟩
theorem lw_p30 : lw_okq (⟨"TramFaithModel", "isPart", "(III)Z"⟩, 22) := ⟨⟨by decide +kernel, by decide +kernel⟩, List.mem_of_getElem? (i := 826) (by decide +kernel), List.mem_of_getElem? (i := 936) (by decide +kernel), List.mem_of_getElem? (i := 937) (by decide +kernel)⟩
theorem lw_p31 : lw_okq (⟨"TramFaithModel", "advances", "()V"⟩, 22) := ⟨⟨by decide +kernel, by decide +kernel⟩, List.mem_of_getElem? (i := 826) (by decide +kernel), List.mem_of_getElem? (i := 953) (by decide +kernel), List.mem_of_getElem? (i := 954) (by decide +kernel)⟩
def lw_privs_2 : List (MethodName × Nat) := [(⟨"TramFaith", "playFor", "(I)V"⟩, 9), (⟨"TramFaith", "playTill", "(III)I"⟩, 9), (⟨"TramFaith", "callerBy", "(II)I"⟩, 9), (⟨"TramFaith", "soonFrom", "(II)I"⟩, 9), (⟨"TramFaith", "leastWalkers", "(II)I"⟩, 9), (⟨"TramFaith", "faithsBy", "(IIII)I"⟩, 9), (⟨"TramFaith", "playIsAsTold", "(III)Z"⟩, 9), (⟨"TramFaith", "sortsBy", "(IIII)I"⟩, 9), (⟨"TramFaith", "boundsBy", "(III)I"⟩, 9), (⟨"TramFaith", "waysOf", "(II)I"⟩, 9), (⟨"TramFaith", "preachByDraw", "(J)V"⟩, 9), (⟨"TramFaithModel", "found", "(I)I"⟩, 22), (⟨"TramFaithModel", "well", "(I)I"⟩, 22), (⟨"TramFaithModel", "isMissing", "(I)Z"⟩, 22), (⟨"TramFaithModel", "isPart", "(III)Z"⟩, 22), (⟨"TramFaithModel", "advances", "()V"⟩, 22)]
theorem lw_r2 : ∀ q ∈ lw_privs_2, lw_okq q := List.forall_mem_cons.mpr ⟨lw_p16, List.forall_mem_cons.mpr ⟨lw_p17, List.forall_mem_cons.mpr ⟨lw_p18, List.forall_mem_cons.mpr ⟨lw_p19, List.forall_mem_cons.mpr ⟨lw_p20, List.forall_mem_cons.mpr ⟨lw_p21, List.forall_mem_cons.mpr ⟨lw_p22, List.forall_mem_cons.mpr ⟨lw_p23, List.forall_mem_cons.mpr ⟨lw_p24, List.forall_mem_cons.mpr ⟨lw_p25, List.forall_mem_cons.mpr ⟨lw_p26, List.forall_mem_cons.mpr ⟨lw_p27, List.forall_mem_cons.mpr ⟨lw_p28, List.forall_mem_cons.mpr ⟨lw_p29, List.forall_mem_cons.mpr ⟨lw_p30, List.forall_mem_cons.mpr ⟨lw_p31, fun _ h => absurd h List.not_mem_nil⟩⟩⟩⟩⟩⟩⟩⟩⟩⟩⟩⟩⟩⟩⟩⟩
theorem lw_p32 : lw_okq (⟨"TramFaithModel", "byteAt", "(I)I"⟩, 22) := ⟨⟨by decide +kernel, by decide +kernel⟩, List.mem_of_getElem? (i := 826) (by decide +kernel), List.mem_of_getElem? (i := 957) (by decide +kernel), List.mem_of_getElem? (i := 958) (by decide +kernel)⟩
theorem lw_p33 : lw_okq (⟨"TramFaithModel", "takes", "(ZI)I"⟩, 22) := ⟨⟨by decide +kernel, by decide +kernel⟩, List.mem_of_getElem? (i := 826) (by decide +kernel), List.mem_of_getElem? (i := 961) (by decide +kernel), List.mem_of_getElem? (i := 962) (by decide +kernel)⟩
theorem lw_p34 : lw_okq (⟨"TramFaithModel", "isWell", "()Z"⟩, 22) := ⟨⟨by decide +kernel, by decide +kernel⟩, List.mem_of_getElem? (i := 826) (by decide +kernel), List.mem_of_getElem? (i := 965) (by decide +kernel), List.mem_of_getElem? (i := 966) (by decide +kernel)⟩
theorem lw_p35 : lw_okq (⟨"TramFaithModel", "figure", "(II)I"⟩, 22) := ⟨⟨by decide +kernel, by decide +kernel⟩, List.mem_of_getElem? (i := 826) (by decide +kernel), List.mem_of_getElem? (i := 969) (by decide +kernel), List.mem_of_getElem? (i := 970) (by decide +kernel)⟩
theorem lw_p36 : lw_okq (⟨"TramFaithModel", "next", "(II)I"⟩, 22) := ⟨⟨by decide +kernel, by decide +kernel⟩, List.mem_of_getElem? (i := 826) (by decide +kernel), List.mem_of_getElem? (i := 973) (by decide +kernel), List.mem_of_getElem? (i := 974) (by decide +kernel)⟩
theorem lw_p37 : lw_okq (⟨"TramFaithModel", "readsPerson", "()V"⟩, 22) := ⟨⟨by decide +kernel, by decide +kernel⟩, List.mem_of_getElem? (i := 826) (by decide +kernel), List.mem_of_getElem? (i := 980) (by decide +kernel), List.mem_of_getElem? (i := 981) (by decide +kernel)⟩
theorem lw_p38 : lw_okq (⟨"TramFaithModel", "isLine", "()Z"⟩, 22) := ⟨⟨by decide +kernel, by decide +kernel⟩, List.mem_of_getElem? (i := 826) (by decide +kernel), List.mem_of_getElem? (i := 996) (by decide +kernel), List.mem_of_getElem? (i := 997) (by decide +kernel)⟩
theorem lw_p39 : lw_okq (⟨"TramFaithModel", "notes", "()V"⟩, 22) := ⟨⟨by decide +kernel, by decide +kernel⟩, List.mem_of_getElem? (i := 826) (by decide +kernel), List.mem_of_getElem? (i := 1001) (by decide +kernel), List.mem_of_getElem? (i := 1002) (by decide +kernel)⟩
theorem lw_p40 : lw_okq (⟨"TramFaithModel", "isPerson", "(I)Z"⟩, 22) := ⟨⟨by decide +kernel, by decide +kernel⟩, List.mem_of_getElem? (i := 826) (by decide +kernel), List.mem_of_getElem? (i := 1039) (by decide +kernel), List.mem_of_getElem? (i := 1040) (by decide +kernel)⟩
theorem lw_p41 : lw_okq (⟨"TramFaithModel", "isStop", "(I)Z"⟩, 22) := ⟨⟨by decide +kernel, by decide +kernel⟩, List.mem_of_getElem? (i := 826) (by decide +kernel), List.mem_of_getElem? (i := 1043) (by decide +kernel), List.mem_of_getElem? (i := 1044) (by decide +kernel)⟩
theorem lw_p42 : lw_okq (⟨"TramFaithModel", "puts", "(II)I"⟩, 22) := ⟨⟨by decide +kernel, by decide +kernel⟩, List.mem_of_getElem? (i := 826) (by decide +kernel), List.mem_of_getElem? (i := 1051) (by decide +kernel), List.mem_of_getElem? (i := 1052) (by decide +kernel)⟩
theorem lw_p43 : lw_okq (⟨"TramFaithModel", "tries", "(I)V"⟩, 22) := ⟨⟨by decide +kernel, by decide +kernel⟩, List.mem_of_getElem? (i := 826) (by decide +kernel), List.mem_of_getElem? (i := 1078) (by decide +kernel), List.mem_of_getElem? (i := 1079) (by decide +kernel)⟩
theorem lw_p44 : lw_okq (⟨"TramFaithModel", "behind", "(III)I"⟩, 22) := ⟨⟨by decide +kernel, by decide +kernel⟩, List.mem_of_getElem? (i := 826) (by decide +kernel), List.mem_of_getElem? (i := 1094) (by decide +kernel), List.mem_of_getElem? (i := 1095) (by decide +kernel)⟩
theorem lw_p45 : lw_okq (⟨"TramFaithModel", "goesSo", "(II)Z"⟩, 22) := ⟨⟨by decide +kernel, by decide +kernel⟩, List.mem_of_getElem? (i := 826) (by decide +kernel), List.mem_of_getElem? (i := 1129) (by decide +kernel), List.mem_of_getElem? (i := 1130) (by decide +kernel)⟩
theorem lw_p46 : lw_okq (⟨"TramFaithModel", "kindIn", "(I)I"⟩, 22) := ⟨⟨by decide +kernel, by decide +kernel⟩, List.mem_of_getElem? (i := 826) (by decide +kernel), List.mem_of_getElem? (i := 1161) (by decide +kernel), List.mem_of_getElem? (i := 1162) (by decide +kernel)⟩
theorem lw_p47 : lw_okq (⟨"TramFaithModel", "childSize", "(I)I"⟩, 22) := ⟨⟨by decide +kernel, by decide +kernel⟩, List.mem_of_getElem? (i := 826) (by decide +kernel), List.mem_of_getElem? (i := 1173) (by decide +kernel), List.mem_of_getElem? (i := 1174) (by decide +kernel)⟩
def lw_privs_3 : List (MethodName × Nat) := [(⟨"TramFaithModel", "byteAt", "(I)I"⟩, 22), (⟨"TramFaithModel", "takes", "(ZI)I"⟩, 22), (⟨"TramFaithModel", "isWell", "()Z"⟩, 22), (⟨"TramFaithModel", "figure", "(II)I"⟩, 22), (⟨"TramFaithModel", "next", "(II)I"⟩, 22), (⟨"TramFaithModel", "readsPerson", "()V"⟩, 22), (⟨"TramFaithModel", "isLine", "()Z"⟩, 22), (⟨"TramFaithModel", "notes", "()V"⟩, 22), (⟨"TramFaithModel", "isPerson", "(I)Z"⟩, 22), (⟨"TramFaithModel", "isStop", "(I)Z"⟩, 22), (⟨"TramFaithModel", "puts", "(II)I"⟩, 22), (⟨"TramFaithModel", "tries", "(I)V"⟩, 22), (⟨"TramFaithModel", "behind", "(III)I"⟩, 22), (⟨"TramFaithModel", "goesSo", "(II)Z"⟩, 22), (⟨"TramFaithModel", "kindIn", "(I)I"⟩, 22), (⟨"TramFaithModel", "childSize", "(I)I"⟩, 22)]
theorem lw_r3 : ∀ q ∈ lw_privs_3, lw_okq q := List.forall_mem_cons.mpr ⟨lw_p32, List.forall_mem_cons.mpr ⟨lw_p33, List.forall_mem_cons.mpr ⟨lw_p34, List.forall_mem_cons.mpr ⟨lw_p35, List.forall_mem_cons.mpr ⟨lw_p36, List.forall_mem_cons.mpr ⟨lw_p37, List.forall_mem_cons.mpr ⟨lw_p38, List.forall_mem_cons.mpr ⟨lw_p39, List.forall_mem_cons.mpr ⟨lw_p40, List.forall_mem_cons.mpr ⟨lw_p41, List.forall_mem_cons.mpr ⟨lw_p42, List.forall_mem_cons.mpr ⟨lw_p43, List.forall_mem_cons.mpr ⟨lw_p44, List.forall_mem_cons.mpr ⟨lw_p45, List.forall_mem_cons.mpr ⟨lw_p46, List.forall_mem_cons.mpr ⟨lw_p47, fun _ h => absurd h List.not_mem_nil⟩⟩⟩⟩⟩⟩⟩⟩⟩⟩⟩⟩⟩⟩⟩⟩
theorem lw_p48 : lw_okq (⟨"TramFaithModel", "begins", "(I)V"⟩, 22) := ⟨⟨by decide +kernel, by decide +kernel⟩, List.mem_of_getElem? (i := 826) (by decide +kernel), List.mem_of_getElem? (i := 1177) (by decide +kernel), List.mem_of_getElem? (i := 1178) (by decide +kernel)⟩
theorem lw_p49 : lw_okq (⟨"TramFaithModel", "plainSize", "(I)I"⟩, 22) := ⟨⟨by decide +kernel, by decide +kernel⟩, List.mem_of_getElem? (i := 826) (by decide +kernel), List.mem_of_getElem? (i := 1181) (by decide +kernel), List.mem_of_getElem? (i := 1182) (by decide +kernel)⟩
theorem lw_p50 : lw_okq (⟨"TramFaithModel", "plainMark", "(I)I"⟩, 22) := ⟨⟨by decide +kernel, by decide +kernel⟩, List.mem_of_getElem? (i := 826) (by decide +kernel), List.mem_of_getElem? (i := 1185) (by decide +kernel), List.mem_of_getElem? (i := 1186) (by decide +kernel)⟩
theorem lw_p51 : lw_okq (⟨"TramFaithModel", "childMark", "(I)I"⟩, 22) := ⟨⟨by decide +kernel, by decide +kernel⟩, List.mem_of_getElem? (i := 826) (by decide +kernel), List.mem_of_getElem? (i := 1189) (by decide +kernel), List.mem_of_getElem? (i := 1190) (by decide +kernel)⟩
def lw_privs_4 : List (MethodName × Nat) := [(⟨"TramFaithModel", "begins", "(I)V"⟩, 22), (⟨"TramFaithModel", "plainSize", "(I)I"⟩, 22), (⟨"TramFaithModel", "plainMark", "(I)I"⟩, 22), (⟨"TramFaithModel", "childMark", "(I)I"⟩, 22)]
theorem lw_r4 : ∀ q ∈ lw_privs_4, lw_okq q := List.forall_mem_cons.mpr ⟨lw_p48, List.forall_mem_cons.mpr ⟨lw_p49, List.forall_mem_cons.mpr ⟨lw_p50, List.forall_mem_cons.mpr ⟨lw_p51, fun _ h => absurd h List.not_mem_nil⟩⟩⟩⟩
def lw_privs : List (MethodName × Nat) := lw_privs_1 ++ (lw_privs_2 ++ (lw_privs_3 ++ (lw_privs_4)))
def lw_tbl : List Cond := k2_sels lw_privs ++ tables_1
theorem lw_privs_ok : ∀ q ∈ lw_privs, lw_okq q := by
  show ∀ q ∈ lw_privs_1 ++ (lw_privs_2 ++ (lw_privs_3 ++ (lw_privs_4))), lw_okq q
  exact List.forall_mem_append.mpr ⟨lw_r1, List.forall_mem_append.mpr ⟨lw_r2, List.forall_mem_append.mpr ⟨lw_r3, lw_r4⟩⟩⟩
end
section
def RX0 : String := "TramFaith$Asked"
def TX0 : u_T := fun k => match k with
  | 0 => ("TramFaith$Asked", "number", "I", false)
  | 1 => ("TramFaith$Asked", "faith", "I", false)
  | 2 => ("TramFaith$Asked", "waited", "I", false)
  | 3 => ("TramFaith$Asked", "begun", "I", false)
  | _ => ("TramFaith$Asked", "bodies", "[I", true)
def tyX0 : Nat → FieldType := fun k => match k with
  | 0 => .int
  | 1 => .int
  | 2 => .int
  | 3 => .int
  | _ => .array .int
abbrev wsX00 : List Cond := u_ws RX0 TX0 5
theorem nmX0 : ∀ a, a < 5 → ∀ b, b < 5 → a ≠ b → (TX0 a).2.1 ≠ (TX0 b).2.1 := by decide +kernel
theorem tyX0_ok : ∀ k, k < 5 → parseFieldDescriptor (TX0 k).2.2.1 = some (tyX0 k) := by decide +kernel
abbrev cX0_init : ByteArray := prog_2_method_1_code
def yX0_init : MethodName := ⟨RX0, "<init>", "()V"⟩
abbrev cX0_beginAbout : ByteArray := prog_2_method_2_code
def yX0_beginAbout : MethodName := ⟨RX0, "beginAbout", "(III)V"⟩
abbrev cX0_leave : ByteArray := prog_2_method_3_code
def yX0_leave : MethodName := ⟨RX0, "leave", "(I)V"⟩
abbrev cX0_bodyAt : ByteArray := prog_2_method_4_code
def yX0_bodyAt : MethodName := ⟨RX0, "bodyAt", "(I)I"⟩
def RX1 : String := "TramFaith$Child"
def TX1 : u_T := fun k => match k with
  | _ => ("", "", "", false)
def tyX1 : Nat → FieldType := fun k => match k with
  | _ => .int
abbrev wsX10 : List Cond := u_ws RX1 TX1 0
theorem nmX1 : ∀ a, a < 0 → ∀ b, b < 0 → a ≠ b → (TX1 a).2.1 ≠ (TX1 b).2.1 := by decide +kernel
theorem tyX1_ok : ∀ k, k < 0 → parseFieldDescriptor (TX1 k).2.2.1 = some (tyX1 k) := by decide +kernel
abbrev cX1_init : ByteArray := prog_3_method_1_code
def yX1_init : MethodName := ⟨RX1, "<init>", "()V"⟩
abbrev cX1_hopesBy : ByteArray := prog_3_method_2_code
def yX1_hopesBy : MethodName := ⟨RX1, "hopesBy", "(III)I"⟩
abbrev cX1_askSize : ByteArray := prog_3_method_3_code
def yX1_askSize : MethodName := ⟨RX1, "askSize", "(LTramFaith$Asked;)I"⟩
abbrev cX1_askMark : ByteArray := prog_3_method_4_code
def yX1_askMark : MethodName := ⟨RX1, "askMark", "(LTramFaith$Asked;)I"⟩
def RX2 : String := "TramFaith$Crowd"
def TX2 : u_T := fun k => match k with
  | _ => ("", "", "", false)
def tyX2 : Nat → FieldType := fun k => match k with
  | _ => .int
abbrev wsX20 : List Cond := u_ws RX2 TX2 0
theorem nmX2 : ∀ a, a < 0 → ∀ b, b < 0 → a ≠ b → (TX2 a).2.1 ≠ (TX2 b).2.1 := by decide +kernel
theorem tyX2_ok : ∀ k, k < 0 → parseFieldDescriptor (TX2 k).2.2.1 = some (tyX2 k) := by decide +kernel
abbrev cX2_init : ByteArray := prog_4_method_1_code
def yX2_init : MethodName := ⟨RX2, "<init>", "()V"⟩
abbrev cX2_hopesBy : ByteArray := prog_4_method_2_code
def yX2_hopesBy : MethodName := ⟨RX2, "hopesBy", "(III)I"⟩
abbrev cX2_askSize : ByteArray := prog_4_method_3_code
def yX2_askSize : MethodName := ⟨RX2, "askSize", "(LTramFaith$Asked;)I"⟩
abbrev cX2_askMark : ByteArray := prog_4_method_4_code
def yX2_askMark : MethodName := ⟨RX2, "askMark", "(LTramFaith$Asked;)I"⟩
def RX3 : String := "TramFaith$Doubter"
def TX3 : u_T := fun k => match k with
  | _ => ("", "", "", false)
def tyX3 : Nat → FieldType := fun k => match k with
  | _ => .int
abbrev wsX30 : List Cond := u_ws RX3 TX3 0
theorem nmX3 : ∀ a, a < 0 → ∀ b, b < 0 → a ≠ b → (TX3 a).2.1 ≠ (TX3 b).2.1 := by decide +kernel
theorem tyX3_ok : ∀ k, k < 0 → parseFieldDescriptor (TX3 k).2.2.1 = some (tyX3 k) := by decide +kernel
abbrev cX3_init : ByteArray := prog_5_method_1_code
def yX3_init : MethodName := ⟨RX3, "<init>", "()V"⟩
abbrev cX3_hopesBy : ByteArray := prog_5_method_2_code
def yX3_hopesBy : MethodName := ⟨RX3, "hopesBy", "(III)I"⟩
abbrev cX3_askMark : ByteArray := prog_5_method_3_code
def yX3_askMark : MethodName := ⟨RX3, "askMark", "(LTramFaith$Asked;)I"⟩
def RX4 : String := "TramFaith$Line"
def TX4 : u_T := fun k => match k with
  | 0 => ("TramFaith$Line", "stops", "I", false)
  | 1 => ("TramFaith$Line", "bound", "I", false)
  | 2 => ("TramFaith$Line", "people", "I", false)
  | 3 => ("TramFaith$Line", "minute", "I", false)
  | 4 => ("TramFaith$Line", "kind", "[I", true)
  | 5 => ("TramFaith$Line", "at", "[I", true)
  | 6 => ("TramFaith$Line", "faith", "[I", true)
  | 7 => ("TramFaith$Line", "wants", "[I", true)
  | 8 => ("TramFaith$Line", "waited", "[I", true)
  | 9 => ("TramFaith$Line", "waiters", "[LTramFaith$Waiter;", true)
  | 10 => ("TramFaith$Line", "crowds", "[I", true)
  | _ => ("TramFaith$Line", "hopes", "[I", true)
def tyX4 : Nat → FieldType := fun k => match k with
  | 0 => .int
  | 1 => .int
  | 2 => .int
  | 3 => .int
  | 4 => .array .int
  | 5 => .array .int
  | 6 => .array .int
  | 7 => .array .int
  | 8 => .array .int
  | 9 => .array (.object "TramFaith$Waiter")
  | 10 => .array .int
  | _ => .array .int
abbrev wsX40 : List Cond := u_ws RX4 TX4 12
theorem nmX4 : ∀ a, a < 12 → ∀ b, b < 12 → a ≠ b → (TX4 a).2.1 ≠ (TX4 b).2.1 := by decide +kernel
theorem tyX4_ok : ∀ k, k < 12 → parseFieldDescriptor (TX4 k).2.2.1 = some (tyX4 k) := by decide +kernel
abbrev cX4_init : ByteArray := prog_6_method_1_code
def yX4_init : MethodName := ⟨RX4, "<init>", "([LTramFaith$Waiter;)V"⟩
abbrev cX4_begin : ByteArray := prog_6_method_2_code
def yX4_begin : MethodName := ⟨RX4, "begin", "(II)V"⟩
abbrev cX4_add : ByteArray := prog_6_method_3_code
def yX4_add : MethodName := ⟨RX4, "add", "(IIII)V"⟩
abbrev cX4_become : ByteArray := prog_6_method_4_code
def yX4_become : MethodName := ⟨RX4, "become", "(LTramFaith$Line;)V"⟩
abbrev cX4_waiter : ByteArray := prog_6_method_5_code
def yX4_waiter : MethodName := ⟨RX4, "waiter", "(I)LTramFaith$Waiter;"⟩
abbrev cX4_everybody : ByteArray := prog_6_method_6_code
def yX4_everybody : MethodName := ⟨RX4, "everybody", "()I"⟩
abbrev cX4_thereBits : ByteArray := prog_6_method_7_code
def yX4_thereBits : MethodName := ⟨RX4, "thereBits", "()I"⟩
abbrev cX4_whoIsAt : ByteArray := prog_6_method_8_code
def yX4_whoIsAt : MethodName := ⟨RX4, "whoIsAt", "(I)I"⟩
abbrev cX4_hopeOf : ByteArray := prog_6_method_9_code
def yX4_hopeOf : MethodName := ⟨RX4, "hopeOf", "(I)I"⟩
abbrev cX4_hopeAt : ByteArray := prog_6_method_10_code
def yX4_hopeAt : MethodName := ⟨RX4, "hopeAt", "(I)I"⟩
abbrev cX4_holdingBits : ByteArray := prog_6_method_11_code
def yX4_holdingBits : MethodName := ⟨RX4, "holdingBits", "()I"⟩
abbrev cX4_tramWithout : ByteArray := prog_6_method_12_code
def yX4_tramWithout : MethodName := ⟨RX4, "tramWithout", "(I)I"⟩
abbrev cX4_pass : ByteArray := prog_6_method_13_code
def yX4_pass : MethodName := ⟨RX4, "pass", "(I)I"⟩
abbrev cX4_moveTo : ByteArray := prog_6_method_14_code
def yX4_moveTo : MethodName := ⟨RX4, "moveTo", "(II)V"⟩
abbrev cX4_leastHope : ByteArray := prog_6_method_15_code
def yX4_leastHope : MethodName := ⟨RX4, "leastHope", "()I"⟩
abbrev cX4_tellHopes : ByteArray := prog_6_method_16_code
def yX4_tellHopes : MethodName := ⟨RX4, "tellHopes", "(I)V"⟩
abbrev cX4_tellCrowds : ByteArray := prog_6_method_17_code
def yX4_tellCrowds : MethodName := ⟨RX4, "tellCrowds", "()V"⟩
def RX5 : String := "TramFaith$Past"
def TX5 : u_T := fun k => match k with
  | 0 => ("TramFaith$Past", "kept", "I", false)
  | 1 => ("TramFaith$Past", "oldest", "I", false)
  | _ => ("TramFaith$Past", "pages", "[I", true)
def tyX5 : Nat → FieldType := fun k => match k with
  | 0 => .int
  | 1 => .int
  | _ => .array .int
abbrev wsX50 : List Cond := u_ws RX5 TX5 3
theorem nmX5 : ∀ a, a < 3 → ∀ b, b < 3 → a ≠ b → (TX5 a).2.1 ≠ (TX5 b).2.1 := by decide +kernel
theorem tyX5_ok : ∀ k, k < 3 → parseFieldDescriptor (TX5 k).2.2.1 = some (tyX5 k) := by decide +kernel
abbrev cX5_init : ByteArray := prog_7_method_1_code
def yX5_init : MethodName := ⟨RX5, "<init>", "()V"⟩
abbrev cX5_forget : ByteArray := prog_7_method_2_code
def yX5_forget : MethodName := ⟨RX5, "forget", "()V"⟩
abbrev cX5_keep : ByteArray := prog_7_method_3_code
def yX5_keep : MethodName := ⟨RX5, "keep", "(LTramFaith$Line;)V"⟩
abbrev cX5_takeBack : ByteArray := prog_7_method_4_code
def yX5_takeBack : MethodName := ⟨RX5, "takeBack", "(LTramFaith$Line;)V"⟩
abbrev cX5_pageOf : ByteArray := prog_7_method_5_code
def yX5_pageOf : MethodName := ⟨RX5, "pageOf", "(I)I"⟩
def RX6 : String := "TramFaith$Plain"
def TX6 : u_T := fun k => match k with
  | _ => ("", "", "", false)
def tyX6 : Nat → FieldType := fun k => match k with
  | _ => .int
abbrev wsX60 : List Cond := u_ws RX6 TX6 0
theorem nmX6 : ∀ a, a < 0 → ∀ b, b < 0 → a ≠ b → (TX6 a).2.1 ≠ (TX6 b).2.1 := by decide +kernel
theorem tyX6_ok : ∀ k, k < 0 → parseFieldDescriptor (TX6 k).2.2.1 = some (tyX6 k) := by decide +kernel
abbrev cX6_init : ByteArray := prog_8_method_1_code
def yX6_init : MethodName := ⟨RX6, "<init>", "()V"⟩
abbrev cX6_hopesBy : ByteArray := prog_8_method_2_code
def yX6_hopesBy : MethodName := ⟨RX6, "hopesBy", "(III)I"⟩
abbrev cX6_askSize : ByteArray := prog_8_method_3_code
def yX6_askSize : MethodName := ⟨RX6, "askSize", "(LTramFaith$Asked;)I"⟩
abbrev cX6_askMark : ByteArray := prog_8_method_4_code
def yX6_askMark : MethodName := ⟨RX6, "askMark", "(LTramFaith$Asked;)I"⟩
def RX7 : String := "TramFaith$Saint"
def TX7 : u_T := fun k => match k with
  | _ => ("", "", "", false)
def tyX7 : Nat → FieldType := fun k => match k with
  | _ => .int
abbrev wsX70 : List Cond := u_ws RX7 TX7 0
theorem nmX7 : ∀ a, a < 0 → ∀ b, b < 0 → a ≠ b → (TX7 a).2.1 ≠ (TX7 b).2.1 := by decide +kernel
theorem tyX7_ok : ∀ k, k < 0 → parseFieldDescriptor (TX7 k).2.2.1 = some (tyX7 k) := by decide +kernel
abbrev cX7_init : ByteArray := prog_9_method_1_code
def yX7_init : MethodName := ⟨RX7, "<init>", "()V"⟩
abbrev cX7_hopesBy : ByteArray := prog_9_method_2_code
def yX7_hopesBy : MethodName := ⟨RX7, "hopesBy", "(III)I"⟩
abbrev cX7_askSize : ByteArray := prog_9_method_3_code
def yX7_askSize : MethodName := ⟨RX7, "askSize", "(LTramFaith$Asked;)I"⟩
def RX8 : String := "TramFaith$Shelf"
def TX8 : u_T := fun k => match k with
  | 0 => ("TramFaith$Shelf", "items", "[[I", true)
  | 1 => ("TramFaith$Shelf", "lanes", "[I", true)
  | _ => ("TramFaith$Shelf", "sizes", "[I", true)
def tyX8 : Nat → FieldType := fun k => match k with
  | 0 => .array (.array .int)
  | 1 => .array .int
  | _ => .array .int
abbrev wsX80 : List Cond := u_ws RX8 TX8 3
theorem nmX8 : ∀ a, a < 3 → ∀ b, b < 3 → a ≠ b → (TX8 a).2.1 ≠ (TX8 b).2.1 := by decide +kernel
theorem tyX8_ok : ∀ k, k < 3 → parseFieldDescriptor (TX8 k).2.2.1 = some (tyX8 k) := by decide +kernel
abbrev cX8_init : ByteArray := prog_10_method_1_code
def yX8_init : MethodName := ⟨RX8, "<init>", "()V"⟩
abbrev cX8_isMissing : ByteArray := prog_10_method_2_code
def yX8_isMissing : MethodName := ⟨RX8, "isMissing", "(I)Z"⟩
abbrev cX8_howMany : ByteArray := prog_10_method_3_code
def yX8_howMany : MethodName := ⟨RX8, "howMany", "()I"⟩
abbrev cX8_make : ByteArray := prog_10_method_4_code
def yX8_make : MethodName := ⟨RX8, "make", "(III)V"⟩
abbrev cX8_remove : ByteArray := prog_10_method_5_code
def yX8_remove : MethodName := ⟨RX8, "remove", "(I)I"⟩
abbrev cX8_itemAt : ByteArray := prog_10_method_6_code
def yX8_itemAt : MethodName := ⟨RX8, "itemAt", "(II)I"⟩
abbrev cX8_put : ByteArray := prog_10_method_7_code
def yX8_put : MethodName := ⟨RX8, "put", "(III)I"⟩
abbrev cX8_move : ByteArray := prog_10_method_8_code
def yX8_move : MethodName := ⟨RX8, "move", "(IIIII)V"⟩
abbrev cX8_findingOf : ByteArray := prog_10_method_9_code
def yX8_findingOf : MethodName := ⟨RX8, "findingOf", "(III)I"⟩
abbrev cX8_findingOfMove : ByteArray := prog_10_method_10_code
def yX8_findingOfMove : MethodName := ⟨RX8, "findingOfMove", "(IIIII)I"⟩
abbrev cX8_hasSpan : ByteArray := prog_10_method_11_code
def yX8_hasSpan : MethodName := ⟨RX8, "hasSpan", "(III)Z"⟩
def RX9 : String := "TramFaith$Tape"
def TX9 : u_T := fun k => match k with
  | 0 => ("TramFaith$Tape", "size", "I", false)
  | 1 => ("TramFaith$Tape", "fault", "I", false)
  | 2 => ("TramFaith$Tape", "faultPlace", "I", false)
  | 3 => ("TramFaith$Tape", "letters", "[I", true)
  | 4 => ("TramFaith$Tape", "next", "I", false)
  | _ => ("TramFaith$Tape", "number", "I", false)
def tyX9 : Nat → FieldType := fun k => match k with
  | 0 => .int
  | 1 => .int
  | 2 => .int
  | 3 => .array .int
  | 4 => .int
  | _ => .int
abbrev wsX90 : List Cond := u_ws RX9 TX9 6
theorem nmX9 : ∀ a, a < 6 → ∀ b, b < 6 → a ≠ b → (TX9 a).2.1 ≠ (TX9 b).2.1 := by decide +kernel
theorem tyX9_ok : ∀ k, k < 6 → parseFieldDescriptor (TX9 k).2.2.1 = some (tyX9 k) := by decide +kernel
abbrev cX9_init : ByteArray := prog_11_method_1_code
def yX9_init : MethodName := ⟨RX9, "<init>", "()V"⟩
abbrev cX9_put : ByteArray := prog_11_method_2_code
def yX9_put : MethodName := ⟨RX9, "put", "(I)V"⟩
abbrev cX9_readInto : ByteArray := prog_11_method_3_code
def yX9_readInto : MethodName := ⟨RX9, "readInto", "(LTramFaith$Line;)Z"⟩
abbrev cX9_readLaw : ByteArray := prog_11_method_4_code
def yX9_readLaw : MethodName := ⟨RX9, "readLaw", "(LTramFaith$Line;)Z"⟩
abbrev cX9_readPeople : ByteArray := prog_11_method_5_code
def yX9_readPeople : MethodName := ⟨RX9, "readPeople", "(LTramFaith$Line;)Z"⟩
abbrev cX9_readPerson : ByteArray := prog_11_method_6_code
def yX9_readPerson : MethodName := ⟨RX9, "readPerson", "(LTramFaith$Line;I)Z"⟩
abbrev cX9_takeSign : ByteArray := prog_11_method_7_code
def yX9_takeSign : MethodName := ⟨RX9, "takeSign", "(C)Z"⟩
abbrev cX9_takeNumber : ByteArray := prog_11_method_8_code
def yX9_takeNumber : MethodName := ⟨RX9, "takeNumber", "(II)Z"⟩
abbrev cX9_fails : ByteArray := prog_11_method_9_code
def yX9_fails : MethodName := ⟨RX9, "fails", "(I)Z"⟩
def RX10 : String := "TramFaith$Waiter"
def TX10 : u_T := fun k => match k with
  | _ => ("", "", "", false)
def tyX10 : Nat → FieldType := fun k => match k with
  | _ => .int
abbrev wsX100 : List Cond := u_ws RX10 TX10 0
theorem nmX10 : ∀ a, a < 0 → ∀ b, b < 0 → a ≠ b → (TX10 a).2.1 ≠ (TX10 b).2.1 := by decide +kernel
theorem tyX10_ok : ∀ k, k < 0 → parseFieldDescriptor (TX10 k).2.2.1 = some (tyX10 k) := by decide +kernel
abbrev cX10_init : ByteArray := prog_12_method_1_code
def yX10_init : MethodName := ⟨RX10, "<init>", "()V"⟩
abbrev cX10_askSize : ByteArray := prog_12_method_3_code
def yX10_askSize : MethodName := ⟨RX10, "askSize", "(LTramFaith$Asked;)I"⟩
abbrev cX10_askMark : ByteArray := prog_12_method_4_code
def yX10_askMark : MethodName := ⟨RX10, "askMark", "(LTramFaith$Asked;)I"⟩
def RX11 : String := "TramFaith"
def TX11 : u_T := fun k => match k with
  | 0 => ("TramFaith", "shelf", "LTramFaith$Shelf;", true)
  | 1 => ("TramFaith", "tape", "LTramFaith$Tape;", true)
  | 2 => ("TramFaith", "line", "LTramFaith$Line;", true)
  | 3 => ("TramFaith", "play", "LTramFaith$Line;", true)
  | 4 => ("TramFaith", "images", "[LTramFaith$Line;", true)
  | 5 => ("TramFaith", "past", "LTramFaith$Past;", true)
  | 6 => ("TramFaith", "asked", "LTramFaith$Asked;", true)
  | 7 => ("TramFaith", "latestFault", "I", false)
  | _ => ("TramFaith", "latestFinding", "I", false)
def tyX11 : Nat → FieldType := fun k => match k with
  | 0 => .object "TramFaith$Shelf"
  | 1 => .object "TramFaith$Tape"
  | 2 => .object "TramFaith$Line"
  | 3 => .object "TramFaith$Line"
  | 4 => .array (.object "TramFaith$Line")
  | 5 => .object "TramFaith$Past"
  | 6 => .object "TramFaith$Asked"
  | 7 => .int
  | _ => .int
abbrev wsX110 : List Cond := u_ws RX11 TX11 9
theorem nmX11 : ∀ a, a < 9 → ∀ b, b < 9 → a ≠ b → (TX11 a).2.1 ≠ (TX11 b).2.1 := by decide +kernel
theorem tyX11_ok : ∀ k, k < 9 → parseFieldDescriptor (TX11 k).2.2.1 = some (tyX11 k) := by decide +kernel
abbrev cX11_init : ByteArray := prog_1_method_1_code
def yX11_init : MethodName := ⟨RX11, "<init>", "()V"⟩
abbrev cX11_row : ByteArray := prog_1_method_2_code
def yX11_row : MethodName := ⟨RX11, "row", "(III)I"⟩
abbrev cX11_set : ByteArray := prog_1_method_3_code
def yX11_set : MethodName := ⟨RX11, "set", "(III)I"⟩
abbrev cX11_copy : ByteArray := prog_1_method_4_code
def yX11_copy : MethodName := ⟨RX11, "copy", "(IIIII)I"⟩
abbrev cX11_drop : ByteArray := prog_1_method_5_code
def yX11_drop : MethodName := ⟨RX11, "drop", "(I)I"⟩
abbrev cX11_feed : ByteArray := prog_1_method_6_code
def yX11_feed : MethodName := ⟨RX11, "feed", "(I)I"⟩
abbrev cX11_line : ByteArray := prog_1_method_7_code
def yX11_line : MethodName := ⟨RX11, "line", "()I"⟩
abbrev cX11_fault : ByteArray := prog_1_method_8_code
def yX11_fault : MethodName := ⟨RX11, "fault", "()I"⟩
abbrev cX11_minutes : ByteArray := prog_1_method_9_code
def yX11_minutes : MethodName := ⟨RX11, "minutes", "(I)I"⟩
abbrev cX11_walk : ByteArray := prog_1_method_10_code
def yX11_walk : MethodName := ⟨RX11, "walk", "(II)I"⟩
abbrev cX11_preach : ByteArray := prog_1_method_11_code
def yX11_preach : MethodName := ⟨RX11, "preach", "(II)I"⟩
abbrev cX11_wish : ByteArray := prog_1_method_12_code
def yX11_wish : MethodName := ⟨RX11, "wish", "(II)I"⟩
abbrev cX11_undo : ByteArray := prog_1_method_13_code
def yX11_undo : MethodName := ⟨RX11, "undo", "()I"⟩
abbrev cX11_person : ByteArray := prog_1_method_14_code
def yX11_person : MethodName := ⟨RX11, "person", "(II)I"⟩
abbrev cX11_stop : ByteArray := prog_1_method_15_code
def yX11_stop : MethodName := ⟨RX11, "stop", "(II)I"⟩
abbrev cX11_where : ByteArray := prog_1_method_16_code
def yX11_where : MethodName := ⟨RX11, "where", "(II)I"⟩
abbrev cX11_tram : ByteArray := prog_1_method_17_code
def yX11_tram : MethodName := ⟨RX11, "tram", "(I)I"⟩
abbrev cX11_there : ByteArray := prog_1_method_18_code
def yX11_there : MethodName := ⟨RX11, "there", "(I)I"⟩
abbrev cX11_when : ByteArray := prog_1_method_19_code
def yX11_when : MethodName := ⟨RX11, "when", "(I)I"⟩
abbrev cX11_all : ByteArray := prog_1_method_20_code
def yX11_all : MethodName := ⟨RX11, "all", "()I"⟩
abbrev cX11_never : ByteArray := prog_1_method_21_code
def yX11_never : MethodName := ⟨RX11, "never", "()I"⟩
abbrev cX11_holding : ByteArray := prog_1_method_22_code
def yX11_holding : MethodName := ⟨RX11, "holding", "()I"⟩
abbrev cX11_call : ByteArray := prog_1_method_23_code
def yX11_call : MethodName := ⟨RX11, "call", "(II)I"⟩
abbrev cX11_go : ByteArray := prog_1_method_24_code
def yX11_go : MethodName := ⟨RX11, "go", "(II)I"⟩
abbrev cX11_walkers : ByteArray := prog_1_method_25_code
def yX11_walkers : MethodName := ⟨RX11, "walkers", "(II)I"⟩
abbrev cX11_fits : ByteArray := prog_1_method_26_code
def yX11_fits : MethodName := ⟨RX11, "fits", "(IIIII)I"⟩
abbrev cX11_bounds : ByteArray := prog_1_method_27_code
def yX11_bounds : MethodName := ⟨RX11, "bounds", "(III)I"⟩
abbrev cX11_rain : ByteArray := prog_1_method_28_code
def yX11_rain : MethodName := ⟨RX11, "rain", "(III)I"⟩
abbrev cX11_drawn : ByteArray := prog_1_method_29_code
def yX11_drawn : MethodName := ⟨RX11, "drawn", "(III)I"⟩
abbrev cX11_image : ByteArray := prog_1_method_30_code
def yX11_image : MethodName := ⟨RX11, "image", "(I)I"⟩
abbrev cX11_restore : ByteArray := prog_1_method_31_code
def yX11_restore : MethodName := ⟨RX11, "restore", "(I)I"⟩
abbrev cX11_kind : ByteArray := prog_1_method_32_code
def yX11_kind : MethodName := ⟨RX11, "kind", "(I)I"⟩
abbrev cX11_as : ByteArray := prog_1_method_33_code
def yX11_as : MethodName := ⟨RX11, "as", "(II)I"⟩
abbrev cX11_ask : ByteArray := prog_1_method_34_code
def yX11_ask : MethodName := ⟨RX11, "ask", "(II)I"⟩
abbrev cX11_trace : ByteArray := prog_1_method_35_code
def yX11_trace : MethodName := ⟨RX11, "trace", "(I)I"⟩
abbrev cX11_count : ByteArray := prog_1_method_36_code
def yX11_count : MethodName := ⟨RX11, "count", "(I)I"⟩
abbrev cX11_status : ByteArray := prog_1_method_37_code
def yX11_status : MethodName := ⟨RX11, "status", "()I"⟩
abbrev cX11_isWithin : ByteArray := prog_1_method_38_code
def yX11_isWithin : MethodName := ⟨RX11, "isWithin", "(III)Z"⟩
abbrev cX11_isIn : ByteArray := prog_1_method_39_code
def yX11_isIn : MethodName := ⟨RX11, "isIn", "(II)Z"⟩
abbrev cX11_isRow : ByteArray := prog_1_method_40_code
def yX11_isRow : MethodName := ⟨RX11, "isRow", "(I)Z"⟩
abbrev cX11_hasLine : ByteArray := prog_1_method_41_code
def yX11_hasLine : MethodName := ⟨RX11, "hasLine", "()Z"⟩
abbrev cX11_isPerson : ByteArray := prog_1_method_42_code
def yX11_isPerson : MethodName := ⟨RX11, "isPerson", "(I)Z"⟩
abbrev cX11_isStop : ByteArray := prog_1_method_43_code
def yX11_isStop : MethodName := ⟨RX11, "isStop", "(I)Z"⟩
abbrev cX11_found : ByteArray := prog_1_method_44_code
def yX11_found : MethodName := ⟨RX11, "found", "(I)I"⟩
abbrev cX11_foundNothing : ByteArray := prog_1_method_45_code
def yX11_foundNothing : MethodName := ⟨RX11, "foundNothing", "(I)I"⟩
abbrev cX11_isOne : ByteArray := prog_1_method_46_code
def yX11_isOne : MethodName := ⟨RX11, "isOne", "(LTramFaith$Waiter;I)Z"⟩
abbrev cX11_playFor : ByteArray := prog_1_method_47_code
def yX11_playFor : MethodName := ⟨RX11, "playFor", "(I)V"⟩
abbrev cX11_playTill : ByteArray := prog_1_method_48_code
def yX11_playTill : MethodName := ⟨RX11, "playTill", "(III)I"⟩
abbrev cX11_callerBy : ByteArray := prog_1_method_49_code
def yX11_callerBy : MethodName := ⟨RX11, "callerBy", "(II)I"⟩
abbrev cX11_soonFrom : ByteArray := prog_1_method_50_code
def yX11_soonFrom : MethodName := ⟨RX11, "soonFrom", "(II)I"⟩
abbrev cX11_leastWalkers : ByteArray := prog_1_method_51_code
def yX11_leastWalkers : MethodName := ⟨RX11, "leastWalkers", "(II)I"⟩
abbrev cX11_faithsBy : ByteArray := prog_1_method_52_code
def yX11_faithsBy : MethodName := ⟨RX11, "faithsBy", "(IIII)I"⟩
abbrev cX11_sortsBy : ByteArray := prog_1_method_53_code
def yX11_sortsBy : MethodName := ⟨RX11, "sortsBy", "(IIII)I"⟩
abbrev cX11_boundsBy : ByteArray := prog_1_method_54_code
def yX11_boundsBy : MethodName := ⟨RX11, "boundsBy", "(III)I"⟩
abbrev cX11_playIsAsTold : ByteArray := prog_1_method_55_code
def yX11_playIsAsTold : MethodName := ⟨RX11, "playIsAsTold", "(III)Z"⟩
abbrev cX11_waysOf : ByteArray := prog_1_method_56_code
def yX11_waysOf : MethodName := ⟨RX11, "waysOf", "(II)I"⟩
abbrev cX11_sharedBy : ByteArray := prog_1_method_57_code
def yX11_sharedBy : MethodName := ⟨RX11, "sharedBy", "(II)I"⟩
abbrev cX11_preachByDraw : ByteArray := prog_1_method_58_code
def yX11_preachByDraw : MethodName := ⟨RX11, "preachByDraw", "(J)V"⟩
def RX12 : String := "TramFaithModel"
def TX12 : u_T := fun k => match k with
  | 0 => ("TramFaithModel", "lane", "[I", true)
  | 1 => ("TramFaithModel", "many", "[I", true)
  | 2 => ("TramFaithModel", "items", "[I", true)
  | 3 => ("TramFaithModel", "spare", "[I", true)
  | 4 => ("TramFaithModel", "status", "I", false)
  | 5 => ("TramFaithModel", "tape", "[I", true)
  | 6 => ("TramFaithModel", "taped", "I", false)
  | 7 => ("TramFaithModel", "faultKind", "I", false)
  | 8 => ("TramFaithModel", "faultPlace", "I", false)
  | 9 => ("TramFaithModel", "at", "I", false)
  | 10 => ("TramFaithModel", "start", "I", false)
  | 11 => ("TramFaithModel", "token", "I", false)
  | 12 => ("TramFaithModel", "value", "I", false)
  | 13 => ("TramFaithModel", "now", "[I", true)
  | 14 => ("TramFaithModel", "draft", "[I", true)
  | 15 => ("TramFaithModel", "tried", "[I", true)
  | 16 => ("TramFaithModel", "past", "[I", true)
  | 17 => ("TramFaithModel", "acts", "I", false)
  | 18 => ("TramFaithModel", "images", "[I", true)
  | 19 => ("TramFaithModel", "kept", "[Z", true)
  | 20 => ("TramFaithModel", "trace", "[I", true)
  | _ => ("TramFaithModel", "traced", "I", false)
def tyX12 : Nat → FieldType := fun k => match k with
  | 0 => .array .int
  | 1 => .array .int
  | 2 => .array .int
  | 3 => .array .int
  | 4 => .int
  | 5 => .array .int
  | 6 => .int
  | 7 => .int
  | 8 => .int
  | 9 => .int
  | 10 => .int
  | 11 => .int
  | 12 => .int
  | 13 => .array .int
  | 14 => .array .int
  | 15 => .array .int
  | 16 => .array .int
  | 17 => .int
  | 18 => .array .int
  | 19 => .array .boolean
  | 20 => .array .int
  | _ => .int
abbrev wsX120 : List Cond := u_ws RX12 TX12 22
theorem nmX12 : ∀ a, a < 22 → ∀ b, b < 22 → a ≠ b → (TX12 a).2.1 ≠ (TX12 b).2.1 := by decide +kernel
theorem tyX12_ok : ∀ k, k < 22 → parseFieldDescriptor (TX12 k).2.2.1 = some (tyX12 k) := by decide +kernel
abbrev cX12_init : ByteArray := prog_14_method_1_code
def yX12_init : MethodName := ⟨RX12, "<init>", "()V"⟩
abbrev cX12_in : ByteArray := prog_14_method_3_code
def yX12_in : MethodName := ⟨RX12, "in", "(III)Z"⟩
abbrev cX12_has : ByteArray := prog_14_method_4_code
def yX12_has : MethodName := ⟨RX12, "has", "(II)Z"⟩
abbrev cX12_ones : ByteArray := prog_14_method_5_code
def yX12_ones : MethodName := ⟨RX12, "ones", "(I)I"⟩
abbrev cX12_found : ByteArray := prog_14_method_6_code
def yX12_found : MethodName := ⟨RX12, "found", "(I)I"⟩
abbrev cX12_well : ByteArray := prog_14_method_7_code
def yX12_well : MethodName := ⟨RX12, "well", "(I)I"⟩
abbrev cX12_copies : ByteArray := prog_14_method_8_code
def yX12_copies : MethodName := ⟨RX12, "copies", "([II[II)V"⟩
abbrev cX12_isRow : ByteArray := prog_14_method_9_code
def yX12_isRow : MethodName := ⟨RX12, "isRow", "(I)Z"⟩
abbrev cX12_isMissing : ByteArray := prog_14_method_10_code
def yX12_isMissing : MethodName := ⟨RX12, "isMissing", "(I)Z"⟩
abbrev cX12_cut : ByteArray := prog_14_method_11_code
def yX12_cut : MethodName := ⟨RX12, "cut", "(II)I"⟩
abbrev cX12_row : ByteArray := prog_14_method_12_code
def yX12_row : MethodName := ⟨RX12, "row", "(III)I"⟩
abbrev cX12_set : ByteArray := prog_14_method_13_code
def yX12_set : MethodName := ⟨RX12, "set", "(III)I"⟩
abbrev cX12_isPart : ByteArray := prog_14_method_14_code
def yX12_isPart : MethodName := ⟨RX12, "isPart", "(III)Z"⟩
abbrev cX12_copy : ByteArray := prog_14_method_15_code
def yX12_copy : MethodName := ⟨RX12, "copy", "(IIIII)I"⟩
abbrev cX12_drop : ByteArray := prog_14_method_16_code
def yX12_drop : MethodName := ⟨RX12, "drop", "(I)I"⟩
abbrev cX12_feed : ByteArray := prog_14_method_17_code
def yX12_feed : MethodName := ⟨RX12, "feed", "(I)I"⟩
abbrev cX12_byteAt : ByteArray := prog_14_method_18_code
def yX12_byteAt : MethodName := ⟨RX12, "byteAt", "(I)I"⟩
abbrev cX12_advances : ByteArray := prog_14_method_19_code
def yX12_advances : MethodName := ⟨RX12, "advances", "()V"⟩
abbrev cX12_isWell : ByteArray := prog_14_method_20_code
def yX12_isWell : MethodName := ⟨RX12, "isWell", "()Z"⟩
abbrev cX12_takes : ByteArray := prog_14_method_21_code
def yX12_takes : MethodName := ⟨RX12, "takes", "(ZI)I"⟩
abbrev cX12_figure : ByteArray := prog_14_method_22_code
def yX12_figure : MethodName := ⟨RX12, "figure", "(II)I"⟩
abbrev cX12_kindOf : ByteArray := prog_14_method_23_code
def yX12_kindOf : MethodName := ⟨RX12, "kindOf", "(I)I"⟩
abbrev cX12_next : ByteArray := prog_14_method_24_code
def yX12_next : MethodName := ⟨RX12, "next", "(II)I"⟩
abbrev cX12_readsPerson : ByteArray := prog_14_method_25_code
def yX12_readsPerson : MethodName := ⟨RX12, "readsPerson", "()V"⟩
abbrev cX12_line : ByteArray := prog_14_method_26_code
def yX12_line : MethodName := ⟨RX12, "line", "()I"⟩
abbrev cX12_fault : ByteArray := prog_14_method_27_code
def yX12_fault : MethodName := ⟨RX12, "fault", "()I"⟩
abbrev cX12_isLine : ByteArray := prog_14_method_28_code
def yX12_isLine : MethodName := ⟨RX12, "isLine", "()Z"⟩
abbrev cX12_isPerson : ByteArray := prog_14_method_29_code
def yX12_isPerson : MethodName := ⟨RX12, "isPerson", "(I)Z"⟩
abbrev cX12_isStop : ByteArray := prog_14_method_30_code
def yX12_isStop : MethodName := ⟨RX12, "isStop", "(I)Z"⟩
abbrev cX12_isFar : ByteArray := prog_14_method_31_code
def yX12_isFar : MethodName := ⟨RX12, "isFar", "(I)Z"⟩
abbrev cX12_atStop : ByteArray := prog_14_method_32_code
def yX12_atStop : MethodName := ⟨RX12, "atStop", "([II)I"⟩
abbrev cX12_hopes : ByteArray := prog_14_method_33_code
def yX12_hopes : MethodName := ⟨RX12, "hopes", "([II)I"⟩
abbrev cX12_hope : ByteArray := prog_14_method_34_code
def yX12_hope : MethodName := ⟨RX12, "hope", "([III)I"⟩
abbrev cX12_holds : ByteArray := prog_14_method_35_code
def yX12_holds : MethodName := ⟨RX12, "holds", "([II)Z"⟩
abbrev cX12_tramBy : ByteArray := prog_14_method_36_code
def yX12_tramBy : MethodName := ⟨RX12, "tramBy", "([II)I"⟩
abbrev cX12_isThere : ByteArray := prog_14_method_37_code
def yX12_isThere : MethodName := ⟨RX12, "isThere", "([II)Z"⟩
abbrev cX12_thereIn : ByteArray := prog_14_method_38_code
def yX12_thereIn : MethodName := ⟨RX12, "thereIn", "([I)I"⟩
abbrev cX12_everybody : ByteArray := prog_14_method_39_code
def yX12_everybody : MethodName := ⟨RX12, "everybody", "([I)I"⟩
abbrev cX12_passes : ByteArray := prog_14_method_40_code
def yX12_passes : MethodName := ⟨RX12, "passes", "([II)V"⟩
abbrev cX12_tries : ByteArray := prog_14_method_41_code
def yX12_tries : MethodName := ⟨RX12, "tries", "(I)V"⟩
abbrev cX12_notes : ByteArray := prog_14_method_42_code
def yX12_notes : MethodName := ⟨RX12, "notes", "()V"⟩
abbrev cX12_minutes : ByteArray := prog_14_method_43_code
def yX12_minutes : MethodName := ⟨RX12, "minutes", "(I)I"⟩
abbrev cX12_walk : ByteArray := prog_14_method_44_code
def yX12_walk : MethodName := ⟨RX12, "walk", "(II)I"⟩
abbrev cX12_puts : ByteArray := prog_14_method_45_code
def yX12_puts : MethodName := ⟨RX12, "puts", "(II)I"⟩
abbrev cX12_preach : ByteArray := prog_14_method_46_code
def yX12_preach : MethodName := ⟨RX12, "preach", "(II)I"⟩
abbrev cX12_wish : ByteArray := prog_14_method_47_code
def yX12_wish : MethodName := ⟨RX12, "wish", "(II)I"⟩
abbrev cX12_undo : ByteArray := prog_14_method_48_code
def yX12_undo : MethodName := ⟨RX12, "undo", "()I"⟩
abbrev cX12_person : ByteArray := prog_14_method_49_code
def yX12_person : MethodName := ⟨RX12, "person", "(II)I"⟩
abbrev cX12_stop : ByteArray := prog_14_method_50_code
def yX12_stop : MethodName := ⟨RX12, "stop", "(II)I"⟩
abbrev cX12_where : ByteArray := prog_14_method_51_code
def yX12_where : MethodName := ⟨RX12, "where", "(II)I"⟩
abbrev cX12_tram : ByteArray := prog_14_method_52_code
def yX12_tram : MethodName := ⟨RX12, "tram", "(I)I"⟩
abbrev cX12_there : ByteArray := prog_14_method_53_code
def yX12_there : MethodName := ⟨RX12, "there", "(I)I"⟩
abbrev cX12_behind : ByteArray := prog_14_method_54_code
def yX12_behind : MethodName := ⟨RX12, "behind", "(III)I"⟩
abbrev cX12_when : ByteArray := prog_14_method_55_code
def yX12_when : MethodName := ⟨RX12, "when", "(I)I"⟩
abbrev cX12_all : ByteArray := prog_14_method_56_code
def yX12_all : MethodName := ⟨RX12, "all", "()I"⟩
abbrev cX12_never : ByteArray := prog_14_method_57_code
def yX12_never : MethodName := ⟨RX12, "never", "()I"⟩
abbrev cX12_holding : ByteArray := prog_14_method_58_code
def yX12_holding : MethodName := ⟨RX12, "holding", "()I"⟩
abbrev cX12_call : ByteArray := prog_14_method_59_code
def yX12_call : MethodName := ⟨RX12, "call", "(II)I"⟩
abbrev cX12_go : ByteArray := prog_14_method_60_code
def yX12_go : MethodName := ⟨RX12, "go", "(II)I"⟩
abbrev cX12_walkers : ByteArray := prog_14_method_61_code
def yX12_walkers : MethodName := ⟨RX12, "walkers", "(II)I"⟩
abbrev cX12_goesSo : ByteArray := prog_14_method_62_code
def yX12_goesSo : MethodName := ⟨RX12, "goesSo", "(II)Z"⟩
abbrev cX12_fits : ByteArray := prog_14_method_63_code
def yX12_fits : MethodName := ⟨RX12, "fits", "(IIIII)I"⟩
abbrev cX12_bounds : ByteArray := prog_14_method_64_code
def yX12_bounds : MethodName := ⟨RX12, "bounds", "(III)I"⟩
abbrev cX12_rain : ByteArray := prog_14_method_65_code
def yX12_rain : MethodName := ⟨RX12, "rain", "(III)I"⟩
abbrev cX12_drawn : ByteArray := prog_14_method_66_code
def yX12_drawn : MethodName := ⟨RX12, "drawn", "(III)I"⟩
abbrev cX12_image : ByteArray := prog_14_method_67_code
def yX12_image : MethodName := ⟨RX12, "image", "(I)I"⟩
abbrev cX12_restore : ByteArray := prog_14_method_68_code
def yX12_restore : MethodName := ⟨RX12, "restore", "(I)I"⟩
abbrev cX12_kindIn : ByteArray := prog_14_method_69_code
def yX12_kindIn : MethodName := ⟨RX12, "kindIn", "(I)I"⟩
abbrev cX12_kind : ByteArray := prog_14_method_70_code
def yX12_kind : MethodName := ⟨RX12, "kind", "(I)I"⟩
abbrev cX12_as : ByteArray := prog_14_method_71_code
def yX12_as : MethodName := ⟨RX12, "as", "(II)I"⟩
abbrev cX12_begins : ByteArray := prog_14_method_72_code
def yX12_begins : MethodName := ⟨RX12, "begins", "(I)V"⟩
abbrev cX12_plainMark : ByteArray := prog_14_method_73_code
def yX12_plainMark : MethodName := ⟨RX12, "plainMark", "(I)I"⟩
abbrev cX12_childSize : ByteArray := prog_14_method_74_code
def yX12_childSize : MethodName := ⟨RX12, "childSize", "(I)I"⟩
abbrev cX12_plainSize : ByteArray := prog_14_method_75_code
def yX12_plainSize : MethodName := ⟨RX12, "plainSize", "(I)I"⟩
abbrev cX12_childMark : ByteArray := prog_14_method_76_code
def yX12_childMark : MethodName := ⟨RX12, "childMark", "(I)I"⟩
abbrev cX12_ask : ByteArray := prog_14_method_77_code
def yX12_ask : MethodName := ⟨RX12, "ask", "(II)I"⟩
abbrev cX12_trace : ByteArray := prog_14_method_78_code
def yX12_trace : MethodName := ⟨RX12, "trace", "(I)I"⟩
abbrev cX12_count : ByteArray := prog_14_method_79_code
def yX12_count : MethodName := ⟨RX12, "count", "(I)I"⟩
abbrev cX12_status : ByteArray := prog_14_method_80_code
def yX12_status : MethodName := ⟨RX12, "status", "()I"⟩
def RJx145de : String := "java/io/Serializable"
def TJx145de : u_T := fun k => match k with
  | _ => ("", "", "", false)
def tyJx145de : Nat → FieldType := fun k => match k with
  | _ => .int
abbrev wsJx145de0 : List Cond := u_ws RJx145de TJx145de 0
theorem nmJx145de : ∀ a, a < 0 → ∀ b, b < 0 → a ≠ b → (TJx145de a).2.1 ≠ (TJx145de b).2.1 := by decide +kernel
theorem tyJx145de_ok : ∀ k, k < 0 → parseFieldDescriptor (TJx145de k).2.2.1 = some (tyJx145de k) := by decide +kernel
def RJx9f9b0 : String := "java/lang/CharSequence"
def TJx9f9b0 : u_T := fun k => match k with
  | _ => ("", "", "", false)
def tyJx9f9b0 : Nat → FieldType := fun k => match k with
  | _ => .int
abbrev wsJx9f9b00 : List Cond := u_ws RJx9f9b0 TJx9f9b0 0
theorem nmJx9f9b0 : ∀ a, a < 0 → ∀ b, b < 0 → a ≠ b → (TJx9f9b0 a).2.1 ≠ (TJx9f9b0 b).2.1 := by decide +kernel
theorem tyJx9f9b0_ok : ∀ k, k < 0 → parseFieldDescriptor (TJx9f9b0 k).2.2.1 = some (tyJx9f9b0 k) := by decide +kernel
def RJ11 : String := "java/lang/Character"
def TJ11 : u_T := fun k => match k with
  | _ => ("", "", "", false)
def tyJ11 : Nat → FieldType := fun k => match k with
  | _ => .int
abbrev wsJ110 : List Cond := u_ws RJ11 TJ11 0
theorem nmJ11 : ∀ a, a < 0 → ∀ b, b < 0 → a ≠ b → (TJ11 a).2.1 ≠ (TJ11 b).2.1 := by decide +kernel
theorem tyJ11_ok : ∀ k, k < 0 → parseFieldDescriptor (TJ11 k).2.2.1 = some (tyJ11 k) := by decide +kernel
abbrev cJ11_isValidCodePoint_9a6ad : ByteArray := prog_15_method_11_code
def yJ11_isValidCodePoint_9a6ad : MethodName := ⟨RJ11, "isValidCodePoint", "(I)Z"⟩
abbrev cJ11_highSurrogate_5068e : ByteArray := prog_15_method_28_code
def yJ11_highSurrogate_5068e : MethodName := ⟨RJ11, "highSurrogate", "(I)C"⟩
abbrev cJ11_lowSurrogate_5068e : ByteArray := prog_15_method_29_code
def yJ11_lowSurrogate_5068e : MethodName := ⟨RJ11, "lowSurrogate", "(I)C"⟩
def RJxb160c : String := "java/lang/Comparable"
def TJxb160c : u_T := fun k => match k with
  | _ => ("", "", "", false)
def tyJxb160c : Nat → FieldType := fun k => match k with
  | _ => .int
abbrev wsJxb160c0 : List Cond := u_ws RJxb160c TJxb160c 0
theorem nmJxb160c : ∀ a, a < 0 → ∀ b, b < 0 → a ≠ b → (TJxb160c a).2.1 ≠ (TJxb160c b).2.1 := by decide +kernel
theorem tyJxb160c_ok : ∀ k, k < 0 → parseFieldDescriptor (TJxb160c k).2.2.1 = some (tyJxb160c k) := by decide +kernel
def RJ6 : String := "java/lang/Integer"
def TJ6 : u_T := fun k => match k with
  | _ => ("", "", "", false)
def tyJ6 : Nat → FieldType := fun k => match k with
  | _ => .int
abbrev wsJ60 : List Cond := u_ws RJ6 TJ6 0
theorem nmJ6 : ∀ a, a < 0 → ∀ b, b < 0 → a ≠ b → (TJ6 a).2.1 ≠ (TJ6 b).2.1 := by decide +kernel
theorem tyJ6_ok : ∀ k, k < 0 → parseFieldDescriptor (TJ6 k).2.2.1 = some (tyJ6 k) := by decide +kernel
abbrev cJ6_bitCount_0f7a4 : ByteArray := prog_16_method_49_code
def yJ6_bitCount_0f7a4 : MethodName := ⟨RJ6, "bitCount", "(I)I"⟩
def RJ9 : String := "java/lang/Math"
def TJ9 : u_T := fun k => match k with
  | _ => ("", "", "", false)
def tyJ9 : Nat → FieldType := fun k => match k with
  | _ => .int
abbrev wsJ90 : List Cond := u_ws RJ9 TJ9 0
theorem nmJ9 : ∀ a, a < 0 → ∀ b, b < 0 → a ≠ b → (TJ9 a).2.1 ≠ (TJ9 b).2.1 := by decide +kernel
theorem tyJ9_ok : ∀ k, k < 0 → parseFieldDescriptor (TJ9 k).2.2.1 = some (tyJ9 k) := by decide +kernel
abbrev cJ9_max_7cf53 : ByteArray := prog_17_method_65_code
def yJ9_max_7cf53 : MethodName := ⟨RJ9, "max", "(II)I"⟩
abbrev cJ9_min_7cf53 : ByteArray := prog_17_method_69_code
def yJ9_min_7cf53 : MethodName := ⟨RJ9, "min", "(II)I"⟩
def RJ0 : String := "java/lang/String"
def TJ0 : u_T := fun k => match k with
  | _ => ("", "", "", false)
def tyJ0 : Nat → FieldType := fun k => match k with
  | _ => .int
abbrev wsJ00 : List Cond := u_ws RJ0 TJ0 0
theorem nmJ0 : ∀ a, a < 0 → ∀ b, b < 0 → a ≠ b → (TJ0 a).2.1 ≠ (TJ0 b).2.1 := by decide +kernel
theorem tyJ0_ok : ∀ k, k < 0 → parseFieldDescriptor (TJ0 k).2.2.1 = some (tyJ0 k) := by decide +kernel
abbrev cJ0_length_8abf5 : ByteArray := prog_18_method_54_code
def yJ0_length_8abf5 : MethodName := ⟨RJ0, "length", "()I"⟩
abbrev cJ0_indexOf_0f7a4 : ByteArray := prog_18_method_79_code
def yJ0_indexOf_0f7a4 : MethodName := ⟨RJ0, "indexOf", "(I)I"⟩
abbrev cJ0_indexOf_7cf53 : ByteArray := prog_18_method_80_code
def yJ0_indexOf_7cf53 : MethodName := ⟨RJ0, "indexOf", "(II)I"⟩
abbrev cJ0_coder_7d493 : ByteArray := prog_18_method_152_code
def yJ0_coder_7d493 : MethodName := ⟨RJ0, "coder", "()B"⟩
abbrev cJ0_isLatin1_aae02 : ByteArray := prog_18_method_154_code
def yJ0_isLatin1_aae02 : MethodName := ⟨RJ0, "isLatin1", "()Z"⟩
abbrev cJ0_checkBoundsBeginEnd_23922 : ByteArray := prog_18_method_158_code
def yJ0_checkBoundsBeginEnd_23922 : MethodName := ⟨RJ0, "checkBoundsBeginEnd", "(III)V"⟩
def RJ1 : String := "java/lang/StringLatin1"
def TJ1 : u_T := fun k => match k with
  | _ => ("", "", "", false)
def tyJ1 : Nat → FieldType := fun k => match k with
  | _ => .int
abbrev wsJ10 : List Cond := u_ws RJ1 TJ1 0
theorem nmJ1 : ∀ a, a < 0 → ∀ b, b < 0 → a ≠ b → (TJ1 a).2.1 ≠ (TJ1 b).2.1 := by decide +kernel
theorem tyJ1_ok : ∀ k, k < 0 → parseFieldDescriptor (TJ1 k).2.2.1 = some (tyJ1 k) := by decide +kernel
abbrev cJ1_canEncode_9a6ad : ByteArray := prog_19_method_4_code
def yJ1_canEncode_9a6ad : MethodName := ⟨RJ1, "canEncode", "(I)Z"⟩
abbrev cJ1_indexOf_4cfef : ByteArray := prog_19_method_22_code
def yJ1_indexOf_4cfef : MethodName := ⟨RJ1, "indexOf", "([BIII)I"⟩
abbrev cJ1_indexOfChar_4cfef : ByteArray := prog_19_method_23_code
def yJ1_indexOfChar_4cfef : MethodName := ⟨RJ1, "indexOfChar", "([BIII)I"⟩
def RJ2 : String := "java/lang/StringUTF16"
def TJ2 : u_T := fun k => match k with
  | _ => ("", "", "", false)
def tyJ2 : Nat → FieldType := fun k => match k with
  | _ => .int
abbrev wsJ20 : List Cond := u_ws RJ2 TJ2 0
theorem nmJ2 : ∀ a, a < 0 → ∀ b, b < 0 → a ≠ b → (TJ2 a).2.1 ≠ (TJ2 b).2.1 := by decide +kernel
theorem tyJ2_ok : ∀ k, k < 0 → parseFieldDescriptor (TJ2 k).2.2.1 = some (tyJ2 k) := by decide +kernel
abbrev cJ2_getChar_3b067 : ByteArray := prog_20_method_5_code
def yJ2_getChar_3b067 : MethodName := ⟨RJ2, "getChar", "([BI)C"⟩
abbrev cJ2_length_9d52b : ByteArray := prog_20_method_6_code
def yJ2_length_9d52b : MethodName := ⟨RJ2, "length", "([B)I"⟩
abbrev cJ2_indexOf_4cfef : ByteArray := prog_20_method_40_code
def yJ2_indexOf_4cfef : MethodName := ⟨RJ2, "indexOf", "([BIII)I"⟩
abbrev cJ2_indexOfChar_4cfef : ByteArray := prog_20_method_47_code
def yJ2_indexOfChar_4cfef : MethodName := ⟨RJ2, "indexOfChar", "([BIII)I"⟩
abbrev cJ2_indexOfCharUnsafe_4cfef : ByteArray := prog_20_method_48_code
def yJ2_indexOfCharUnsafe_4cfef : MethodName := ⟨RJ2, "indexOfCharUnsafe", "([BIII)I"⟩
abbrev cJ2_indexOfSupplementary_4cfef : ByteArray := prog_20_method_49_code
def yJ2_indexOfSupplementary_4cfef : MethodName := ⟨RJ2, "indexOfSupplementary", "([BIII)I"⟩
abbrev cJ2_checkBoundsBeginEnd_d044e : ByteArray := prog_20_method_93_code
def yJ2_checkBoundsBeginEnd_d044e : MethodName := ⟨RJ2, "checkBoundsBeginEnd", "(II[B)V"⟩
def RJ10 : String := "java/lang/System"
def TJ10 : u_T := fun k => match k with
  | _ => ("", "", "", false)
def tyJ10 : Nat → FieldType := fun k => match k with
  | _ => .int
abbrev wsJ100 : List Cond := u_ws RJ10 TJ10 0
theorem nmJ10 : ∀ a, a < 0 → ∀ b, b < 0 → a ≠ b → (TJ10 a).2.1 ≠ (TJ10 b).2.1 := by decide +kernel
theorem tyJ10_ok : ∀ k, k < 0 → parseFieldDescriptor (TJ10 k).2.2.1 = some (tyJ10 k) := by decide +kernel
def RJxfd54e : String := "java/lang/constant/Constable"
def TJxfd54e : u_T := fun k => match k with
  | _ => ("", "", "", false)
def tyJxfd54e : Nat → FieldType := fun k => match k with
  | _ => .int
abbrev wsJxfd54e0 : List Cond := u_ws RJxfd54e TJxfd54e 0
theorem nmJxfd54e : ∀ a, a < 0 → ∀ b, b < 0 → a ≠ b → (TJxfd54e a).2.1 ≠ (TJxfd54e b).2.1 := by decide +kernel
theorem tyJxfd54e_ok : ∀ k, k < 0 → parseFieldDescriptor (TJxfd54e k).2.2.1 = some (tyJxfd54e k) := by decide +kernel
def RJx3cf43 : String := "java/lang/constant/ConstantDesc"
def TJx3cf43 : u_T := fun k => match k with
  | _ => ("", "", "", false)
def tyJx3cf43 : Nat → FieldType := fun k => match k with
  | _ => .int
abbrev wsJx3cf430 : List Cond := u_ws RJx3cf43 TJx3cf43 0
theorem nmJx3cf43 : ∀ a, a < 0 → ∀ b, b < 0 → a ≠ b → (TJx3cf43 a).2.1 ≠ (TJx3cf43 b).2.1 := by decide +kernel
theorem tyJx3cf43_ok : ∀ k, k < 0 → parseFieldDescriptor (TJx3cf43 k).2.2.1 = some (tyJx3cf43 k) := by decide +kernel
def RJ7 : String := "java/util/Arrays"
def TJ7 : u_T := fun k => match k with
  | _ => ("", "", "", false)
def tyJ7 : Nat → FieldType := fun k => match k with
  | _ => .int
abbrev wsJ70 : List Cond := u_ws RJ7 TJ7 0
theorem nmJ7 : ∀ a, a < 0 → ∀ b, b < 0 → a ≠ b → (TJ7 a).2.1 ≠ (TJ7 b).2.1 := by decide +kernel
theorem tyJ7_ok : ∀ k, k < 0 → parseFieldDescriptor (TJ7 k).2.2.1 = some (tyJ7 k) := by decide +kernel
abbrev cJ7_fill_53178 : ByteArray := prog_22_method_103_code
def yJ7_fill_53178 : MethodName := ⟨RJ7, "fill", "([II)V"⟩
def RJ3 : String := "jdk/internal/util/Preconditions"
def TJ3 : u_T := fun k => match k with
  | _ => ("", "", "", false)
def tyJ3 : Nat → FieldType := fun k => match k with
  | _ => .int
abbrev wsJ30 : List Cond := u_ws RJ3 TJ3 0
theorem nmJ3 : ∀ a, a < 0 → ∀ b, b < 0 → a ≠ b → (TJ3 a).2.1 ≠ (TJ3 b).2.1 := by decide +kernel
theorem tyJ3_ok : ∀ k, k < 0 → parseFieldDescriptor (TJ3 k).2.2.1 = some (tyJ3 k) := by decide +kernel
abbrev cJ3_checkFromToIndex_8c36e : ByteArray := prog_23_method_12_code
def yJ3_checkFromToIndex_8c36e : MethodName := ⟨RJ3, "checkFromToIndex", "(IIILjava/util/function/BiFunction;)I"⟩
def RL : String := "TramFaithLaw"
abbrev cL_law : ByteArray := code
def yL_law : MethodName := ⟨RL, "law", "([I)Z"⟩
abbrev vwCl : List vw_C := [(RX0, TX0, 5), (RX1, TX1, 0), (RX2, TX2, 0), (RX3, TX3, 0), (RX4, TX4, 12), (RX5, TX5, 3), (RX6, TX6, 0), (RX7, TX7, 0), (RX8, TX8, 3), (RX9, TX9, 6), (RX11, TX11, 9), (RX12, TX12, 22)]
theorem goodIn_rr {big : List Cond} (ws : List Cond) (ps : List Nat) (hp : ws = ps.filterMap (fun i => big[i]?)) : ∀ w ∈ ws, w ∈ big := by
  intro w hw
  rw [hp] at hw
  obtain ⟨i, -, hi⟩ := List.mem_filterMap.mp hw
  exact List.mem_of_getElem? hi
theorem inX0 : ∀ w ∈ wsX00, w ∈ lw_tbl := fun w h => (goodIn_rr wsX00 [263, 265, 267, 269, 271] (by decide +kernel) w h)
theorem inX1 : ∀ w ∈ wsX10, w ∈ lw_tbl := fun w h => (goodIn_rr wsX10 [] (by decide +kernel) w h)
theorem inX2 : ∀ w ∈ wsX20, w ∈ lw_tbl := fun w h => (goodIn_rr wsX20 [] (by decide +kernel) w h)
theorem inX3 : ∀ w ∈ wsX30, w ∈ lw_tbl := fun w h => (goodIn_rr wsX30 [] (by decide +kernel) w h)
theorem inX4 : ∀ w ∈ wsX40, w ∈ lw_tbl := fun w h => (goodIn_rr wsX40 [206, 208, 210, 212, 214, 216, 218, 220, 222, 224, 226, 228] (by decide +kernel) w h)
theorem inX5 : ∀ w ∈ wsX50, w ∈ lw_tbl := fun w h => (goodIn_rr wsX50 [242, 244, 246] (by decide +kernel) w h)
theorem inX6 : ∀ w ∈ wsX60, w ∈ lw_tbl := fun w h => (goodIn_rr wsX60 [] (by decide +kernel) w h)
theorem inX7 : ∀ w ∈ wsX70, w ∈ lw_tbl := fun w h => (goodIn_rr wsX70 [] (by decide +kernel) w h)
theorem inX8 : ∀ w ∈ wsX80, w ∈ lw_tbl := fun w h => (goodIn_rr wsX80 [137, 139, 141] (by decide +kernel) w h)
theorem inX9 : ∀ w ∈ wsX90, w ∈ lw_tbl := fun w h => (goodIn_rr wsX90 [160, 162, 164, 166, 168, 170] (by decide +kernel) w h)
theorem inX10 : ∀ w ∈ wsX100, w ∈ lw_tbl := fun w h => (goodIn_rr wsX100 [] (by decide +kernel) w h)
theorem inX11 : ∀ w ∈ wsX110, w ∈ lw_tbl := fun w h => (goodIn_rr wsX110 [283, 285, 287, 289, 291, 293, 295, 297, 299] (by decide +kernel) w h)
theorem inX12 : ∀ w ∈ wsX120, w ∈ lw_tbl := fun w h => (goodIn_rr wsX120 [906, 908, 910, 912, 914, 916, 918, 920, 922, 924, 926, 928, 930, 932, 934, 936, 938, 940, 942, 944, 946, 948] (by decide +kernel) w h)
end
section
theorem dX0_init_0 : decode cX0_init 0 = .ok (.aload_n 0, 1) := by decide +kernel
theorem dX0_init_1 : decode cX0_init 1 = .ok (.invokespecial 3, 3) := by decide +kernel
theorem dX0_init_4 : decode cX0_init 4 = .ok (.aload_n 0, 1) := by decide +kernel
theorem dX0_init_5 : decode cX0_init 5 = .ok (.bipush 16, 2) := by decide +kernel
theorem dX0_init_7 : decode cX0_init 7 = .ok (.newarray .int, 2) := by decide +kernel
theorem dX0_init_9 : decode cX0_init 9 = .ok (.putfield 9, 3) := by decide +kernel
theorem dX0_init_12 : decode cX0_init 12 = .ok (.return_, 1) := by decide +kernel
theorem dX0_beginAbout_0 : decode cX0_beginAbout 0 = .ok (.aload_n 0, 1) := by decide +kernel
theorem dX0_beginAbout_1 : decode cX0_beginAbout 1 = .ok (.iload_n 1, 1) := by decide +kernel
theorem dX0_beginAbout_2 : decode cX0_beginAbout 2 = .ok (.putfield 15, 3) := by decide +kernel
theorem dX0_beginAbout_5 : decode cX0_beginAbout 5 = .ok (.aload_n 0, 1) := by decide +kernel
theorem dX0_beginAbout_6 : decode cX0_beginAbout 6 = .ok (.iload_n 2, 1) := by decide +kernel
theorem dX0_beginAbout_7 : decode cX0_beginAbout 7 = .ok (.putfield 19, 3) := by decide +kernel
theorem dX0_beginAbout_10 : decode cX0_beginAbout 10 = .ok (.aload_n 0, 1) := by decide +kernel
theorem dX0_beginAbout_11 : decode cX0_beginAbout 11 = .ok (.iload_n 3, 1) := by decide +kernel
theorem dX0_beginAbout_12 : decode cX0_beginAbout 12 = .ok (.putfield 22, 3) := by decide +kernel
theorem dX0_beginAbout_15 : decode cX0_beginAbout 15 = .ok (.aload_n 0, 1) := by decide +kernel
theorem dX0_beginAbout_16 : decode cX0_beginAbout 16 = .ok (.iconst 0, 1) := by decide +kernel
theorem dX0_beginAbout_17 : decode cX0_beginAbout 17 = .ok (.putfield 25, 3) := by decide +kernel
theorem dX0_beginAbout_20 : decode cX0_beginAbout 20 = .ok (.return_, 1) := by decide +kernel
theorem dX0_leave_0 : decode cX0_leave 0 = .ok (.aload_n 0, 1) := by decide +kernel
theorem dX0_leave_1 : decode cX0_leave 1 = .ok (.getfield 25, 3) := by decide +kernel
theorem dX0_leave_4 : decode cX0_leave 4 = .ok (.bipush 16, 2) := by decide +kernel
theorem dX0_leave_6 : decode cX0_leave 6 = .ok (.if_icmp .ge 23, 3) := by decide +kernel
theorem dX0_leave_9 : decode cX0_leave 9 = .ok (.aload_n 0, 1) := by decide +kernel
theorem dX0_leave_10 : decode cX0_leave 10 = .ok (.getfield 9, 3) := by decide +kernel
theorem dX0_leave_13 : decode cX0_leave 13 = .ok (.aload_n 0, 1) := by decide +kernel
theorem dX0_leave_14 : decode cX0_leave 14 = .ok (.getfield 25, 3) := by decide +kernel
theorem dX0_leave_17 : decode cX0_leave 17 = .ok (.iload_n 1, 1) := by decide +kernel
theorem dX0_leave_18 : decode cX0_leave 18 = .ok (.iastore, 1) := by decide +kernel
theorem dX0_leave_19 : decode cX0_leave 19 = .ok (.aload_n 0, 1) := by decide +kernel
theorem dX0_leave_20 : decode cX0_leave 20 = .ok (.dup, 1) := by decide +kernel
theorem dX0_leave_21 : decode cX0_leave 21 = .ok (.getfield 25, 3) := by decide +kernel
theorem dX0_leave_24 : decode cX0_leave 24 = .ok (.iconst 1, 1) := by decide +kernel
theorem dX0_leave_25 : decode cX0_leave 25 = .ok (.iadd, 1) := by decide +kernel
theorem dX0_leave_26 : decode cX0_leave 26 = .ok (.putfield 25, 3) := by decide +kernel
theorem dX0_leave_29 : decode cX0_leave 29 = .ok (.return_, 1) := by decide +kernel
theorem dX0_bodyAt_0 : decode cX0_bodyAt 0 = .ok (.iload_n 1, 1) := by decide +kernel
theorem dX0_bodyAt_1 : decode cX0_bodyAt 1 = .ok (.iconst 0, 1) := by decide +kernel
theorem dX0_bodyAt_2 : decode cX0_bodyAt 2 = .ok (.aload_n 0, 1) := by decide +kernel
theorem dX0_bodyAt_3 : decode cX0_bodyAt 3 = .ok (.getfield 25, 3) := by decide +kernel
theorem dX0_bodyAt_6 : decode cX0_bodyAt 6 = .ok (.iconst 1, 1) := by decide +kernel
theorem dX0_bodyAt_7 : decode cX0_bodyAt 7 = .ok (.isub, 1) := by decide +kernel
theorem dX0_bodyAt_8 : decode cX0_bodyAt 8 = .ok (.invokestatic 28, 3) := by decide +kernel
theorem dX0_bodyAt_11 : decode cX0_bodyAt 11 = .ok (.ifCond .eq 12, 3) := by decide +kernel
theorem dX0_bodyAt_14 : decode cX0_bodyAt 14 = .ok (.aload_n 0, 1) := by decide +kernel
theorem dX0_bodyAt_15 : decode cX0_bodyAt 15 = .ok (.getfield 9, 3) := by decide +kernel
theorem dX0_bodyAt_18 : decode cX0_bodyAt 18 = .ok (.iload_n 1, 1) := by decide +kernel
theorem dX0_bodyAt_19 : decode cX0_bodyAt 19 = .ok (.iaload, 1) := by decide +kernel
theorem dX0_bodyAt_20 : decode cX0_bodyAt 20 = .ok (.goto 5, 3) := by decide +kernel
theorem dX0_bodyAt_23 : decode cX0_bodyAt 23 = .ok (.ldc 32, 2) := by decide +kernel
theorem dX0_bodyAt_25 : decode cX0_bodyAt 25 = .ok (.ireturn, 1) := by decide +kernel
theorem dX1_init_0 : decode cX1_init 0 = .ok (.aload_n 0, 1) := by decide +kernel
theorem dX1_init_1 : decode cX1_init 1 = .ok (.invokespecial 1, 3) := by decide +kernel
theorem dX1_init_4 : decode cX1_init 4 = .ok (.return_, 1) := by decide +kernel
theorem dX1_hopesBy_0 : decode cX1_hopesBy 0 = .ok (.iconst 3, 1) := by decide +kernel
theorem dX1_hopesBy_1 : decode cX1_hopesBy 1 = .ok (.ireturn, 1) := by decide +kernel
theorem dX1_askSize_0 : decode cX1_askSize 0 = .ok (.aload_n 1, 1) := by decide +kernel
theorem dX1_askSize_1 : decode cX1_askSize 1 = .ok (.bipush 13, 2) := by decide +kernel
theorem dX1_askSize_3 : decode cX1_askSize 3 = .ok (.invokevirtual 7, 3) := by decide +kernel
theorem dX1_askSize_6 : decode cX1_askSize 6 = .ok (.aload_n 0, 1) := by decide +kernel
theorem dX1_askSize_7 : decode cX1_askSize 7 = .ok (.aload_n 1, 1) := by decide +kernel
theorem dX1_askSize_8 : decode cX1_askSize 8 = .ok (.invokespecial 13, 3) := by decide +kernel
theorem dX1_askSize_11 : decode cX1_askSize 11 = .ok (.bipush 100, 2) := by decide +kernel
theorem dX1_askSize_13 : decode cX1_askSize 13 = .ok (.isub, 1) := by decide +kernel
theorem dX1_askSize_14 : decode cX1_askSize 14 = .ok (.ireturn, 1) := by decide +kernel
theorem dX1_askMark_0 : decode cX1_askMark 0 = .ok (.aload_n 1, 1) := by decide +kernel
theorem dX1_askMark_1 : decode cX1_askMark 1 = .ok (.bipush 23, 2) := by decide +kernel
theorem dX1_askMark_3 : decode cX1_askMark 3 = .ok (.invokevirtual 7, 3) := by decide +kernel
theorem dX1_askMark_6 : decode cX1_askMark 6 = .ok (.aload_n 0, 1) := by decide +kernel
theorem dX1_askMark_7 : decode cX1_askMark 7 = .ok (.aload_n 1, 1) := by decide +kernel
theorem dX1_askMark_8 : decode cX1_askMark 8 = .ok (.invokespecial 17, 3) := by decide +kernel
theorem dX1_askMark_11 : decode cX1_askMark 11 = .ok (.aload_n 0, 1) := by decide +kernel
theorem dX1_askMark_12 : decode cX1_askMark 12 = .ok (.aload_n 1, 1) := by decide +kernel
theorem dX1_askMark_13 : decode cX1_askMark 13 = .ok (.invokevirtual 20, 3) := by decide +kernel
theorem dX1_askMark_16 : decode cX1_askMark 16 = .ok (.isub, 1) := by decide +kernel
theorem dX1_askMark_17 : decode cX1_askMark 17 = .ok (.ireturn, 1) := by decide +kernel
theorem dX2_init_0 : decode cX2_init 0 = .ok (.aload_n 0, 1) := by decide +kernel
theorem dX2_init_1 : decode cX2_init 1 = .ok (.invokespecial 1, 3) := by decide +kernel
theorem dX2_init_4 : decode cX2_init 4 = .ok (.return_, 1) := by decide +kernel
theorem dX2_hopesBy_0 : decode cX2_hopesBy 0 = .ok (.iload_n 1, 1) := by decide +kernel
theorem dX2_hopesBy_1 : decode cX2_hopesBy 1 = .ok (.iload_n 3, 1) := by decide +kernel
theorem dX2_hopesBy_2 : decode cX2_hopesBy 2 = .ok (.iadd, 1) := by decide +kernel
theorem dX2_hopesBy_3 : decode cX2_hopesBy 3 = .ok (.ireturn, 1) := by decide +kernel
theorem dX2_askSize_0 : decode cX2_askSize 0 = .ok (.aload_n 1, 1) := by decide +kernel
theorem dX2_askSize_1 : decode cX2_askSize 1 = .ok (.bipush 12, 2) := by decide +kernel
theorem dX2_askSize_3 : decode cX2_askSize 3 = .ok (.invokevirtual 7, 3) := by decide +kernel
theorem dX2_askSize_6 : decode cX2_askSize 6 = .ok (.aload_n 0, 1) := by decide +kernel
theorem dX2_askSize_7 : decode cX2_askSize 7 = .ok (.aload_n 1, 1) := by decide +kernel
theorem dX2_askSize_8 : decode cX2_askSize 8 = .ok (.invokespecial 13, 3) := by decide +kernel
theorem dX2_askSize_11 : decode cX2_askSize 11 = .ok (.ineg, 1) := by decide +kernel
theorem dX2_askSize_12 : decode cX2_askSize 12 = .ok (.ireturn, 1) := by decide +kernel
theorem dX2_askMark_0 : decode cX2_askMark 0 = .ok (.aload_n 1, 1) := by decide +kernel
theorem dX2_askMark_1 : decode cX2_askMark 1 = .ok (.bipush 24, 2) := by decide +kernel
theorem dX2_askMark_3 : decode cX2_askMark 3 = .ok (.invokevirtual 7, 3) := by decide +kernel
theorem dX2_askMark_6 : decode cX2_askMark 6 = .ok (.iconst 2, 1) := by decide +kernel
theorem dX2_askMark_7 : decode cX2_askMark 7 = .ok (.aload_n 0, 1) := by decide +kernel
theorem dX2_askMark_8 : decode cX2_askMark 8 = .ok (.aload_n 1, 1) := by decide +kernel
theorem dX2_askMark_9 : decode cX2_askMark 9 = .ok (.invokespecial 17, 3) := by decide +kernel
theorem dX2_askMark_12 : decode cX2_askMark 12 = .ok (.imul, 1) := by decide +kernel
theorem dX2_askMark_13 : decode cX2_askMark 13 = .ok (.ireturn, 1) := by decide +kernel
theorem dX3_init_0 : decode cX3_init 0 = .ok (.aload_n 0, 1) := by decide +kernel
theorem dX3_init_1 : decode cX3_init 1 = .ok (.invokespecial 1, 3) := by decide +kernel
theorem dX3_init_4 : decode cX3_init 4 = .ok (.return_, 1) := by decide +kernel
theorem dX3_hopesBy_0 : decode cX3_hopesBy 0 = .ok (.iload_n 1, 1) := by decide +kernel
theorem dX3_hopesBy_1 : decode cX3_hopesBy 1 = .ok (.iload_n 2, 1) := by decide +kernel
theorem dX3_hopesBy_2 : decode cX3_hopesBy 2 = .ok (.if_icmp .le 9, 3) := by decide +kernel
theorem dX3_hopesBy_5 : decode cX3_hopesBy 5 = .ok (.iload_n 1, 1) := by decide +kernel
theorem dX3_hopesBy_6 : decode cX3_hopesBy 6 = .ok (.iload_n 2, 1) := by decide +kernel
theorem dX3_hopesBy_7 : decode cX3_hopesBy 7 = .ok (.isub, 1) := by decide +kernel
theorem dX3_hopesBy_8 : decode cX3_hopesBy 8 = .ok (.goto 4, 3) := by decide +kernel
theorem dX3_hopesBy_11 : decode cX3_hopesBy 11 = .ok (.iconst 0, 1) := by decide +kernel
theorem dX3_hopesBy_12 : decode cX3_hopesBy 12 = .ok (.ireturn, 1) := by decide +kernel
theorem dX3_askMark_0 : decode cX3_askMark 0 = .ok (.aload_n 1, 1) := by decide +kernel
theorem dX3_askMark_1 : decode cX3_askMark 1 = .ok (.bipush 22, 2) := by decide +kernel
theorem dX3_askMark_3 : decode cX3_askMark 3 = .ok (.invokevirtual 7, 3) := by decide +kernel
theorem dX3_askMark_6 : decode cX3_askMark 6 = .ok (.aload_n 0, 1) := by decide +kernel
theorem dX3_askMark_7 : decode cX3_askMark 7 = .ok (.aload_n 1, 1) := by decide +kernel
theorem dX3_askMark_8 : decode cX3_askMark 8 = .ok (.invokespecial 13, 3) := by decide +kernel
theorem dX3_askMark_11 : decode cX3_askMark 11 = .ok (.sipush 1000, 3) := by decide +kernel
theorem dX3_askMark_14 : decode cX3_askMark 14 = .ok (.isub, 1) := by decide +kernel
theorem dX3_askMark_15 : decode cX3_askMark 15 = .ok (.ireturn, 1) := by decide +kernel
theorem dX4_init_0 : decode cX4_init 0 = .ok (.aload_n 0, 1) := by decide +kernel
theorem dX4_init_1 : decode cX4_init 1 = .ok (.invokespecial 3, 3) := by decide +kernel
theorem dX4_init_4 : decode cX4_init 4 = .ok (.aload_n 0, 1) := by decide +kernel
theorem dX4_init_5 : decode cX4_init 5 = .ok (.bipush 6, 2) := by decide +kernel
theorem dX4_init_7 : decode cX4_init 7 = .ok (.newarray .int, 2) := by decide +kernel
theorem dX4_init_9 : decode cX4_init 9 = .ok (.putfield 9, 3) := by decide +kernel
theorem dX4_init_12 : decode cX4_init 12 = .ok (.aload_n 0, 1) := by decide +kernel
theorem dX4_init_13 : decode cX4_init 13 = .ok (.bipush 6, 2) := by decide +kernel
theorem dX4_init_15 : decode cX4_init 15 = .ok (.newarray .int, 2) := by decide +kernel
theorem dX4_init_17 : decode cX4_init 17 = .ok (.putfield 15, 3) := by decide +kernel
theorem dX4_init_20 : decode cX4_init 20 = .ok (.aload_n 0, 1) := by decide +kernel
theorem dX4_init_21 : decode cX4_init 21 = .ok (.bipush 6, 2) := by decide +kernel
theorem dX4_init_23 : decode cX4_init 23 = .ok (.newarray .int, 2) := by decide +kernel
theorem dX4_init_25 : decode cX4_init 25 = .ok (.putfield 18, 3) := by decide +kernel
theorem dX4_init_28 : decode cX4_init 28 = .ok (.aload_n 0, 1) := by decide +kernel
theorem dX4_init_29 : decode cX4_init 29 = .ok (.bipush 6, 2) := by decide +kernel
theorem dX4_init_31 : decode cX4_init 31 = .ok (.newarray .int, 2) := by decide +kernel
theorem dX4_init_33 : decode cX4_init 33 = .ok (.putfield 21, 3) := by decide +kernel
theorem dX4_init_36 : decode cX4_init 36 = .ok (.aload_n 0, 1) := by decide +kernel
theorem dX4_init_37 : decode cX4_init 37 = .ok (.bipush 6, 2) := by decide +kernel
theorem dX4_init_39 : decode cX4_init 39 = .ok (.newarray .int, 2) := by decide +kernel
theorem dX4_init_41 : decode cX4_init 41 = .ok (.putfield 24, 3) := by decide +kernel
theorem dX4_init_44 : decode cX4_init 44 = .ok (.aload_n 0, 1) := by decide +kernel
theorem dX4_init_45 : decode cX4_init 45 = .ok (.bipush 8, 2) := by decide +kernel
theorem dX4_init_47 : decode cX4_init 47 = .ok (.newarray .int, 2) := by decide +kernel
theorem dX4_init_49 : decode cX4_init 49 = .ok (.putfield 27, 3) := by decide +kernel
theorem dX4_init_52 : decode cX4_init 52 = .ok (.aload_n 0, 1) := by decide +kernel
theorem dX4_init_53 : decode cX4_init 53 = .ok (.bipush 8, 2) := by decide +kernel
theorem dX4_init_55 : decode cX4_init 55 = .ok (.newarray .int, 2) := by decide +kernel
theorem dX4_init_57 : decode cX4_init 57 = .ok (.putfield 30, 3) := by decide +kernel
theorem dX4_init_60 : decode cX4_init 60 = .ok (.aload_n 0, 1) := by decide +kernel
theorem dX4_init_61 : decode cX4_init 61 = .ok (.aload_n 1, 1) := by decide +kernel
theorem dX4_init_62 : decode cX4_init 62 = .ok (.putfield 33, 3) := by decide +kernel
theorem dX4_init_65 : decode cX4_init 65 = .ok (.return_, 1) := by decide +kernel
theorem dX4_begin_0 : decode cX4_begin 0 = .ok (.aload_n 0, 1) := by decide +kernel
theorem dX4_begin_1 : decode cX4_begin 1 = .ok (.iload_n 1, 1) := by decide +kernel
theorem dX4_begin_2 : decode cX4_begin 2 = .ok (.putfield 37, 3) := by decide +kernel
theorem dX4_begin_5 : decode cX4_begin 5 = .ok (.aload_n 0, 1) := by decide +kernel
theorem dX4_begin_6 : decode cX4_begin 6 = .ok (.iload_n 2, 1) := by decide +kernel
theorem dX4_begin_7 : decode cX4_begin 7 = .ok (.putfield 41, 3) := by decide +kernel
theorem dX4_begin_10 : decode cX4_begin 10 = .ok (.aload_n 0, 1) := by decide +kernel
theorem dX4_begin_11 : decode cX4_begin 11 = .ok (.iconst 0, 1) := by decide +kernel
theorem dX4_begin_12 : decode cX4_begin 12 = .ok (.putfield 44, 3) := by decide +kernel
theorem dX4_begin_15 : decode cX4_begin 15 = .ok (.aload_n 0, 1) := by decide +kernel
theorem dX4_begin_16 : decode cX4_begin 16 = .ok (.iconst 0, 1) := by decide +kernel
theorem dX4_begin_17 : decode cX4_begin 17 = .ok (.putfield 47, 3) := by decide +kernel
theorem dX4_begin_20 : decode cX4_begin 20 = .ok (.return_, 1) := by decide +kernel
theorem dX4_add_0 : decode cX4_add 0 = .ok (.aload_n 0, 1) := by decide +kernel
theorem dX4_add_1 : decode cX4_add 1 = .ok (.getfield 44, 3) := by decide +kernel
theorem dX4_add_4 : decode cX4_add 4 = .ok (.bipush 6, 2) := by decide +kernel
theorem dX4_add_6 : decode cX4_add 6 = .ok (.if_icmp .ge 64, 3) := by decide +kernel
theorem dX4_add_9 : decode cX4_add 9 = .ok (.aload_n 0, 1) := by decide +kernel
theorem dX4_add_10 : decode cX4_add 10 = .ok (.getfield 9, 3) := by decide +kernel
theorem dX4_add_13 : decode cX4_add 13 = .ok (.aload_n 0, 1) := by decide +kernel
theorem dX4_add_14 : decode cX4_add 14 = .ok (.getfield 44, 3) := by decide +kernel
theorem dX4_add_17 : decode cX4_add 17 = .ok (.iload_n 1, 1) := by decide +kernel
theorem dX4_add_18 : decode cX4_add 18 = .ok (.iastore, 1) := by decide +kernel
theorem dX4_add_19 : decode cX4_add 19 = .ok (.aload_n 0, 1) := by decide +kernel
theorem dX4_add_20 : decode cX4_add 20 = .ok (.getfield 15, 3) := by decide +kernel
theorem dX4_add_23 : decode cX4_add 23 = .ok (.aload_n 0, 1) := by decide +kernel
theorem dX4_add_24 : decode cX4_add 24 = .ok (.getfield 44, 3) := by decide +kernel
theorem dX4_add_27 : decode cX4_add 27 = .ok (.iload_n 2, 1) := by decide +kernel
theorem dX4_add_28 : decode cX4_add 28 = .ok (.iastore, 1) := by decide +kernel
theorem dX4_add_29 : decode cX4_add 29 = .ok (.aload_n 0, 1) := by decide +kernel
theorem dX4_add_30 : decode cX4_add 30 = .ok (.getfield 18, 3) := by decide +kernel
theorem dX4_add_33 : decode cX4_add 33 = .ok (.aload_n 0, 1) := by decide +kernel
theorem dX4_add_34 : decode cX4_add 34 = .ok (.getfield 44, 3) := by decide +kernel
theorem dX4_add_37 : decode cX4_add 37 = .ok (.iload_n 3, 1) := by decide +kernel
theorem dX4_add_38 : decode cX4_add 38 = .ok (.iastore, 1) := by decide +kernel
theorem dX4_add_39 : decode cX4_add 39 = .ok (.aload_n 0, 1) := by decide +kernel
theorem dX4_add_40 : decode cX4_add 40 = .ok (.getfield 21, 3) := by decide +kernel
theorem dX4_add_43 : decode cX4_add 43 = .ok (.aload_n 0, 1) := by decide +kernel
theorem dX4_add_44 : decode cX4_add 44 = .ok (.getfield 44, 3) := by decide +kernel
theorem dX4_add_47 : decode cX4_add 47 = .ok (.iload 4, 2) := by decide +kernel
theorem dX4_add_49 : decode cX4_add 49 = .ok (.iastore, 1) := by decide +kernel
theorem dX4_add_50 : decode cX4_add 50 = .ok (.aload_n 0, 1) := by decide +kernel
theorem dX4_add_51 : decode cX4_add 51 = .ok (.getfield 24, 3) := by decide +kernel
theorem dX4_add_54 : decode cX4_add 54 = .ok (.aload_n 0, 1) := by decide +kernel
theorem dX4_add_55 : decode cX4_add 55 = .ok (.getfield 44, 3) := by decide +kernel
theorem dX4_add_58 : decode cX4_add 58 = .ok (.iconst 0, 1) := by decide +kernel
theorem dX4_add_59 : decode cX4_add 59 = .ok (.iastore, 1) := by decide +kernel
theorem dX4_add_60 : decode cX4_add 60 = .ok (.aload_n 0, 1) := by decide +kernel
theorem dX4_add_61 : decode cX4_add 61 = .ok (.dup, 1) := by decide +kernel
theorem dX4_add_62 : decode cX4_add 62 = .ok (.getfield 44, 3) := by decide +kernel
theorem dX4_add_65 : decode cX4_add 65 = .ok (.iconst 1, 1) := by decide +kernel
theorem dX4_add_66 : decode cX4_add 66 = .ok (.iadd, 1) := by decide +kernel
theorem dX4_add_67 : decode cX4_add 67 = .ok (.putfield 44, 3) := by decide +kernel
theorem dX4_add_70 : decode cX4_add 70 = .ok (.return_, 1) := by decide +kernel
theorem dX4_become_0 : decode cX4_become 0 = .ok (.aload_n 0, 1) := by decide +kernel
theorem dX4_become_1 : decode cX4_become 1 = .ok (.aload_n 1, 1) := by decide +kernel
theorem dX4_become_2 : decode cX4_become 2 = .ok (.getfield 37, 3) := by decide +kernel
theorem dX4_become_5 : decode cX4_become 5 = .ok (.putfield 37, 3) := by decide +kernel
theorem dX4_become_8 : decode cX4_become 8 = .ok (.aload_n 0, 1) := by decide +kernel
theorem dX4_become_9 : decode cX4_become 9 = .ok (.aload_n 1, 1) := by decide +kernel
theorem dX4_become_10 : decode cX4_become 10 = .ok (.getfield 41, 3) := by decide +kernel
theorem dX4_become_13 : decode cX4_become 13 = .ok (.putfield 41, 3) := by decide +kernel
theorem dX4_become_16 : decode cX4_become 16 = .ok (.aload_n 0, 1) := by decide +kernel
theorem dX4_become_17 : decode cX4_become 17 = .ok (.aload_n 1, 1) := by decide +kernel
theorem dX4_become_18 : decode cX4_become 18 = .ok (.getfield 44, 3) := by decide +kernel
theorem dX4_become_21 : decode cX4_become 21 = .ok (.putfield 44, 3) := by decide +kernel
theorem dX4_become_24 : decode cX4_become 24 = .ok (.aload_n 0, 1) := by decide +kernel
theorem dX4_become_25 : decode cX4_become 25 = .ok (.aload_n 1, 1) := by decide +kernel
theorem dX4_become_26 : decode cX4_become 26 = .ok (.getfield 47, 3) := by decide +kernel
theorem dX4_become_29 : decode cX4_become 29 = .ok (.putfield 47, 3) := by decide +kernel
theorem dX4_become_32 : decode cX4_become 32 = .ok (.aload_n 1, 1) := by decide +kernel
theorem dX4_become_33 : decode cX4_become 33 = .ok (.getfield 9, 3) := by decide +kernel
theorem dX4_become_36 : decode cX4_become 36 = .ok (.iconst 0, 1) := by decide +kernel
theorem dX4_become_37 : decode cX4_become 37 = .ok (.aload_n 0, 1) := by decide +kernel
theorem dX4_become_38 : decode cX4_become 38 = .ok (.getfield 9, 3) := by decide +kernel
theorem dX4_become_41 : decode cX4_become 41 = .ok (.iconst 0, 1) := by decide +kernel
theorem dX4_become_42 : decode cX4_become 42 = .ok (.bipush 6, 2) := by decide +kernel
theorem dX4_become_44 : decode cX4_become 44 = .ok (.invokestatic 50, 3) := by decide +kernel
theorem dX4_become_47 : decode cX4_become 47 = .ok (.aload_n 1, 1) := by decide +kernel
theorem dX4_become_48 : decode cX4_become 48 = .ok (.getfield 15, 3) := by decide +kernel
theorem dX4_become_51 : decode cX4_become 51 = .ok (.iconst 0, 1) := by decide +kernel
theorem dX4_become_52 : decode cX4_become 52 = .ok (.aload_n 0, 1) := by decide +kernel
theorem dX4_become_53 : decode cX4_become 53 = .ok (.getfield 15, 3) := by decide +kernel
theorem dX4_become_56 : decode cX4_become 56 = .ok (.iconst 0, 1) := by decide +kernel
theorem dX4_become_57 : decode cX4_become 57 = .ok (.bipush 6, 2) := by decide +kernel
theorem dX4_become_59 : decode cX4_become 59 = .ok (.invokestatic 50, 3) := by decide +kernel
theorem dX4_become_62 : decode cX4_become 62 = .ok (.aload_n 1, 1) := by decide +kernel
theorem dX4_become_63 : decode cX4_become 63 = .ok (.getfield 18, 3) := by decide +kernel
theorem dX4_become_66 : decode cX4_become 66 = .ok (.iconst 0, 1) := by decide +kernel
theorem dX4_become_67 : decode cX4_become 67 = .ok (.aload_n 0, 1) := by decide +kernel
theorem dX4_become_68 : decode cX4_become 68 = .ok (.getfield 18, 3) := by decide +kernel
theorem dX4_become_71 : decode cX4_become 71 = .ok (.iconst 0, 1) := by decide +kernel
theorem dX4_become_72 : decode cX4_become 72 = .ok (.bipush 6, 2) := by decide +kernel
theorem dX4_become_74 : decode cX4_become 74 = .ok (.invokestatic 50, 3) := by decide +kernel
theorem dX4_become_77 : decode cX4_become 77 = .ok (.aload_n 1, 1) := by decide +kernel
theorem dX4_become_78 : decode cX4_become 78 = .ok (.getfield 21, 3) := by decide +kernel
theorem dX4_become_81 : decode cX4_become 81 = .ok (.iconst 0, 1) := by decide +kernel
theorem dX4_become_82 : decode cX4_become 82 = .ok (.aload_n 0, 1) := by decide +kernel
theorem dX4_become_83 : decode cX4_become 83 = .ok (.getfield 21, 3) := by decide +kernel
theorem dX4_become_86 : decode cX4_become 86 = .ok (.iconst 0, 1) := by decide +kernel
theorem dX4_become_87 : decode cX4_become 87 = .ok (.bipush 6, 2) := by decide +kernel
theorem dX4_become_89 : decode cX4_become 89 = .ok (.invokestatic 50, 3) := by decide +kernel
theorem dX4_become_92 : decode cX4_become 92 = .ok (.aload_n 1, 1) := by decide +kernel
theorem dX4_become_93 : decode cX4_become 93 = .ok (.getfield 24, 3) := by decide +kernel
theorem dX4_become_96 : decode cX4_become 96 = .ok (.iconst 0, 1) := by decide +kernel
theorem dX4_become_97 : decode cX4_become 97 = .ok (.aload_n 0, 1) := by decide +kernel
theorem dX4_become_98 : decode cX4_become 98 = .ok (.getfield 24, 3) := by decide +kernel
theorem dX4_become_101 : decode cX4_become 101 = .ok (.iconst 0, 1) := by decide +kernel
theorem dX4_become_102 : decode cX4_become 102 = .ok (.bipush 6, 2) := by decide +kernel
theorem dX4_become_104 : decode cX4_become 104 = .ok (.invokestatic 50, 3) := by decide +kernel
theorem dX4_become_107 : decode cX4_become 107 = .ok (.return_, 1) := by decide +kernel
theorem dX4_waiter_0 : decode cX4_waiter 0 = .ok (.aload_n 0, 1) := by decide +kernel
theorem dX4_waiter_1 : decode cX4_waiter 1 = .ok (.getfield 33, 3) := by decide +kernel
theorem dX4_waiter_4 : decode cX4_waiter 4 = .ok (.aload_n 0, 1) := by decide +kernel
theorem dX4_waiter_5 : decode cX4_waiter 5 = .ok (.getfield 9, 3) := by decide +kernel
theorem dX4_waiter_8 : decode cX4_waiter 8 = .ok (.iload_n 1, 1) := by decide +kernel
theorem dX4_waiter_9 : decode cX4_waiter 9 = .ok (.iaload, 1) := by decide +kernel
theorem dX4_waiter_10 : decode cX4_waiter 10 = .ok (.iconst 1, 1) := by decide +kernel
theorem dX4_waiter_11 : decode cX4_waiter 11 = .ok (.isub, 1) := by decide +kernel
theorem dX4_waiter_12 : decode cX4_waiter 12 = .ok (.aaload, 1) := by decide +kernel
theorem dX4_waiter_13 : decode cX4_waiter 13 = .ok (.areturn, 1) := by decide +kernel
theorem dX4_everybody_0 : decode cX4_everybody 0 = .ok (.iconst 1, 1) := by decide +kernel
theorem dX4_everybody_1 : decode cX4_everybody 1 = .ok (.aload_n 0, 1) := by decide +kernel
theorem dX4_everybody_2 : decode cX4_everybody 2 = .ok (.getfield 44, 3) := by decide +kernel
theorem dX4_everybody_5 : decode cX4_everybody 5 = .ok (.ishl, 1) := by decide +kernel
theorem dX4_everybody_6 : decode cX4_everybody 6 = .ok (.iconst 1, 1) := by decide +kernel
theorem dX4_everybody_7 : decode cX4_everybody 7 = .ok (.isub, 1) := by decide +kernel
theorem dX4_everybody_8 : decode cX4_everybody 8 = .ok (.ireturn, 1) := by decide +kernel
theorem dX4_thereBits_0 : decode cX4_thereBits 0 = .ok (.iconst 0, 1) := by decide +kernel
theorem dX4_thereBits_1 : decode cX4_thereBits 1 = .ok (.istore_n 1, 1) := by decide +kernel
theorem dX4_thereBits_2 : decode cX4_thereBits 2 = .ok (.iconst 0, 1) := by decide +kernel
theorem dX4_thereBits_3 : decode cX4_thereBits 3 = .ok (.istore_n 2, 1) := by decide +kernel
theorem dX4_thereBits_4 : decode cX4_thereBits 4 = .ok (.iload_n 2, 1) := by decide +kernel
theorem dX4_thereBits_5 : decode cX4_thereBits 5 = .ok (.aload_n 0, 1) := by decide +kernel
theorem dX4_thereBits_6 : decode cX4_thereBits 6 = .ok (.getfield 44, 3) := by decide +kernel
theorem dX4_thereBits_9 : decode cX4_thereBits 9 = .ok (.if_icmp .ge 30, 3) := by decide +kernel
theorem dX4_thereBits_12 : decode cX4_thereBits 12 = .ok (.aload_n 0, 1) := by decide +kernel
theorem dX4_thereBits_13 : decode cX4_thereBits 13 = .ok (.getfield 15, 3) := by decide +kernel
theorem dX4_thereBits_16 : decode cX4_thereBits 16 = .ok (.iload_n 2, 1) := by decide +kernel
theorem dX4_thereBits_17 : decode cX4_thereBits 17 = .ok (.iaload, 1) := by decide +kernel
theorem dX4_thereBits_18 : decode cX4_thereBits 18 = .ok (.aload_n 0, 1) := by decide +kernel
theorem dX4_thereBits_19 : decode cX4_thereBits 19 = .ok (.getfield 21, 3) := by decide +kernel
theorem dX4_thereBits_22 : decode cX4_thereBits 22 = .ok (.iload_n 2, 1) := by decide +kernel
theorem dX4_thereBits_23 : decode cX4_thereBits 23 = .ok (.iaload, 1) := by decide +kernel
theorem dX4_thereBits_24 : decode cX4_thereBits 24 = .ok (.if_icmp .ne 9, 3) := by decide +kernel
theorem dX4_thereBits_27 : decode cX4_thereBits 27 = .ok (.iload_n 1, 1) := by decide +kernel
theorem dX4_thereBits_28 : decode cX4_thereBits 28 = .ok (.iconst 1, 1) := by decide +kernel
theorem dX4_thereBits_29 : decode cX4_thereBits 29 = .ok (.iload_n 2, 1) := by decide +kernel
theorem dX4_thereBits_30 : decode cX4_thereBits 30 = .ok (.ishl, 1) := by decide +kernel
theorem dX4_thereBits_31 : decode cX4_thereBits 31 = .ok (.ior, 1) := by decide +kernel
theorem dX4_thereBits_32 : decode cX4_thereBits 32 = .ok (.istore_n 1, 1) := by decide +kernel
theorem dX4_thereBits_33 : decode cX4_thereBits 33 = .ok (.iinc 2 1, 3) := by decide +kernel
theorem dX4_thereBits_36 : decode cX4_thereBits 36 = .ok (.goto (-32), 3) := by decide +kernel
theorem dX4_thereBits_39 : decode cX4_thereBits 39 = .ok (.iload_n 1, 1) := by decide +kernel
theorem dX4_thereBits_40 : decode cX4_thereBits 40 = .ok (.ireturn, 1) := by decide +kernel
theorem dX4_whoIsAt_0 : decode cX4_whoIsAt 0 = .ok (.iconst 0, 1) := by decide +kernel
theorem dX4_whoIsAt_1 : decode cX4_whoIsAt 1 = .ok (.istore_n 2, 1) := by decide +kernel
theorem dX4_whoIsAt_2 : decode cX4_whoIsAt 2 = .ok (.iconst 0, 1) := by decide +kernel
theorem dX4_whoIsAt_3 : decode cX4_whoIsAt 3 = .ok (.istore_n 3, 1) := by decide +kernel
theorem dX4_whoIsAt_4 : decode cX4_whoIsAt 4 = .ok (.iload_n 3, 1) := by decide +kernel
theorem dX4_whoIsAt_5 : decode cX4_whoIsAt 5 = .ok (.aload_n 0, 1) := by decide +kernel
theorem dX4_whoIsAt_6 : decode cX4_whoIsAt 6 = .ok (.getfield 44, 3) := by decide +kernel
theorem dX4_whoIsAt_9 : decode cX4_whoIsAt 9 = .ok (.if_icmp .ge 25, 3) := by decide +kernel
theorem dX4_whoIsAt_12 : decode cX4_whoIsAt 12 = .ok (.aload_n 0, 1) := by decide +kernel
theorem dX4_whoIsAt_13 : decode cX4_whoIsAt 13 = .ok (.getfield 15, 3) := by decide +kernel
theorem dX4_whoIsAt_16 : decode cX4_whoIsAt 16 = .ok (.iload_n 3, 1) := by decide +kernel
theorem dX4_whoIsAt_17 : decode cX4_whoIsAt 17 = .ok (.iaload, 1) := by decide +kernel
theorem dX4_whoIsAt_18 : decode cX4_whoIsAt 18 = .ok (.iload_n 1, 1) := by decide +kernel
theorem dX4_whoIsAt_19 : decode cX4_whoIsAt 19 = .ok (.if_icmp .ne 9, 3) := by decide +kernel
theorem dX4_whoIsAt_22 : decode cX4_whoIsAt 22 = .ok (.iload_n 2, 1) := by decide +kernel
theorem dX4_whoIsAt_23 : decode cX4_whoIsAt 23 = .ok (.iconst 1, 1) := by decide +kernel
theorem dX4_whoIsAt_24 : decode cX4_whoIsAt 24 = .ok (.iload_n 3, 1) := by decide +kernel
theorem dX4_whoIsAt_25 : decode cX4_whoIsAt 25 = .ok (.ishl, 1) := by decide +kernel
theorem dX4_whoIsAt_26 : decode cX4_whoIsAt 26 = .ok (.ior, 1) := by decide +kernel
theorem dX4_whoIsAt_27 : decode cX4_whoIsAt 27 = .ok (.istore_n 2, 1) := by decide +kernel
theorem dX4_whoIsAt_28 : decode cX4_whoIsAt 28 = .ok (.iinc 3 1, 3) := by decide +kernel
theorem dX4_whoIsAt_31 : decode cX4_whoIsAt 31 = .ok (.goto (-27), 3) := by decide +kernel
theorem dX4_whoIsAt_34 : decode cX4_whoIsAt 34 = .ok (.iload_n 2, 1) := by decide +kernel
theorem dX4_whoIsAt_35 : decode cX4_whoIsAt 35 = .ok (.ireturn, 1) := by decide +kernel
theorem dX4_hopeOf_0 : decode cX4_hopeOf 0 = .ok (.aload_n 0, 1) := by decide +kernel
theorem dX4_hopeOf_1 : decode cX4_hopeOf 1 = .ok (.aload_n 0, 1) := by decide +kernel
theorem dX4_hopeOf_2 : decode cX4_hopeOf 2 = .ok (.getfield 15, 3) := by decide +kernel
theorem dX4_hopeOf_5 : decode cX4_hopeOf 5 = .ok (.iload_n 1, 1) := by decide +kernel
theorem dX4_hopeOf_6 : decode cX4_hopeOf 6 = .ok (.iaload, 1) := by decide +kernel
theorem dX4_hopeOf_7 : decode cX4_hopeOf 7 = .ok (.invokevirtual 56, 3) := by decide +kernel
theorem dX4_hopeOf_10 : decode cX4_hopeOf 10 = .ok (.invokestatic 60, 3) := by decide +kernel
theorem dX4_hopeOf_13 : decode cX4_hopeOf 13 = .ok (.iconst 1, 1) := by decide +kernel
theorem dX4_hopeOf_14 : decode cX4_hopeOf 14 = .ok (.isub, 1) := by decide +kernel
theorem dX4_hopeOf_15 : decode cX4_hopeOf 15 = .ok (.istore_n 2, 1) := by decide +kernel
theorem dX4_hopeOf_16 : decode cX4_hopeOf 16 = .ok (.aload_n 0, 1) := by decide +kernel
theorem dX4_hopeOf_17 : decode cX4_hopeOf 17 = .ok (.iload_n 1, 1) := by decide +kernel
theorem dX4_hopeOf_18 : decode cX4_hopeOf 18 = .ok (.invokevirtual 65, 3) := by decide +kernel
theorem dX4_hopeOf_21 : decode cX4_hopeOf 21 = .ok (.aload_n 0, 1) := by decide +kernel
theorem dX4_hopeOf_22 : decode cX4_hopeOf 22 = .ok (.getfield 18, 3) := by decide +kernel
theorem dX4_hopeOf_25 : decode cX4_hopeOf 25 = .ok (.iload_n 1, 1) := by decide +kernel
theorem dX4_hopeOf_26 : decode cX4_hopeOf 26 = .ok (.iaload, 1) := by decide +kernel
theorem dX4_hopeOf_27 : decode cX4_hopeOf 27 = .ok (.aload_n 0, 1) := by decide +kernel
theorem dX4_hopeOf_28 : decode cX4_hopeOf 28 = .ok (.getfield 24, 3) := by decide +kernel
theorem dX4_hopeOf_31 : decode cX4_hopeOf 31 = .ok (.iload_n 1, 1) := by decide +kernel
theorem dX4_hopeOf_32 : decode cX4_hopeOf 32 = .ok (.iaload, 1) := by decide +kernel
theorem dX4_hopeOf_33 : decode cX4_hopeOf 33 = .ok (.iload_n 2, 1) := by decide +kernel
theorem dX4_hopeOf_34 : decode cX4_hopeOf 34 = .ok (.invokevirtual 69, 3) := by decide +kernel
theorem dX4_hopeOf_37 : decode cX4_hopeOf 37 = .ok (.ireturn, 1) := by decide +kernel
theorem dX4_hopeAt_0 : decode cX4_hopeAt 0 = .ok (.aload_n 0, 1) := by decide +kernel
theorem dX4_hopeAt_1 : decode cX4_hopeAt 1 = .ok (.iconst 0, 1) := by decide +kernel
theorem dX4_hopeAt_2 : decode cX4_hopeAt 2 = .ok (.invokevirtual 75, 3) := by decide +kernel
theorem dX4_hopeAt_5 : decode cX4_hopeAt 5 = .ok (.aload_n 0, 1) := by decide +kernel
theorem dX4_hopeAt_6 : decode cX4_hopeAt 6 = .ok (.getfield 30, 3) := by decide +kernel
theorem dX4_hopeAt_9 : decode cX4_hopeAt 9 = .ok (.iload_n 1, 1) := by decide +kernel
theorem dX4_hopeAt_10 : decode cX4_hopeAt 10 = .ok (.iaload, 1) := by decide +kernel
theorem dX4_hopeAt_11 : decode cX4_hopeAt 11 = .ok (.ireturn, 1) := by decide +kernel
theorem dX4_holdingBits_0 : decode cX4_holdingBits 0 = .ok (.aload_n 0, 1) := by decide +kernel
theorem dX4_holdingBits_1 : decode cX4_holdingBits 1 = .ok (.iconst 0, 1) := by decide +kernel
theorem dX4_holdingBits_2 : decode cX4_holdingBits 2 = .ok (.invokevirtual 75, 3) := by decide +kernel
theorem dX4_holdingBits_5 : decode cX4_holdingBits 5 = .ok (.iconst 0, 1) := by decide +kernel
theorem dX4_holdingBits_6 : decode cX4_holdingBits 6 = .ok (.istore_n 1, 1) := by decide +kernel
theorem dX4_holdingBits_7 : decode cX4_holdingBits 7 = .ok (.iconst 0, 1) := by decide +kernel
theorem dX4_holdingBits_8 : decode cX4_holdingBits 8 = .ok (.istore_n 2, 1) := by decide +kernel
theorem dX4_holdingBits_9 : decode cX4_holdingBits 9 = .ok (.iload_n 2, 1) := by decide +kernel
theorem dX4_holdingBits_10 : decode cX4_holdingBits 10 = .ok (.aload_n 0, 1) := by decide +kernel
theorem dX4_holdingBits_11 : decode cX4_holdingBits 11 = .ok (.getfield 37, 3) := by decide +kernel
theorem dX4_holdingBits_14 : decode cX4_holdingBits 14 = .ok (.if_icmp .ge 28, 3) := by decide +kernel
theorem dX4_holdingBits_17 : decode cX4_holdingBits 17 = .ok (.aload_n 0, 1) := by decide +kernel
theorem dX4_holdingBits_18 : decode cX4_holdingBits 18 = .ok (.getfield 30, 3) := by decide +kernel
theorem dX4_holdingBits_21 : decode cX4_holdingBits 21 = .ok (.iload_n 2, 1) := by decide +kernel
theorem dX4_holdingBits_22 : decode cX4_holdingBits 22 = .ok (.iaload, 1) := by decide +kernel
theorem dX4_holdingBits_23 : decode cX4_holdingBits 23 = .ok (.aload_n 0, 1) := by decide +kernel
theorem dX4_holdingBits_24 : decode cX4_holdingBits 24 = .ok (.invokevirtual 79, 3) := by decide +kernel
theorem dX4_holdingBits_27 : decode cX4_holdingBits 27 = .ok (.if_icmp .lt 9, 3) := by decide +kernel
theorem dX4_holdingBits_30 : decode cX4_holdingBits 30 = .ok (.iload_n 1, 1) := by decide +kernel
theorem dX4_holdingBits_31 : decode cX4_holdingBits 31 = .ok (.iconst 1, 1) := by decide +kernel
theorem dX4_holdingBits_32 : decode cX4_holdingBits 32 = .ok (.iload_n 2, 1) := by decide +kernel
theorem dX4_holdingBits_33 : decode cX4_holdingBits 33 = .ok (.ishl, 1) := by decide +kernel
theorem dX4_holdingBits_34 : decode cX4_holdingBits 34 = .ok (.ior, 1) := by decide +kernel
theorem dX4_holdingBits_35 : decode cX4_holdingBits 35 = .ok (.istore_n 1, 1) := by decide +kernel
theorem dX4_holdingBits_36 : decode cX4_holdingBits 36 = .ok (.iinc 2 1, 3) := by decide +kernel
theorem dX4_holdingBits_39 : decode cX4_holdingBits 39 = .ok (.goto (-30), 3) := by decide +kernel
theorem dX4_holdingBits_42 : decode cX4_holdingBits 42 = .ok (.iload_n 1, 1) := by decide +kernel
theorem dX4_holdingBits_43 : decode cX4_holdingBits 43 = .ok (.ireturn, 1) := by decide +kernel
theorem dX4_tramWithout_0 : decode cX4_tramWithout 0 = .ok (.aload_n 0, 1) := by decide +kernel
theorem dX4_tramWithout_1 : decode cX4_tramWithout 1 = .ok (.iload_n 1, 1) := by decide +kernel
theorem dX4_tramWithout_2 : decode cX4_tramWithout 2 = .ok (.invokevirtual 75, 3) := by decide +kernel
theorem dX4_tramWithout_5 : decode cX4_tramWithout 5 = .ok (.iconst (-1), 1) := by decide +kernel
theorem dX4_tramWithout_6 : decode cX4_tramWithout 6 = .ok (.istore_n 2, 1) := by decide +kernel
theorem dX4_tramWithout_7 : decode cX4_tramWithout 7 = .ok (.aload_n 0, 1) := by decide +kernel
theorem dX4_tramWithout_8 : decode cX4_tramWithout 8 = .ok (.invokevirtual 79, 3) := by decide +kernel
theorem dX4_tramWithout_11 : decode cX4_tramWithout 11 = .ok (.iconst 1, 1) := by decide +kernel
theorem dX4_tramWithout_12 : decode cX4_tramWithout 12 = .ok (.isub, 1) := by decide +kernel
theorem dX4_tramWithout_13 : decode cX4_tramWithout 13 = .ok (.istore_n 3, 1) := by decide +kernel
theorem dX4_tramWithout_14 : decode cX4_tramWithout 14 = .ok (.iconst 0, 1) := by decide +kernel
theorem dX4_tramWithout_15 : decode cX4_tramWithout 15 = .ok (.istore 4, 2) := by decide +kernel
theorem dX4_tramWithout_17 : decode cX4_tramWithout 17 = .ok (.iload 4, 2) := by decide +kernel
theorem dX4_tramWithout_19 : decode cX4_tramWithout 19 = .ok (.aload_n 0, 1) := by decide +kernel
theorem dX4_tramWithout_20 : decode cX4_tramWithout 20 = .ok (.getfield 37, 3) := by decide +kernel
theorem dX4_tramWithout_23 : decode cX4_tramWithout 23 = .ok (.if_icmp .ge 31, 3) := by decide +kernel
theorem dX4_tramWithout_26 : decode cX4_tramWithout 26 = .ok (.aload_n 0, 1) := by decide +kernel
theorem dX4_tramWithout_27 : decode cX4_tramWithout 27 = .ok (.getfield 30, 3) := by decide +kernel
theorem dX4_tramWithout_30 : decode cX4_tramWithout 30 = .ok (.iload 4, 2) := by decide +kernel
theorem dX4_tramWithout_32 : decode cX4_tramWithout 32 = .ok (.iaload, 1) := by decide +kernel
theorem dX4_tramWithout_33 : decode cX4_tramWithout 33 = .ok (.iload_n 3, 1) := by decide +kernel
theorem dX4_tramWithout_34 : decode cX4_tramWithout 34 = .ok (.if_icmp .le 14, 3) := by decide +kernel
theorem dX4_tramWithout_37 : decode cX4_tramWithout 37 = .ok (.iload 4, 2) := by decide +kernel
theorem dX4_tramWithout_39 : decode cX4_tramWithout 39 = .ok (.istore_n 2, 1) := by decide +kernel
theorem dX4_tramWithout_40 : decode cX4_tramWithout 40 = .ok (.aload_n 0, 1) := by decide +kernel
theorem dX4_tramWithout_41 : decode cX4_tramWithout 41 = .ok (.getfield 30, 3) := by decide +kernel
theorem dX4_tramWithout_44 : decode cX4_tramWithout 44 = .ok (.iload 4, 2) := by decide +kernel
theorem dX4_tramWithout_46 : decode cX4_tramWithout 46 = .ok (.iaload, 1) := by decide +kernel
theorem dX4_tramWithout_47 : decode cX4_tramWithout 47 = .ok (.istore_n 3, 1) := by decide +kernel
theorem dX4_tramWithout_48 : decode cX4_tramWithout 48 = .ok (.iinc 4 1, 3) := by decide +kernel
theorem dX4_tramWithout_51 : decode cX4_tramWithout 51 = .ok (.goto (-34), 3) := by decide +kernel
theorem dX4_tramWithout_54 : decode cX4_tramWithout 54 = .ok (.iload_n 2, 1) := by decide +kernel
theorem dX4_tramWithout_55 : decode cX4_tramWithout 55 = .ok (.ireturn, 1) := by decide +kernel
theorem dX4_pass_0 : decode cX4_pass 0 = .ok (.aload_n 0, 1) := by decide +kernel
theorem dX4_pass_1 : decode cX4_pass 1 = .ok (.iconst 0, 1) := by decide +kernel
theorem dX4_pass_2 : decode cX4_pass 2 = .ok (.invokevirtual 83, 3) := by decide +kernel
theorem dX4_pass_5 : decode cX4_pass 5 = .ok (.istore_n 2, 1) := by decide +kernel
theorem dX4_pass_6 : decode cX4_pass 6 = .ok (.iconst 0, 1) := by decide +kernel
theorem dX4_pass_7 : decode cX4_pass 7 = .ok (.istore_n 3, 1) := by decide +kernel
theorem dX4_pass_8 : decode cX4_pass 8 = .ok (.iload_n 3, 1) := by decide +kernel
theorem dX4_pass_9 : decode cX4_pass 9 = .ok (.aload_n 0, 1) := by decide +kernel
theorem dX4_pass_10 : decode cX4_pass 10 = .ok (.getfield 44, 3) := by decide +kernel
theorem dX4_pass_13 : decode cX4_pass 13 = .ok (.if_icmp .ge 103, 3) := by decide +kernel
theorem dX4_pass_16 : decode cX4_pass 16 = .ok (.aload_n 0, 1) := by decide +kernel
theorem dX4_pass_17 : decode cX4_pass 17 = .ok (.getfield 15, 3) := by decide +kernel
theorem dX4_pass_20 : decode cX4_pass 20 = .ok (.iload_n 3, 1) := by decide +kernel
theorem dX4_pass_21 : decode cX4_pass 21 = .ok (.iaload, 1) := by decide +kernel
theorem dX4_pass_22 : decode cX4_pass 22 = .ok (.aload_n 0, 1) := by decide +kernel
theorem dX4_pass_23 : decode cX4_pass 23 = .ok (.getfield 21, 3) := by decide +kernel
theorem dX4_pass_26 : decode cX4_pass 26 = .ok (.iload_n 3, 1) := by decide +kernel
theorem dX4_pass_27 : decode cX4_pass 27 = .ok (.iaload, 1) := by decide +kernel
theorem dX4_pass_28 : decode cX4_pass 28 = .ok (.if_icmp .eq 63, 3) := by decide +kernel
theorem dX4_pass_31 : decode cX4_pass 31 = .ok (.aload_n 0, 1) := by decide +kernel
theorem dX4_pass_32 : decode cX4_pass 32 = .ok (.getfield 15, 3) := by decide +kernel
theorem dX4_pass_35 : decode cX4_pass 35 = .ok (.iload_n 3, 1) := by decide +kernel
theorem dX4_pass_36 : decode cX4_pass 36 = .ok (.iaload, 1) := by decide +kernel
theorem dX4_pass_37 : decode cX4_pass 37 = .ok (.iload_n 2, 1) := by decide +kernel
theorem dX4_pass_38 : decode cX4_pass 38 = .ok (.if_icmp .eq 11, 3) := by decide +kernel
theorem dX4_pass_41 : decode cX4_pass 41 = .ok (.iload_n 1, 1) := by decide +kernel
theorem dX4_pass_42 : decode cX4_pass 42 = .ok (.iload_n 3, 1) := by decide +kernel
theorem dX4_pass_43 : decode cX4_pass 43 = .ok (.invokestatic 86, 3) := by decide +kernel
theorem dX4_pass_46 : decode cX4_pass 46 = .ok (.ifCond .eq 45, 3) := by decide +kernel
theorem dX4_pass_49 : decode cX4_pass 49 = .ok (.aload_n 0, 1) := by decide +kernel
theorem dX4_pass_50 : decode cX4_pass 50 = .ok (.iload_n 3, 1) := by decide +kernel
theorem dX4_pass_51 : decode cX4_pass 51 = .ok (.aload_n 0, 1) := by decide +kernel
theorem dX4_pass_52 : decode cX4_pass 52 = .ok (.getfield 15, 3) := by decide +kernel
theorem dX4_pass_55 : decode cX4_pass 55 = .ok (.iload_n 3, 1) := by decide +kernel
theorem dX4_pass_56 : decode cX4_pass 56 = .ok (.iaload, 1) := by decide +kernel
theorem dX4_pass_57 : decode cX4_pass 57 = .ok (.aload_n 0, 1) := by decide +kernel
theorem dX4_pass_58 : decode cX4_pass 58 = .ok (.getfield 21, 3) := by decide +kernel
theorem dX4_pass_61 : decode cX4_pass 61 = .ok (.iload_n 3, 1) := by decide +kernel
theorem dX4_pass_62 : decode cX4_pass 62 = .ok (.iaload, 1) := by decide +kernel
theorem dX4_pass_63 : decode cX4_pass 63 = .ok (.if_icmp .ge 14, 3) := by decide +kernel
theorem dX4_pass_66 : decode cX4_pass 66 = .ok (.aload_n 0, 1) := by decide +kernel
theorem dX4_pass_67 : decode cX4_pass 67 = .ok (.getfield 15, 3) := by decide +kernel
theorem dX4_pass_70 : decode cX4_pass 70 = .ok (.iload_n 3, 1) := by decide +kernel
theorem dX4_pass_71 : decode cX4_pass 71 = .ok (.iaload, 1) := by decide +kernel
theorem dX4_pass_72 : decode cX4_pass 72 = .ok (.iconst 1, 1) := by decide +kernel
theorem dX4_pass_73 : decode cX4_pass 73 = .ok (.iadd, 1) := by decide +kernel
theorem dX4_pass_74 : decode cX4_pass 74 = .ok (.goto 11, 3) := by decide +kernel
theorem dX4_pass_77 : decode cX4_pass 77 = .ok (.aload_n 0, 1) := by decide +kernel
theorem dX4_pass_78 : decode cX4_pass 78 = .ok (.getfield 15, 3) := by decide +kernel
theorem dX4_pass_81 : decode cX4_pass 81 = .ok (.iload_n 3, 1) := by decide +kernel
theorem dX4_pass_82 : decode cX4_pass 82 = .ok (.iaload, 1) := by decide +kernel
theorem dX4_pass_83 : decode cX4_pass 83 = .ok (.iconst 1, 1) := by decide +kernel
theorem dX4_pass_84 : decode cX4_pass 84 = .ok (.isub, 1) := by decide +kernel
theorem dX4_pass_85 : decode cX4_pass 85 = .ok (.invokevirtual 90, 3) := by decide +kernel
theorem dX4_pass_88 : decode cX4_pass 88 = .ok (.goto 22, 3) := by decide +kernel
theorem dX4_pass_91 : decode cX4_pass 91 = .ok (.aload_n 0, 1) := by decide +kernel
theorem dX4_pass_92 : decode cX4_pass 92 = .ok (.getfield 24, 3) := by decide +kernel
theorem dX4_pass_95 : decode cX4_pass 95 = .ok (.iload_n 3, 1) := by decide +kernel
theorem dX4_pass_96 : decode cX4_pass 96 = .ok (.aload_n 0, 1) := by decide +kernel
theorem dX4_pass_97 : decode cX4_pass 97 = .ok (.getfield 24, 3) := by decide +kernel
theorem dX4_pass_100 : decode cX4_pass 100 = .ok (.iload_n 3, 1) := by decide +kernel
theorem dX4_pass_101 : decode cX4_pass 101 = .ok (.iaload, 1) := by decide +kernel
theorem dX4_pass_102 : decode cX4_pass 102 = .ok (.iconst 1, 1) := by decide +kernel
theorem dX4_pass_103 : decode cX4_pass 103 = .ok (.iadd, 1) := by decide +kernel
theorem dX4_pass_104 : decode cX4_pass 104 = .ok (.bipush 99, 2) := by decide +kernel
theorem dX4_pass_106 : decode cX4_pass 106 = .ok (.invokestatic 94, 3) := by decide +kernel
theorem dX4_pass_109 : decode cX4_pass 109 = .ok (.iastore, 1) := by decide +kernel
theorem dX4_pass_110 : decode cX4_pass 110 = .ok (.iinc 3 1, 3) := by decide +kernel
theorem dX4_pass_113 : decode cX4_pass 113 = .ok (.goto (-105), 3) := by decide +kernel
theorem dX4_pass_116 : decode cX4_pass 116 = .ok (.aload_n 0, 1) := by decide +kernel
theorem dX4_pass_117 : decode cX4_pass 117 = .ok (.dup, 1) := by decide +kernel
theorem dX4_pass_118 : decode cX4_pass 118 = .ok (.getfield 47, 3) := by decide +kernel
theorem dX4_pass_121 : decode cX4_pass 121 = .ok (.iconst 1, 1) := by decide +kernel
theorem dX4_pass_122 : decode cX4_pass 122 = .ok (.iadd, 1) := by decide +kernel
theorem dX4_pass_123 : decode cX4_pass 123 = .ok (.putfield 47, 3) := by decide +kernel
theorem dX4_pass_126 : decode cX4_pass 126 = .ok (.iload_n 2, 1) := by decide +kernel
theorem dX4_pass_127 : decode cX4_pass 127 = .ok (.ireturn, 1) := by decide +kernel
theorem dX4_moveTo_0 : decode cX4_moveTo 0 = .ok (.aload_n 0, 1) := by decide +kernel
theorem dX4_moveTo_1 : decode cX4_moveTo 1 = .ok (.getfield 15, 3) := by decide +kernel
theorem dX4_moveTo_4 : decode cX4_moveTo 4 = .ok (.iload_n 1, 1) := by decide +kernel
theorem dX4_moveTo_5 : decode cX4_moveTo 5 = .ok (.iload_n 2, 1) := by decide +kernel
theorem dX4_moveTo_6 : decode cX4_moveTo 6 = .ok (.iastore, 1) := by decide +kernel
theorem dX4_moveTo_7 : decode cX4_moveTo 7 = .ok (.aload_n 0, 1) := by decide +kernel
theorem dX4_moveTo_8 : decode cX4_moveTo 8 = .ok (.getfield 24, 3) := by decide +kernel
theorem dX4_moveTo_11 : decode cX4_moveTo 11 = .ok (.iload_n 1, 1) := by decide +kernel
theorem dX4_moveTo_12 : decode cX4_moveTo 12 = .ok (.iconst 0, 1) := by decide +kernel
theorem dX4_moveTo_13 : decode cX4_moveTo 13 = .ok (.iastore, 1) := by decide +kernel
theorem dX4_moveTo_14 : decode cX4_moveTo 14 = .ok (.return_, 1) := by decide +kernel
theorem dX4_leastHope_0 : decode cX4_leastHope 0 = .ok (.aload_n 0, 1) := by decide +kernel
theorem dX4_leastHope_1 : decode cX4_leastHope 1 = .ok (.getfield 41, 3) := by decide +kernel
theorem dX4_leastHope_4 : decode cX4_leastHope 4 = .ok (.iconst 1, 1) := by decide +kernel
theorem dX4_leastHope_5 : decode cX4_leastHope 5 = .ok (.invokestatic 100, 3) := by decide +kernel
theorem dX4_leastHope_8 : decode cX4_leastHope 8 = .ok (.ireturn, 1) := by decide +kernel
theorem dX4_tellHopes_0 : decode cX4_tellHopes 0 = .ok (.aload_n 0, 1) := by decide +kernel
theorem dX4_tellHopes_1 : decode cX4_tellHopes 1 = .ok (.invokevirtual 103, 3) := by decide +kernel
theorem dX4_tellHopes_4 : decode cX4_tellHopes 4 = .ok (.aload_n 0, 1) := by decide +kernel
theorem dX4_tellHopes_5 : decode cX4_tellHopes 5 = .ok (.getfield 30, 3) := by decide +kernel
theorem dX4_tellHopes_8 : decode cX4_tellHopes 8 = .ok (.iconst 0, 1) := by decide +kernel
theorem dX4_tellHopes_9 : decode cX4_tellHopes 9 = .ok (.invokestatic 106, 3) := by decide +kernel
theorem dX4_tellHopes_12 : decode cX4_tellHopes 12 = .ok (.iconst 0, 1) := by decide +kernel
theorem dX4_tellHopes_13 : decode cX4_tellHopes 13 = .ok (.istore_n 2, 1) := by decide +kernel
theorem dX4_tellHopes_14 : decode cX4_tellHopes 14 = .ok (.iload_n 2, 1) := by decide +kernel
theorem dX4_tellHopes_15 : decode cX4_tellHopes 15 = .ok (.aload_n 0, 1) := by decide +kernel
theorem dX4_tellHopes_16 : decode cX4_tellHopes 16 = .ok (.getfield 44, 3) := by decide +kernel
theorem dX4_tellHopes_19 : decode cX4_tellHopes 19 = .ok (.if_icmp .ge 64, 3) := by decide +kernel
theorem dX4_tellHopes_22 : decode cX4_tellHopes 22 = .ok (.iload_n 1, 1) := by decide +kernel
theorem dX4_tellHopes_23 : decode cX4_tellHopes 23 = .ok (.iload_n 2, 1) := by decide +kernel
theorem dX4_tellHopes_24 : decode cX4_tellHopes 24 = .ok (.invokestatic 86, 3) := by decide +kernel
theorem dX4_tellHopes_27 : decode cX4_tellHopes 27 = .ok (.ifCond .ne 50, 3) := by decide +kernel
theorem dX4_tellHopes_30 : decode cX4_tellHopes 30 = .ok (.aload_n 0, 1) := by decide +kernel
theorem dX4_tellHopes_31 : decode cX4_tellHopes 31 = .ok (.getfield 30, 3) := by decide +kernel
theorem dX4_tellHopes_34 : decode cX4_tellHopes 34 = .ok (.aload_n 0, 1) := by decide +kernel
theorem dX4_tellHopes_35 : decode cX4_tellHopes 35 = .ok (.getfield 15, 3) := by decide +kernel
theorem dX4_tellHopes_38 : decode cX4_tellHopes 38 = .ok (.iload_n 2, 1) := by decide +kernel
theorem dX4_tellHopes_39 : decode cX4_tellHopes 39 = .ok (.iaload, 1) := by decide +kernel
theorem dX4_tellHopes_40 : decode cX4_tellHopes 40 = .ok (.dup2, 1) := by decide +kernel
theorem dX4_tellHopes_41 : decode cX4_tellHopes 41 = .ok (.iaload, 1) := by decide +kernel
theorem dX4_tellHopes_42 : decode cX4_tellHopes 42 = .ok (.aload_n 0, 1) := by decide +kernel
theorem dX4_tellHopes_43 : decode cX4_tellHopes 43 = .ok (.iload_n 2, 1) := by decide +kernel
theorem dX4_tellHopes_44 : decode cX4_tellHopes 44 = .ok (.invokevirtual 65, 3) := by decide +kernel
theorem dX4_tellHopes_47 : decode cX4_tellHopes 47 = .ok (.aload_n 0, 1) := by decide +kernel
theorem dX4_tellHopes_48 : decode cX4_tellHopes 48 = .ok (.getfield 18, 3) := by decide +kernel
theorem dX4_tellHopes_51 : decode cX4_tellHopes 51 = .ok (.iload_n 2, 1) := by decide +kernel
theorem dX4_tellHopes_52 : decode cX4_tellHopes 52 = .ok (.iaload, 1) := by decide +kernel
theorem dX4_tellHopes_53 : decode cX4_tellHopes 53 = .ok (.aload_n 0, 1) := by decide +kernel
theorem dX4_tellHopes_54 : decode cX4_tellHopes 54 = .ok (.getfield 24, 3) := by decide +kernel
theorem dX4_tellHopes_57 : decode cX4_tellHopes 57 = .ok (.iload_n 2, 1) := by decide +kernel
theorem dX4_tellHopes_58 : decode cX4_tellHopes 58 = .ok (.iaload, 1) := by decide +kernel
theorem dX4_tellHopes_59 : decode cX4_tellHopes 59 = .ok (.aload_n 0, 1) := by decide +kernel
theorem dX4_tellHopes_60 : decode cX4_tellHopes 60 = .ok (.getfield 27, 3) := by decide +kernel
theorem dX4_tellHopes_63 : decode cX4_tellHopes 63 = .ok (.aload_n 0, 1) := by decide +kernel
theorem dX4_tellHopes_64 : decode cX4_tellHopes 64 = .ok (.getfield 15, 3) := by decide +kernel
theorem dX4_tellHopes_67 : decode cX4_tellHopes 67 = .ok (.iload_n 2, 1) := by decide +kernel
theorem dX4_tellHopes_68 : decode cX4_tellHopes 68 = .ok (.iaload, 1) := by decide +kernel
theorem dX4_tellHopes_69 : decode cX4_tellHopes 69 = .ok (.iaload, 1) := by decide +kernel
theorem dX4_tellHopes_70 : decode cX4_tellHopes 70 = .ok (.iconst 1, 1) := by decide +kernel
theorem dX4_tellHopes_71 : decode cX4_tellHopes 71 = .ok (.isub, 1) := by decide +kernel
theorem dX4_tellHopes_72 : decode cX4_tellHopes 72 = .ok (.invokevirtual 69, 3) := by decide +kernel
theorem dX4_tellHopes_75 : decode cX4_tellHopes 75 = .ok (.iadd, 1) := by decide +kernel
theorem dX4_tellHopes_76 : decode cX4_tellHopes 76 = .ok (.iastore, 1) := by decide +kernel
theorem dX4_tellHopes_77 : decode cX4_tellHopes 77 = .ok (.iinc 2 1, 3) := by decide +kernel
theorem dX4_tellHopes_80 : decode cX4_tellHopes 80 = .ok (.goto (-66), 3) := by decide +kernel
theorem dX4_tellHopes_83 : decode cX4_tellHopes 83 = .ok (.return_, 1) := by decide +kernel
theorem dX4_tellCrowds_0 : decode cX4_tellCrowds 0 = .ok (.aload_n 0, 1) := by decide +kernel
theorem dX4_tellCrowds_1 : decode cX4_tellCrowds 1 = .ok (.getfield 27, 3) := by decide +kernel
theorem dX4_tellCrowds_4 : decode cX4_tellCrowds 4 = .ok (.iconst 0, 1) := by decide +kernel
theorem dX4_tellCrowds_5 : decode cX4_tellCrowds 5 = .ok (.invokestatic 106, 3) := by decide +kernel
theorem dX4_tellCrowds_8 : decode cX4_tellCrowds 8 = .ok (.iconst 0, 1) := by decide +kernel
theorem dX4_tellCrowds_9 : decode cX4_tellCrowds 9 = .ok (.istore_n 1, 1) := by decide +kernel
theorem dX4_tellCrowds_10 : decode cX4_tellCrowds 10 = .ok (.iload_n 1, 1) := by decide +kernel
theorem dX4_tellCrowds_11 : decode cX4_tellCrowds 11 = .ok (.aload_n 0, 1) := by decide +kernel
theorem dX4_tellCrowds_12 : decode cX4_tellCrowds 12 = .ok (.getfield 44, 3) := by decide +kernel
theorem dX4_tellCrowds_15 : decode cX4_tellCrowds 15 = .ok (.if_icmp .ge 24, 3) := by decide +kernel
theorem dX4_tellCrowds_18 : decode cX4_tellCrowds 18 = .ok (.aload_n 0, 1) := by decide +kernel
theorem dX4_tellCrowds_19 : decode cX4_tellCrowds 19 = .ok (.getfield 27, 3) := by decide +kernel
theorem dX4_tellCrowds_22 : decode cX4_tellCrowds 22 = .ok (.aload_n 0, 1) := by decide +kernel
theorem dX4_tellCrowds_23 : decode cX4_tellCrowds 23 = .ok (.getfield 15, 3) := by decide +kernel
theorem dX4_tellCrowds_26 : decode cX4_tellCrowds 26 = .ok (.iload_n 1, 1) := by decide +kernel
theorem dX4_tellCrowds_27 : decode cX4_tellCrowds 27 = .ok (.iaload, 1) := by decide +kernel
theorem dX4_tellCrowds_28 : decode cX4_tellCrowds 28 = .ok (.dup2, 1) := by decide +kernel
theorem dX4_tellCrowds_29 : decode cX4_tellCrowds 29 = .ok (.iaload, 1) := by decide +kernel
theorem dX4_tellCrowds_30 : decode cX4_tellCrowds 30 = .ok (.iconst 1, 1) := by decide +kernel
theorem dX4_tellCrowds_31 : decode cX4_tellCrowds 31 = .ok (.iadd, 1) := by decide +kernel
theorem dX4_tellCrowds_32 : decode cX4_tellCrowds 32 = .ok (.iastore, 1) := by decide +kernel
theorem dX4_tellCrowds_33 : decode cX4_tellCrowds 33 = .ok (.iinc 1 1, 3) := by decide +kernel
theorem dX4_tellCrowds_36 : decode cX4_tellCrowds 36 = .ok (.goto (-26), 3) := by decide +kernel
theorem dX4_tellCrowds_39 : decode cX4_tellCrowds 39 = .ok (.return_, 1) := by decide +kernel
theorem dX5_init_0 : decode cX5_init 0 = .ok (.aload_n 0, 1) := by decide +kernel
theorem dX5_init_1 : decode cX5_init 1 = .ok (.invokespecial 3, 3) := by decide +kernel
theorem dX5_init_4 : decode cX5_init 4 = .ok (.aload_n 0, 1) := by decide +kernel
theorem dX5_init_5 : decode cX5_init 5 = .ok (.sipush 600, 3) := by decide +kernel
theorem dX5_init_8 : decode cX5_init 8 = .ok (.newarray .int, 2) := by decide +kernel
theorem dX5_init_10 : decode cX5_init 10 = .ok (.putfield 11, 3) := by decide +kernel
theorem dX5_init_13 : decode cX5_init 13 = .ok (.return_, 1) := by decide +kernel
theorem dX5_forget_0 : decode cX5_forget 0 = .ok (.aload_n 0, 1) := by decide +kernel
theorem dX5_forget_1 : decode cX5_forget 1 = .ok (.iconst 0, 1) := by decide +kernel
theorem dX5_forget_2 : decode cX5_forget 2 = .ok (.putfield 15, 3) := by decide +kernel
theorem dX5_forget_5 : decode cX5_forget 5 = .ok (.return_, 1) := by decide +kernel
theorem dX5_keep_0 : decode cX5_keep 0 = .ok (.aload_n 0, 1) := by decide +kernel
theorem dX5_keep_1 : decode cX5_keep 1 = .ok (.getfield 15, 3) := by decide +kernel
theorem dX5_keep_4 : decode cX5_keep 4 = .ok (.bipush 24, 2) := by decide +kernel
theorem dX5_keep_6 : decode cX5_keep 6 = .ok (.if_icmp .ne 26, 3) := by decide +kernel
theorem dX5_keep_9 : decode cX5_keep 9 = .ok (.aload_n 0, 1) := by decide +kernel
theorem dX5_keep_10 : decode cX5_keep 10 = .ok (.aload_n 0, 1) := by decide +kernel
theorem dX5_keep_11 : decode cX5_keep 11 = .ok (.getfield 19, 3) := by decide +kernel
theorem dX5_keep_14 : decode cX5_keep 14 = .ok (.iconst 1, 1) := by decide +kernel
theorem dX5_keep_15 : decode cX5_keep 15 = .ok (.iadd, 1) := by decide +kernel
theorem dX5_keep_16 : decode cX5_keep 16 = .ok (.bipush 24, 2) := by decide +kernel
theorem dX5_keep_18 : decode cX5_keep 18 = .ok (.irem, 1) := by decide +kernel
theorem dX5_keep_19 : decode cX5_keep 19 = .ok (.putfield 19, 3) := by decide +kernel
theorem dX5_keep_22 : decode cX5_keep 22 = .ok (.aload_n 0, 1) := by decide +kernel
theorem dX5_keep_23 : decode cX5_keep 23 = .ok (.dup, 1) := by decide +kernel
theorem dX5_keep_24 : decode cX5_keep 24 = .ok (.getfield 15, 3) := by decide +kernel
theorem dX5_keep_27 : decode cX5_keep 27 = .ok (.iconst 1, 1) := by decide +kernel
theorem dX5_keep_28 : decode cX5_keep 28 = .ok (.isub, 1) := by decide +kernel
theorem dX5_keep_29 : decode cX5_keep 29 = .ok (.putfield 15, 3) := by decide +kernel
theorem dX5_keep_32 : decode cX5_keep 32 = .ok (.aload_n 0, 1) := by decide +kernel
theorem dX5_keep_33 : decode cX5_keep 33 = .ok (.aload_n 0, 1) := by decide +kernel
theorem dX5_keep_34 : decode cX5_keep 34 = .ok (.getfield 15, 3) := by decide +kernel
theorem dX5_keep_37 : decode cX5_keep 37 = .ok (.invokevirtual 22, 3) := by decide +kernel
theorem dX5_keep_40 : decode cX5_keep 40 = .ok (.istore_n 2, 1) := by decide +kernel
theorem dX5_keep_41 : decode cX5_keep 41 = .ok (.aload_n 0, 1) := by decide +kernel
theorem dX5_keep_42 : decode cX5_keep 42 = .ok (.getfield 11, 3) := by decide +kernel
theorem dX5_keep_45 : decode cX5_keep 45 = .ok (.iload_n 2, 1) := by decide +kernel
theorem dX5_keep_46 : decode cX5_keep 46 = .ok (.aload_n 1, 1) := by decide +kernel
theorem dX5_keep_47 : decode cX5_keep 47 = .ok (.getfield 26, 3) := by decide +kernel
theorem dX5_keep_50 : decode cX5_keep 50 = .ok (.iastore, 1) := by decide +kernel
theorem dX5_keep_51 : decode cX5_keep 51 = .ok (.aload_n 1, 1) := by decide +kernel
theorem dX5_keep_52 : decode cX5_keep 52 = .ok (.getfield 31, 3) := by decide +kernel
theorem dX5_keep_55 : decode cX5_keep 55 = .ok (.iconst 0, 1) := by decide +kernel
theorem dX5_keep_56 : decode cX5_keep 56 = .ok (.aload_n 0, 1) := by decide +kernel
theorem dX5_keep_57 : decode cX5_keep 57 = .ok (.getfield 11, 3) := by decide +kernel
theorem dX5_keep_60 : decode cX5_keep 60 = .ok (.iload_n 2, 1) := by decide +kernel
theorem dX5_keep_61 : decode cX5_keep 61 = .ok (.iconst 1, 1) := by decide +kernel
theorem dX5_keep_62 : decode cX5_keep 62 = .ok (.iadd, 1) := by decide +kernel
theorem dX5_keep_63 : decode cX5_keep 63 = .ok (.bipush 6, 2) := by decide +kernel
theorem dX5_keep_65 : decode cX5_keep 65 = .ok (.invokestatic 34, 3) := by decide +kernel
theorem dX5_keep_68 : decode cX5_keep 68 = .ok (.aload_n 1, 1) := by decide +kernel
theorem dX5_keep_69 : decode cX5_keep 69 = .ok (.getfield 40, 3) := by decide +kernel
theorem dX5_keep_72 : decode cX5_keep 72 = .ok (.iconst 0, 1) := by decide +kernel
theorem dX5_keep_73 : decode cX5_keep 73 = .ok (.aload_n 0, 1) := by decide +kernel
theorem dX5_keep_74 : decode cX5_keep 74 = .ok (.getfield 11, 3) := by decide +kernel
theorem dX5_keep_77 : decode cX5_keep 77 = .ok (.iload_n 2, 1) := by decide +kernel
theorem dX5_keep_78 : decode cX5_keep 78 = .ok (.iconst 1, 1) := by decide +kernel
theorem dX5_keep_79 : decode cX5_keep 79 = .ok (.iadd, 1) := by decide +kernel
theorem dX5_keep_80 : decode cX5_keep 80 = .ok (.bipush 6, 2) := by decide +kernel
theorem dX5_keep_82 : decode cX5_keep 82 = .ok (.iadd, 1) := by decide +kernel
theorem dX5_keep_83 : decode cX5_keep 83 = .ok (.bipush 6, 2) := by decide +kernel
theorem dX5_keep_85 : decode cX5_keep 85 = .ok (.invokestatic 34, 3) := by decide +kernel
theorem dX5_keep_88 : decode cX5_keep 88 = .ok (.aload_n 1, 1) := by decide +kernel
theorem dX5_keep_89 : decode cX5_keep 89 = .ok (.getfield 43, 3) := by decide +kernel
theorem dX5_keep_92 : decode cX5_keep 92 = .ok (.iconst 0, 1) := by decide +kernel
theorem dX5_keep_93 : decode cX5_keep 93 = .ok (.aload_n 0, 1) := by decide +kernel
theorem dX5_keep_94 : decode cX5_keep 94 = .ok (.getfield 11, 3) := by decide +kernel
theorem dX5_keep_97 : decode cX5_keep 97 = .ok (.iload_n 2, 1) := by decide +kernel
theorem dX5_keep_98 : decode cX5_keep 98 = .ok (.iconst 1, 1) := by decide +kernel
theorem dX5_keep_99 : decode cX5_keep 99 = .ok (.iadd, 1) := by decide +kernel
theorem dX5_keep_100 : decode cX5_keep 100 = .ok (.bipush 12, 2) := by decide +kernel
theorem dX5_keep_102 : decode cX5_keep 102 = .ok (.iadd, 1) := by decide +kernel
theorem dX5_keep_103 : decode cX5_keep 103 = .ok (.bipush 6, 2) := by decide +kernel
theorem dX5_keep_105 : decode cX5_keep 105 = .ok (.invokestatic 34, 3) := by decide +kernel
theorem dX5_keep_108 : decode cX5_keep 108 = .ok (.aload_n 1, 1) := by decide +kernel
theorem dX5_keep_109 : decode cX5_keep 109 = .ok (.getfield 46, 3) := by decide +kernel
theorem dX5_keep_112 : decode cX5_keep 112 = .ok (.iconst 0, 1) := by decide +kernel
theorem dX5_keep_113 : decode cX5_keep 113 = .ok (.aload_n 0, 1) := by decide +kernel
theorem dX5_keep_114 : decode cX5_keep 114 = .ok (.getfield 11, 3) := by decide +kernel
theorem dX5_keep_117 : decode cX5_keep 117 = .ok (.iload_n 2, 1) := by decide +kernel
theorem dX5_keep_118 : decode cX5_keep 118 = .ok (.iconst 1, 1) := by decide +kernel
theorem dX5_keep_119 : decode cX5_keep 119 = .ok (.iadd, 1) := by decide +kernel
theorem dX5_keep_120 : decode cX5_keep 120 = .ok (.bipush 18, 2) := by decide +kernel
theorem dX5_keep_122 : decode cX5_keep 122 = .ok (.iadd, 1) := by decide +kernel
theorem dX5_keep_123 : decode cX5_keep 123 = .ok (.bipush 6, 2) := by decide +kernel
theorem dX5_keep_125 : decode cX5_keep 125 = .ok (.invokestatic 34, 3) := by decide +kernel
theorem dX5_keep_128 : decode cX5_keep 128 = .ok (.aload_n 0, 1) := by decide +kernel
theorem dX5_keep_129 : decode cX5_keep 129 = .ok (.dup, 1) := by decide +kernel
theorem dX5_keep_130 : decode cX5_keep 130 = .ok (.getfield 15, 3) := by decide +kernel
theorem dX5_keep_133 : decode cX5_keep 133 = .ok (.iconst 1, 1) := by decide +kernel
theorem dX5_keep_134 : decode cX5_keep 134 = .ok (.iadd, 1) := by decide +kernel
theorem dX5_keep_135 : decode cX5_keep 135 = .ok (.putfield 15, 3) := by decide +kernel
theorem dX5_keep_138 : decode cX5_keep 138 = .ok (.return_, 1) := by decide +kernel
theorem dX5_takeBack_0 : decode cX5_takeBack 0 = .ok (.aload_n 0, 1) := by decide +kernel
theorem dX5_takeBack_1 : decode cX5_takeBack 1 = .ok (.getfield 15, 3) := by decide +kernel
theorem dX5_takeBack_4 : decode cX5_takeBack 4 = .ok (.ifCond .le 109, 3) := by decide +kernel
theorem dX5_takeBack_7 : decode cX5_takeBack 7 = .ok (.aload_n 0, 1) := by decide +kernel
theorem dX5_takeBack_8 : decode cX5_takeBack 8 = .ok (.dup, 1) := by decide +kernel
theorem dX5_takeBack_9 : decode cX5_takeBack 9 = .ok (.getfield 15, 3) := by decide +kernel
theorem dX5_takeBack_12 : decode cX5_takeBack 12 = .ok (.iconst 1, 1) := by decide +kernel
theorem dX5_takeBack_13 : decode cX5_takeBack 13 = .ok (.isub, 1) := by decide +kernel
theorem dX5_takeBack_14 : decode cX5_takeBack 14 = .ok (.putfield 15, 3) := by decide +kernel
theorem dX5_takeBack_17 : decode cX5_takeBack 17 = .ok (.aload_n 0, 1) := by decide +kernel
theorem dX5_takeBack_18 : decode cX5_takeBack 18 = .ok (.aload_n 0, 1) := by decide +kernel
theorem dX5_takeBack_19 : decode cX5_takeBack 19 = .ok (.getfield 15, 3) := by decide +kernel
theorem dX5_takeBack_22 : decode cX5_takeBack 22 = .ok (.invokevirtual 22, 3) := by decide +kernel
theorem dX5_takeBack_25 : decode cX5_takeBack 25 = .ok (.istore_n 2, 1) := by decide +kernel
theorem dX5_takeBack_26 : decode cX5_takeBack 26 = .ok (.aload_n 1, 1) := by decide +kernel
theorem dX5_takeBack_27 : decode cX5_takeBack 27 = .ok (.aload_n 0, 1) := by decide +kernel
theorem dX5_takeBack_28 : decode cX5_takeBack 28 = .ok (.getfield 11, 3) := by decide +kernel
theorem dX5_takeBack_31 : decode cX5_takeBack 31 = .ok (.iload_n 2, 1) := by decide +kernel
theorem dX5_takeBack_32 : decode cX5_takeBack 32 = .ok (.iaload, 1) := by decide +kernel
theorem dX5_takeBack_33 : decode cX5_takeBack 33 = .ok (.putfield 26, 3) := by decide +kernel
theorem dX5_takeBack_36 : decode cX5_takeBack 36 = .ok (.aload_n 0, 1) := by decide +kernel
theorem dX5_takeBack_37 : decode cX5_takeBack 37 = .ok (.getfield 11, 3) := by decide +kernel
theorem dX5_takeBack_40 : decode cX5_takeBack 40 = .ok (.iload_n 2, 1) := by decide +kernel
theorem dX5_takeBack_41 : decode cX5_takeBack 41 = .ok (.iconst 1, 1) := by decide +kernel
theorem dX5_takeBack_42 : decode cX5_takeBack 42 = .ok (.iadd, 1) := by decide +kernel
theorem dX5_takeBack_43 : decode cX5_takeBack 43 = .ok (.aload_n 1, 1) := by decide +kernel
theorem dX5_takeBack_44 : decode cX5_takeBack 44 = .ok (.getfield 31, 3) := by decide +kernel
theorem dX5_takeBack_47 : decode cX5_takeBack 47 = .ok (.iconst 0, 1) := by decide +kernel
theorem dX5_takeBack_48 : decode cX5_takeBack 48 = .ok (.bipush 6, 2) := by decide +kernel
theorem dX5_takeBack_50 : decode cX5_takeBack 50 = .ok (.invokestatic 34, 3) := by decide +kernel
theorem dX5_takeBack_53 : decode cX5_takeBack 53 = .ok (.aload_n 0, 1) := by decide +kernel
theorem dX5_takeBack_54 : decode cX5_takeBack 54 = .ok (.getfield 11, 3) := by decide +kernel
theorem dX5_takeBack_57 : decode cX5_takeBack 57 = .ok (.iload_n 2, 1) := by decide +kernel
theorem dX5_takeBack_58 : decode cX5_takeBack 58 = .ok (.iconst 1, 1) := by decide +kernel
theorem dX5_takeBack_59 : decode cX5_takeBack 59 = .ok (.iadd, 1) := by decide +kernel
theorem dX5_takeBack_60 : decode cX5_takeBack 60 = .ok (.bipush 6, 2) := by decide +kernel
theorem dX5_takeBack_62 : decode cX5_takeBack 62 = .ok (.iadd, 1) := by decide +kernel
theorem dX5_takeBack_63 : decode cX5_takeBack 63 = .ok (.aload_n 1, 1) := by decide +kernel
theorem dX5_takeBack_64 : decode cX5_takeBack 64 = .ok (.getfield 40, 3) := by decide +kernel
theorem dX5_takeBack_67 : decode cX5_takeBack 67 = .ok (.iconst 0, 1) := by decide +kernel
theorem dX5_takeBack_68 : decode cX5_takeBack 68 = .ok (.bipush 6, 2) := by decide +kernel
theorem dX5_takeBack_70 : decode cX5_takeBack 70 = .ok (.invokestatic 34, 3) := by decide +kernel
theorem dX5_takeBack_73 : decode cX5_takeBack 73 = .ok (.aload_n 0, 1) := by decide +kernel
theorem dX5_takeBack_74 : decode cX5_takeBack 74 = .ok (.getfield 11, 3) := by decide +kernel
theorem dX5_takeBack_77 : decode cX5_takeBack 77 = .ok (.iload_n 2, 1) := by decide +kernel
theorem dX5_takeBack_78 : decode cX5_takeBack 78 = .ok (.iconst 1, 1) := by decide +kernel
theorem dX5_takeBack_79 : decode cX5_takeBack 79 = .ok (.iadd, 1) := by decide +kernel
theorem dX5_takeBack_80 : decode cX5_takeBack 80 = .ok (.bipush 12, 2) := by decide +kernel
theorem dX5_takeBack_82 : decode cX5_takeBack 82 = .ok (.iadd, 1) := by decide +kernel
theorem dX5_takeBack_83 : decode cX5_takeBack 83 = .ok (.aload_n 1, 1) := by decide +kernel
theorem dX5_takeBack_84 : decode cX5_takeBack 84 = .ok (.getfield 43, 3) := by decide +kernel
theorem dX5_takeBack_87 : decode cX5_takeBack 87 = .ok (.iconst 0, 1) := by decide +kernel
theorem dX5_takeBack_88 : decode cX5_takeBack 88 = .ok (.bipush 6, 2) := by decide +kernel
theorem dX5_takeBack_90 : decode cX5_takeBack 90 = .ok (.invokestatic 34, 3) := by decide +kernel
theorem dX5_takeBack_93 : decode cX5_takeBack 93 = .ok (.aload_n 0, 1) := by decide +kernel
theorem dX5_takeBack_94 : decode cX5_takeBack 94 = .ok (.getfield 11, 3) := by decide +kernel
theorem dX5_takeBack_97 : decode cX5_takeBack 97 = .ok (.iload_n 2, 1) := by decide +kernel
theorem dX5_takeBack_98 : decode cX5_takeBack 98 = .ok (.iconst 1, 1) := by decide +kernel
theorem dX5_takeBack_99 : decode cX5_takeBack 99 = .ok (.iadd, 1) := by decide +kernel
theorem dX5_takeBack_100 : decode cX5_takeBack 100 = .ok (.bipush 18, 2) := by decide +kernel
theorem dX5_takeBack_102 : decode cX5_takeBack 102 = .ok (.iadd, 1) := by decide +kernel
theorem dX5_takeBack_103 : decode cX5_takeBack 103 = .ok (.aload_n 1, 1) := by decide +kernel
theorem dX5_takeBack_104 : decode cX5_takeBack 104 = .ok (.getfield 46, 3) := by decide +kernel
theorem dX5_takeBack_107 : decode cX5_takeBack 107 = .ok (.iconst 0, 1) := by decide +kernel
theorem dX5_takeBack_108 : decode cX5_takeBack 108 = .ok (.bipush 6, 2) := by decide +kernel
theorem dX5_takeBack_110 : decode cX5_takeBack 110 = .ok (.invokestatic 34, 3) := by decide +kernel
theorem dX5_takeBack_113 : decode cX5_takeBack 113 = .ok (.return_, 1) := by decide +kernel
theorem dX5_pageOf_0 : decode cX5_pageOf 0 = .ok (.aload_n 0, 1) := by decide +kernel
theorem dX5_pageOf_1 : decode cX5_pageOf 1 = .ok (.getfield 19, 3) := by decide +kernel
theorem dX5_pageOf_4 : decode cX5_pageOf 4 = .ok (.iload_n 1, 1) := by decide +kernel
theorem dX5_pageOf_5 : decode cX5_pageOf 5 = .ok (.iadd, 1) := by decide +kernel
theorem dX5_pageOf_6 : decode cX5_pageOf 6 = .ok (.bipush 24, 2) := by decide +kernel
theorem dX5_pageOf_8 : decode cX5_pageOf 8 = .ok (.irem, 1) := by decide +kernel
theorem dX5_pageOf_9 : decode cX5_pageOf 9 = .ok (.bipush 25, 2) := by decide +kernel
theorem dX5_pageOf_11 : decode cX5_pageOf 11 = .ok (.imul, 1) := by decide +kernel
theorem dX5_pageOf_12 : decode cX5_pageOf 12 = .ok (.ireturn, 1) := by decide +kernel
theorem dX6_init_0 : decode cX6_init 0 = .ok (.aload_n 0, 1) := by decide +kernel
theorem dX6_init_1 : decode cX6_init 1 = .ok (.invokespecial 1, 3) := by decide +kernel
theorem dX6_init_4 : decode cX6_init 4 = .ok (.return_, 1) := by decide +kernel
theorem dX6_hopesBy_0 : decode cX6_hopesBy 0 = .ok (.iload_n 1, 1) := by decide +kernel
theorem dX6_hopesBy_1 : decode cX6_hopesBy 1 = .ok (.ireturn, 1) := by decide +kernel
theorem dX6_askSize_0 : decode cX6_askSize 0 = .ok (.aload_n 1, 1) := by decide +kernel
theorem dX6_askSize_1 : decode cX6_askSize 1 = .ok (.bipush 11, 2) := by decide +kernel
theorem dX6_askSize_3 : decode cX6_askSize 3 = .ok (.invokevirtual 7, 3) := by decide +kernel
theorem dX6_askSize_6 : decode cX6_askSize 6 = .ok (.aload_n 0, 1) := by decide +kernel
theorem dX6_askSize_7 : decode cX6_askSize 7 = .ok (.aload_n 1, 1) := by decide +kernel
theorem dX6_askSize_8 : decode cX6_askSize 8 = .ok (.invokespecial 13, 3) := by decide +kernel
theorem dX6_askSize_11 : decode cX6_askSize 11 = .ok (.aload_n 0, 1) := by decide +kernel
theorem dX6_askSize_12 : decode cX6_askSize 12 = .ok (.aload_n 1, 1) := by decide +kernel
theorem dX6_askSize_13 : decode cX6_askSize 13 = .ok (.invokevirtual 17, 3) := by decide +kernel
theorem dX6_askSize_16 : decode cX6_askSize 16 = .ok (.iadd, 1) := by decide +kernel
theorem dX6_askSize_17 : decode cX6_askSize 17 = .ok (.ireturn, 1) := by decide +kernel
theorem dX6_askMark_0 : decode cX6_askMark 0 = .ok (.aload_n 1, 1) := by decide +kernel
theorem dX6_askMark_1 : decode cX6_askMark 1 = .ok (.bipush 21, 2) := by decide +kernel
theorem dX6_askMark_3 : decode cX6_askMark 3 = .ok (.invokevirtual 7, 3) := by decide +kernel
theorem dX6_askMark_6 : decode cX6_askMark 6 = .ok (.aload_n 0, 1) := by decide +kernel
theorem dX6_askMark_7 : decode cX6_askMark 7 = .ok (.aload_n 1, 1) := by decide +kernel
theorem dX6_askMark_8 : decode cX6_askMark 8 = .ok (.invokespecial 22, 3) := by decide +kernel
theorem dX6_askMark_11 : decode cX6_askMark 11 = .ok (.aload_n 1, 1) := by decide +kernel
theorem dX6_askMark_12 : decode cX6_askMark 12 = .ok (.getfield 23, 3) := by decide +kernel
theorem dX6_askMark_15 : decode cX6_askMark 15 = .ok (.iadd, 1) := by decide +kernel
theorem dX6_askMark_16 : decode cX6_askMark 16 = .ok (.ireturn, 1) := by decide +kernel
theorem dX7_init_0 : decode cX7_init 0 = .ok (.aload_n 0, 1) := by decide +kernel
theorem dX7_init_1 : decode cX7_init 1 = .ok (.invokespecial 1, 3) := by decide +kernel
theorem dX7_init_4 : decode cX7_init 4 = .ok (.return_, 1) := by decide +kernel
theorem dX7_hopesBy_0 : decode cX7_hopesBy 0 = .ok (.iload_n 3, 1) := by decide +kernel
theorem dX7_hopesBy_1 : decode cX7_hopesBy 1 = .ok (.ifCond .ne 8, 3) := by decide +kernel
theorem dX7_hopesBy_4 : decode cX7_hopesBy 4 = .ok (.bipush 13, 2) := by decide +kernel
theorem dX7_hopesBy_6 : decode cX7_hopesBy 6 = .ok (.goto 4, 3) := by decide +kernel
theorem dX7_hopesBy_9 : decode cX7_hopesBy 9 = .ok (.iconst 3, 1) := by decide +kernel
theorem dX7_hopesBy_10 : decode cX7_hopesBy 10 = .ok (.ireturn, 1) := by decide +kernel
theorem dX7_askSize_0 : decode cX7_askSize 0 = .ok (.aload_n 1, 1) := by decide +kernel
theorem dX7_askSize_1 : decode cX7_askSize 1 = .ok (.bipush 14, 2) := by decide +kernel
theorem dX7_askSize_3 : decode cX7_askSize 3 = .ok (.invokevirtual 7, 3) := by decide +kernel
theorem dX7_askSize_6 : decode cX7_askSize 6 = .ok (.iconst 2, 1) := by decide +kernel
theorem dX7_askSize_7 : decode cX7_askSize 7 = .ok (.aload_n 0, 1) := by decide +kernel
theorem dX7_askSize_8 : decode cX7_askSize 8 = .ok (.aload_n 1, 1) := by decide +kernel
theorem dX7_askSize_9 : decode cX7_askSize 9 = .ok (.invokespecial 13, 3) := by decide +kernel
theorem dX7_askSize_12 : decode cX7_askSize 12 = .ok (.imul, 1) := by decide +kernel
theorem dX7_askSize_13 : decode cX7_askSize 13 = .ok (.ireturn, 1) := by decide +kernel
theorem dX8_init_0 : decode cX8_init 0 = .ok (.aload_n 0, 1) := by decide +kernel
theorem dX8_init_1 : decode cX8_init 1 = .ok (.invokespecial 3, 3) := by decide +kernel
theorem dX8_init_4 : decode cX8_init 4 = .ok (.aload_n 0, 1) := by decide +kernel
theorem dX8_init_5 : decode cX8_init 5 = .ok (.bipush 8, 2) := by decide +kernel
theorem dX8_init_7 : decode cX8_init 7 = .ok (.bipush 40, 2) := by decide +kernel
theorem dX8_init_9 : decode cX8_init 9 = .ok (.multianewarray 9 2, 4) := by decide +kernel
theorem dX8_init_13 : decode cX8_init 13 = .ok (.putfield 11, 3) := by decide +kernel
theorem dX8_init_16 : decode cX8_init 16 = .ok (.aload_n 0, 1) := by decide +kernel
theorem dX8_init_17 : decode cX8_init 17 = .ok (.bipush 8, 2) := by decide +kernel
theorem dX8_init_19 : decode cX8_init 19 = .ok (.newarray .int, 2) := by decide +kernel
theorem dX8_init_21 : decode cX8_init 21 = .ok (.putfield 16, 3) := by decide +kernel
theorem dX8_init_24 : decode cX8_init 24 = .ok (.aload_n 0, 1) := by decide +kernel
theorem dX8_init_25 : decode cX8_init 25 = .ok (.bipush 8, 2) := by decide +kernel
theorem dX8_init_27 : decode cX8_init 27 = .ok (.newarray .int, 2) := by decide +kernel
theorem dX8_init_29 : decode cX8_init 29 = .ok (.putfield 20, 3) := by decide +kernel
theorem dX8_init_32 : decode cX8_init 32 = .ok (.aload_n 0, 1) := by decide +kernel
theorem dX8_init_33 : decode cX8_init 33 = .ok (.getfield 20, 3) := by decide +kernel
theorem dX8_init_36 : decode cX8_init 36 = .ok (.iconst (-1), 1) := by decide +kernel
theorem dX8_init_37 : decode cX8_init 37 = .ok (.invokestatic 23, 3) := by decide +kernel
theorem dX8_init_40 : decode cX8_init 40 = .ok (.return_, 1) := by decide +kernel
theorem dX8_isMissing_0 : decode cX8_isMissing 0 = .ok (.aload_n 0, 1) := by decide +kernel
theorem dX8_isMissing_1 : decode cX8_isMissing 1 = .ok (.getfield 20, 3) := by decide +kernel
theorem dX8_isMissing_4 : decode cX8_isMissing 4 = .ok (.iload_n 1, 1) := by decide +kernel
theorem dX8_isMissing_5 : decode cX8_isMissing 5 = .ok (.iaload, 1) := by decide +kernel
theorem dX8_isMissing_6 : decode cX8_isMissing 6 = .ok (.iconst (-1), 1) := by decide +kernel
theorem dX8_isMissing_7 : decode cX8_isMissing 7 = .ok (.if_icmp .ne 7, 3) := by decide +kernel
theorem dX8_isMissing_10 : decode cX8_isMissing 10 = .ok (.iconst 1, 1) := by decide +kernel
theorem dX8_isMissing_11 : decode cX8_isMissing 11 = .ok (.goto 4, 3) := by decide +kernel
theorem dX8_isMissing_14 : decode cX8_isMissing 14 = .ok (.iconst 0, 1) := by decide +kernel
theorem dX8_isMissing_15 : decode cX8_isMissing 15 = .ok (.ireturn, 1) := by decide +kernel
theorem dX8_howMany_0 : decode cX8_howMany 0 = .ok (.iconst 0, 1) := by decide +kernel
theorem dX8_howMany_1 : decode cX8_howMany 1 = .ok (.istore_n 1, 1) := by decide +kernel
theorem dX8_howMany_2 : decode cX8_howMany 2 = .ok (.iconst 0, 1) := by decide +kernel
theorem dX8_howMany_3 : decode cX8_howMany 3 = .ok (.istore_n 2, 1) := by decide +kernel
theorem dX8_howMany_4 : decode cX8_howMany 4 = .ok (.iload_n 2, 1) := by decide +kernel
theorem dX8_howMany_5 : decode cX8_howMany 5 = .ok (.bipush 8, 2) := by decide +kernel
theorem dX8_howMany_7 : decode cX8_howMany 7 = .ok (.if_icmp .ge 20, 3) := by decide +kernel
theorem dX8_howMany_10 : decode cX8_howMany 10 = .ok (.aload_n 0, 1) := by decide +kernel
theorem dX8_howMany_11 : decode cX8_howMany 11 = .ok (.iload_n 2, 1) := by decide +kernel
theorem dX8_howMany_12 : decode cX8_howMany 12 = .ok (.invokevirtual 29, 3) := by decide +kernel
theorem dX8_howMany_15 : decode cX8_howMany 15 = .ok (.ifCond .ne 6, 3) := by decide +kernel
theorem dX8_howMany_18 : decode cX8_howMany 18 = .ok (.iinc 1 1, 3) := by decide +kernel
theorem dX8_howMany_21 : decode cX8_howMany 21 = .ok (.iinc 2 1, 3) := by decide +kernel
theorem dX8_howMany_24 : decode cX8_howMany 24 = .ok (.goto (-20), 3) := by decide +kernel
theorem dX8_howMany_27 : decode cX8_howMany 27 = .ok (.iload_n 1, 1) := by decide +kernel
theorem dX8_howMany_28 : decode cX8_howMany 28 = .ok (.ireturn, 1) := by decide +kernel
theorem dX8_make_0 : decode cX8_make 0 = .ok (.aload_n 0, 1) := by decide +kernel
theorem dX8_make_1 : decode cX8_make 1 = .ok (.getfield 16, 3) := by decide +kernel
theorem dX8_make_4 : decode cX8_make 4 = .ok (.iload_n 1, 1) := by decide +kernel
theorem dX8_make_5 : decode cX8_make 5 = .ok (.iload_n 2, 1) := by decide +kernel
theorem dX8_make_6 : decode cX8_make 6 = .ok (.iastore, 1) := by decide +kernel
theorem dX8_make_7 : decode cX8_make 7 = .ok (.aload_n 0, 1) := by decide +kernel
theorem dX8_make_8 : decode cX8_make 8 = .ok (.getfield 20, 3) := by decide +kernel
theorem dX8_make_11 : decode cX8_make 11 = .ok (.iload_n 1, 1) := by decide +kernel
theorem dX8_make_12 : decode cX8_make 12 = .ok (.iload_n 3, 1) := by decide +kernel
theorem dX8_make_13 : decode cX8_make 13 = .ok (.iastore, 1) := by decide +kernel
theorem dX8_make_14 : decode cX8_make 14 = .ok (.aload_n 0, 1) := by decide +kernel
theorem dX8_make_15 : decode cX8_make 15 = .ok (.getfield 11, 3) := by decide +kernel
theorem dX8_make_18 : decode cX8_make 18 = .ok (.iload_n 1, 1) := by decide +kernel
theorem dX8_make_19 : decode cX8_make 19 = .ok (.aaload, 1) := by decide +kernel
theorem dX8_make_20 : decode cX8_make 20 = .ok (.iconst 0, 1) := by decide +kernel
theorem dX8_make_21 : decode cX8_make 21 = .ok (.invokestatic 23, 3) := by decide +kernel
theorem dX8_make_24 : decode cX8_make 24 = .ok (.return_, 1) := by decide +kernel
theorem dX8_remove_0 : decode cX8_remove 0 = .ok (.aload_n 0, 1) := by decide +kernel
theorem dX8_remove_1 : decode cX8_remove 1 = .ok (.getfield 20, 3) := by decide +kernel
theorem dX8_remove_4 : decode cX8_remove 4 = .ok (.iload_n 1, 1) := by decide +kernel
theorem dX8_remove_5 : decode cX8_remove 5 = .ok (.iaload, 1) := by decide +kernel
theorem dX8_remove_6 : decode cX8_remove 6 = .ok (.istore_n 2, 1) := by decide +kernel
theorem dX8_remove_7 : decode cX8_remove 7 = .ok (.aload_n 0, 1) := by decide +kernel
theorem dX8_remove_8 : decode cX8_remove 8 = .ok (.getfield 20, 3) := by decide +kernel
theorem dX8_remove_11 : decode cX8_remove 11 = .ok (.iload_n 1, 1) := by decide +kernel
theorem dX8_remove_12 : decode cX8_remove 12 = .ok (.iconst (-1), 1) := by decide +kernel
theorem dX8_remove_13 : decode cX8_remove 13 = .ok (.iastore, 1) := by decide +kernel
theorem dX8_remove_14 : decode cX8_remove 14 = .ok (.iload_n 2, 1) := by decide +kernel
theorem dX8_remove_15 : decode cX8_remove 15 = .ok (.ireturn, 1) := by decide +kernel
theorem dX8_itemAt_0 : decode cX8_itemAt 0 = .ok (.aload_n 0, 1) := by decide +kernel
theorem dX8_itemAt_1 : decode cX8_itemAt 1 = .ok (.getfield 11, 3) := by decide +kernel
theorem dX8_itemAt_4 : decode cX8_itemAt 4 = .ok (.iload_n 1, 1) := by decide +kernel
theorem dX8_itemAt_5 : decode cX8_itemAt 5 = .ok (.aaload, 1) := by decide +kernel
theorem dX8_itemAt_6 : decode cX8_itemAt 6 = .ok (.iload_n 2, 1) := by decide +kernel
theorem dX8_itemAt_7 : decode cX8_itemAt 7 = .ok (.iaload, 1) := by decide +kernel
theorem dX8_itemAt_8 : decode cX8_itemAt 8 = .ok (.ireturn, 1) := by decide +kernel
theorem dX8_put_0 : decode cX8_put 0 = .ok (.iload_n 3, 1) := by decide +kernel
theorem dX8_put_1 : decode cX8_put 1 = .ok (.istore 4, 2) := by decide +kernel
theorem dX8_put_3 : decode cX8_put 3 = .ok (.aload_n 0, 1) := by decide +kernel
theorem dX8_put_4 : decode cX8_put 4 = .ok (.getfield 16, 3) := by decide +kernel
theorem dX8_put_7 : decode cX8_put 7 = .ok (.iload_n 1, 1) := by decide +kernel
theorem dX8_put_8 : decode cX8_put 8 = .ok (.iaload, 1) := by decide +kernel
theorem dX8_put_9 : decode cX8_put 9 = .ok (.ifCond .ne 10, 3) := by decide +kernel
theorem dX8_put_12 : decode cX8_put 12 = .ok (.iload_n 3, 1) := by decide +kernel
theorem dX8_put_13 : decode cX8_put 13 = .ok (.i2b, 1) := by decide +kernel
theorem dX8_put_14 : decode cX8_put 14 = .ok (.istore 4, 2) := by decide +kernel
theorem dX8_put_16 : decode cX8_put 16 = .ok (.goto 17, 3) := by decide +kernel
theorem dX8_put_19 : decode cX8_put 19 = .ok (.aload_n 0, 1) := by decide +kernel
theorem dX8_put_20 : decode cX8_put 20 = .ok (.getfield 16, 3) := by decide +kernel
theorem dX8_put_23 : decode cX8_put 23 = .ok (.iload_n 1, 1) := by decide +kernel
theorem dX8_put_24 : decode cX8_put 24 = .ok (.iaload, 1) := by decide +kernel
theorem dX8_put_25 : decode cX8_put 25 = .ok (.iconst 1, 1) := by decide +kernel
theorem dX8_put_26 : decode cX8_put 26 = .ok (.if_icmp .ne 7, 3) := by decide +kernel
theorem dX8_put_29 : decode cX8_put 29 = .ok (.iload_n 3, 1) := by decide +kernel
theorem dX8_put_30 : decode cX8_put 30 = .ok (.i2s, 1) := by decide +kernel
theorem dX8_put_31 : decode cX8_put 31 = .ok (.istore 4, 2) := by decide +kernel
theorem dX8_put_33 : decode cX8_put 33 = .ok (.aload_n 0, 1) := by decide +kernel
theorem dX8_put_34 : decode cX8_put 34 = .ok (.getfield 11, 3) := by decide +kernel
theorem dX8_put_37 : decode cX8_put 37 = .ok (.iload_n 1, 1) := by decide +kernel
theorem dX8_put_38 : decode cX8_put 38 = .ok (.aaload, 1) := by decide +kernel
theorem dX8_put_39 : decode cX8_put 39 = .ok (.iload_n 2, 1) := by decide +kernel
theorem dX8_put_40 : decode cX8_put 40 = .ok (.iload 4, 2) := by decide +kernel
theorem dX8_put_42 : decode cX8_put 42 = .ok (.iastore, 1) := by decide +kernel
theorem dX8_put_43 : decode cX8_put 43 = .ok (.iload 4, 2) := by decide +kernel
theorem dX8_put_45 : decode cX8_put 45 = .ok (.ireturn, 1) := by decide +kernel
theorem dX8_move_0 : decode cX8_move 0 = .ok (.aload_n 0, 1) := by decide +kernel
theorem dX8_move_1 : decode cX8_move 1 = .ok (.getfield 11, 3) := by decide +kernel
theorem dX8_move_4 : decode cX8_move 4 = .ok (.iload_n 1, 1) := by decide +kernel
theorem dX8_move_5 : decode cX8_move 5 = .ok (.aaload, 1) := by decide +kernel
theorem dX8_move_6 : decode cX8_move 6 = .ok (.iload_n 2, 1) := by decide +kernel
theorem dX8_move_7 : decode cX8_move 7 = .ok (.aload_n 0, 1) := by decide +kernel
theorem dX8_move_8 : decode cX8_move 8 = .ok (.getfield 11, 3) := by decide +kernel
theorem dX8_move_11 : decode cX8_move 11 = .ok (.iload_n 3, 1) := by decide +kernel
theorem dX8_move_12 : decode cX8_move 12 = .ok (.aaload, 1) := by decide +kernel
theorem dX8_move_13 : decode cX8_move 13 = .ok (.iload 4, 2) := by decide +kernel
theorem dX8_move_15 : decode cX8_move 15 = .ok (.iload 5, 2) := by decide +kernel
theorem dX8_move_17 : decode cX8_move 17 = .ok (.invokestatic 33, 3) := by decide +kernel
theorem dX8_move_20 : decode cX8_move 20 = .ok (.return_, 1) := by decide +kernel
theorem dX8_findingOf_0 : decode cX8_findingOf 0 = .ok (.aload_n 0, 1) := by decide +kernel
theorem dX8_findingOf_1 : decode cX8_findingOf 1 = .ok (.iload_n 1, 1) := by decide +kernel
theorem dX8_findingOf_2 : decode cX8_findingOf 2 = .ok (.invokevirtual 29, 3) := by decide +kernel
theorem dX8_findingOf_5 : decode cX8_findingOf 5 = .ok (.ifCond .eq 5, 3) := by decide +kernel
theorem dX8_findingOf_8 : decode cX8_findingOf 8 = .ok (.iconst 1, 1) := by decide +kernel
theorem dX8_findingOf_9 : decode cX8_findingOf 9 = .ok (.ireturn, 1) := by decide +kernel
theorem dX8_findingOf_10 : decode cX8_findingOf 10 = .ok (.aload_n 0, 1) := by decide +kernel
theorem dX8_findingOf_11 : decode cX8_findingOf 11 = .ok (.iload_n 1, 1) := by decide +kernel
theorem dX8_findingOf_12 : decode cX8_findingOf 12 = .ok (.iload_n 2, 1) := by decide +kernel
theorem dX8_findingOf_13 : decode cX8_findingOf 13 = .ok (.iload_n 3, 1) := by decide +kernel
theorem dX8_findingOf_14 : decode cX8_findingOf 14 = .ok (.invokevirtual 39, 3) := by decide +kernel
theorem dX8_findingOf_17 : decode cX8_findingOf 17 = .ok (.ifCond .eq 7, 3) := by decide +kernel
theorem dX8_findingOf_20 : decode cX8_findingOf 20 = .ok (.iconst 0, 1) := by decide +kernel
theorem dX8_findingOf_21 : decode cX8_findingOf 21 = .ok (.goto 4, 3) := by decide +kernel
theorem dX8_findingOf_24 : decode cX8_findingOf 24 = .ok (.iconst 2, 1) := by decide +kernel
theorem dX8_findingOf_25 : decode cX8_findingOf 25 = .ok (.ireturn, 1) := by decide +kernel
theorem dX8_findingOfMove_0 : decode cX8_findingOfMove 0 = .ok (.aload_n 0, 1) := by decide +kernel
theorem dX8_findingOfMove_1 : decode cX8_findingOfMove 1 = .ok (.iload_n 1, 1) := by decide +kernel
theorem dX8_findingOfMove_2 : decode cX8_findingOfMove 2 = .ok (.invokevirtual 29, 3) := by decide +kernel
theorem dX8_findingOfMove_5 : decode cX8_findingOfMove 5 = .ok (.ifCond .ne 11, 3) := by decide +kernel
theorem dX8_findingOfMove_8 : decode cX8_findingOfMove 8 = .ok (.aload_n 0, 1) := by decide +kernel
theorem dX8_findingOfMove_9 : decode cX8_findingOfMove 9 = .ok (.iload_n 3, 1) := by decide +kernel
theorem dX8_findingOfMove_10 : decode cX8_findingOfMove 10 = .ok (.invokevirtual 29, 3) := by decide +kernel
theorem dX8_findingOfMove_13 : decode cX8_findingOfMove 13 = .ok (.ifCond .eq 5, 3) := by decide +kernel
theorem dX8_findingOfMove_16 : decode cX8_findingOfMove 16 = .ok (.iconst 1, 1) := by decide +kernel
theorem dX8_findingOfMove_17 : decode cX8_findingOfMove 17 = .ok (.ireturn, 1) := by decide +kernel
theorem dX8_findingOfMove_18 : decode cX8_findingOfMove 18 = .ok (.aload_n 0, 1) := by decide +kernel
theorem dX8_findingOfMove_19 : decode cX8_findingOfMove 19 = .ok (.getfield 16, 3) := by decide +kernel
theorem dX8_findingOfMove_22 : decode cX8_findingOfMove 22 = .ok (.iload_n 1, 1) := by decide +kernel
theorem dX8_findingOfMove_23 : decode cX8_findingOfMove 23 = .ok (.iaload, 1) := by decide +kernel
theorem dX8_findingOfMove_24 : decode cX8_findingOfMove 24 = .ok (.aload_n 0, 1) := by decide +kernel
theorem dX8_findingOfMove_25 : decode cX8_findingOfMove 25 = .ok (.getfield 16, 3) := by decide +kernel
theorem dX8_findingOfMove_28 : decode cX8_findingOfMove 28 = .ok (.iload_n 3, 1) := by decide +kernel
theorem dX8_findingOfMove_29 : decode cX8_findingOfMove 29 = .ok (.iaload, 1) := by decide +kernel
theorem dX8_findingOfMove_30 : decode cX8_findingOfMove 30 = .ok (.if_icmp .eq 5, 3) := by decide +kernel
theorem dX8_findingOfMove_33 : decode cX8_findingOfMove 33 = .ok (.iconst 5, 1) := by decide +kernel
theorem dX8_findingOfMove_34 : decode cX8_findingOfMove 34 = .ok (.ireturn, 1) := by decide +kernel
theorem dX8_findingOfMove_35 : decode cX8_findingOfMove 35 = .ok (.aload_n 0, 1) := by decide +kernel
theorem dX8_findingOfMove_36 : decode cX8_findingOfMove 36 = .ok (.iload_n 1, 1) := by decide +kernel
theorem dX8_findingOfMove_37 : decode cX8_findingOfMove 37 = .ok (.iload_n 2, 1) := by decide +kernel
theorem dX8_findingOfMove_38 : decode cX8_findingOfMove 38 = .ok (.iload 5, 2) := by decide +kernel
theorem dX8_findingOfMove_40 : decode cX8_findingOfMove 40 = .ok (.invokevirtual 39, 3) := by decide +kernel
theorem dX8_findingOfMove_43 : decode cX8_findingOfMove 43 = .ok (.ifCond .eq 19, 3) := by decide +kernel
theorem dX8_findingOfMove_46 : decode cX8_findingOfMove 46 = .ok (.aload_n 0, 1) := by decide +kernel
theorem dX8_findingOfMove_47 : decode cX8_findingOfMove 47 = .ok (.iload_n 3, 1) := by decide +kernel
theorem dX8_findingOfMove_48 : decode cX8_findingOfMove 48 = .ok (.iload 4, 2) := by decide +kernel
theorem dX8_findingOfMove_50 : decode cX8_findingOfMove 50 = .ok (.iload 5, 2) := by decide +kernel
theorem dX8_findingOfMove_52 : decode cX8_findingOfMove 52 = .ok (.invokevirtual 39, 3) := by decide +kernel
theorem dX8_findingOfMove_55 : decode cX8_findingOfMove 55 = .ok (.ifCond .eq 7, 3) := by decide +kernel
theorem dX8_findingOfMove_58 : decode cX8_findingOfMove 58 = .ok (.iconst 0, 1) := by decide +kernel
theorem dX8_findingOfMove_59 : decode cX8_findingOfMove 59 = .ok (.goto 4, 3) := by decide +kernel
theorem dX8_findingOfMove_62 : decode cX8_findingOfMove 62 = .ok (.iconst 2, 1) := by decide +kernel
theorem dX8_findingOfMove_63 : decode cX8_findingOfMove 63 = .ok (.ireturn, 1) := by decide +kernel
theorem dX8_hasSpan_0 : decode cX8_hasSpan 0 = .ok (.iload_n 3, 1) := by decide +kernel
theorem dX8_hasSpan_1 : decode cX8_hasSpan 1 = .ok (.ifCond .lt 23, 3) := by decide +kernel
theorem dX8_hasSpan_4 : decode cX8_hasSpan 4 = .ok (.iload_n 2, 1) := by decide +kernel
theorem dX8_hasSpan_5 : decode cX8_hasSpan 5 = .ok (.ifCond .lt 19, 3) := by decide +kernel
theorem dX8_hasSpan_8 : decode cX8_hasSpan 8 = .ok (.iload_n 2, 1) := by decide +kernel
theorem dX8_hasSpan_9 : decode cX8_hasSpan 9 = .ok (.aload_n 0, 1) := by decide +kernel
theorem dX8_hasSpan_10 : decode cX8_hasSpan 10 = .ok (.getfield 20, 3) := by decide +kernel
theorem dX8_hasSpan_13 : decode cX8_hasSpan 13 = .ok (.iload_n 1, 1) := by decide +kernel
theorem dX8_hasSpan_14 : decode cX8_hasSpan 14 = .ok (.iaload, 1) := by decide +kernel
theorem dX8_hasSpan_15 : decode cX8_hasSpan 15 = .ok (.iload_n 3, 1) := by decide +kernel
theorem dX8_hasSpan_16 : decode cX8_hasSpan 16 = .ok (.isub, 1) := by decide +kernel
theorem dX8_hasSpan_17 : decode cX8_hasSpan 17 = .ok (.if_icmp .gt 7, 3) := by decide +kernel
theorem dX8_hasSpan_20 : decode cX8_hasSpan 20 = .ok (.iconst 1, 1) := by decide +kernel
theorem dX8_hasSpan_21 : decode cX8_hasSpan 21 = .ok (.goto 4, 3) := by decide +kernel
theorem dX8_hasSpan_24 : decode cX8_hasSpan 24 = .ok (.iconst 0, 1) := by decide +kernel
theorem dX8_hasSpan_25 : decode cX8_hasSpan 25 = .ok (.ireturn, 1) := by decide +kernel
theorem dX9_init_0 : decode cX9_init 0 = .ok (.aload_n 0, 1) := by decide +kernel
theorem dX9_init_1 : decode cX9_init 1 = .ok (.invokespecial 3, 3) := by decide +kernel
theorem dX9_init_4 : decode cX9_init 4 = .ok (.aload_n 0, 1) := by decide +kernel
theorem dX9_init_5 : decode cX9_init 5 = .ok (.bipush 100, 2) := by decide +kernel
theorem dX9_init_7 : decode cX9_init 7 = .ok (.newarray .int, 2) := by decide +kernel
theorem dX9_init_9 : decode cX9_init 9 = .ok (.putfield 9, 3) := by decide +kernel
theorem dX9_init_12 : decode cX9_init 12 = .ok (.return_, 1) := by decide +kernel
theorem dX9_put_0 : decode cX9_put 0 = .ok (.aload_n 0, 1) := by decide +kernel
theorem dX9_put_1 : decode cX9_put 1 = .ok (.getfield 15, 3) := by decide +kernel
theorem dX9_put_4 : decode cX9_put 4 = .ok (.bipush 100, 2) := by decide +kernel
theorem dX9_put_6 : decode cX9_put 6 = .ok (.if_icmp .ge 23, 3) := by decide +kernel
theorem dX9_put_9 : decode cX9_put 9 = .ok (.aload_n 0, 1) := by decide +kernel
theorem dX9_put_10 : decode cX9_put 10 = .ok (.getfield 9, 3) := by decide +kernel
theorem dX9_put_13 : decode cX9_put 13 = .ok (.aload_n 0, 1) := by decide +kernel
theorem dX9_put_14 : decode cX9_put 14 = .ok (.getfield 15, 3) := by decide +kernel
theorem dX9_put_17 : decode cX9_put 17 = .ok (.iload_n 1, 1) := by decide +kernel
theorem dX9_put_18 : decode cX9_put 18 = .ok (.iastore, 1) := by decide +kernel
theorem dX9_put_19 : decode cX9_put 19 = .ok (.aload_n 0, 1) := by decide +kernel
theorem dX9_put_20 : decode cX9_put 20 = .ok (.dup, 1) := by decide +kernel
theorem dX9_put_21 : decode cX9_put 21 = .ok (.getfield 15, 3) := by decide +kernel
theorem dX9_put_24 : decode cX9_put 24 = .ok (.iconst 1, 1) := by decide +kernel
theorem dX9_put_25 : decode cX9_put 25 = .ok (.iadd, 1) := by decide +kernel
theorem dX9_put_26 : decode cX9_put 26 = .ok (.putfield 15, 3) := by decide +kernel
theorem dX9_put_29 : decode cX9_put 29 = .ok (.return_, 1) := by decide +kernel
theorem dX9_readInto_0 : decode cX9_readInto 0 = .ok (.aload_n 0, 1) := by decide +kernel
theorem dX9_readInto_1 : decode cX9_readInto 1 = .ok (.iconst 0, 1) := by decide +kernel
theorem dX9_readInto_2 : decode cX9_readInto 2 = .ok (.putfield 19, 3) := by decide +kernel
theorem dX9_readInto_5 : decode cX9_readInto 5 = .ok (.aload_n 0, 1) := by decide +kernel
theorem dX9_readInto_6 : decode cX9_readInto 6 = .ok (.aload_n 1, 1) := by decide +kernel
theorem dX9_readInto_7 : decode cX9_readInto 7 = .ok (.invokevirtual 22, 3) := by decide +kernel
theorem dX9_readInto_10 : decode cX9_readInto 10 = .ok (.ifCond .eq 15, 3) := by decide +kernel
theorem dX9_readInto_13 : decode cX9_readInto 13 = .ok (.aload_n 0, 1) := by decide +kernel
theorem dX9_readInto_14 : decode cX9_readInto 14 = .ok (.aload_n 1, 1) := by decide +kernel
theorem dX9_readInto_15 : decode cX9_readInto 15 = .ok (.invokevirtual 26, 3) := by decide +kernel
theorem dX9_readInto_18 : decode cX9_readInto 18 = .ok (.ifCond .eq 7, 3) := by decide +kernel
theorem dX9_readInto_21 : decode cX9_readInto 21 = .ok (.iconst 1, 1) := by decide +kernel
theorem dX9_readInto_22 : decode cX9_readInto 22 = .ok (.goto 4, 3) := by decide +kernel
theorem dX9_readInto_25 : decode cX9_readInto 25 = .ok (.iconst 0, 1) := by decide +kernel
theorem dX9_readInto_26 : decode cX9_readInto 26 = .ok (.ireturn, 1) := by decide +kernel
theorem dX9_readLaw_0 : decode cX9_readLaw 0 = .ok (.aload_n 0, 1) := by decide +kernel
theorem dX9_readLaw_1 : decode cX9_readLaw 1 = .ok (.bipush 116, 2) := by decide +kernel
theorem dX9_readLaw_3 : decode cX9_readLaw 3 = .ok (.invokevirtual 29, 3) := by decide +kernel
theorem dX9_readLaw_6 : decode cX9_readLaw 6 = .ok (.ifCond .eq 22, 3) := by decide +kernel
theorem dX9_readLaw_9 : decode cX9_readLaw 9 = .ok (.aload_n 0, 1) := by decide +kernel
theorem dX9_readLaw_10 : decode cX9_readLaw 10 = .ok (.iconst 2, 1) := by decide +kernel
theorem dX9_readLaw_11 : decode cX9_readLaw 11 = .ok (.bipush 8, 2) := by decide +kernel
theorem dX9_readLaw_13 : decode cX9_readLaw 13 = .ok (.invokevirtual 33, 3) := by decide +kernel
theorem dX9_readLaw_16 : decode cX9_readLaw 16 = .ok (.ifCond .eq 12, 3) := by decide +kernel
theorem dX9_readLaw_19 : decode cX9_readLaw 19 = .ok (.aload_n 0, 1) := by decide +kernel
theorem dX9_readLaw_20 : decode cX9_readLaw 20 = .ok (.bipush 44, 2) := by decide +kernel
theorem dX9_readLaw_22 : decode cX9_readLaw 22 = .ok (.invokevirtual 29, 3) := by decide +kernel
theorem dX9_readLaw_25 : decode cX9_readLaw 25 = .ok (.ifCond .ne 5, 3) := by decide +kernel
theorem dX9_readLaw_28 : decode cX9_readLaw 28 = .ok (.iconst 0, 1) := by decide +kernel
theorem dX9_readLaw_29 : decode cX9_readLaw 29 = .ok (.ireturn, 1) := by decide +kernel
theorem dX9_readLaw_30 : decode cX9_readLaw 30 = .ok (.aload_n 0, 1) := by decide +kernel
theorem dX9_readLaw_31 : decode cX9_readLaw 31 = .ok (.getfield 37, 3) := by decide +kernel
theorem dX9_readLaw_34 : decode cX9_readLaw 34 = .ok (.istore_n 2, 1) := by decide +kernel
theorem dX9_readLaw_35 : decode cX9_readLaw 35 = .ok (.aload_n 0, 1) := by decide +kernel
theorem dX9_readLaw_36 : decode cX9_readLaw 36 = .ok (.iconst 0, 1) := by decide +kernel
theorem dX9_readLaw_37 : decode cX9_readLaw 37 = .ok (.bipush 40, 2) := by decide +kernel
theorem dX9_readLaw_39 : decode cX9_readLaw 39 = .ok (.invokevirtual 33, 3) := by decide +kernel
theorem dX9_readLaw_42 : decode cX9_readLaw 42 = .ok (.ifCond .eq 12, 3) := by decide +kernel
theorem dX9_readLaw_45 : decode cX9_readLaw 45 = .ok (.aload_n 0, 1) := by decide +kernel
theorem dX9_readLaw_46 : decode cX9_readLaw 46 = .ok (.bipush 59, 2) := by decide +kernel
theorem dX9_readLaw_48 : decode cX9_readLaw 48 = .ok (.invokevirtual 29, 3) := by decide +kernel
theorem dX9_readLaw_51 : decode cX9_readLaw 51 = .ok (.ifCond .ne 5, 3) := by decide +kernel
theorem dX9_readLaw_54 : decode cX9_readLaw 54 = .ok (.iconst 0, 1) := by decide +kernel
theorem dX9_readLaw_55 : decode cX9_readLaw 55 = .ok (.ireturn, 1) := by decide +kernel
theorem dX9_readLaw_56 : decode cX9_readLaw 56 = .ok (.aload_n 1, 1) := by decide +kernel
theorem dX9_readLaw_57 : decode cX9_readLaw 57 = .ok (.iload_n 2, 1) := by decide +kernel
theorem dX9_readLaw_58 : decode cX9_readLaw 58 = .ok (.aload_n 0, 1) := by decide +kernel
theorem dX9_readLaw_59 : decode cX9_readLaw 59 = .ok (.getfield 37, 3) := by decide +kernel
theorem dX9_readLaw_62 : decode cX9_readLaw 62 = .ok (.invokevirtual 40, 3) := by decide +kernel
theorem dX9_readLaw_65 : decode cX9_readLaw 65 = .ok (.iconst 1, 1) := by decide +kernel
theorem dX9_readLaw_66 : decode cX9_readLaw 66 = .ok (.ireturn, 1) := by decide +kernel
theorem dX9_readPeople_0 : decode cX9_readPeople 0 = .ok (.iconst 0, 1) := by decide +kernel
theorem dX9_readPeople_1 : decode cX9_readPeople 1 = .ok (.istore_n 2, 1) := by decide +kernel
theorem dX9_readPeople_2 : decode cX9_readPeople 2 = .ok (.iload_n 2, 1) := by decide +kernel
theorem dX9_readPeople_3 : decode cX9_readPeople 3 = .ok (.bipush 6, 2) := by decide +kernel
theorem dX9_readPeople_5 : decode cX9_readPeople 5 = .ok (.if_icmp .gt 81, 3) := by decide +kernel
theorem dX9_readPeople_8 : decode cX9_readPeople 8 = .ok (.aload_n 0, 1) := by decide +kernel
theorem dX9_readPeople_9 : decode cX9_readPeople 9 = .ok (.getfield 19, 3) := by decide +kernel
theorem dX9_readPeople_12 : decode cX9_readPeople 12 = .ok (.aload_n 0, 1) := by decide +kernel
theorem dX9_readPeople_13 : decode cX9_readPeople 13 = .ok (.getfield 15, 3) := by decide +kernel
theorem dX9_readPeople_16 : decode cX9_readPeople 16 = .ok (.if_icmp .ge 70, 3) := by decide +kernel
theorem dX9_readPeople_19 : decode cX9_readPeople 19 = .ok (.ldc 46, 2) := by decide +kernel
theorem dX9_readPeople_21 : decode cX9_readPeople 21 = .ok (.aload_n 0, 1) := by decide +kernel
theorem dX9_readPeople_22 : decode cX9_readPeople 22 = .ok (.getfield 9, 3) := by decide +kernel
theorem dX9_readPeople_25 : decode cX9_readPeople 25 = .ok (.aload_n 0, 1) := by decide +kernel
theorem dX9_readPeople_26 : decode cX9_readPeople 26 = .ok (.getfield 19, 3) := by decide +kernel
theorem dX9_readPeople_29 : decode cX9_readPeople 29 = .ok (.iaload, 1) := by decide +kernel
theorem dX9_readPeople_30 : decode cX9_readPeople 30 = .ok (.i2c, 1) := by decide +kernel
theorem dX9_readPeople_31 : decode cX9_readPeople 31 = .ok (.invokevirtual 48, 3) := by decide +kernel
theorem dX9_readPeople_34 : decode cX9_readPeople 34 = .ok (.iconst 1, 1) := by decide +kernel
theorem dX9_readPeople_35 : decode cX9_readPeople 35 = .ok (.iadd, 1) := by decide +kernel
theorem dX9_readPeople_36 : decode cX9_readPeople 36 = .ok (.istore_n 3, 1) := by decide +kernel
theorem dX9_readPeople_37 : decode cX9_readPeople 37 = .ok (.iload_n 3, 1) := by decide +kernel
theorem dX9_readPeople_38 : decode cX9_readPeople 38 = .ok (.ifCond .ne 9, 3) := by decide +kernel
theorem dX9_readPeople_41 : decode cX9_readPeople 41 = .ok (.aload_n 0, 1) := by decide +kernel
theorem dX9_readPeople_42 : decode cX9_readPeople 42 = .ok (.iconst 1, 1) := by decide +kernel
theorem dX9_readPeople_43 : decode cX9_readPeople 43 = .ok (.invokevirtual 54, 3) := by decide +kernel
theorem dX9_readPeople_46 : decode cX9_readPeople 46 = .ok (.ireturn, 1) := by decide +kernel
theorem dX9_readPeople_47 : decode cX9_readPeople 47 = .ok (.iload_n 2, 1) := by decide +kernel
theorem dX9_readPeople_48 : decode cX9_readPeople 48 = .ok (.bipush 6, 2) := by decide +kernel
theorem dX9_readPeople_50 : decode cX9_readPeople 50 = .ok (.if_icmp .ne 9, 3) := by decide +kernel
theorem dX9_readPeople_53 : decode cX9_readPeople 53 = .ok (.aload_n 0, 1) := by decide +kernel
theorem dX9_readPeople_54 : decode cX9_readPeople 54 = .ok (.iconst 3, 1) := by decide +kernel
theorem dX9_readPeople_55 : decode cX9_readPeople 55 = .ok (.invokevirtual 54, 3) := by decide +kernel
theorem dX9_readPeople_58 : decode cX9_readPeople 58 = .ok (.ireturn, 1) := by decide +kernel
theorem dX9_readPeople_59 : decode cX9_readPeople 59 = .ok (.aload_n 0, 1) := by decide +kernel
theorem dX9_readPeople_60 : decode cX9_readPeople 60 = .ok (.dup, 1) := by decide +kernel
theorem dX9_readPeople_61 : decode cX9_readPeople 61 = .ok (.getfield 19, 3) := by decide +kernel
theorem dX9_readPeople_64 : decode cX9_readPeople 64 = .ok (.iconst 1, 1) := by decide +kernel
theorem dX9_readPeople_65 : decode cX9_readPeople 65 = .ok (.iadd, 1) := by decide +kernel
theorem dX9_readPeople_66 : decode cX9_readPeople 66 = .ok (.putfield 19, 3) := by decide +kernel
theorem dX9_readPeople_69 : decode cX9_readPeople 69 = .ok (.aload_n 0, 1) := by decide +kernel
theorem dX9_readPeople_70 : decode cX9_readPeople 70 = .ok (.aload_n 1, 1) := by decide +kernel
theorem dX9_readPeople_71 : decode cX9_readPeople 71 = .ok (.iload_n 3, 1) := by decide +kernel
theorem dX9_readPeople_72 : decode cX9_readPeople 72 = .ok (.invokevirtual 58, 3) := by decide +kernel
theorem dX9_readPeople_75 : decode cX9_readPeople 75 = .ok (.ifCond .ne 5, 3) := by decide +kernel
theorem dX9_readPeople_78 : decode cX9_readPeople 78 = .ok (.iconst 0, 1) := by decide +kernel
theorem dX9_readPeople_79 : decode cX9_readPeople 79 = .ok (.ireturn, 1) := by decide +kernel
theorem dX9_readPeople_80 : decode cX9_readPeople 80 = .ok (.iinc 2 1, 3) := by decide +kernel
theorem dX9_readPeople_83 : decode cX9_readPeople 83 = .ok (.goto (-81), 3) := by decide +kernel
theorem dX9_readPeople_86 : decode cX9_readPeople 86 = .ok (.iconst 1, 1) := by decide +kernel
theorem dX9_readPeople_87 : decode cX9_readPeople 87 = .ok (.ireturn, 1) := by decide +kernel
theorem dX9_readPerson_0 : decode cX9_readPerson 0 = .ok (.aload_n 1, 1) := by decide +kernel
theorem dX9_readPerson_1 : decode cX9_readPerson 1 = .ok (.getfield 62, 3) := by decide +kernel
theorem dX9_readPerson_4 : decode cX9_readPerson 4 = .ok (.iconst 1, 1) := by decide +kernel
theorem dX9_readPerson_5 : decode cX9_readPerson 5 = .ok (.isub, 1) := by decide +kernel
theorem dX9_readPerson_6 : decode cX9_readPerson 6 = .ok (.istore_n 3, 1) := by decide +kernel
theorem dX9_readPerson_7 : decode cX9_readPerson 7 = .ok (.aload_n 0, 1) := by decide +kernel
theorem dX9_readPerson_8 : decode cX9_readPerson 8 = .ok (.iconst 0, 1) := by decide +kernel
theorem dX9_readPerson_9 : decode cX9_readPerson 9 = .ok (.iload_n 3, 1) := by decide +kernel
theorem dX9_readPerson_10 : decode cX9_readPerson 10 = .ok (.invokevirtual 33, 3) := by decide +kernel
theorem dX9_readPerson_13 : decode cX9_readPerson 13 = .ok (.ifCond .eq 12, 3) := by decide +kernel
theorem dX9_readPerson_16 : decode cX9_readPerson 16 = .ok (.aload_n 0, 1) := by decide +kernel
theorem dX9_readPerson_17 : decode cX9_readPerson 17 = .ok (.bipush 44, 2) := by decide +kernel
theorem dX9_readPerson_19 : decode cX9_readPerson 19 = .ok (.invokevirtual 29, 3) := by decide +kernel
theorem dX9_readPerson_22 : decode cX9_readPerson 22 = .ok (.ifCond .ne 5, 3) := by decide +kernel
theorem dX9_readPerson_25 : decode cX9_readPerson 25 = .ok (.iconst 0, 1) := by decide +kernel
theorem dX9_readPerson_26 : decode cX9_readPerson 26 = .ok (.ireturn, 1) := by decide +kernel
theorem dX9_readPerson_27 : decode cX9_readPerson 27 = .ok (.aload_n 0, 1) := by decide +kernel
theorem dX9_readPerson_28 : decode cX9_readPerson 28 = .ok (.getfield 37, 3) := by decide +kernel
theorem dX9_readPerson_31 : decode cX9_readPerson 31 = .ok (.istore 4, 2) := by decide +kernel
theorem dX9_readPerson_33 : decode cX9_readPerson 33 = .ok (.aload_n 0, 1) := by decide +kernel
theorem dX9_readPerson_34 : decode cX9_readPerson 34 = .ok (.iconst 0, 1) := by decide +kernel
theorem dX9_readPerson_35 : decode cX9_readPerson 35 = .ok (.bipush 20, 2) := by decide +kernel
theorem dX9_readPerson_37 : decode cX9_readPerson 37 = .ok (.invokevirtual 33, 3) := by decide +kernel
theorem dX9_readPerson_40 : decode cX9_readPerson 40 = .ok (.ifCond .eq 12, 3) := by decide +kernel
theorem dX9_readPerson_43 : decode cX9_readPerson 43 = .ok (.aload_n 0, 1) := by decide +kernel
theorem dX9_readPerson_44 : decode cX9_readPerson 44 = .ok (.bipush 44, 2) := by decide +kernel
theorem dX9_readPerson_46 : decode cX9_readPerson 46 = .ok (.invokevirtual 29, 3) := by decide +kernel
theorem dX9_readPerson_49 : decode cX9_readPerson 49 = .ok (.ifCond .ne 5, 3) := by decide +kernel
theorem dX9_readPerson_52 : decode cX9_readPerson 52 = .ok (.iconst 0, 1) := by decide +kernel
theorem dX9_readPerson_53 : decode cX9_readPerson 53 = .ok (.ireturn, 1) := by decide +kernel
theorem dX9_readPerson_54 : decode cX9_readPerson 54 = .ok (.aload_n 0, 1) := by decide +kernel
theorem dX9_readPerson_55 : decode cX9_readPerson 55 = .ok (.getfield 37, 3) := by decide +kernel
theorem dX9_readPerson_58 : decode cX9_readPerson 58 = .ok (.istore 5, 2) := by decide +kernel
theorem dX9_readPerson_60 : decode cX9_readPerson 60 = .ok (.aload_n 0, 1) := by decide +kernel
theorem dX9_readPerson_61 : decode cX9_readPerson 61 = .ok (.iconst 0, 1) := by decide +kernel
theorem dX9_readPerson_62 : decode cX9_readPerson 62 = .ok (.iload_n 3, 1) := by decide +kernel
theorem dX9_readPerson_63 : decode cX9_readPerson 63 = .ok (.invokevirtual 33, 3) := by decide +kernel
theorem dX9_readPerson_66 : decode cX9_readPerson 66 = .ok (.ifCond .eq 12, 3) := by decide +kernel
theorem dX9_readPerson_69 : decode cX9_readPerson 69 = .ok (.aload_n 0, 1) := by decide +kernel
theorem dX9_readPerson_70 : decode cX9_readPerson 70 = .ok (.bipush 59, 2) := by decide +kernel
theorem dX9_readPerson_72 : decode cX9_readPerson 72 = .ok (.invokevirtual 29, 3) := by decide +kernel
theorem dX9_readPerson_75 : decode cX9_readPerson 75 = .ok (.ifCond .ne 5, 3) := by decide +kernel
theorem dX9_readPerson_78 : decode cX9_readPerson 78 = .ok (.iconst 0, 1) := by decide +kernel
theorem dX9_readPerson_79 : decode cX9_readPerson 79 = .ok (.ireturn, 1) := by decide +kernel
theorem dX9_readPerson_80 : decode cX9_readPerson 80 = .ok (.aload_n 1, 1) := by decide +kernel
theorem dX9_readPerson_81 : decode cX9_readPerson 81 = .ok (.iload_n 2, 1) := by decide +kernel
theorem dX9_readPerson_82 : decode cX9_readPerson 82 = .ok (.iload 4, 2) := by decide +kernel
theorem dX9_readPerson_84 : decode cX9_readPerson 84 = .ok (.iload 5, 2) := by decide +kernel
theorem dX9_readPerson_86 : decode cX9_readPerson 86 = .ok (.aload_n 0, 1) := by decide +kernel
theorem dX9_readPerson_87 : decode cX9_readPerson 87 = .ok (.getfield 37, 3) := by decide +kernel
theorem dX9_readPerson_90 : decode cX9_readPerson 90 = .ok (.invokevirtual 65, 3) := by decide +kernel
theorem dX9_readPerson_93 : decode cX9_readPerson 93 = .ok (.iconst 1, 1) := by decide +kernel
theorem dX9_readPerson_94 : decode cX9_readPerson 94 = .ok (.ireturn, 1) := by decide +kernel
theorem dX9_takeSign_0 : decode cX9_takeSign 0 = .ok (.aload_n 0, 1) := by decide +kernel
theorem dX9_takeSign_1 : decode cX9_takeSign 1 = .ok (.getfield 19, 3) := by decide +kernel
theorem dX9_takeSign_4 : decode cX9_takeSign 4 = .ok (.aload_n 0, 1) := by decide +kernel
theorem dX9_takeSign_5 : decode cX9_takeSign 5 = .ok (.getfield 15, 3) := by decide +kernel
theorem dX9_takeSign_8 : decode cX9_takeSign 8 = .ok (.if_icmp .ge 16, 3) := by decide +kernel
theorem dX9_takeSign_11 : decode cX9_takeSign 11 = .ok (.aload_n 0, 1) := by decide +kernel
theorem dX9_takeSign_12 : decode cX9_takeSign 12 = .ok (.getfield 9, 3) := by decide +kernel
theorem dX9_takeSign_15 : decode cX9_takeSign 15 = .ok (.aload_n 0, 1) := by decide +kernel
theorem dX9_takeSign_16 : decode cX9_takeSign 16 = .ok (.getfield 19, 3) := by decide +kernel
theorem dX9_takeSign_19 : decode cX9_takeSign 19 = .ok (.iaload, 1) := by decide +kernel
theorem dX9_takeSign_20 : decode cX9_takeSign 20 = .ok (.iload_n 1, 1) := by decide +kernel
theorem dX9_takeSign_21 : decode cX9_takeSign 21 = .ok (.if_icmp .eq 9, 3) := by decide +kernel
theorem dX9_takeSign_24 : decode cX9_takeSign 24 = .ok (.aload_n 0, 1) := by decide +kernel
theorem dX9_takeSign_25 : decode cX9_takeSign 25 = .ok (.iconst 1, 1) := by decide +kernel
theorem dX9_takeSign_26 : decode cX9_takeSign 26 = .ok (.invokevirtual 54, 3) := by decide +kernel
theorem dX9_takeSign_29 : decode cX9_takeSign 29 = .ok (.ireturn, 1) := by decide +kernel
theorem dX9_takeSign_30 : decode cX9_takeSign 30 = .ok (.aload_n 0, 1) := by decide +kernel
theorem dX9_takeSign_31 : decode cX9_takeSign 31 = .ok (.dup, 1) := by decide +kernel
theorem dX9_takeSign_32 : decode cX9_takeSign 32 = .ok (.getfield 19, 3) := by decide +kernel
theorem dX9_takeSign_35 : decode cX9_takeSign 35 = .ok (.iconst 1, 1) := by decide +kernel
theorem dX9_takeSign_36 : decode cX9_takeSign 36 = .ok (.iadd, 1) := by decide +kernel
theorem dX9_takeSign_37 : decode cX9_takeSign 37 = .ok (.putfield 19, 3) := by decide +kernel
theorem dX9_takeSign_40 : decode cX9_takeSign 40 = .ok (.iconst 1, 1) := by decide +kernel
theorem dX9_takeSign_41 : decode cX9_takeSign 41 = .ok (.ireturn, 1) := by decide +kernel
theorem dX9_takeNumber_0 : decode cX9_takeNumber 0 = .ok (.aload_n 0, 1) := by decide +kernel
theorem dX9_takeNumber_1 : decode cX9_takeNumber 1 = .ok (.getfield 19, 3) := by decide +kernel
theorem dX9_takeNumber_4 : decode cX9_takeNumber 4 = .ok (.istore_n 3, 1) := by decide +kernel
theorem dX9_takeNumber_5 : decode cX9_takeNumber 5 = .ok (.iconst 0, 1) := by decide +kernel
theorem dX9_takeNumber_6 : decode cX9_takeNumber 6 = .ok (.istore 4, 2) := by decide +kernel
theorem dX9_takeNumber_8 : decode cX9_takeNumber 8 = .ok (.iload_n 3, 1) := by decide +kernel
theorem dX9_takeNumber_9 : decode cX9_takeNumber 9 = .ok (.aload_n 0, 1) := by decide +kernel
theorem dX9_takeNumber_10 : decode cX9_takeNumber 10 = .ok (.getfield 15, 3) := by decide +kernel
theorem dX9_takeNumber_13 : decode cX9_takeNumber 13 = .ok (.if_icmp .ge 52, 3) := by decide +kernel
theorem dX9_takeNumber_16 : decode cX9_takeNumber 16 = .ok (.aload_n 0, 1) := by decide +kernel
theorem dX9_takeNumber_17 : decode cX9_takeNumber 17 = .ok (.getfield 9, 3) := by decide +kernel
theorem dX9_takeNumber_20 : decode cX9_takeNumber 20 = .ok (.iload_n 3, 1) := by decide +kernel
theorem dX9_takeNumber_21 : decode cX9_takeNumber 21 = .ok (.iaload, 1) := by decide +kernel
theorem dX9_takeNumber_22 : decode cX9_takeNumber 22 = .ok (.bipush 48, 2) := by decide +kernel
theorem dX9_takeNumber_24 : decode cX9_takeNumber 24 = .ok (.bipush 57, 2) := by decide +kernel
theorem dX9_takeNumber_26 : decode cX9_takeNumber 26 = .ok (.invokestatic 69, 3) := by decide +kernel
theorem dX9_takeNumber_29 : decode cX9_takeNumber 29 = .ok (.ifCond .eq 36, 3) := by decide +kernel
theorem dX9_takeNumber_32 : decode cX9_takeNumber 32 = .ok (.iload_n 3, 1) := by decide +kernel
theorem dX9_takeNumber_33 : decode cX9_takeNumber 33 = .ok (.aload_n 0, 1) := by decide +kernel
theorem dX9_takeNumber_34 : decode cX9_takeNumber 34 = .ok (.getfield 19, 3) := by decide +kernel
theorem dX9_takeNumber_37 : decode cX9_takeNumber 37 = .ok (.isub, 1) := by decide +kernel
theorem dX9_takeNumber_38 : decode cX9_takeNumber 38 = .ok (.iconst 2, 1) := by decide +kernel
theorem dX9_takeNumber_39 : decode cX9_takeNumber 39 = .ok (.if_icmp .ge 20, 3) := by decide +kernel
theorem dX9_takeNumber_42 : decode cX9_takeNumber 42 = .ok (.iload 4, 2) := by decide +kernel
theorem dX9_takeNumber_44 : decode cX9_takeNumber 44 = .ok (.bipush 10, 2) := by decide +kernel
theorem dX9_takeNumber_46 : decode cX9_takeNumber 46 = .ok (.imul, 1) := by decide +kernel
theorem dX9_takeNumber_47 : decode cX9_takeNumber 47 = .ok (.aload_n 0, 1) := by decide +kernel
theorem dX9_takeNumber_48 : decode cX9_takeNumber 48 = .ok (.getfield 9, 3) := by decide +kernel
theorem dX9_takeNumber_51 : decode cX9_takeNumber 51 = .ok (.iload_n 3, 1) := by decide +kernel
theorem dX9_takeNumber_52 : decode cX9_takeNumber 52 = .ok (.iaload, 1) := by decide +kernel
theorem dX9_takeNumber_53 : decode cX9_takeNumber 53 = .ok (.iadd, 1) := by decide +kernel
theorem dX9_takeNumber_54 : decode cX9_takeNumber 54 = .ok (.bipush 48, 2) := by decide +kernel
theorem dX9_takeNumber_56 : decode cX9_takeNumber 56 = .ok (.isub, 1) := by decide +kernel
theorem dX9_takeNumber_57 : decode cX9_takeNumber 57 = .ok (.istore 4, 2) := by decide +kernel
theorem dX9_takeNumber_59 : decode cX9_takeNumber 59 = .ok (.iinc 3 1, 3) := by decide +kernel
theorem dX9_takeNumber_62 : decode cX9_takeNumber 62 = .ok (.goto (-54), 3) := by decide +kernel
theorem dX9_takeNumber_65 : decode cX9_takeNumber 65 = .ok (.iload_n 3, 1) := by decide +kernel
theorem dX9_takeNumber_66 : decode cX9_takeNumber 66 = .ok (.aload_n 0, 1) := by decide +kernel
theorem dX9_takeNumber_67 : decode cX9_takeNumber 67 = .ok (.getfield 19, 3) := by decide +kernel
theorem dX9_takeNumber_70 : decode cX9_takeNumber 70 = .ok (.isub, 1) := by decide +kernel
theorem dX9_takeNumber_71 : decode cX9_takeNumber 71 = .ok (.iconst 1, 1) := by decide +kernel
theorem dX9_takeNumber_72 : decode cX9_takeNumber 72 = .ok (.iconst 2, 1) := by decide +kernel
theorem dX9_takeNumber_73 : decode cX9_takeNumber 73 = .ok (.invokestatic 69, 3) := by decide +kernel
theorem dX9_takeNumber_76 : decode cX9_takeNumber 76 = .ok (.ifCond .ne 9, 3) := by decide +kernel
theorem dX9_takeNumber_79 : decode cX9_takeNumber 79 = .ok (.aload_n 0, 1) := by decide +kernel
theorem dX9_takeNumber_80 : decode cX9_takeNumber 80 = .ok (.iconst 1, 1) := by decide +kernel
theorem dX9_takeNumber_81 : decode cX9_takeNumber 81 = .ok (.invokevirtual 54, 3) := by decide +kernel
theorem dX9_takeNumber_84 : decode cX9_takeNumber 84 = .ok (.ireturn, 1) := by decide +kernel
theorem dX9_takeNumber_85 : decode cX9_takeNumber 85 = .ok (.iload 4, 2) := by decide +kernel
theorem dX9_takeNumber_87 : decode cX9_takeNumber 87 = .ok (.iload_n 1, 1) := by decide +kernel
theorem dX9_takeNumber_88 : decode cX9_takeNumber 88 = .ok (.iload_n 2, 1) := by decide +kernel
theorem dX9_takeNumber_89 : decode cX9_takeNumber 89 = .ok (.invokestatic 69, 3) := by decide +kernel
theorem dX9_takeNumber_92 : decode cX9_takeNumber 92 = .ok (.ifCond .ne 9, 3) := by decide +kernel
theorem dX9_takeNumber_95 : decode cX9_takeNumber 95 = .ok (.aload_n 0, 1) := by decide +kernel
theorem dX9_takeNumber_96 : decode cX9_takeNumber 96 = .ok (.iconst 2, 1) := by decide +kernel
theorem dX9_takeNumber_97 : decode cX9_takeNumber 97 = .ok (.invokevirtual 54, 3) := by decide +kernel
theorem dX9_takeNumber_100 : decode cX9_takeNumber 100 = .ok (.ireturn, 1) := by decide +kernel
theorem dX9_takeNumber_101 : decode cX9_takeNumber 101 = .ok (.aload_n 0, 1) := by decide +kernel
theorem dX9_takeNumber_102 : decode cX9_takeNumber 102 = .ok (.iload 4, 2) := by decide +kernel
theorem dX9_takeNumber_104 : decode cX9_takeNumber 104 = .ok (.putfield 37, 3) := by decide +kernel
theorem dX9_takeNumber_107 : decode cX9_takeNumber 107 = .ok (.aload_n 0, 1) := by decide +kernel
theorem dX9_takeNumber_108 : decode cX9_takeNumber 108 = .ok (.iload_n 3, 1) := by decide +kernel
theorem dX9_takeNumber_109 : decode cX9_takeNumber 109 = .ok (.putfield 19, 3) := by decide +kernel
theorem dX9_takeNumber_112 : decode cX9_takeNumber 112 = .ok (.iconst 1, 1) := by decide +kernel
theorem dX9_takeNumber_113 : decode cX9_takeNumber 113 = .ok (.ireturn, 1) := by decide +kernel
theorem dX9_fails_0 : decode cX9_fails 0 = .ok (.aload_n 0, 1) := by decide +kernel
theorem dX9_fails_1 : decode cX9_fails 1 = .ok (.iload_n 1, 1) := by decide +kernel
theorem dX9_fails_2 : decode cX9_fails 2 = .ok (.putfield 73, 3) := by decide +kernel
theorem dX9_fails_5 : decode cX9_fails 5 = .ok (.aload_n 0, 1) := by decide +kernel
theorem dX9_fails_6 : decode cX9_fails 6 = .ok (.aload_n 0, 1) := by decide +kernel
theorem dX9_fails_7 : decode cX9_fails 7 = .ok (.getfield 19, 3) := by decide +kernel
theorem dX9_fails_10 : decode cX9_fails 10 = .ok (.putfield 76, 3) := by decide +kernel
theorem dX9_fails_13 : decode cX9_fails 13 = .ok (.iconst 0, 1) := by decide +kernel
theorem dX9_fails_14 : decode cX9_fails 14 = .ok (.ireturn, 1) := by decide +kernel
theorem dX10_init_0 : decode cX10_init 0 = .ok (.aload_n 0, 1) := by decide +kernel
theorem dX10_init_1 : decode cX10_init 1 = .ok (.invokespecial 1, 3) := by decide +kernel
theorem dX10_init_4 : decode cX10_init 4 = .ok (.return_, 1) := by decide +kernel
theorem dX10_askSize_0 : decode cX10_askSize 0 = .ok (.aload_n 1, 1) := by decide +kernel
theorem dX10_askSize_1 : decode cX10_askSize 1 = .ok (.bipush 10, 2) := by decide +kernel
theorem dX10_askSize_3 : decode cX10_askSize 3 = .ok (.invokevirtual 7, 3) := by decide +kernel
theorem dX10_askSize_6 : decode cX10_askSize 6 = .ok (.aload_n 1, 1) := by decide +kernel
theorem dX10_askSize_7 : decode cX10_askSize 7 = .ok (.getfield 13, 3) := by decide +kernel
theorem dX10_askSize_10 : decode cX10_askSize 10 = .ok (.ireturn, 1) := by decide +kernel
theorem dX10_askMark_0 : decode cX10_askMark 0 = .ok (.aload_n 1, 1) := by decide +kernel
theorem dX10_askMark_1 : decode cX10_askMark 1 = .ok (.bipush 20, 2) := by decide +kernel
theorem dX10_askMark_3 : decode cX10_askMark 3 = .ok (.invokevirtual 7, 3) := by decide +kernel
theorem dX10_askMark_6 : decode cX10_askMark 6 = .ok (.aload_n 1, 1) := by decide +kernel
theorem dX10_askMark_7 : decode cX10_askMark 7 = .ok (.getfield 17, 3) := by decide +kernel
theorem dX10_askMark_10 : decode cX10_askMark 10 = .ok (.ireturn, 1) := by decide +kernel
theorem dJ11_isValidCodePoint_9a6ad_0 : decode cJ11_isValidCodePoint_9a6ad 0 = .ok (.iload_n 0, 1) := by decide +kernel
theorem dJ11_isValidCodePoint_9a6ad_1 : decode cJ11_isValidCodePoint_9a6ad 1 = .ok (.bipush 16, 2) := by decide +kernel
theorem dJ11_isValidCodePoint_9a6ad_3 : decode cJ11_isValidCodePoint_9a6ad 3 = .ok (.iushr, 1) := by decide +kernel
theorem dJ11_isValidCodePoint_9a6ad_4 : decode cJ11_isValidCodePoint_9a6ad 4 = .ok (.istore_n 1, 1) := by decide +kernel
theorem dJ11_isValidCodePoint_9a6ad_5 : decode cJ11_isValidCodePoint_9a6ad 5 = .ok (.iload_n 1, 1) := by decide +kernel
theorem dJ11_isValidCodePoint_9a6ad_6 : decode cJ11_isValidCodePoint_9a6ad 6 = .ok (.bipush 17, 2) := by decide +kernel
theorem dJ11_isValidCodePoint_9a6ad_8 : decode cJ11_isValidCodePoint_9a6ad 8 = .ok (.if_icmp .ge 7, 3) := by decide +kernel
theorem dJ11_isValidCodePoint_9a6ad_11 : decode cJ11_isValidCodePoint_9a6ad 11 = .ok (.iconst 1, 1) := by decide +kernel
theorem dJ11_isValidCodePoint_9a6ad_12 : decode cJ11_isValidCodePoint_9a6ad 12 = .ok (.goto 4, 3) := by decide +kernel
theorem dJ11_isValidCodePoint_9a6ad_15 : decode cJ11_isValidCodePoint_9a6ad 15 = .ok (.iconst 0, 1) := by decide +kernel
theorem dJ11_isValidCodePoint_9a6ad_16 : decode cJ11_isValidCodePoint_9a6ad 16 = .ok (.ireturn, 1) := by decide +kernel
theorem dJ11_highSurrogate_5068e_0 : decode cJ11_highSurrogate_5068e 0 = .ok (.iload_n 0, 1) := by decide +kernel
theorem dJ11_highSurrogate_5068e_1 : decode cJ11_highSurrogate_5068e 1 = .ok (.bipush 10, 2) := by decide +kernel
theorem dJ11_highSurrogate_5068e_3 : decode cJ11_highSurrogate_5068e 3 = .ok (.iushr, 1) := by decide +kernel
theorem dJ11_highSurrogate_5068e_4 : decode cJ11_highSurrogate_5068e 4 = .ok (.ldc 110, 2) := by decide +kernel
theorem dJ11_highSurrogate_5068e_6 : decode cJ11_highSurrogate_5068e 6 = .ok (.iadd, 1) := by decide +kernel
theorem dJ11_highSurrogate_5068e_7 : decode cJ11_highSurrogate_5068e 7 = .ok (.i2c, 1) := by decide +kernel
theorem dJ11_highSurrogate_5068e_8 : decode cJ11_highSurrogate_5068e 8 = .ok (.ireturn, 1) := by decide +kernel
theorem dJ11_lowSurrogate_5068e_0 : decode cJ11_lowSurrogate_5068e 0 = .ok (.iload_n 0, 1) := by decide +kernel
theorem dJ11_lowSurrogate_5068e_1 : decode cJ11_lowSurrogate_5068e 1 = .ok (.sipush 1023, 3) := by decide +kernel
theorem dJ11_lowSurrogate_5068e_4 : decode cJ11_lowSurrogate_5068e 4 = .ok (.iand, 1) := by decide +kernel
theorem dJ11_lowSurrogate_5068e_5 : decode cJ11_lowSurrogate_5068e 5 = .ok (.ldc 76, 2) := by decide +kernel
theorem dJ11_lowSurrogate_5068e_7 : decode cJ11_lowSurrogate_5068e 7 = .ok (.iadd, 1) := by decide +kernel
theorem dJ11_lowSurrogate_5068e_8 : decode cJ11_lowSurrogate_5068e 8 = .ok (.i2c, 1) := by decide +kernel
theorem dJ11_lowSurrogate_5068e_9 : decode cJ11_lowSurrogate_5068e 9 = .ok (.ireturn, 1) := by decide +kernel
theorem dJ6_bitCount_0f7a4_0 : decode cJ6_bitCount_0f7a4 0 = .ok (.iload_n 0, 1) := by decide +kernel
theorem dJ6_bitCount_0f7a4_1 : decode cJ6_bitCount_0f7a4 1 = .ok (.iload_n 0, 1) := by decide +kernel
theorem dJ6_bitCount_0f7a4_2 : decode cJ6_bitCount_0f7a4 2 = .ok (.iconst 1, 1) := by decide +kernel
theorem dJ6_bitCount_0f7a4_3 : decode cJ6_bitCount_0f7a4 3 = .ok (.iushr, 1) := by decide +kernel
theorem dJ6_bitCount_0f7a4_4 : decode cJ6_bitCount_0f7a4 4 = .ok (.ldc_w 265, 3) := by decide +kernel
theorem dJ6_bitCount_0f7a4_7 : decode cJ6_bitCount_0f7a4 7 = .ok (.iand, 1) := by decide +kernel
theorem dJ6_bitCount_0f7a4_8 : decode cJ6_bitCount_0f7a4 8 = .ok (.isub, 1) := by decide +kernel
theorem dJ6_bitCount_0f7a4_9 : decode cJ6_bitCount_0f7a4 9 = .ok (.istore_n 0, 1) := by decide +kernel
theorem dJ6_bitCount_0f7a4_10 : decode cJ6_bitCount_0f7a4 10 = .ok (.iload_n 0, 1) := by decide +kernel
theorem dJ6_bitCount_0f7a4_11 : decode cJ6_bitCount_0f7a4 11 = .ok (.ldc_w 266, 3) := by decide +kernel
theorem dJ6_bitCount_0f7a4_14 : decode cJ6_bitCount_0f7a4 14 = .ok (.iand, 1) := by decide +kernel
theorem dJ6_bitCount_0f7a4_15 : decode cJ6_bitCount_0f7a4 15 = .ok (.iload_n 0, 1) := by decide +kernel
theorem dJ6_bitCount_0f7a4_16 : decode cJ6_bitCount_0f7a4 16 = .ok (.iconst 2, 1) := by decide +kernel
theorem dJ6_bitCount_0f7a4_17 : decode cJ6_bitCount_0f7a4 17 = .ok (.iushr, 1) := by decide +kernel
theorem dJ6_bitCount_0f7a4_18 : decode cJ6_bitCount_0f7a4 18 = .ok (.ldc_w 266, 3) := by decide +kernel
theorem dJ6_bitCount_0f7a4_21 : decode cJ6_bitCount_0f7a4 21 = .ok (.iand, 1) := by decide +kernel
theorem dJ6_bitCount_0f7a4_22 : decode cJ6_bitCount_0f7a4 22 = .ok (.iadd, 1) := by decide +kernel
theorem dJ6_bitCount_0f7a4_23 : decode cJ6_bitCount_0f7a4 23 = .ok (.istore_n 0, 1) := by decide +kernel
theorem dJ6_bitCount_0f7a4_24 : decode cJ6_bitCount_0f7a4 24 = .ok (.iload_n 0, 1) := by decide +kernel
theorem dJ6_bitCount_0f7a4_25 : decode cJ6_bitCount_0f7a4 25 = .ok (.iload_n 0, 1) := by decide +kernel
theorem dJ6_bitCount_0f7a4_26 : decode cJ6_bitCount_0f7a4 26 = .ok (.iconst 4, 1) := by decide +kernel
theorem dJ6_bitCount_0f7a4_27 : decode cJ6_bitCount_0f7a4 27 = .ok (.iushr, 1) := by decide +kernel
theorem dJ6_bitCount_0f7a4_28 : decode cJ6_bitCount_0f7a4 28 = .ok (.iadd, 1) := by decide +kernel
theorem dJ6_bitCount_0f7a4_29 : decode cJ6_bitCount_0f7a4 29 = .ok (.ldc_w 267, 3) := by decide +kernel
theorem dJ6_bitCount_0f7a4_32 : decode cJ6_bitCount_0f7a4 32 = .ok (.iand, 1) := by decide +kernel
theorem dJ6_bitCount_0f7a4_33 : decode cJ6_bitCount_0f7a4 33 = .ok (.istore_n 0, 1) := by decide +kernel
theorem dJ6_bitCount_0f7a4_34 : decode cJ6_bitCount_0f7a4 34 = .ok (.iload_n 0, 1) := by decide +kernel
theorem dJ6_bitCount_0f7a4_35 : decode cJ6_bitCount_0f7a4 35 = .ok (.iload_n 0, 1) := by decide +kernel
theorem dJ6_bitCount_0f7a4_36 : decode cJ6_bitCount_0f7a4 36 = .ok (.bipush 8, 2) := by decide +kernel
theorem dJ6_bitCount_0f7a4_38 : decode cJ6_bitCount_0f7a4 38 = .ok (.iushr, 1) := by decide +kernel
theorem dJ6_bitCount_0f7a4_39 : decode cJ6_bitCount_0f7a4 39 = .ok (.iadd, 1) := by decide +kernel
theorem dJ6_bitCount_0f7a4_40 : decode cJ6_bitCount_0f7a4 40 = .ok (.istore_n 0, 1) := by decide +kernel
theorem dJ6_bitCount_0f7a4_41 : decode cJ6_bitCount_0f7a4 41 = .ok (.iload_n 0, 1) := by decide +kernel
theorem dJ6_bitCount_0f7a4_42 : decode cJ6_bitCount_0f7a4 42 = .ok (.iload_n 0, 1) := by decide +kernel
theorem dJ6_bitCount_0f7a4_43 : decode cJ6_bitCount_0f7a4 43 = .ok (.bipush 16, 2) := by decide +kernel
theorem dJ6_bitCount_0f7a4_45 : decode cJ6_bitCount_0f7a4 45 = .ok (.iushr, 1) := by decide +kernel
theorem dJ6_bitCount_0f7a4_46 : decode cJ6_bitCount_0f7a4 46 = .ok (.iadd, 1) := by decide +kernel
theorem dJ6_bitCount_0f7a4_47 : decode cJ6_bitCount_0f7a4 47 = .ok (.istore_n 0, 1) := by decide +kernel
theorem dJ6_bitCount_0f7a4_48 : decode cJ6_bitCount_0f7a4 48 = .ok (.iload_n 0, 1) := by decide +kernel
theorem dJ6_bitCount_0f7a4_49 : decode cJ6_bitCount_0f7a4 49 = .ok (.bipush 63, 2) := by decide +kernel
theorem dJ6_bitCount_0f7a4_51 : decode cJ6_bitCount_0f7a4 51 = .ok (.iand, 1) := by decide +kernel
theorem dJ6_bitCount_0f7a4_52 : decode cJ6_bitCount_0f7a4 52 = .ok (.ireturn, 1) := by decide +kernel
theorem dJ9_max_7cf53_0 : decode cJ9_max_7cf53 0 = .ok (.iload_n 0, 1) := by decide +kernel
theorem dJ9_max_7cf53_1 : decode cJ9_max_7cf53 1 = .ok (.iload_n 1, 1) := by decide +kernel
theorem dJ9_max_7cf53_2 : decode cJ9_max_7cf53 2 = .ok (.if_icmp .lt 7, 3) := by decide +kernel
theorem dJ9_max_7cf53_5 : decode cJ9_max_7cf53 5 = .ok (.iload_n 0, 1) := by decide +kernel
theorem dJ9_max_7cf53_6 : decode cJ9_max_7cf53 6 = .ok (.goto 4, 3) := by decide +kernel
theorem dJ9_max_7cf53_9 : decode cJ9_max_7cf53 9 = .ok (.iload_n 1, 1) := by decide +kernel
theorem dJ9_max_7cf53_10 : decode cJ9_max_7cf53 10 = .ok (.ireturn, 1) := by decide +kernel
theorem dJ9_min_7cf53_0 : decode cJ9_min_7cf53 0 = .ok (.iload_n 0, 1) := by decide +kernel
theorem dJ9_min_7cf53_1 : decode cJ9_min_7cf53 1 = .ok (.iload_n 1, 1) := by decide +kernel
theorem dJ9_min_7cf53_2 : decode cJ9_min_7cf53 2 = .ok (.if_icmp .gt 7, 3) := by decide +kernel
theorem dJ9_min_7cf53_5 : decode cJ9_min_7cf53 5 = .ok (.iload_n 0, 1) := by decide +kernel
theorem dJ9_min_7cf53_6 : decode cJ9_min_7cf53 6 = .ok (.goto 4, 3) := by decide +kernel
theorem dJ9_min_7cf53_9 : decode cJ9_min_7cf53 9 = .ok (.iload_n 1, 1) := by decide +kernel
theorem dJ9_min_7cf53_10 : decode cJ9_min_7cf53 10 = .ok (.ireturn, 1) := by decide +kernel
theorem dJ0_length_8abf5_0 : decode cJ0_length_8abf5 0 = .ok (.aload_n 0, 1) := by decide +kernel
theorem dJ0_length_8abf5_1 : decode cJ0_length_8abf5 1 = .ok (.getfield 9, 3) := by decide +kernel
theorem dJ0_length_8abf5_4 : decode cJ0_length_8abf5 4 = .ok (.arraylength, 1) := by decide +kernel
theorem dJ0_length_8abf5_5 : decode cJ0_length_8abf5 5 = .ok (.aload_n 0, 1) := by decide +kernel
theorem dJ0_length_8abf5_6 : decode cJ0_length_8abf5 6 = .ok (.invokevirtual 335, 3) := by decide +kernel
theorem dJ0_length_8abf5_9 : decode cJ0_length_8abf5 9 = .ok (.ishr, 1) := by decide +kernel
theorem dJ0_length_8abf5_10 : decode cJ0_length_8abf5 10 = .ok (.ireturn, 1) := by decide +kernel
theorem dJ0_indexOf_0f7a4_0 : decode cJ0_indexOf_0f7a4 0 = .ok (.aload_n 0, 1) := by decide +kernel
theorem dJ0_indexOf_0f7a4_1 : decode cJ0_indexOf_0f7a4 1 = .ok (.iload_n 1, 1) := by decide +kernel
theorem dJ0_indexOf_0f7a4_2 : decode cJ0_indexOf_0f7a4 2 = .ok (.iconst 0, 1) := by decide +kernel
theorem dJ0_indexOf_0f7a4_3 : decode cJ0_indexOf_0f7a4 3 = .ok (.invokevirtual 633, 3) := by decide +kernel
theorem dJ0_indexOf_0f7a4_6 : decode cJ0_indexOf_0f7a4 6 = .ok (.ireturn, 1) := by decide +kernel
theorem dJ0_indexOf_7cf53_0 : decode cJ0_indexOf_7cf53 0 = .ok (.aload_n 0, 1) := by decide +kernel
theorem dJ0_indexOf_7cf53_1 : decode cJ0_indexOf_7cf53 1 = .ok (.invokevirtual 492, 3) := by decide +kernel
theorem dJ0_indexOf_7cf53_4 : decode cJ0_indexOf_7cf53 4 = .ok (.ifCond .eq 19, 3) := by decide +kernel
theorem dJ0_indexOf_7cf53_7 : decode cJ0_indexOf_7cf53 7 = .ok (.aload_n 0, 1) := by decide +kernel
theorem dJ0_indexOf_7cf53_8 : decode cJ0_indexOf_7cf53 8 = .ok (.getfield 9, 3) := by decide +kernel
theorem dJ0_indexOf_7cf53_11 : decode cJ0_indexOf_7cf53 11 = .ok (.iload_n 1, 1) := by decide +kernel
theorem dJ0_indexOf_7cf53_12 : decode cJ0_indexOf_7cf53 12 = .ok (.iload_n 2, 1) := by decide +kernel
theorem dJ0_indexOf_7cf53_13 : decode cJ0_indexOf_7cf53 13 = .ok (.aload_n 0, 1) := by decide +kernel
theorem dJ0_indexOf_7cf53_14 : decode cJ0_indexOf_7cf53 14 = .ok (.invokevirtual 505, 3) := by decide +kernel
theorem dJ0_indexOf_7cf53_17 : decode cJ0_indexOf_7cf53 17 = .ok (.invokestatic 637, 3) := by decide +kernel
theorem dJ0_indexOf_7cf53_20 : decode cJ0_indexOf_7cf53 20 = .ok (.goto 16, 3) := by decide +kernel
theorem dJ0_indexOf_7cf53_23 : decode cJ0_indexOf_7cf53 23 = .ok (.aload_n 0, 1) := by decide +kernel
theorem dJ0_indexOf_7cf53_24 : decode cJ0_indexOf_7cf53 24 = .ok (.getfield 9, 3) := by decide +kernel
theorem dJ0_indexOf_7cf53_27 : decode cJ0_indexOf_7cf53 27 = .ok (.iload_n 1, 1) := by decide +kernel
theorem dJ0_indexOf_7cf53_28 : decode cJ0_indexOf_7cf53 28 = .ok (.iload_n 2, 1) := by decide +kernel
theorem dJ0_indexOf_7cf53_29 : decode cJ0_indexOf_7cf53 29 = .ok (.aload_n 0, 1) := by decide +kernel
theorem dJ0_indexOf_7cf53_30 : decode cJ0_indexOf_7cf53 30 = .ok (.invokevirtual 505, 3) := by decide +kernel
theorem dJ0_indexOf_7cf53_33 : decode cJ0_indexOf_7cf53 33 = .ok (.invokestatic 640, 3) := by decide +kernel
theorem dJ0_indexOf_7cf53_36 : decode cJ0_indexOf_7cf53 36 = .ok (.ireturn, 1) := by decide +kernel
theorem dJ0_coder_7d493_0 : decode cJ0_coder_7d493 0 = .ok (.getstatic 38, 3) := by decide +kernel
theorem dJ0_coder_7d493_3 : decode cJ0_coder_7d493 3 = .ok (.ifCond .eq 10, 3) := by decide +kernel
theorem dJ0_coder_7d493_6 : decode cJ0_coder_7d493 6 = .ok (.aload_n 0, 1) := by decide +kernel
theorem dJ0_coder_7d493_7 : decode cJ0_coder_7d493 7 = .ok (.getfield 15, 3) := by decide +kernel
theorem dJ0_coder_7d493_10 : decode cJ0_coder_7d493 10 = .ok (.goto 4, 3) := by decide +kernel
theorem dJ0_coder_7d493_13 : decode cJ0_coder_7d493 13 = .ok (.iconst 1, 1) := by decide +kernel
theorem dJ0_coder_7d493_14 : decode cJ0_coder_7d493 14 = .ok (.ireturn, 1) := by decide +kernel
theorem dJ0_isLatin1_aae02_0 : decode cJ0_isLatin1_aae02 0 = .ok (.getstatic 38, 3) := by decide +kernel
theorem dJ0_isLatin1_aae02_3 : decode cJ0_isLatin1_aae02 3 = .ok (.ifCond .eq 14, 3) := by decide +kernel
theorem dJ0_isLatin1_aae02_6 : decode cJ0_isLatin1_aae02 6 = .ok (.aload_n 0, 1) := by decide +kernel
theorem dJ0_isLatin1_aae02_7 : decode cJ0_isLatin1_aae02 7 = .ok (.getfield 15, 3) := by decide +kernel
theorem dJ0_isLatin1_aae02_10 : decode cJ0_isLatin1_aae02 10 = .ok (.ifCond .ne 7, 3) := by decide +kernel
theorem dJ0_isLatin1_aae02_13 : decode cJ0_isLatin1_aae02 13 = .ok (.iconst 1, 1) := by decide +kernel
theorem dJ0_isLatin1_aae02_14 : decode cJ0_isLatin1_aae02 14 = .ok (.goto 4, 3) := by decide +kernel
theorem dJ0_isLatin1_aae02_17 : decode cJ0_isLatin1_aae02 17 = .ok (.iconst 0, 1) := by decide +kernel
theorem dJ0_isLatin1_aae02_18 : decode cJ0_isLatin1_aae02 18 = .ok (.ireturn, 1) := by decide +kernel
theorem dJ0_checkBoundsBeginEnd_23922_0 : decode cJ0_checkBoundsBeginEnd_23922 0 = .ok (.iload_n 0, 1) := by decide +kernel
theorem dJ0_checkBoundsBeginEnd_23922_1 : decode cJ0_checkBoundsBeginEnd_23922 1 = .ok (.iload_n 1, 1) := by decide +kernel
theorem dJ0_checkBoundsBeginEnd_23922_2 : decode cJ0_checkBoundsBeginEnd_23922 2 = .ok (.iload_n 2, 1) := by decide +kernel
theorem dJ0_checkBoundsBeginEnd_23922_3 : decode cJ0_checkBoundsBeginEnd_23922 3 = .ok (.getstatic 1053, 3) := by decide +kernel
theorem dJ0_checkBoundsBeginEnd_23922_6 : decode cJ0_checkBoundsBeginEnd_23922 6 = .ok (.invokestatic 1062, 3) := by decide +kernel
theorem dJ0_checkBoundsBeginEnd_23922_9 : decode cJ0_checkBoundsBeginEnd_23922 9 = .ok (.pop, 1) := by decide +kernel
theorem dJ0_checkBoundsBeginEnd_23922_10 : decode cJ0_checkBoundsBeginEnd_23922 10 = .ok (.return_, 1) := by decide +kernel
theorem dJ1_canEncode_9a6ad_0 : decode cJ1_canEncode_9a6ad 0 = .ok (.iload_n 0, 1) := by decide +kernel
theorem dJ1_canEncode_9a6ad_1 : decode cJ1_canEncode_9a6ad 1 = .ok (.ifCond .lt 14, 3) := by decide +kernel
theorem dJ1_canEncode_9a6ad_4 : decode cJ1_canEncode_9a6ad 4 = .ok (.iload_n 0, 1) := by decide +kernel
theorem dJ1_canEncode_9a6ad_5 : decode cJ1_canEncode_9a6ad 5 = .ok (.sipush 255, 3) := by decide +kernel
theorem dJ1_canEncode_9a6ad_8 : decode cJ1_canEncode_9a6ad 8 = .ok (.if_icmp .gt 7, 3) := by decide +kernel
theorem dJ1_canEncode_9a6ad_11 : decode cJ1_canEncode_9a6ad 11 = .ok (.iconst 1, 1) := by decide +kernel
theorem dJ1_canEncode_9a6ad_12 : decode cJ1_canEncode_9a6ad 12 = .ok (.goto 4, 3) := by decide +kernel
theorem dJ1_canEncode_9a6ad_15 : decode cJ1_canEncode_9a6ad 15 = .ok (.iconst 0, 1) := by decide +kernel
theorem dJ1_canEncode_9a6ad_16 : decode cJ1_canEncode_9a6ad 16 = .ok (.ireturn, 1) := by decide +kernel
theorem dJ1_indexOf_4cfef_0 : decode cJ1_indexOf_4cfef 0 = .ok (.iload_n 1, 1) := by decide +kernel
theorem dJ1_indexOf_4cfef_1 : decode cJ1_indexOf_4cfef 1 = .ok (.invokestatic 88, 3) := by decide +kernel
theorem dJ1_indexOf_4cfef_4 : decode cJ1_indexOf_4cfef 4 = .ok (.ifCond .ne 5, 3) := by decide +kernel
theorem dJ1_indexOf_4cfef_7 : decode cJ1_indexOf_4cfef 7 = .ok (.iconst (-1), 1) := by decide +kernel
theorem dJ1_indexOf_4cfef_8 : decode cJ1_indexOf_4cfef 8 = .ok (.ireturn, 1) := by decide +kernel
theorem dJ1_indexOf_4cfef_9 : decode cJ1_indexOf_4cfef 9 = .ok (.iload_n 2, 1) := by decide +kernel
theorem dJ1_indexOf_4cfef_10 : decode cJ1_indexOf_4cfef 10 = .ok (.iconst 0, 1) := by decide +kernel
theorem dJ1_indexOf_4cfef_11 : decode cJ1_indexOf_4cfef 11 = .ok (.invokestatic 92, 3) := by decide +kernel
theorem dJ1_indexOf_4cfef_14 : decode cJ1_indexOf_4cfef 14 = .ok (.istore_n 2, 1) := by decide +kernel
theorem dJ1_indexOf_4cfef_15 : decode cJ1_indexOf_4cfef 15 = .ok (.iload_n 3, 1) := by decide +kernel
theorem dJ1_indexOf_4cfef_16 : decode cJ1_indexOf_4cfef 16 = .ok (.aload_n 0, 1) := by decide +kernel
theorem dJ1_indexOf_4cfef_17 : decode cJ1_indexOf_4cfef 17 = .ok (.arraylength, 1) := by decide +kernel
theorem dJ1_indexOf_4cfef_18 : decode cJ1_indexOf_4cfef 18 = .ok (.invokestatic 38, 3) := by decide +kernel
theorem dJ1_indexOf_4cfef_21 : decode cJ1_indexOf_4cfef 21 = .ok (.istore_n 3, 1) := by decide +kernel
theorem dJ1_indexOf_4cfef_22 : decode cJ1_indexOf_4cfef 22 = .ok (.iload_n 2, 1) := by decide +kernel
theorem dJ1_indexOf_4cfef_23 : decode cJ1_indexOf_4cfef 23 = .ok (.iload_n 3, 1) := by decide +kernel
theorem dJ1_indexOf_4cfef_24 : decode cJ1_indexOf_4cfef 24 = .ok (.if_icmp .lt 5, 3) := by decide +kernel
theorem dJ1_indexOf_4cfef_27 : decode cJ1_indexOf_4cfef 27 = .ok (.iconst (-1), 1) := by decide +kernel
theorem dJ1_indexOf_4cfef_28 : decode cJ1_indexOf_4cfef 28 = .ok (.ireturn, 1) := by decide +kernel
theorem dJ1_indexOf_4cfef_29 : decode cJ1_indexOf_4cfef 29 = .ok (.aload_n 0, 1) := by decide +kernel
theorem dJ1_indexOf_4cfef_30 : decode cJ1_indexOf_4cfef 30 = .ok (.iload_n 1, 1) := by decide +kernel
theorem dJ1_indexOf_4cfef_31 : decode cJ1_indexOf_4cfef 31 = .ok (.iload_n 2, 1) := by decide +kernel
theorem dJ1_indexOf_4cfef_32 : decode cJ1_indexOf_4cfef 32 = .ok (.iload_n 3, 1) := by decide +kernel
theorem dJ1_indexOf_4cfef_33 : decode cJ1_indexOf_4cfef 33 = .ok (.invokestatic 95, 3) := by decide +kernel
theorem dJ1_indexOf_4cfef_36 : decode cJ1_indexOf_4cfef 36 = .ok (.ireturn, 1) := by decide +kernel
theorem dJ1_indexOfChar_4cfef_0 : decode cJ1_indexOfChar_4cfef 0 = .ok (.iload_n 1, 1) := by decide +kernel
theorem dJ1_indexOfChar_4cfef_1 : decode cJ1_indexOfChar_4cfef 1 = .ok (.i2b, 1) := by decide +kernel
theorem dJ1_indexOfChar_4cfef_2 : decode cJ1_indexOfChar_4cfef 2 = .ok (.istore 4, 2) := by decide +kernel
theorem dJ1_indexOfChar_4cfef_4 : decode cJ1_indexOfChar_4cfef 4 = .ok (.iload_n 2, 1) := by decide +kernel
theorem dJ1_indexOfChar_4cfef_5 : decode cJ1_indexOfChar_4cfef 5 = .ok (.istore 5, 2) := by decide +kernel
theorem dJ1_indexOfChar_4cfef_7 : decode cJ1_indexOfChar_4cfef 7 = .ok (.iload 5, 2) := by decide +kernel
theorem dJ1_indexOfChar_4cfef_9 : decode cJ1_indexOfChar_4cfef 9 = .ok (.iload_n 3, 1) := by decide +kernel
theorem dJ1_indexOfChar_4cfef_10 : decode cJ1_indexOfChar_4cfef 10 = .ok (.if_icmp .ge 21, 3) := by decide +kernel
theorem dJ1_indexOfChar_4cfef_13 : decode cJ1_indexOfChar_4cfef 13 = .ok (.aload_n 0, 1) := by decide +kernel
theorem dJ1_indexOfChar_4cfef_14 : decode cJ1_indexOfChar_4cfef 14 = .ok (.iload 5, 2) := by decide +kernel
theorem dJ1_indexOfChar_4cfef_16 : decode cJ1_indexOfChar_4cfef 16 = .ok (.baload, 1) := by decide +kernel
theorem dJ1_indexOfChar_4cfef_17 : decode cJ1_indexOfChar_4cfef 17 = .ok (.iload 4, 2) := by decide +kernel
theorem dJ1_indexOfChar_4cfef_19 : decode cJ1_indexOfChar_4cfef 19 = .ok (.if_icmp .ne 6, 3) := by decide +kernel
theorem dJ1_indexOfChar_4cfef_22 : decode cJ1_indexOfChar_4cfef 22 = .ok (.iload 5, 2) := by decide +kernel
theorem dJ1_indexOfChar_4cfef_24 : decode cJ1_indexOfChar_4cfef 24 = .ok (.ireturn, 1) := by decide +kernel
theorem dJ1_indexOfChar_4cfef_25 : decode cJ1_indexOfChar_4cfef 25 = .ok (.iinc 5 1, 3) := by decide +kernel
theorem dJ1_indexOfChar_4cfef_28 : decode cJ1_indexOfChar_4cfef 28 = .ok (.goto (-21), 3) := by decide +kernel
theorem dJ1_indexOfChar_4cfef_31 : decode cJ1_indexOfChar_4cfef 31 = .ok (.iconst (-1), 1) := by decide +kernel
theorem dJ1_indexOfChar_4cfef_32 : decode cJ1_indexOfChar_4cfef 32 = .ok (.ireturn, 1) := by decide +kernel
theorem dJ7_fill_53178_0 : decode cJ7_fill_53178 0 = .ok (.iconst 0, 1) := by decide +kernel
theorem dJ7_fill_53178_1 : decode cJ7_fill_53178 1 = .ok (.istore_n 2, 1) := by decide +kernel
theorem dJ7_fill_53178_2 : decode cJ7_fill_53178 2 = .ok (.aload_n 0, 1) := by decide +kernel
theorem dJ7_fill_53178_3 : decode cJ7_fill_53178 3 = .ok (.arraylength, 1) := by decide +kernel
theorem dJ7_fill_53178_4 : decode cJ7_fill_53178 4 = .ok (.istore_n 3, 1) := by decide +kernel
theorem dJ7_fill_53178_5 : decode cJ7_fill_53178 5 = .ok (.iload_n 2, 1) := by decide +kernel
theorem dJ7_fill_53178_6 : decode cJ7_fill_53178 6 = .ok (.iload_n 3, 1) := by decide +kernel
theorem dJ7_fill_53178_7 : decode cJ7_fill_53178 7 = .ok (.if_icmp .ge 13, 3) := by decide +kernel
theorem dJ7_fill_53178_10 : decode cJ7_fill_53178 10 = .ok (.aload_n 0, 1) := by decide +kernel
theorem dJ7_fill_53178_11 : decode cJ7_fill_53178 11 = .ok (.iload_n 2, 1) := by decide +kernel
theorem dJ7_fill_53178_12 : decode cJ7_fill_53178 12 = .ok (.iload_n 1, 1) := by decide +kernel
theorem dJ7_fill_53178_13 : decode cJ7_fill_53178 13 = .ok (.iastore, 1) := by decide +kernel
theorem dJ7_fill_53178_14 : decode cJ7_fill_53178 14 = .ok (.iinc 2 1, 3) := by decide +kernel
theorem dJ7_fill_53178_17 : decode cJ7_fill_53178 17 = .ok (.goto (-12), 3) := by decide +kernel
theorem dJ7_fill_53178_20 : decode cJ7_fill_53178 20 = .ok (.return_, 1) := by decide +kernel
end
section
theorem dX11_init_0 : decode cX11_init 0 = .ok (.aload_n 0, 1) := by decide +kernel
theorem dX11_init_1 : decode cX11_init 1 = .ok (.invokespecial 1, 3) := by decide +kernel
theorem dX11_init_4 : decode cX11_init 4 = .ok (.iconst 5, 1) := by decide +kernel
theorem dX11_init_5 : decode cX11_init 5 = .ok (.anewarray 7, 3) := by decide +kernel
theorem dX11_init_8 : decode cX11_init 8 = .ok (.dup, 1) := by decide +kernel
theorem dX11_init_9 : decode cX11_init 9 = .ok (.iconst 0, 1) := by decide +kernel
theorem dX11_init_10 : decode cX11_init 10 = .ok (.new 9, 3) := by decide +kernel
theorem dX11_init_13 : decode cX11_init 13 = .ok (.dup, 1) := by decide +kernel
theorem dX11_init_14 : decode cX11_init 14 = .ok (.invokespecial 11, 3) := by decide +kernel
theorem dX11_init_17 : decode cX11_init 17 = .ok (.aastore, 1) := by decide +kernel
theorem dX11_init_18 : decode cX11_init 18 = .ok (.dup, 1) := by decide +kernel
theorem dX11_init_19 : decode cX11_init 19 = .ok (.iconst 1, 1) := by decide +kernel
theorem dX11_init_20 : decode cX11_init 20 = .ok (.new 12, 3) := by decide +kernel
theorem dX11_init_23 : decode cX11_init 23 = .ok (.dup, 1) := by decide +kernel
theorem dX11_init_24 : decode cX11_init 24 = .ok (.invokespecial 14, 3) := by decide +kernel
theorem dX11_init_27 : decode cX11_init 27 = .ok (.aastore, 1) := by decide +kernel
theorem dX11_init_28 : decode cX11_init 28 = .ok (.dup, 1) := by decide +kernel
theorem dX11_init_29 : decode cX11_init 29 = .ok (.iconst 2, 1) := by decide +kernel
theorem dX11_init_30 : decode cX11_init 30 = .ok (.new 15, 3) := by decide +kernel
theorem dX11_init_33 : decode cX11_init 33 = .ok (.dup, 1) := by decide +kernel
theorem dX11_init_34 : decode cX11_init 34 = .ok (.invokespecial 17, 3) := by decide +kernel
theorem dX11_init_37 : decode cX11_init 37 = .ok (.aastore, 1) := by decide +kernel
theorem dX11_init_38 : decode cX11_init 38 = .ok (.dup, 1) := by decide +kernel
theorem dX11_init_39 : decode cX11_init 39 = .ok (.iconst 3, 1) := by decide +kernel
theorem dX11_init_40 : decode cX11_init 40 = .ok (.new 18, 3) := by decide +kernel
theorem dX11_init_43 : decode cX11_init 43 = .ok (.dup, 1) := by decide +kernel
theorem dX11_init_44 : decode cX11_init 44 = .ok (.invokespecial 20, 3) := by decide +kernel
theorem dX11_init_47 : decode cX11_init 47 = .ok (.aastore, 1) := by decide +kernel
theorem dX11_init_48 : decode cX11_init 48 = .ok (.dup, 1) := by decide +kernel
theorem dX11_init_49 : decode cX11_init 49 = .ok (.iconst 4, 1) := by decide +kernel
theorem dX11_init_50 : decode cX11_init 50 = .ok (.new 21, 3) := by decide +kernel
theorem dX11_init_53 : decode cX11_init 53 = .ok (.dup, 1) := by decide +kernel
theorem dX11_init_54 : decode cX11_init 54 = .ok (.invokespecial 23, 3) := by decide +kernel
theorem dX11_init_57 : decode cX11_init 57 = .ok (.aastore, 1) := by decide +kernel
theorem dX11_init_58 : decode cX11_init 58 = .ok (.astore_n 1, 1) := by decide +kernel
theorem dX11_init_59 : decode cX11_init 59 = .ok (.aload_n 0, 1) := by decide +kernel
theorem dX11_init_60 : decode cX11_init 60 = .ok (.new 24, 3) := by decide +kernel
theorem dX11_init_63 : decode cX11_init 63 = .ok (.dup, 1) := by decide +kernel
theorem dX11_init_64 : decode cX11_init 64 = .ok (.invokespecial 26, 3) := by decide +kernel
theorem dX11_init_67 : decode cX11_init 67 = .ok (.putfield 27, 3) := by decide +kernel
theorem dX11_init_70 : decode cX11_init 70 = .ok (.aload_n 0, 1) := by decide +kernel
theorem dX11_init_71 : decode cX11_init 71 = .ok (.new 33, 3) := by decide +kernel
theorem dX11_init_74 : decode cX11_init 74 = .ok (.dup, 1) := by decide +kernel
theorem dX11_init_75 : decode cX11_init 75 = .ok (.invokespecial 35, 3) := by decide +kernel
theorem dX11_init_78 : decode cX11_init 78 = .ok (.putfield 36, 3) := by decide +kernel
theorem dX11_init_81 : decode cX11_init 81 = .ok (.aload_n 0, 1) := by decide +kernel
theorem dX11_init_82 : decode cX11_init 82 = .ok (.new 40, 3) := by decide +kernel
theorem dX11_init_85 : decode cX11_init 85 = .ok (.dup, 1) := by decide +kernel
theorem dX11_init_86 : decode cX11_init 86 = .ok (.aload_n 1, 1) := by decide +kernel
theorem dX11_init_87 : decode cX11_init 87 = .ok (.invokespecial 42, 3) := by decide +kernel
theorem dX11_init_90 : decode cX11_init 90 = .ok (.putfield 45, 3) := by decide +kernel
theorem dX11_init_93 : decode cX11_init 93 = .ok (.aload_n 0, 1) := by decide +kernel
theorem dX11_init_94 : decode cX11_init 94 = .ok (.new 40, 3) := by decide +kernel
theorem dX11_init_97 : decode cX11_init 97 = .ok (.dup, 1) := by decide +kernel
theorem dX11_init_98 : decode cX11_init 98 = .ok (.aload_n 1, 1) := by decide +kernel
theorem dX11_init_99 : decode cX11_init 99 = .ok (.invokespecial 42, 3) := by decide +kernel
theorem dX11_init_102 : decode cX11_init 102 = .ok (.putfield 49, 3) := by decide +kernel
theorem dX11_init_105 : decode cX11_init 105 = .ok (.aload_n 0, 1) := by decide +kernel
theorem dX11_init_106 : decode cX11_init 106 = .ok (.iconst 2, 1) := by decide +kernel
theorem dX11_init_107 : decode cX11_init 107 = .ok (.anewarray 40, 3) := by decide +kernel
theorem dX11_init_110 : decode cX11_init 110 = .ok (.dup, 1) := by decide +kernel
theorem dX11_init_111 : decode cX11_init 111 = .ok (.iconst 0, 1) := by decide +kernel
theorem dX11_init_112 : decode cX11_init 112 = .ok (.new 40, 3) := by decide +kernel
theorem dX11_init_115 : decode cX11_init 115 = .ok (.dup, 1) := by decide +kernel
theorem dX11_init_116 : decode cX11_init 116 = .ok (.aload_n 1, 1) := by decide +kernel
theorem dX11_init_117 : decode cX11_init 117 = .ok (.invokespecial 42, 3) := by decide +kernel
theorem dX11_init_120 : decode cX11_init 120 = .ok (.aastore, 1) := by decide +kernel
theorem dX11_init_121 : decode cX11_init 121 = .ok (.dup, 1) := by decide +kernel
theorem dX11_init_122 : decode cX11_init 122 = .ok (.iconst 1, 1) := by decide +kernel
theorem dX11_init_123 : decode cX11_init 123 = .ok (.new 40, 3) := by decide +kernel
theorem dX11_init_126 : decode cX11_init 126 = .ok (.dup, 1) := by decide +kernel
theorem dX11_init_127 : decode cX11_init 127 = .ok (.aload_n 1, 1) := by decide +kernel
theorem dX11_init_128 : decode cX11_init 128 = .ok (.invokespecial 42, 3) := by decide +kernel
theorem dX11_init_131 : decode cX11_init 131 = .ok (.aastore, 1) := by decide +kernel
theorem dX11_init_132 : decode cX11_init 132 = .ok (.putfield 52, 3) := by decide +kernel
theorem dX11_init_135 : decode cX11_init 135 = .ok (.aload_n 0, 1) := by decide +kernel
theorem dX11_init_136 : decode cX11_init 136 = .ok (.new 56, 3) := by decide +kernel
theorem dX11_init_139 : decode cX11_init 139 = .ok (.dup, 1) := by decide +kernel
theorem dX11_init_140 : decode cX11_init 140 = .ok (.invokespecial 58, 3) := by decide +kernel
theorem dX11_init_143 : decode cX11_init 143 = .ok (.putfield 59, 3) := by decide +kernel
theorem dX11_init_146 : decode cX11_init 146 = .ok (.aload_n 0, 1) := by decide +kernel
theorem dX11_init_147 : decode cX11_init 147 = .ok (.new 63, 3) := by decide +kernel
theorem dX11_init_150 : decode cX11_init 150 = .ok (.dup, 1) := by decide +kernel
theorem dX11_init_151 : decode cX11_init 151 = .ok (.invokespecial 65, 3) := by decide +kernel
theorem dX11_init_154 : decode cX11_init 154 = .ok (.putfield 66, 3) := by decide +kernel
theorem dX11_init_157 : decode cX11_init 157 = .ok (.return_, 1) := by decide +kernel
theorem dX11_row_0 : decode cX11_row 0 = .ok (.iload_n 1, 1) := by decide +kernel
theorem dX11_row_1 : decode cX11_row 1 = .ok (.invokestatic 70, 3) := by decide +kernel
theorem dX11_row_4 : decode cX11_row 4 = .ok (.ifCond .eq 18, 3) := by decide +kernel
theorem dX11_row_7 : decode cX11_row 7 = .ok (.iload_n 2, 1) := by decide +kernel
theorem dX11_row_8 : decode cX11_row 8 = .ok (.iconst 0, 1) := by decide +kernel
theorem dX11_row_9 : decode cX11_row 9 = .ok (.iconst 2, 1) := by decide +kernel
theorem dX11_row_10 : decode cX11_row 10 = .ok (.invokestatic 74, 3) := by decide +kernel
theorem dX11_row_13 : decode cX11_row 13 = .ok (.ifCond .eq 9, 3) := by decide +kernel
theorem dX11_row_16 : decode cX11_row 16 = .ok (.iload_n 3, 1) := by decide +kernel
theorem dX11_row_17 : decode cX11_row 17 = .ok (.bipush 40, 2) := by decide +kernel
theorem dX11_row_19 : decode cX11_row 19 = .ok (.if_icmp .le 6, 3) := by decide +kernel
theorem dX11_row_22 : decode cX11_row 22 = .ok (.ldc 78, 2) := by decide +kernel
theorem dX11_row_24 : decode cX11_row 24 = .ok (.ireturn, 1) := by decide +kernel
theorem dX11_row_25 : decode cX11_row 25 = .ok (.iload_n 3, 1) := by decide +kernel
theorem dX11_row_26 : decode cX11_row 26 = .ok (.ifCond .ge 9, 3) := by decide +kernel
theorem dX11_row_29 : decode cX11_row 29 = .ok (.aload_n 0, 1) := by decide +kernel
theorem dX11_row_30 : decode cX11_row 30 = .ok (.iconst 4, 1) := by decide +kernel
theorem dX11_row_31 : decode cX11_row 31 = .ok (.invokevirtual 79, 3) := by decide +kernel
theorem dX11_row_34 : decode cX11_row 34 = .ok (.ireturn, 1) := by decide +kernel
theorem dX11_row_35 : decode cX11_row 35 = .ok (.aload_n 0, 1) := by decide +kernel
theorem dX11_row_36 : decode cX11_row 36 = .ok (.getfield 27, 3) := by decide +kernel
theorem dX11_row_39 : decode cX11_row 39 = .ok (.iload_n 1, 1) := by decide +kernel
theorem dX11_row_40 : decode cX11_row 40 = .ok (.iload_n 2, 1) := by decide +kernel
theorem dX11_row_41 : decode cX11_row 41 = .ok (.iload_n 3, 1) := by decide +kernel
theorem dX11_row_42 : decode cX11_row 42 = .ok (.invokevirtual 83, 3) := by decide +kernel
theorem dX11_row_45 : decode cX11_row 45 = .ok (.aload_n 0, 1) := by decide +kernel
theorem dX11_row_46 : decode cX11_row 46 = .ok (.iload_n 3, 1) := by decide +kernel
theorem dX11_row_47 : decode cX11_row 47 = .ok (.invokevirtual 87, 3) := by decide +kernel
theorem dX11_row_50 : decode cX11_row 50 = .ok (.ireturn, 1) := by decide +kernel
theorem dX11_set_0 : decode cX11_set 0 = .ok (.iload_n 1, 1) := by decide +kernel
theorem dX11_set_1 : decode cX11_set 1 = .ok (.invokestatic 70, 3) := by decide +kernel
theorem dX11_set_4 : decode cX11_set 4 = .ok (.ifCond .ne 6, 3) := by decide +kernel
theorem dX11_set_7 : decode cX11_set 7 = .ok (.ldc 78, 2) := by decide +kernel
theorem dX11_set_9 : decode cX11_set 9 = .ok (.ireturn, 1) := by decide +kernel
theorem dX11_set_10 : decode cX11_set 10 = .ok (.aload_n 0, 1) := by decide +kernel
theorem dX11_set_11 : decode cX11_set 11 = .ok (.getfield 27, 3) := by decide +kernel
theorem dX11_set_14 : decode cX11_set 14 = .ok (.iload_n 1, 1) := by decide +kernel
theorem dX11_set_15 : decode cX11_set 15 = .ok (.iload_n 2, 1) := by decide +kernel
theorem dX11_set_16 : decode cX11_set 16 = .ok (.iconst 1, 1) := by decide +kernel
theorem dX11_set_17 : decode cX11_set 17 = .ok (.invokevirtual 90, 3) := by decide +kernel
theorem dX11_set_20 : decode cX11_set 20 = .ok (.istore 4, 2) := by decide +kernel
theorem dX11_set_22 : decode cX11_set 22 = .ok (.iload 4, 2) := by decide +kernel
theorem dX11_set_24 : decode cX11_set 24 = .ok (.ifCond .eq 10, 3) := by decide +kernel
theorem dX11_set_27 : decode cX11_set 27 = .ok (.aload_n 0, 1) := by decide +kernel
theorem dX11_set_28 : decode cX11_set 28 = .ok (.iload 4, 2) := by decide +kernel
theorem dX11_set_30 : decode cX11_set 30 = .ok (.invokevirtual 79, 3) := by decide +kernel
theorem dX11_set_33 : decode cX11_set 33 = .ok (.ireturn, 1) := by decide +kernel
theorem dX11_set_34 : decode cX11_set 34 = .ok (.aload_n 0, 1) := by decide +kernel
theorem dX11_set_35 : decode cX11_set 35 = .ok (.aload_n 0, 1) := by decide +kernel
theorem dX11_set_36 : decode cX11_set 36 = .ok (.getfield 27, 3) := by decide +kernel
theorem dX11_set_39 : decode cX11_set 39 = .ok (.iload_n 1, 1) := by decide +kernel
theorem dX11_set_40 : decode cX11_set 40 = .ok (.iload_n 2, 1) := by decide +kernel
theorem dX11_set_41 : decode cX11_set 41 = .ok (.iload_n 3, 1) := by decide +kernel
theorem dX11_set_42 : decode cX11_set 42 = .ok (.invokevirtual 94, 3) := by decide +kernel
theorem dX11_set_45 : decode cX11_set 45 = .ok (.invokevirtual 87, 3) := by decide +kernel
theorem dX11_set_48 : decode cX11_set 48 = .ok (.ireturn, 1) := by decide +kernel
theorem dX11_copy_0 : decode cX11_copy 0 = .ok (.iload_n 1, 1) := by decide +kernel
theorem dX11_copy_1 : decode cX11_copy 1 = .ok (.invokestatic 70, 3) := by decide +kernel
theorem dX11_copy_4 : decode cX11_copy 4 = .ok (.ifCond .eq 10, 3) := by decide +kernel
theorem dX11_copy_7 : decode cX11_copy 7 = .ok (.iload_n 3, 1) := by decide +kernel
theorem dX11_copy_8 : decode cX11_copy 8 = .ok (.invokestatic 70, 3) := by decide +kernel
theorem dX11_copy_11 : decode cX11_copy 11 = .ok (.ifCond .ne 6, 3) := by decide +kernel
theorem dX11_copy_14 : decode cX11_copy 14 = .ok (.ldc 78, 2) := by decide +kernel
theorem dX11_copy_16 : decode cX11_copy 16 = .ok (.ireturn, 1) := by decide +kernel
theorem dX11_copy_17 : decode cX11_copy 17 = .ok (.aload_n 0, 1) := by decide +kernel
theorem dX11_copy_18 : decode cX11_copy 18 = .ok (.getfield 27, 3) := by decide +kernel
theorem dX11_copy_21 : decode cX11_copy 21 = .ok (.iload_n 1, 1) := by decide +kernel
theorem dX11_copy_22 : decode cX11_copy 22 = .ok (.iload_n 2, 1) := by decide +kernel
theorem dX11_copy_23 : decode cX11_copy 23 = .ok (.iload_n 3, 1) := by decide +kernel
theorem dX11_copy_24 : decode cX11_copy 24 = .ok (.iload 4, 2) := by decide +kernel
theorem dX11_copy_26 : decode cX11_copy 26 = .ok (.iload 5, 2) := by decide +kernel
theorem dX11_copy_28 : decode cX11_copy 28 = .ok (.invokevirtual 97, 3) := by decide +kernel
theorem dX11_copy_31 : decode cX11_copy 31 = .ok (.istore 6, 2) := by decide +kernel
theorem dX11_copy_33 : decode cX11_copy 33 = .ok (.iload 6, 2) := by decide +kernel
theorem dX11_copy_35 : decode cX11_copy 35 = .ok (.ifCond .eq 10, 3) := by decide +kernel
theorem dX11_copy_38 : decode cX11_copy 38 = .ok (.aload_n 0, 1) := by decide +kernel
theorem dX11_copy_39 : decode cX11_copy 39 = .ok (.iload 6, 2) := by decide +kernel
theorem dX11_copy_41 : decode cX11_copy 41 = .ok (.invokevirtual 79, 3) := by decide +kernel
theorem dX11_copy_44 : decode cX11_copy 44 = .ok (.ireturn, 1) := by decide +kernel
theorem dX11_copy_45 : decode cX11_copy 45 = .ok (.aload_n 0, 1) := by decide +kernel
theorem dX11_copy_46 : decode cX11_copy 46 = .ok (.getfield 27, 3) := by decide +kernel
theorem dX11_copy_49 : decode cX11_copy 49 = .ok (.iload_n 1, 1) := by decide +kernel
theorem dX11_copy_50 : decode cX11_copy 50 = .ok (.iload_n 2, 1) := by decide +kernel
theorem dX11_copy_51 : decode cX11_copy 51 = .ok (.iload_n 3, 1) := by decide +kernel
theorem dX11_copy_52 : decode cX11_copy 52 = .ok (.iload 4, 2) := by decide +kernel
theorem dX11_copy_54 : decode cX11_copy 54 = .ok (.iload 5, 2) := by decide +kernel
theorem dX11_copy_56 : decode cX11_copy 56 = .ok (.invokevirtual 101, 3) := by decide +kernel
theorem dX11_copy_59 : decode cX11_copy 59 = .ok (.aload_n 0, 1) := by decide +kernel
theorem dX11_copy_60 : decode cX11_copy 60 = .ok (.iload 5, 2) := by decide +kernel
theorem dX11_copy_62 : decode cX11_copy 62 = .ok (.invokevirtual 87, 3) := by decide +kernel
theorem dX11_copy_65 : decode cX11_copy 65 = .ok (.ireturn, 1) := by decide +kernel
theorem dX11_drop_0 : decode cX11_drop 0 = .ok (.iload_n 1, 1) := by decide +kernel
theorem dX11_drop_1 : decode cX11_drop 1 = .ok (.invokestatic 70, 3) := by decide +kernel
theorem dX11_drop_4 : decode cX11_drop 4 = .ok (.ifCond .ne 6, 3) := by decide +kernel
theorem dX11_drop_7 : decode cX11_drop 7 = .ok (.ldc 78, 2) := by decide +kernel
theorem dX11_drop_9 : decode cX11_drop 9 = .ok (.ireturn, 1) := by decide +kernel
theorem dX11_drop_10 : decode cX11_drop 10 = .ok (.aload_n 0, 1) := by decide +kernel
theorem dX11_drop_11 : decode cX11_drop 11 = .ok (.getfield 27, 3) := by decide +kernel
theorem dX11_drop_14 : decode cX11_drop 14 = .ok (.iload_n 1, 1) := by decide +kernel
theorem dX11_drop_15 : decode cX11_drop 15 = .ok (.invokevirtual 105, 3) := by decide +kernel
theorem dX11_drop_18 : decode cX11_drop 18 = .ok (.ifCond .eq 9, 3) := by decide +kernel
theorem dX11_drop_21 : decode cX11_drop 21 = .ok (.aload_n 0, 1) := by decide +kernel
theorem dX11_drop_22 : decode cX11_drop 22 = .ok (.iconst 1, 1) := by decide +kernel
theorem dX11_drop_23 : decode cX11_drop 23 = .ok (.invokevirtual 79, 3) := by decide +kernel
theorem dX11_drop_26 : decode cX11_drop 26 = .ok (.ireturn, 1) := by decide +kernel
theorem dX11_drop_27 : decode cX11_drop 27 = .ok (.aload_n 0, 1) := by decide +kernel
theorem dX11_drop_28 : decode cX11_drop 28 = .ok (.aload_n 0, 1) := by decide +kernel
theorem dX11_drop_29 : decode cX11_drop 29 = .ok (.getfield 27, 3) := by decide +kernel
theorem dX11_drop_32 : decode cX11_drop 32 = .ok (.iload_n 1, 1) := by decide +kernel
theorem dX11_drop_33 : decode cX11_drop 33 = .ok (.invokevirtual 108, 3) := by decide +kernel
theorem dX11_drop_36 : decode cX11_drop 36 = .ok (.invokevirtual 87, 3) := by decide +kernel
theorem dX11_drop_39 : decode cX11_drop 39 = .ok (.ireturn, 1) := by decide +kernel
theorem dX11_feed_0 : decode cX11_feed 0 = .ok (.iload_n 1, 1) := by decide +kernel
theorem dX11_feed_1 : decode cX11_feed 1 = .ok (.iconst 0, 1) := by decide +kernel
theorem dX11_feed_2 : decode cX11_feed 2 = .ok (.sipush 255, 3) := by decide +kernel
theorem dX11_feed_5 : decode cX11_feed 5 = .ok (.invokestatic 74, 3) := by decide +kernel
theorem dX11_feed_8 : decode cX11_feed 8 = .ok (.ifCond .ne 6, 3) := by decide +kernel
theorem dX11_feed_11 : decode cX11_feed 11 = .ok (.ldc 78, 2) := by decide +kernel
theorem dX11_feed_13 : decode cX11_feed 13 = .ok (.ireturn, 1) := by decide +kernel
theorem dX11_feed_14 : decode cX11_feed 14 = .ok (.aload_n 0, 1) := by decide +kernel
theorem dX11_feed_15 : decode cX11_feed 15 = .ok (.getfield 36, 3) := by decide +kernel
theorem dX11_feed_18 : decode cX11_feed 18 = .ok (.getfield 111, 3) := by decide +kernel
theorem dX11_feed_21 : decode cX11_feed 21 = .ok (.bipush 100, 2) := by decide +kernel
theorem dX11_feed_23 : decode cX11_feed 23 = .ok (.if_icmp .lt 6, 3) := by decide +kernel
theorem dX11_feed_26 : decode cX11_feed 26 = .ok (.ldc 115, 2) := by decide +kernel
theorem dX11_feed_28 : decode cX11_feed 28 = .ok (.ireturn, 1) := by decide +kernel
theorem dX11_feed_29 : decode cX11_feed 29 = .ok (.aload_n 0, 1) := by decide +kernel
theorem dX11_feed_30 : decode cX11_feed 30 = .ok (.getfield 36, 3) := by decide +kernel
theorem dX11_feed_33 : decode cX11_feed 33 = .ok (.iload_n 1, 1) := by decide +kernel
theorem dX11_feed_34 : decode cX11_feed 34 = .ok (.invokevirtual 116, 3) := by decide +kernel
theorem dX11_feed_37 : decode cX11_feed 37 = .ok (.aload_n 0, 1) := by decide +kernel
theorem dX11_feed_38 : decode cX11_feed 38 = .ok (.getfield 36, 3) := by decide +kernel
theorem dX11_feed_41 : decode cX11_feed 41 = .ok (.getfield 111, 3) := by decide +kernel
theorem dX11_feed_44 : decode cX11_feed 44 = .ok (.ireturn, 1) := by decide +kernel
theorem dX11_line_0 : decode cX11_line 0 = .ok (.aload_n 0, 1) := by decide +kernel
theorem dX11_line_1 : decode cX11_line 1 = .ok (.getfield 36, 3) := by decide +kernel
theorem dX11_line_4 : decode cX11_line 4 = .ok (.aload_n 0, 1) := by decide +kernel
theorem dX11_line_5 : decode cX11_line 5 = .ok (.getfield 49, 3) := by decide +kernel
theorem dX11_line_8 : decode cX11_line 8 = .ok (.invokevirtual 119, 3) := by decide +kernel
theorem dX11_line_11 : decode cX11_line 11 = .ok (.istore_n 1, 1) := by decide +kernel
theorem dX11_line_12 : decode cX11_line 12 = .ok (.aload_n 0, 1) := by decide +kernel
theorem dX11_line_13 : decode cX11_line 13 = .ok (.getfield 36, 3) := by decide +kernel
theorem dX11_line_16 : decode cX11_line 16 = .ok (.iconst 0, 1) := by decide +kernel
theorem dX11_line_17 : decode cX11_line 17 = .ok (.putfield 111, 3) := by decide +kernel
theorem dX11_line_20 : decode cX11_line 20 = .ok (.iload_n 1, 1) := by decide +kernel
theorem dX11_line_21 : decode cX11_line 21 = .ok (.ifCond .ne 25, 3) := by decide +kernel
theorem dX11_line_24 : decode cX11_line 24 = .ok (.aload_n 0, 1) := by decide +kernel
theorem dX11_line_25 : decode cX11_line 25 = .ok (.aload_n 0, 1) := by decide +kernel
theorem dX11_line_26 : decode cX11_line 26 = .ok (.getfield 36, 3) := by decide +kernel
theorem dX11_line_29 : decode cX11_line 29 = .ok (.getfield 123, 3) := by decide +kernel
theorem dX11_line_32 : decode cX11_line 32 = .ok (.putfield 126, 3) := by decide +kernel
theorem dX11_line_35 : decode cX11_line 35 = .ok (.ldc 129, 2) := by decide +kernel
theorem dX11_line_37 : decode cX11_line 37 = .ok (.aload_n 0, 1) := by decide +kernel
theorem dX11_line_38 : decode cX11_line 38 = .ok (.getfield 36, 3) := by decide +kernel
theorem dX11_line_41 : decode cX11_line 41 = .ok (.getfield 130, 3) := by decide +kernel
theorem dX11_line_44 : decode cX11_line 44 = .ok (.isub, 1) := by decide +kernel
theorem dX11_line_45 : decode cX11_line 45 = .ok (.ireturn, 1) := by decide +kernel
theorem dX11_line_46 : decode cX11_line 46 = .ok (.aload_n 0, 1) := by decide +kernel
theorem dX11_line_47 : decode cX11_line 47 = .ok (.getfield 45, 3) := by decide +kernel
theorem dX11_line_50 : decode cX11_line 50 = .ok (.aload_n 0, 1) := by decide +kernel
theorem dX11_line_51 : decode cX11_line 51 = .ok (.getfield 49, 3) := by decide +kernel
theorem dX11_line_54 : decode cX11_line 54 = .ok (.invokevirtual 133, 3) := by decide +kernel
theorem dX11_line_57 : decode cX11_line 57 = .ok (.aload_n 0, 1) := by decide +kernel
theorem dX11_line_58 : decode cX11_line 58 = .ok (.getfield 59, 3) := by decide +kernel
theorem dX11_line_61 : decode cX11_line 61 = .ok (.invokevirtual 137, 3) := by decide +kernel
theorem dX11_line_64 : decode cX11_line 64 = .ok (.aload_n 0, 1) := by decide +kernel
theorem dX11_line_65 : decode cX11_line 65 = .ok (.getfield 45, 3) := by decide +kernel
theorem dX11_line_68 : decode cX11_line 68 = .ok (.getfield 140, 3) := by decide +kernel
theorem dX11_line_71 : decode cX11_line 71 = .ok (.ireturn, 1) := by decide +kernel
theorem dX11_fault_0 : decode cX11_fault 0 = .ok (.aload_n 0, 1) := by decide +kernel
theorem dX11_fault_1 : decode cX11_fault 1 = .ok (.getfield 126, 3) := by decide +kernel
theorem dX11_fault_4 : decode cX11_fault 4 = .ok (.ireturn, 1) := by decide +kernel
theorem dX11_minutes_0 : decode cX11_minutes 0 = .ok (.aload_n 0, 1) := by decide +kernel
theorem dX11_minutes_1 : decode cX11_minutes 1 = .ok (.invokevirtual 143, 3) := by decide +kernel
theorem dX11_minutes_4 : decode cX11_minutes 4 = .ok (.ifCond .ne 6, 3) := by decide +kernel
theorem dX11_minutes_7 : decode cX11_minutes 7 = .ok (.ldc 147, 2) := by decide +kernel
theorem dX11_minutes_9 : decode cX11_minutes 9 = .ok (.ireturn, 1) := by decide +kernel
theorem dX11_minutes_10 : decode cX11_minutes 10 = .ok (.iload_n 1, 1) := by decide +kernel
theorem dX11_minutes_11 : decode cX11_minutes 11 = .ok (.iconst 1, 1) := by decide +kernel
theorem dX11_minutes_12 : decode cX11_minutes 12 = .ok (.bipush 24, 2) := by decide +kernel
theorem dX11_minutes_14 : decode cX11_minutes 14 = .ok (.invokestatic 74, 3) := by decide +kernel
theorem dX11_minutes_17 : decode cX11_minutes 17 = .ok (.ifCond .ne 6, 3) := by decide +kernel
theorem dX11_minutes_20 : decode cX11_minutes 20 = .ok (.ldc 78, 2) := by decide +kernel
theorem dX11_minutes_22 : decode cX11_minutes 22 = .ok (.ireturn, 1) := by decide +kernel
theorem dX11_minutes_23 : decode cX11_minutes 23 = .ok (.aload_n 0, 1) := by decide +kernel
theorem dX11_minutes_24 : decode cX11_minutes 24 = .ok (.getfield 45, 3) := by decide +kernel
theorem dX11_minutes_27 : decode cX11_minutes 27 = .ok (.getfield 148, 3) := by decide +kernel
theorem dX11_minutes_30 : decode cX11_minutes 30 = .ok (.iload_n 1, 1) := by decide +kernel
theorem dX11_minutes_31 : decode cX11_minutes 31 = .ok (.iadd, 1) := by decide +kernel
theorem dX11_minutes_32 : decode cX11_minutes 32 = .ok (.sipush 999, 3) := by decide +kernel
theorem dX11_minutes_35 : decode cX11_minutes 35 = .ok (.if_icmp .le 6, 3) := by decide +kernel
theorem dX11_minutes_38 : decode cX11_minutes 38 = .ok (.ldc 115, 2) := by decide +kernel
theorem dX11_minutes_40 : decode cX11_minutes 40 = .ok (.ireturn, 1) := by decide +kernel
theorem dX11_minutes_41 : decode cX11_minutes 41 = .ok (.iconst 0, 1) := by decide +kernel
theorem dX11_minutes_42 : decode cX11_minutes 42 = .ok (.istore_n 2, 1) := by decide +kernel
theorem dX11_minutes_43 : decode cX11_minutes 43 = .ok (.iload_n 2, 1) := by decide +kernel
theorem dX11_minutes_44 : decode cX11_minutes 44 = .ok (.iload_n 1, 1) := by decide +kernel
theorem dX11_minutes_45 : decode cX11_minutes 45 = .ok (.if_icmp .ge 29, 3) := by decide +kernel
theorem dX11_minutes_48 : decode cX11_minutes 48 = .ok (.aload_n 0, 1) := by decide +kernel
theorem dX11_minutes_49 : decode cX11_minutes 49 = .ok (.getfield 59, 3) := by decide +kernel
theorem dX11_minutes_52 : decode cX11_minutes 52 = .ok (.aload_n 0, 1) := by decide +kernel
theorem dX11_minutes_53 : decode cX11_minutes 53 = .ok (.getfield 45, 3) := by decide +kernel
theorem dX11_minutes_56 : decode cX11_minutes 56 = .ok (.invokevirtual 151, 3) := by decide +kernel
theorem dX11_minutes_59 : decode cX11_minutes 59 = .ok (.aload_n 0, 1) := by decide +kernel
theorem dX11_minutes_60 : decode cX11_minutes 60 = .ok (.getfield 45, 3) := by decide +kernel
theorem dX11_minutes_63 : decode cX11_minutes 63 = .ok (.iconst 0, 1) := by decide +kernel
theorem dX11_minutes_64 : decode cX11_minutes 64 = .ok (.invokevirtual 154, 3) := by decide +kernel
theorem dX11_minutes_67 : decode cX11_minutes 67 = .ok (.pop, 1) := by decide +kernel
theorem dX11_minutes_68 : decode cX11_minutes 68 = .ok (.iinc 2 1, 3) := by decide +kernel
theorem dX11_minutes_71 : decode cX11_minutes 71 = .ok (.goto (-28), 3) := by decide +kernel
theorem dX11_minutes_74 : decode cX11_minutes 74 = .ok (.aload_n 0, 1) := by decide +kernel
theorem dX11_minutes_75 : decode cX11_minutes 75 = .ok (.getfield 45, 3) := by decide +kernel
theorem dX11_minutes_78 : decode cX11_minutes 78 = .ok (.invokevirtual 157, 3) := by decide +kernel
theorem dX11_minutes_81 : decode cX11_minutes 81 = .ok (.ireturn, 1) := by decide +kernel
theorem dX11_walk_0 : decode cX11_walk 0 = .ok (.aload_n 0, 1) := by decide +kernel
theorem dX11_walk_1 : decode cX11_walk 1 = .ok (.iload_n 1, 1) := by decide +kernel
theorem dX11_walk_2 : decode cX11_walk 2 = .ok (.invokevirtual 161, 3) := by decide +kernel
theorem dX11_walk_5 : decode cX11_walk 5 = .ok (.ifCond .eq 12, 3) := by decide +kernel
theorem dX11_walk_8 : decode cX11_walk 8 = .ok (.iload_n 2, 1) := by decide +kernel
theorem dX11_walk_9 : decode cX11_walk 9 = .ok (.iconst 0, 1) := by decide +kernel
theorem dX11_walk_10 : decode cX11_walk 10 = .ok (.iconst 1, 1) := by decide +kernel
theorem dX11_walk_11 : decode cX11_walk 11 = .ok (.invokestatic 74, 3) := by decide +kernel
theorem dX11_walk_14 : decode cX11_walk 14 = .ok (.ifCond .ne 6, 3) := by decide +kernel
theorem dX11_walk_17 : decode cX11_walk 17 = .ok (.ldc 78, 2) := by decide +kernel
theorem dX11_walk_19 : decode cX11_walk 19 = .ok (.ireturn, 1) := by decide +kernel
theorem dX11_walk_20 : decode cX11_walk 20 = .ok (.aload_n 0, 1) := by decide +kernel
theorem dX11_walk_21 : decode cX11_walk 21 = .ok (.getfield 45, 3) := by decide +kernel
theorem dX11_walk_24 : decode cX11_walk 24 = .ok (.getfield 164, 3) := by decide +kernel
theorem dX11_walk_27 : decode cX11_walk 27 = .ok (.iload_n 1, 1) := by decide +kernel
theorem dX11_walk_28 : decode cX11_walk 28 = .ok (.iaload, 1) := by decide +kernel
theorem dX11_walk_29 : decode cX11_walk 29 = .ok (.iload_n 2, 1) := by decide +kernel
theorem dX11_walk_30 : decode cX11_walk 30 = .ok (.iconst 1, 1) := by decide +kernel
theorem dX11_walk_31 : decode cX11_walk 31 = .ok (.if_icmp .ne 7, 3) := by decide +kernel
theorem dX11_walk_34 : decode cX11_walk 34 = .ok (.iconst 1, 1) := by decide +kernel
theorem dX11_walk_35 : decode cX11_walk 35 = .ok (.goto 4, 3) := by decide +kernel
theorem dX11_walk_38 : decode cX11_walk 38 = .ok (.iconst (-1), 1) := by decide +kernel
theorem dX11_walk_39 : decode cX11_walk 39 = .ok (.iadd, 1) := by decide +kernel
theorem dX11_walk_40 : decode cX11_walk 40 = .ok (.istore_n 3, 1) := by decide +kernel
theorem dX11_walk_41 : decode cX11_walk 41 = .ok (.aload_n 0, 1) := by decide +kernel
theorem dX11_walk_42 : decode cX11_walk 42 = .ok (.iload_n 3, 1) := by decide +kernel
theorem dX11_walk_43 : decode cX11_walk 43 = .ok (.invokevirtual 168, 3) := by decide +kernel
theorem dX11_walk_46 : decode cX11_walk 46 = .ok (.ifCond .ne 6, 3) := by decide +kernel
theorem dX11_walk_49 : decode cX11_walk 49 = .ok (.ldc 147, 2) := by decide +kernel
theorem dX11_walk_51 : decode cX11_walk 51 = .ok (.ireturn, 1) := by decide +kernel
theorem dX11_walk_52 : decode cX11_walk 52 = .ok (.aload_n 0, 1) := by decide +kernel
theorem dX11_walk_53 : decode cX11_walk 53 = .ok (.getfield 59, 3) := by decide +kernel
theorem dX11_walk_56 : decode cX11_walk 56 = .ok (.aload_n 0, 1) := by decide +kernel
theorem dX11_walk_57 : decode cX11_walk 57 = .ok (.getfield 45, 3) := by decide +kernel
theorem dX11_walk_60 : decode cX11_walk 60 = .ok (.invokevirtual 151, 3) := by decide +kernel
theorem dX11_walk_63 : decode cX11_walk 63 = .ok (.aload_n 0, 1) := by decide +kernel
theorem dX11_walk_64 : decode cX11_walk 64 = .ok (.getfield 45, 3) := by decide +kernel
theorem dX11_walk_67 : decode cX11_walk 67 = .ok (.iload_n 1, 1) := by decide +kernel
theorem dX11_walk_68 : decode cX11_walk 68 = .ok (.iload_n 3, 1) := by decide +kernel
theorem dX11_walk_69 : decode cX11_walk 69 = .ok (.invokevirtual 171, 3) := by decide +kernel
theorem dX11_walk_72 : decode cX11_walk 72 = .ok (.iload_n 3, 1) := by decide +kernel
theorem dX11_walk_73 : decode cX11_walk 73 = .ok (.ireturn, 1) := by decide +kernel
theorem dX11_preach_0 : decode cX11_preach 0 = .ok (.aload_n 0, 1) := by decide +kernel
theorem dX11_preach_1 : decode cX11_preach 1 = .ok (.iload_n 1, 1) := by decide +kernel
theorem dX11_preach_2 : decode cX11_preach 2 = .ok (.invokevirtual 161, 3) := by decide +kernel
theorem dX11_preach_5 : decode cX11_preach 5 = .ok (.ifCond .eq 13, 3) := by decide +kernel
theorem dX11_preach_8 : decode cX11_preach 8 = .ok (.iload_n 2, 1) := by decide +kernel
theorem dX11_preach_9 : decode cX11_preach 9 = .ok (.iconst 0, 1) := by decide +kernel
theorem dX11_preach_10 : decode cX11_preach 10 = .ok (.bipush 20, 2) := by decide +kernel
theorem dX11_preach_12 : decode cX11_preach 12 = .ok (.invokestatic 74, 3) := by decide +kernel
theorem dX11_preach_15 : decode cX11_preach 15 = .ok (.ifCond .ne 6, 3) := by decide +kernel
theorem dX11_preach_18 : decode cX11_preach 18 = .ok (.ldc 78, 2) := by decide +kernel
theorem dX11_preach_20 : decode cX11_preach 20 = .ok (.ireturn, 1) := by decide +kernel
theorem dX11_preach_21 : decode cX11_preach 21 = .ok (.aload_n 0, 1) := by decide +kernel
theorem dX11_preach_22 : decode cX11_preach 22 = .ok (.getfield 59, 3) := by decide +kernel
theorem dX11_preach_25 : decode cX11_preach 25 = .ok (.aload_n 0, 1) := by decide +kernel
theorem dX11_preach_26 : decode cX11_preach 26 = .ok (.getfield 45, 3) := by decide +kernel
theorem dX11_preach_29 : decode cX11_preach 29 = .ok (.invokevirtual 151, 3) := by decide +kernel
theorem dX11_preach_32 : decode cX11_preach 32 = .ok (.aload_n 0, 1) := by decide +kernel
theorem dX11_preach_33 : decode cX11_preach 33 = .ok (.getfield 45, 3) := by decide +kernel
theorem dX11_preach_36 : decode cX11_preach 36 = .ok (.getfield 175, 3) := by decide +kernel
theorem dX11_preach_39 : decode cX11_preach 39 = .ok (.iload_n 1, 1) := by decide +kernel
theorem dX11_preach_40 : decode cX11_preach 40 = .ok (.iaload, 1) := by decide +kernel
theorem dX11_preach_41 : decode cX11_preach 41 = .ok (.istore_n 3, 1) := by decide +kernel
theorem dX11_preach_42 : decode cX11_preach 42 = .ok (.aload_n 0, 1) := by decide +kernel
theorem dX11_preach_43 : decode cX11_preach 43 = .ok (.getfield 45, 3) := by decide +kernel
theorem dX11_preach_46 : decode cX11_preach 46 = .ok (.getfield 175, 3) := by decide +kernel
theorem dX11_preach_49 : decode cX11_preach 49 = .ok (.iload_n 1, 1) := by decide +kernel
theorem dX11_preach_50 : decode cX11_preach 50 = .ok (.iload_n 2, 1) := by decide +kernel
theorem dX11_preach_51 : decode cX11_preach 51 = .ok (.iastore, 1) := by decide +kernel
theorem dX11_preach_52 : decode cX11_preach 52 = .ok (.iload_n 3, 1) := by decide +kernel
theorem dX11_preach_53 : decode cX11_preach 53 = .ok (.ireturn, 1) := by decide +kernel
theorem dX11_wish_0 : decode cX11_wish 0 = .ok (.aload_n 0, 1) := by decide +kernel
theorem dX11_wish_1 : decode cX11_wish 1 = .ok (.iload_n 1, 1) := by decide +kernel
theorem dX11_wish_2 : decode cX11_wish 2 = .ok (.invokevirtual 161, 3) := by decide +kernel
theorem dX11_wish_5 : decode cX11_wish 5 = .ok (.ifCond .eq 11, 3) := by decide +kernel
theorem dX11_wish_8 : decode cX11_wish 8 = .ok (.aload_n 0, 1) := by decide +kernel
theorem dX11_wish_9 : decode cX11_wish 9 = .ok (.iload_n 2, 1) := by decide +kernel
theorem dX11_wish_10 : decode cX11_wish 10 = .ok (.invokevirtual 168, 3) := by decide +kernel
theorem dX11_wish_13 : decode cX11_wish 13 = .ok (.ifCond .ne 6, 3) := by decide +kernel
theorem dX11_wish_16 : decode cX11_wish 16 = .ok (.ldc 78, 2) := by decide +kernel
theorem dX11_wish_18 : decode cX11_wish 18 = .ok (.ireturn, 1) := by decide +kernel
theorem dX11_wish_19 : decode cX11_wish 19 = .ok (.aload_n 0, 1) := by decide +kernel
theorem dX11_wish_20 : decode cX11_wish 20 = .ok (.getfield 59, 3) := by decide +kernel
theorem dX11_wish_23 : decode cX11_wish 23 = .ok (.aload_n 0, 1) := by decide +kernel
theorem dX11_wish_24 : decode cX11_wish 24 = .ok (.getfield 45, 3) := by decide +kernel
theorem dX11_wish_27 : decode cX11_wish 27 = .ok (.invokevirtual 151, 3) := by decide +kernel
theorem dX11_wish_30 : decode cX11_wish 30 = .ok (.aload_n 0, 1) := by decide +kernel
theorem dX11_wish_31 : decode cX11_wish 31 = .ok (.getfield 45, 3) := by decide +kernel
theorem dX11_wish_34 : decode cX11_wish 34 = .ok (.getfield 178, 3) := by decide +kernel
theorem dX11_wish_37 : decode cX11_wish 37 = .ok (.iload_n 1, 1) := by decide +kernel
theorem dX11_wish_38 : decode cX11_wish 38 = .ok (.iaload, 1) := by decide +kernel
theorem dX11_wish_39 : decode cX11_wish 39 = .ok (.istore_n 3, 1) := by decide +kernel
theorem dX11_wish_40 : decode cX11_wish 40 = .ok (.aload_n 0, 1) := by decide +kernel
theorem dX11_wish_41 : decode cX11_wish 41 = .ok (.getfield 45, 3) := by decide +kernel
theorem dX11_wish_44 : decode cX11_wish 44 = .ok (.getfield 178, 3) := by decide +kernel
theorem dX11_wish_47 : decode cX11_wish 47 = .ok (.iload_n 1, 1) := by decide +kernel
theorem dX11_wish_48 : decode cX11_wish 48 = .ok (.iload_n 2, 1) := by decide +kernel
theorem dX11_wish_49 : decode cX11_wish 49 = .ok (.iastore, 1) := by decide +kernel
theorem dX11_wish_50 : decode cX11_wish 50 = .ok (.iload_n 3, 1) := by decide +kernel
theorem dX11_wish_51 : decode cX11_wish 51 = .ok (.ireturn, 1) := by decide +kernel
theorem dX11_undo_0 : decode cX11_undo 0 = .ok (.aload_n 0, 1) := by decide +kernel
theorem dX11_undo_1 : decode cX11_undo 1 = .ok (.getfield 59, 3) := by decide +kernel
theorem dX11_undo_4 : decode cX11_undo 4 = .ok (.getfield 181, 3) := by decide +kernel
theorem dX11_undo_7 : decode cX11_undo 7 = .ok (.ifCond .ne 6, 3) := by decide +kernel
theorem dX11_undo_10 : decode cX11_undo 10 = .ok (.ldc 147, 2) := by decide +kernel
theorem dX11_undo_12 : decode cX11_undo 12 = .ok (.ireturn, 1) := by decide +kernel
theorem dX11_undo_13 : decode cX11_undo 13 = .ok (.aload_n 0, 1) := by decide +kernel
theorem dX11_undo_14 : decode cX11_undo 14 = .ok (.getfield 59, 3) := by decide +kernel
theorem dX11_undo_17 : decode cX11_undo 17 = .ok (.aload_n 0, 1) := by decide +kernel
theorem dX11_undo_18 : decode cX11_undo 18 = .ok (.getfield 45, 3) := by decide +kernel
theorem dX11_undo_21 : decode cX11_undo 21 = .ok (.invokevirtual 184, 3) := by decide +kernel
theorem dX11_undo_24 : decode cX11_undo 24 = .ok (.aload_n 0, 1) := by decide +kernel
theorem dX11_undo_25 : decode cX11_undo 25 = .ok (.getfield 59, 3) := by decide +kernel
theorem dX11_undo_28 : decode cX11_undo 28 = .ok (.getfield 181, 3) := by decide +kernel
theorem dX11_undo_31 : decode cX11_undo 31 = .ok (.ireturn, 1) := by decide +kernel
theorem dX11_person_0 : decode cX11_person 0 = .ok (.aload_n 0, 1) := by decide +kernel
theorem dX11_person_1 : decode cX11_person 1 = .ok (.iload_n 1, 1) := by decide +kernel
theorem dX11_person_2 : decode cX11_person 2 = .ok (.invokevirtual 161, 3) := by decide +kernel
theorem dX11_person_5 : decode cX11_person 5 = .ok (.ifCond .ne 6, 3) := by decide +kernel
theorem dX11_person_8 : decode cX11_person 8 = .ok (.ldc 78, 2) := by decide +kernel
theorem dX11_person_10 : decode cX11_person 10 = .ok (.ireturn, 1) := by decide +kernel
theorem dX11_person_11 : decode cX11_person 11 = .ok (.iload_n 2, 1) := by decide +kernel
theorem dX11_person_12 : decode cX11_person 12 = .ok (.tableswitch 85 0 4 #[36, 46, 56, 66, 76], 36) := by decide +kernel
theorem dX11_person_48 : decode cX11_person 48 = .ok (.aload_n 0, 1) := by decide +kernel
theorem dX11_person_49 : decode cX11_person 49 = .ok (.getfield 45, 3) := by decide +kernel
theorem dX11_person_52 : decode cX11_person 52 = .ok (.getfield 164, 3) := by decide +kernel
theorem dX11_person_55 : decode cX11_person 55 = .ok (.iload_n 1, 1) := by decide +kernel
theorem dX11_person_56 : decode cX11_person 56 = .ok (.iaload, 1) := by decide +kernel
theorem dX11_person_57 : decode cX11_person 57 = .ok (.ireturn, 1) := by decide +kernel
theorem dX11_person_58 : decode cX11_person 58 = .ok (.aload_n 0, 1) := by decide +kernel
theorem dX11_person_59 : decode cX11_person 59 = .ok (.getfield 45, 3) := by decide +kernel
theorem dX11_person_62 : decode cX11_person 62 = .ok (.getfield 175, 3) := by decide +kernel
theorem dX11_person_65 : decode cX11_person 65 = .ok (.iload_n 1, 1) := by decide +kernel
theorem dX11_person_66 : decode cX11_person 66 = .ok (.iaload, 1) := by decide +kernel
theorem dX11_person_67 : decode cX11_person 67 = .ok (.ireturn, 1) := by decide +kernel
theorem dX11_person_68 : decode cX11_person 68 = .ok (.aload_n 0, 1) := by decide +kernel
theorem dX11_person_69 : decode cX11_person 69 = .ok (.getfield 45, 3) := by decide +kernel
theorem dX11_person_72 : decode cX11_person 72 = .ok (.getfield 178, 3) := by decide +kernel
theorem dX11_person_75 : decode cX11_person 75 = .ok (.iload_n 1, 1) := by decide +kernel
theorem dX11_person_76 : decode cX11_person 76 = .ok (.iaload, 1) := by decide +kernel
theorem dX11_person_77 : decode cX11_person 77 = .ok (.ireturn, 1) := by decide +kernel
theorem dX11_person_78 : decode cX11_person 78 = .ok (.aload_n 0, 1) := by decide +kernel
theorem dX11_person_79 : decode cX11_person 79 = .ok (.getfield 45, 3) := by decide +kernel
theorem dX11_person_82 : decode cX11_person 82 = .ok (.getfield 187, 3) := by decide +kernel
theorem dX11_person_85 : decode cX11_person 85 = .ok (.iload_n 1, 1) := by decide +kernel
theorem dX11_person_86 : decode cX11_person 86 = .ok (.iaload, 1) := by decide +kernel
theorem dX11_person_87 : decode cX11_person 87 = .ok (.ireturn, 1) := by decide +kernel
theorem dX11_person_88 : decode cX11_person 88 = .ok (.aload_n 0, 1) := by decide +kernel
theorem dX11_person_89 : decode cX11_person 89 = .ok (.getfield 45, 3) := by decide +kernel
theorem dX11_person_92 : decode cX11_person 92 = .ok (.iload_n 1, 1) := by decide +kernel
theorem dX11_person_93 : decode cX11_person 93 = .ok (.invokevirtual 190, 3) := by decide +kernel
theorem dX11_person_96 : decode cX11_person 96 = .ok (.ireturn, 1) := by decide +kernel
theorem dX11_person_97 : decode cX11_person 97 = .ok (.ldc 78, 2) := by decide +kernel
theorem dX11_person_99 : decode cX11_person 99 = .ok (.ireturn, 1) := by decide +kernel
theorem dX11_stop_0 : decode cX11_stop 0 = .ok (.aload_n 0, 1) := by decide +kernel
theorem dX11_stop_1 : decode cX11_stop 1 = .ok (.iload_n 1, 1) := by decide +kernel
theorem dX11_stop_2 : decode cX11_stop 2 = .ok (.invokevirtual 168, 3) := by decide +kernel
theorem dX11_stop_5 : decode cX11_stop 5 = .ok (.ifCond .eq 12, 3) := by decide +kernel
theorem dX11_stop_8 : decode cX11_stop 8 = .ok (.iload_n 2, 1) := by decide +kernel
theorem dX11_stop_9 : decode cX11_stop 9 = .ok (.iconst 0, 1) := by decide +kernel
theorem dX11_stop_10 : decode cX11_stop 10 = .ok (.iconst 1, 1) := by decide +kernel
theorem dX11_stop_11 : decode cX11_stop 11 = .ok (.invokestatic 74, 3) := by decide +kernel
theorem dX11_stop_14 : decode cX11_stop 14 = .ok (.ifCond .ne 6, 3) := by decide +kernel
theorem dX11_stop_17 : decode cX11_stop 17 = .ok (.ldc 78, 2) := by decide +kernel
theorem dX11_stop_19 : decode cX11_stop 19 = .ok (.ireturn, 1) := by decide +kernel
theorem dX11_stop_20 : decode cX11_stop 20 = .ok (.iload_n 2, 1) := by decide +kernel
theorem dX11_stop_21 : decode cX11_stop 21 = .ok (.ifCond .ne 14, 3) := by decide +kernel
theorem dX11_stop_24 : decode cX11_stop 24 = .ok (.aload_n 0, 1) := by decide +kernel
theorem dX11_stop_25 : decode cX11_stop 25 = .ok (.getfield 45, 3) := by decide +kernel
theorem dX11_stop_28 : decode cX11_stop 28 = .ok (.iload_n 1, 1) := by decide +kernel
theorem dX11_stop_29 : decode cX11_stop 29 = .ok (.invokevirtual 193, 3) := by decide +kernel
theorem dX11_stop_32 : decode cX11_stop 32 = .ok (.goto 11, 3) := by decide +kernel
theorem dX11_stop_35 : decode cX11_stop 35 = .ok (.aload_n 0, 1) := by decide +kernel
theorem dX11_stop_36 : decode cX11_stop 36 = .ok (.getfield 45, 3) := by decide +kernel
theorem dX11_stop_39 : decode cX11_stop 39 = .ok (.iload_n 1, 1) := by decide +kernel
theorem dX11_stop_40 : decode cX11_stop 40 = .ok (.invokevirtual 196, 3) := by decide +kernel
theorem dX11_stop_43 : decode cX11_stop 43 = .ok (.ireturn, 1) := by decide +kernel
theorem dX11_where_0 : decode cX11_where 0 = .ok (.aload_n 0, 1) := by decide +kernel
theorem dX11_where_1 : decode cX11_where 1 = .ok (.iload_n 1, 1) := by decide +kernel
theorem dX11_where_2 : decode cX11_where 2 = .ok (.invokevirtual 161, 3) := by decide +kernel
theorem dX11_where_5 : decode cX11_where 5 = .ok (.ifCond .eq 13, 3) := by decide +kernel
theorem dX11_where_8 : decode cX11_where 8 = .ok (.iload_n 2, 1) := by decide +kernel
theorem dX11_where_9 : decode cX11_where 9 = .ok (.iconst 0, 1) := by decide +kernel
theorem dX11_where_10 : decode cX11_where 10 = .ok (.bipush 60, 2) := by decide +kernel
theorem dX11_where_12 : decode cX11_where 12 = .ok (.invokestatic 74, 3) := by decide +kernel
theorem dX11_where_15 : decode cX11_where 15 = .ok (.ifCond .ne 6, 3) := by decide +kernel
theorem dX11_where_18 : decode cX11_where 18 = .ok (.ldc 78, 2) := by decide +kernel
theorem dX11_where_20 : decode cX11_where 20 = .ok (.ireturn, 1) := by decide +kernel
theorem dX11_where_21 : decode cX11_where 21 = .ok (.aload_n 0, 1) := by decide +kernel
theorem dX11_where_22 : decode cX11_where 22 = .ok (.iload_n 2, 1) := by decide +kernel
theorem dX11_where_23 : decode cX11_where 23 = .ok (.invokevirtual 199, 3) := by decide +kernel
theorem dX11_where_26 : decode cX11_where 26 = .ok (.aload_n 0, 1) := by decide +kernel
theorem dX11_where_27 : decode cX11_where 27 = .ok (.getfield 49, 3) := by decide +kernel
theorem dX11_where_30 : decode cX11_where 30 = .ok (.getfield 164, 3) := by decide +kernel
theorem dX11_where_33 : decode cX11_where 33 = .ok (.iload_n 1, 1) := by decide +kernel
theorem dX11_where_34 : decode cX11_where 34 = .ok (.iaload, 1) := by decide +kernel
theorem dX11_where_35 : decode cX11_where 35 = .ok (.ireturn, 1) := by decide +kernel
theorem dX11_tram_0 : decode cX11_tram 0 = .ok (.aload_n 0, 1) := by decide +kernel
theorem dX11_tram_1 : decode cX11_tram 1 = .ok (.invokevirtual 143, 3) := by decide +kernel
theorem dX11_tram_4 : decode cX11_tram 4 = .ok (.ifCond .ne 6, 3) := by decide +kernel
theorem dX11_tram_7 : decode cX11_tram 7 = .ok (.ldc 147, 2) := by decide +kernel
theorem dX11_tram_9 : decode cX11_tram 9 = .ok (.ireturn, 1) := by decide +kernel
theorem dX11_tram_10 : decode cX11_tram 10 = .ok (.iload_n 1, 1) := by decide +kernel
theorem dX11_tram_11 : decode cX11_tram 11 = .ok (.iconst 0, 1) := by decide +kernel
theorem dX11_tram_12 : decode cX11_tram 12 = .ok (.bipush 60, 2) := by decide +kernel
theorem dX11_tram_14 : decode cX11_tram 14 = .ok (.invokestatic 74, 3) := by decide +kernel
theorem dX11_tram_17 : decode cX11_tram 17 = .ok (.ifCond .ne 6, 3) := by decide +kernel
theorem dX11_tram_20 : decode cX11_tram 20 = .ok (.ldc 78, 2) := by decide +kernel
theorem dX11_tram_22 : decode cX11_tram 22 = .ok (.ireturn, 1) := by decide +kernel
theorem dX11_tram_23 : decode cX11_tram 23 = .ok (.aload_n 0, 1) := by decide +kernel
theorem dX11_tram_24 : decode cX11_tram 24 = .ok (.iload_n 1, 1) := by decide +kernel
theorem dX11_tram_25 : decode cX11_tram 25 = .ok (.invokevirtual 199, 3) := by decide +kernel
theorem dX11_tram_28 : decode cX11_tram 28 = .ok (.aload_n 0, 1) := by decide +kernel
theorem dX11_tram_29 : decode cX11_tram 29 = .ok (.getfield 49, 3) := by decide +kernel
theorem dX11_tram_32 : decode cX11_tram 32 = .ok (.iconst 0, 1) := by decide +kernel
theorem dX11_tram_33 : decode cX11_tram 33 = .ok (.invokevirtual 202, 3) := by decide +kernel
theorem dX11_tram_36 : decode cX11_tram 36 = .ok (.istore_n 2, 1) := by decide +kernel
theorem dX11_tram_37 : decode cX11_tram 37 = .ok (.iload_n 2, 1) := by decide +kernel
theorem dX11_tram_38 : decode cX11_tram 38 = .ok (.iconst (-1), 1) := by decide +kernel
theorem dX11_tram_39 : decode cX11_tram 39 = .ok (.if_icmp .ne 8, 3) := by decide +kernel
theorem dX11_tram_42 : decode cX11_tram 42 = .ok (.ldc 205, 2) := by decide +kernel
theorem dX11_tram_44 : decode cX11_tram 44 = .ok (.goto 4, 3) := by decide +kernel
theorem dX11_tram_47 : decode cX11_tram 47 = .ok (.iload_n 2, 1) := by decide +kernel
theorem dX11_tram_48 : decode cX11_tram 48 = .ok (.ireturn, 1) := by decide +kernel
theorem dX11_there_0 : decode cX11_there 0 = .ok (.aload_n 0, 1) := by decide +kernel
theorem dX11_there_1 : decode cX11_there 1 = .ok (.invokevirtual 143, 3) := by decide +kernel
theorem dX11_there_4 : decode cX11_there 4 = .ok (.ifCond .ne 6, 3) := by decide +kernel
theorem dX11_there_7 : decode cX11_there 7 = .ok (.ldc 147, 2) := by decide +kernel
theorem dX11_there_9 : decode cX11_there 9 = .ok (.ireturn, 1) := by decide +kernel
theorem dX11_there_10 : decode cX11_there 10 = .ok (.iload_n 1, 1) := by decide +kernel
theorem dX11_there_11 : decode cX11_there 11 = .ok (.iconst 0, 1) := by decide +kernel
theorem dX11_there_12 : decode cX11_there 12 = .ok (.bipush 60, 2) := by decide +kernel
theorem dX11_there_14 : decode cX11_there 14 = .ok (.invokestatic 74, 3) := by decide +kernel
theorem dX11_there_17 : decode cX11_there 17 = .ok (.ifCond .ne 6, 3) := by decide +kernel
theorem dX11_there_20 : decode cX11_there 20 = .ok (.ldc 78, 2) := by decide +kernel
theorem dX11_there_22 : decode cX11_there 22 = .ok (.ireturn, 1) := by decide +kernel
theorem dX11_there_23 : decode cX11_there 23 = .ok (.aload_n 0, 1) := by decide +kernel
theorem dX11_there_24 : decode cX11_there 24 = .ok (.iload_n 1, 1) := by decide +kernel
theorem dX11_there_25 : decode cX11_there 25 = .ok (.invokevirtual 199, 3) := by decide +kernel
theorem dX11_there_28 : decode cX11_there 28 = .ok (.aload_n 0, 1) := by decide +kernel
theorem dX11_there_29 : decode cX11_there 29 = .ok (.getfield 49, 3) := by decide +kernel
theorem dX11_there_32 : decode cX11_there 32 = .ok (.invokevirtual 157, 3) := by decide +kernel
theorem dX11_there_35 : decode cX11_there 35 = .ok (.ireturn, 1) := by decide +kernel
theorem dX11_when_0 : decode cX11_when 0 = .ok (.aload_n 0, 1) := by decide +kernel
theorem dX11_when_1 : decode cX11_when 1 = .ok (.iload_n 1, 1) := by decide +kernel
theorem dX11_when_2 : decode cX11_when 2 = .ok (.invokevirtual 161, 3) := by decide +kernel
theorem dX11_when_5 : decode cX11_when 5 = .ok (.ifCond .ne 6, 3) := by decide +kernel
theorem dX11_when_8 : decode cX11_when 8 = .ok (.ldc 78, 2) := by decide +kernel
theorem dX11_when_10 : decode cX11_when 10 = .ok (.ireturn, 1) := by decide +kernel
theorem dX11_when_11 : decode cX11_when 11 = .ok (.aload_n 0, 1) := by decide +kernel
theorem dX11_when_12 : decode cX11_when 12 = .ok (.getfield 49, 3) := by decide +kernel
theorem dX11_when_15 : decode cX11_when 15 = .ok (.aload_n 0, 1) := by decide +kernel
theorem dX11_when_16 : decode cX11_when 16 = .ok (.getfield 45, 3) := by decide +kernel
theorem dX11_when_19 : decode cX11_when 19 = .ok (.invokevirtual 133, 3) := by decide +kernel
theorem dX11_when_22 : decode cX11_when 22 = .ok (.aload_n 0, 1) := by decide +kernel
theorem dX11_when_23 : decode cX11_when 23 = .ok (.iconst 1, 1) := by decide +kernel
theorem dX11_when_24 : decode cX11_when 24 = .ok (.iload_n 1, 1) := by decide +kernel
theorem dX11_when_25 : decode cX11_when 25 = .ok (.ishl, 1) := by decide +kernel
theorem dX11_when_26 : decode cX11_when 26 = .ok (.iconst 0, 1) := by decide +kernel
theorem dX11_when_27 : decode cX11_when 27 = .ok (.bipush 60, 2) := by decide +kernel
theorem dX11_when_29 : decode cX11_when 29 = .ok (.invokevirtual 206, 3) := by decide +kernel
theorem dX11_when_32 : decode cX11_when 32 = .ok (.ireturn, 1) := by decide +kernel
theorem dX11_all_0 : decode cX11_all 0 = .ok (.aload_n 0, 1) := by decide +kernel
theorem dX11_all_1 : decode cX11_all 1 = .ok (.invokevirtual 143, 3) := by decide +kernel
theorem dX11_all_4 : decode cX11_all 4 = .ok (.ifCond .ne 6, 3) := by decide +kernel
theorem dX11_all_7 : decode cX11_all 7 = .ok (.ldc 147, 2) := by decide +kernel
theorem dX11_all_9 : decode cX11_all 9 = .ok (.ireturn, 1) := by decide +kernel
theorem dX11_all_10 : decode cX11_all 10 = .ok (.aload_n 0, 1) := by decide +kernel
theorem dX11_all_11 : decode cX11_all 11 = .ok (.getfield 49, 3) := by decide +kernel
theorem dX11_all_14 : decode cX11_all 14 = .ok (.aload_n 0, 1) := by decide +kernel
theorem dX11_all_15 : decode cX11_all 15 = .ok (.getfield 45, 3) := by decide +kernel
theorem dX11_all_18 : decode cX11_all 18 = .ok (.invokevirtual 133, 3) := by decide +kernel
theorem dX11_all_21 : decode cX11_all 21 = .ok (.aload_n 0, 1) := by decide +kernel
theorem dX11_all_22 : decode cX11_all 22 = .ok (.aload_n 0, 1) := by decide +kernel
theorem dX11_all_23 : decode cX11_all 23 = .ok (.getfield 45, 3) := by decide +kernel
theorem dX11_all_26 : decode cX11_all 26 = .ok (.invokevirtual 209, 3) := by decide +kernel
theorem dX11_all_29 : decode cX11_all 29 = .ok (.iconst 0, 1) := by decide +kernel
theorem dX11_all_30 : decode cX11_all 30 = .ok (.bipush 60, 2) := by decide +kernel
theorem dX11_all_32 : decode cX11_all 32 = .ok (.invokevirtual 206, 3) := by decide +kernel
theorem dX11_all_35 : decode cX11_all 35 = .ok (.ireturn, 1) := by decide +kernel
theorem dX11_never_0 : decode cX11_never 0 = .ok (.aload_n 0, 1) := by decide +kernel
theorem dX11_never_1 : decode cX11_never 1 = .ok (.invokevirtual 143, 3) := by decide +kernel
theorem dX11_never_4 : decode cX11_never 4 = .ok (.ifCond .ne 6, 3) := by decide +kernel
theorem dX11_never_7 : decode cX11_never 7 = .ok (.ldc 147, 2) := by decide +kernel
theorem dX11_never_9 : decode cX11_never 9 = .ok (.ireturn, 1) := by decide +kernel
theorem dX11_never_10 : decode cX11_never 10 = .ok (.aload_n 0, 1) := by decide +kernel
theorem dX11_never_11 : decode cX11_never 11 = .ok (.bipush 60, 2) := by decide +kernel
theorem dX11_never_13 : decode cX11_never 13 = .ok (.invokevirtual 199, 3) := by decide +kernel
theorem dX11_never_16 : decode cX11_never 16 = .ok (.aload_n 0, 1) := by decide +kernel
theorem dX11_never_17 : decode cX11_never 17 = .ok (.getfield 45, 3) := by decide +kernel
theorem dX11_never_20 : decode cX11_never 20 = .ok (.invokevirtual 209, 3) := by decide +kernel
theorem dX11_never_23 : decode cX11_never 23 = .ok (.aload_n 0, 1) := by decide +kernel
theorem dX11_never_24 : decode cX11_never 24 = .ok (.getfield 49, 3) := by decide +kernel
theorem dX11_never_27 : decode cX11_never 27 = .ok (.invokevirtual 157, 3) := by decide +kernel
theorem dX11_never_30 : decode cX11_never 30 = .ok (.iconst (-1), 1) := by decide +kernel
theorem dX11_never_31 : decode cX11_never 31 = .ok (.ixor, 1) := by decide +kernel
theorem dX11_never_32 : decode cX11_never 32 = .ok (.iand, 1) := by decide +kernel
theorem dX11_never_33 : decode cX11_never 33 = .ok (.ireturn, 1) := by decide +kernel
theorem dX11_holding_0 : decode cX11_holding 0 = .ok (.aload_n 0, 1) := by decide +kernel
theorem dX11_holding_1 : decode cX11_holding 1 = .ok (.invokevirtual 143, 3) := by decide +kernel
theorem dX11_holding_4 : decode cX11_holding 4 = .ok (.ifCond .ne 6, 3) := by decide +kernel
theorem dX11_holding_7 : decode cX11_holding 7 = .ok (.ldc 147, 2) := by decide +kernel
theorem dX11_holding_9 : decode cX11_holding 9 = .ok (.ireturn, 1) := by decide +kernel
theorem dX11_holding_10 : decode cX11_holding 10 = .ok (.aload_n 0, 1) := by decide +kernel
theorem dX11_holding_11 : decode cX11_holding 11 = .ok (.getfield 45, 3) := by decide +kernel
theorem dX11_holding_14 : decode cX11_holding 14 = .ok (.invokevirtual 212, 3) := by decide +kernel
theorem dX11_holding_17 : decode cX11_holding 17 = .ok (.ireturn, 1) := by decide +kernel
theorem dX11_call_0 : decode cX11_call 0 = .ok (.aload_n 0, 1) := by decide +kernel
theorem dX11_call_1 : decode cX11_call 1 = .ok (.iload_n 1, 1) := by decide +kernel
theorem dX11_call_2 : decode cX11_call 2 = .ok (.invokevirtual 168, 3) := by decide +kernel
theorem dX11_call_5 : decode cX11_call 5 = .ok (.ifCond .eq 12, 3) := by decide +kernel
theorem dX11_call_8 : decode cX11_call 8 = .ok (.iload_n 2, 1) := by decide +kernel
theorem dX11_call_9 : decode cX11_call 9 = .ok (.iconst 0, 1) := by decide +kernel
theorem dX11_call_10 : decode cX11_call 10 = .ok (.iconst 1, 1) := by decide +kernel
theorem dX11_call_11 : decode cX11_call 11 = .ok (.invokestatic 74, 3) := by decide +kernel
theorem dX11_call_14 : decode cX11_call 14 = .ok (.ifCond .ne 6, 3) := by decide +kernel
theorem dX11_call_17 : decode cX11_call 17 = .ok (.ldc 78, 2) := by decide +kernel
theorem dX11_call_19 : decode cX11_call 19 = .ok (.ireturn, 1) := by decide +kernel
theorem dX11_call_20 : decode cX11_call 20 = .ok (.aload_n 0, 1) := by decide +kernel
theorem dX11_call_21 : decode cX11_call 21 = .ok (.getfield 49, 3) := by decide +kernel
theorem dX11_call_24 : decode cX11_call 24 = .ok (.aload_n 0, 1) := by decide +kernel
theorem dX11_call_25 : decode cX11_call 25 = .ok (.getfield 45, 3) := by decide +kernel
theorem dX11_call_28 : decode cX11_call 28 = .ok (.invokevirtual 133, 3) := by decide +kernel
theorem dX11_call_31 : decode cX11_call 31 = .ok (.iconst 0, 1) := by decide +kernel
theorem dX11_call_32 : decode cX11_call 32 = .ok (.istore_n 3, 1) := by decide +kernel
theorem dX11_call_33 : decode cX11_call 33 = .ok (.iload_n 3, 1) := by decide +kernel
theorem dX11_call_34 : decode cX11_call 34 = .ok (.bipush 40, 2) := by decide +kernel
theorem dX11_call_36 : decode cX11_call 36 = .ok (.if_icmp .gt 35, 3) := by decide +kernel
theorem dX11_call_39 : decode cX11_call 39 = .ok (.aload_n 0, 1) := by decide +kernel
theorem dX11_call_40 : decode cX11_call 40 = .ok (.iload_n 1, 1) := by decide +kernel
theorem dX11_call_41 : decode cX11_call 41 = .ok (.iload_n 3, 1) := by decide +kernel
theorem dX11_call_42 : decode cX11_call 42 = .ok (.invokevirtual 215, 3) := by decide +kernel
theorem dX11_call_45 : decode cX11_call 45 = .ok (.istore 4, 2) := by decide +kernel
theorem dX11_call_47 : decode cX11_call 47 = .ok (.iload 4, 2) := by decide +kernel
theorem dX11_call_49 : decode cX11_call 49 = .ok (.ldc 205, 2) := by decide +kernel
theorem dX11_call_51 : decode cX11_call 51 = .ok (.if_icmp .eq 14, 3) := by decide +kernel
theorem dX11_call_54 : decode cX11_call 54 = .ok (.iload_n 2, 1) := by decide +kernel
theorem dX11_call_55 : decode cX11_call 55 = .ok (.ifCond .ne 7, 3) := by decide +kernel
theorem dX11_call_58 : decode cX11_call 58 = .ok (.iload_n 3, 1) := by decide +kernel
theorem dX11_call_59 : decode cX11_call 59 = .ok (.goto 5, 3) := by decide +kernel
theorem dX11_call_62 : decode cX11_call 62 = .ok (.iload 4, 2) := by decide +kernel
theorem dX11_call_64 : decode cX11_call 64 = .ok (.ireturn, 1) := by decide +kernel
theorem dX11_call_65 : decode cX11_call 65 = .ok (.iinc 3 1, 3) := by decide +kernel
theorem dX11_call_68 : decode cX11_call 68 = .ok (.goto (-35), 3) := by decide +kernel
theorem dX11_call_71 : decode cX11_call 71 = .ok (.ldc 205, 2) := by decide +kernel
theorem dX11_call_73 : decode cX11_call 73 = .ok (.ireturn, 1) := by decide +kernel
theorem dX11_go_0 : decode cX11_go 0 = .ok (.aload_n 0, 1) := by decide +kernel
theorem dX11_go_1 : decode cX11_go 1 = .ok (.iload_n 1, 1) := by decide +kernel
theorem dX11_go_2 : decode cX11_go 2 = .ok (.invokevirtual 161, 3) := by decide +kernel
theorem dX11_go_5 : decode cX11_go 5 = .ok (.ifCond .eq 12, 3) := by decide +kernel
theorem dX11_go_8 : decode cX11_go 8 = .ok (.iload_n 2, 1) := by decide +kernel
theorem dX11_go_9 : decode cX11_go 9 = .ok (.iconst 0, 1) := by decide +kernel
theorem dX11_go_10 : decode cX11_go 10 = .ok (.iconst 1, 1) := by decide +kernel
theorem dX11_go_11 : decode cX11_go 11 = .ok (.invokestatic 74, 3) := by decide +kernel
theorem dX11_go_14 : decode cX11_go 14 = .ok (.ifCond .ne 6, 3) := by decide +kernel
theorem dX11_go_17 : decode cX11_go 17 = .ok (.ldc 78, 2) := by decide +kernel
theorem dX11_go_19 : decode cX11_go 19 = .ok (.ireturn, 1) := by decide +kernel
theorem dX11_go_20 : decode cX11_go 20 = .ok (.ldc 205, 2) := by decide +kernel
theorem dX11_go_22 : decode cX11_go 22 = .ok (.istore_n 3, 1) := by decide +kernel
theorem dX11_go_23 : decode cX11_go 23 = .ok (.ldc 205, 2) := by decide +kernel
theorem dX11_go_25 : decode cX11_go 25 = .ok (.istore 4, 2) := by decide +kernel
theorem dX11_go_27 : decode cX11_go 27 = .ok (.iconst 0, 1) := by decide +kernel
theorem dX11_go_28 : decode cX11_go 28 = .ok (.istore 5, 2) := by decide +kernel
theorem dX11_go_30 : decode cX11_go 30 = .ok (.iload 5, 2) := by decide +kernel
theorem dX11_go_32 : decode cX11_go 32 = .ok (.aload_n 0, 1) := by decide +kernel
theorem dX11_go_33 : decode cX11_go 33 = .ok (.getfield 45, 3) := by decide +kernel
theorem dX11_go_36 : decode cX11_go 36 = .ok (.getfield 219, 3) := by decide +kernel
theorem dX11_go_39 : decode cX11_go 39 = .ok (.if_icmp .ge 65, 3) := by decide +kernel
theorem dX11_go_42 : decode cX11_go 42 = .ok (.iload 5, 2) := by decide +kernel
theorem dX11_go_44 : decode cX11_go 44 = .ok (.aload_n 0, 1) := by decide +kernel
theorem dX11_go_45 : decode cX11_go 45 = .ok (.getfield 45, 3) := by decide +kernel
theorem dX11_go_48 : decode cX11_go 48 = .ok (.getfield 178, 3) := by decide +kernel
theorem dX11_go_51 : decode cX11_go 51 = .ok (.iload_n 1, 1) := by decide +kernel
theorem dX11_go_52 : decode cX11_go 52 = .ok (.iaload, 1) := by decide +kernel
theorem dX11_go_53 : decode cX11_go 53 = .ok (.if_icmp .ne 8, 3) := by decide +kernel
theorem dX11_go_56 : decode cX11_go 56 = .ok (.ldc 205, 2) := by decide +kernel
theorem dX11_go_58 : decode cX11_go 58 = .ok (.goto 10, 3) := by decide +kernel
theorem dX11_go_61 : decode cX11_go 61 = .ok (.aload_n 0, 1) := by decide +kernel
theorem dX11_go_62 : decode cX11_go 62 = .ok (.iload_n 1, 1) := by decide +kernel
theorem dX11_go_63 : decode cX11_go 63 = .ok (.iload 5, 2) := by decide +kernel
theorem dX11_go_65 : decode cX11_go 65 = .ok (.invokevirtual 222, 3) := by decide +kernel
theorem dX11_go_68 : decode cX11_go 68 = .ok (.istore 6, 2) := by decide +kernel
theorem dX11_go_70 : decode cX11_go 70 = .ok (.iload 6, 2) := by decide +kernel
theorem dX11_go_72 : decode cX11_go 72 = .ok (.ldc 205, 2) := by decide +kernel
theorem dX11_go_74 : decode cX11_go 74 = .ok (.if_icmp .eq 24, 3) := by decide +kernel
theorem dX11_go_77 : decode cX11_go 77 = .ok (.iload 4, 2) := by decide +kernel
theorem dX11_go_79 : decode cX11_go 79 = .ok (.ldc 205, 2) := by decide +kernel
theorem dX11_go_81 : decode cX11_go 81 = .ok (.if_icmp .eq 10, 3) := by decide +kernel
theorem dX11_go_84 : decode cX11_go 84 = .ok (.iload 6, 2) := by decide +kernel
theorem dX11_go_86 : decode cX11_go 86 = .ok (.iload 4, 2) := by decide +kernel
theorem dX11_go_88 : decode cX11_go 88 = .ok (.if_icmp .ge 10, 3) := by decide +kernel
theorem dX11_go_91 : decode cX11_go 91 = .ok (.iload 5, 2) := by decide +kernel
theorem dX11_go_93 : decode cX11_go 93 = .ok (.istore_n 3, 1) := by decide +kernel
theorem dX11_go_94 : decode cX11_go 94 = .ok (.iload 6, 2) := by decide +kernel
theorem dX11_go_96 : decode cX11_go 96 = .ok (.istore 4, 2) := by decide +kernel
theorem dX11_go_98 : decode cX11_go 98 = .ok (.iinc 5 1, 3) := by decide +kernel
theorem dX11_go_101 : decode cX11_go 101 = .ok (.goto (-71), 3) := by decide +kernel
theorem dX11_go_104 : decode cX11_go 104 = .ok (.iload_n 2, 1) := by decide +kernel
theorem dX11_go_105 : decode cX11_go 105 = .ok (.ifCond .ne 7, 3) := by decide +kernel
theorem dX11_go_108 : decode cX11_go 108 = .ok (.iload_n 3, 1) := by decide +kernel
theorem dX11_go_109 : decode cX11_go 109 = .ok (.goto 5, 3) := by decide +kernel
theorem dX11_go_112 : decode cX11_go 112 = .ok (.iload 4, 2) := by decide +kernel
theorem dX11_go_114 : decode cX11_go 114 = .ok (.ireturn, 1) := by decide +kernel
theorem dX11_walkers_0 : decode cX11_walkers 0 = .ok (.aload_n 0, 1) := by decide +kernel
theorem dX11_walkers_1 : decode cX11_walkers 1 = .ok (.invokevirtual 143, 3) := by decide +kernel
theorem dX11_walkers_4 : decode cX11_walkers 4 = .ok (.ifCond .ne 6, 3) := by decide +kernel
theorem dX11_walkers_7 : decode cX11_walkers 7 = .ok (.ldc 147, 2) := by decide +kernel
theorem dX11_walkers_9 : decode cX11_walkers 9 = .ok (.ireturn, 1) := by decide +kernel
theorem dX11_walkers_10 : decode cX11_walkers 10 = .ok (.iload_n 1, 1) := by decide +kernel
theorem dX11_walkers_11 : decode cX11_walkers 11 = .ok (.iconst 0, 1) := by decide +kernel
theorem dX11_walkers_12 : decode cX11_walkers 12 = .ok (.bipush 60, 2) := by decide +kernel
theorem dX11_walkers_14 : decode cX11_walkers 14 = .ok (.invokestatic 74, 3) := by decide +kernel
theorem dX11_walkers_17 : decode cX11_walkers 17 = .ok (.ifCond .eq 12, 3) := by decide +kernel
theorem dX11_walkers_20 : decode cX11_walkers 20 = .ok (.iload_n 2, 1) := by decide +kernel
theorem dX11_walkers_21 : decode cX11_walkers 21 = .ok (.iconst 0, 1) := by decide +kernel
theorem dX11_walkers_22 : decode cX11_walkers 22 = .ok (.iconst 1, 1) := by decide +kernel
theorem dX11_walkers_23 : decode cX11_walkers 23 = .ok (.invokestatic 74, 3) := by decide +kernel
theorem dX11_walkers_26 : decode cX11_walkers 26 = .ok (.ifCond .ne 6, 3) := by decide +kernel
theorem dX11_walkers_29 : decode cX11_walkers 29 = .ok (.ldc 78, 2) := by decide +kernel
theorem dX11_walkers_31 : decode cX11_walkers 31 = .ok (.ireturn, 1) := by decide +kernel
theorem dX11_walkers_32 : decode cX11_walkers 32 = .ok (.iconst 0, 1) := by decide +kernel
theorem dX11_walkers_33 : decode cX11_walkers 33 = .ok (.istore_n 3, 1) := by decide +kernel
theorem dX11_walkers_34 : decode cX11_walkers 34 = .ok (.iload_n 3, 1) := by decide +kernel
theorem dX11_walkers_35 : decode cX11_walkers 35 = .ok (.aload_n 0, 1) := by decide +kernel
theorem dX11_walkers_36 : decode cX11_walkers 36 = .ok (.getfield 45, 3) := by decide +kernel
theorem dX11_walkers_39 : decode cX11_walkers 39 = .ok (.getfield 140, 3) := by decide +kernel
theorem dX11_walkers_42 : decode cX11_walkers 42 = .ok (.if_icmp .gt 35, 3) := by decide +kernel
theorem dX11_walkers_45 : decode cX11_walkers 45 = .ok (.aload_n 0, 1) := by decide +kernel
theorem dX11_walkers_46 : decode cX11_walkers 46 = .ok (.iload_n 3, 1) := by decide +kernel
theorem dX11_walkers_47 : decode cX11_walkers 47 = .ok (.iload_n 1, 1) := by decide +kernel
theorem dX11_walkers_48 : decode cX11_walkers 48 = .ok (.invokevirtual 225, 3) := by decide +kernel
theorem dX11_walkers_51 : decode cX11_walkers 51 = .ok (.istore 4, 2) := by decide +kernel
theorem dX11_walkers_53 : decode cX11_walkers 53 = .ok (.iload 4, 2) := by decide +kernel
theorem dX11_walkers_55 : decode cX11_walkers 55 = .ok (.ldc 205, 2) := by decide +kernel
theorem dX11_walkers_57 : decode cX11_walkers 57 = .ok (.if_icmp .eq 14, 3) := by decide +kernel
theorem dX11_walkers_60 : decode cX11_walkers 60 = .ok (.iload_n 2, 1) := by decide +kernel
theorem dX11_walkers_61 : decode cX11_walkers 61 = .ok (.ifCond .ne 7, 3) := by decide +kernel
theorem dX11_walkers_64 : decode cX11_walkers 64 = .ok (.iload_n 3, 1) := by decide +kernel
theorem dX11_walkers_65 : decode cX11_walkers 65 = .ok (.goto 5, 3) := by decide +kernel
theorem dX11_walkers_68 : decode cX11_walkers 68 = .ok (.iload 4, 2) := by decide +kernel
theorem dX11_walkers_70 : decode cX11_walkers 70 = .ok (.ireturn, 1) := by decide +kernel
theorem dX11_walkers_71 : decode cX11_walkers 71 = .ok (.iinc 3 1, 3) := by decide +kernel
theorem dX11_walkers_74 : decode cX11_walkers 74 = .ok (.goto (-40), 3) := by decide +kernel
theorem dX11_walkers_77 : decode cX11_walkers 77 = .ok (.ldc 205, 2) := by decide +kernel
theorem dX11_walkers_79 : decode cX11_walkers 79 = .ok (.ireturn, 1) := by decide +kernel
theorem dX11_fits_0 : decode cX11_fits 0 = .ok (.aload_n 0, 1) := by decide +kernel
theorem dX11_fits_1 : decode cX11_fits 1 = .ok (.iload_n 1, 1) := by decide +kernel
theorem dX11_fits_2 : decode cX11_fits 2 = .ok (.invokevirtual 161, 3) := by decide +kernel
theorem dX11_fits_5 : decode cX11_fits 5 = .ok (.ifCond .eq 31, 3) := by decide +kernel
theorem dX11_fits_8 : decode cX11_fits 8 = .ok (.iload_n 2, 1) := by decide +kernel
theorem dX11_fits_9 : decode cX11_fits 9 = .ok (.invokestatic 70, 3) := by decide +kernel
theorem dX11_fits_12 : decode cX11_fits 12 = .ok (.ifCond .eq 24, 3) := by decide +kernel
theorem dX11_fits_15 : decode cX11_fits 15 = .ok (.iload 4, 2) := by decide +kernel
theorem dX11_fits_17 : decode cX11_fits 17 = .ok (.iconst 1, 1) := by decide +kernel
theorem dX11_fits_18 : decode cX11_fits 18 = .ok (.bipush 16, 2) := by decide +kernel
theorem dX11_fits_20 : decode cX11_fits 20 = .ok (.invokestatic 74, 3) := by decide +kernel
theorem dX11_fits_23 : decode cX11_fits 23 = .ok (.ifCond .eq 13, 3) := by decide +kernel
theorem dX11_fits_26 : decode cX11_fits 26 = .ok (.iload 5, 2) := by decide +kernel
theorem dX11_fits_28 : decode cX11_fits 28 = .ok (.iconst 0, 1) := by decide +kernel
theorem dX11_fits_29 : decode cX11_fits 29 = .ok (.iconst 1, 1) := by decide +kernel
theorem dX11_fits_30 : decode cX11_fits 30 = .ok (.invokestatic 74, 3) := by decide +kernel
theorem dX11_fits_33 : decode cX11_fits 33 = .ok (.ifCond .ne 6, 3) := by decide +kernel
theorem dX11_fits_36 : decode cX11_fits 36 = .ok (.ldc 78, 2) := by decide +kernel
theorem dX11_fits_38 : decode cX11_fits 38 = .ok (.ireturn, 1) := by decide +kernel
theorem dX11_fits_39 : decode cX11_fits 39 = .ok (.aload_n 0, 1) := by decide +kernel
theorem dX11_fits_40 : decode cX11_fits 40 = .ok (.getfield 27, 3) := by decide +kernel
theorem dX11_fits_43 : decode cX11_fits 43 = .ok (.iload_n 2, 1) := by decide +kernel
theorem dX11_fits_44 : decode cX11_fits 44 = .ok (.iload_n 3, 1) := by decide +kernel
theorem dX11_fits_45 : decode cX11_fits 45 = .ok (.iload 4, 2) := by decide +kernel
theorem dX11_fits_47 : decode cX11_fits 47 = .ok (.invokevirtual 90, 3) := by decide +kernel
theorem dX11_fits_50 : decode cX11_fits 50 = .ok (.istore 6, 2) := by decide +kernel
theorem dX11_fits_52 : decode cX11_fits 52 = .ok (.iload 6, 2) := by decide +kernel
theorem dX11_fits_54 : decode cX11_fits 54 = .ok (.ifCond .eq 10, 3) := by decide +kernel
theorem dX11_fits_57 : decode cX11_fits 57 = .ok (.aload_n 0, 1) := by decide +kernel
theorem dX11_fits_58 : decode cX11_fits 58 = .ok (.iload 6, 2) := by decide +kernel
theorem dX11_fits_60 : decode cX11_fits 60 = .ok (.invokevirtual 79, 3) := by decide +kernel
theorem dX11_fits_63 : decode cX11_fits 63 = .ok (.ireturn, 1) := by decide +kernel
theorem dX11_fits_64 : decode cX11_fits 64 = .ok (.aload_n 0, 1) := by decide +kernel
theorem dX11_fits_65 : decode cX11_fits 65 = .ok (.iload 5, 2) := by decide +kernel
theorem dX11_fits_67 : decode cX11_fits 67 = .ok (.ifCond .ne 15, 3) := by decide +kernel
theorem dX11_fits_70 : decode cX11_fits 70 = .ok (.aload_n 0, 1) := by decide +kernel
theorem dX11_fits_71 : decode cX11_fits 71 = .ok (.iload_n 1, 1) := by decide +kernel
theorem dX11_fits_72 : decode cX11_fits 72 = .ok (.iload_n 2, 1) := by decide +kernel
theorem dX11_fits_73 : decode cX11_fits 73 = .ok (.iload_n 3, 1) := by decide +kernel
theorem dX11_fits_74 : decode cX11_fits 74 = .ok (.iload 4, 2) := by decide +kernel
theorem dX11_fits_76 : decode cX11_fits 76 = .ok (.invokevirtual 228, 3) := by decide +kernel
theorem dX11_fits_79 : decode cX11_fits 79 = .ok (.goto 12, 3) := by decide +kernel
theorem dX11_fits_82 : decode cX11_fits 82 = .ok (.aload_n 0, 1) := by decide +kernel
theorem dX11_fits_83 : decode cX11_fits 83 = .ok (.iload_n 1, 1) := by decide +kernel
theorem dX11_fits_84 : decode cX11_fits 84 = .ok (.iload_n 2, 1) := by decide +kernel
theorem dX11_fits_85 : decode cX11_fits 85 = .ok (.iload_n 3, 1) := by decide +kernel
theorem dX11_fits_86 : decode cX11_fits 86 = .ok (.iload 4, 2) := by decide +kernel
theorem dX11_fits_88 : decode cX11_fits 88 = .ok (.invokevirtual 232, 3) := by decide +kernel
theorem dX11_fits_91 : decode cX11_fits 91 = .ok (.invokevirtual 87, 3) := by decide +kernel
theorem dX11_fits_94 : decode cX11_fits 94 = .ok (.ireturn, 1) := by decide +kernel
theorem dX11_bounds_0 : decode cX11_bounds 0 = .ok (.aload_n 0, 1) := by decide +kernel
theorem dX11_bounds_1 : decode cX11_bounds 1 = .ok (.invokevirtual 143, 3) := by decide +kernel
theorem dX11_bounds_4 : decode cX11_bounds 4 = .ok (.ifCond .ne 6, 3) := by decide +kernel
theorem dX11_bounds_7 : decode cX11_bounds 7 = .ok (.ldc 147, 2) := by decide +kernel
theorem dX11_bounds_9 : decode cX11_bounds 9 = .ok (.ireturn, 1) := by decide +kernel
theorem dX11_bounds_10 : decode cX11_bounds 10 = .ok (.iload_n 1, 1) := by decide +kernel
theorem dX11_bounds_11 : decode cX11_bounds 11 = .ok (.invokestatic 70, 3) := by decide +kernel
theorem dX11_bounds_14 : decode cX11_bounds 14 = .ok (.ifCond .eq 13, 3) := by decide +kernel
theorem dX11_bounds_17 : decode cX11_bounds 17 = .ok (.iload_n 3, 1) := by decide +kernel
theorem dX11_bounds_18 : decode cX11_bounds 18 = .ok (.iconst 1, 1) := by decide +kernel
theorem dX11_bounds_19 : decode cX11_bounds 19 = .ok (.bipush 16, 2) := by decide +kernel
theorem dX11_bounds_21 : decode cX11_bounds 21 = .ok (.invokestatic 74, 3) := by decide +kernel
theorem dX11_bounds_24 : decode cX11_bounds 24 = .ok (.ifCond .ne 6, 3) := by decide +kernel
theorem dX11_bounds_27 : decode cX11_bounds 27 = .ok (.ldc 78, 2) := by decide +kernel
theorem dX11_bounds_29 : decode cX11_bounds 29 = .ok (.ireturn, 1) := by decide +kernel
theorem dX11_bounds_30 : decode cX11_bounds 30 = .ok (.aload_n 0, 1) := by decide +kernel
theorem dX11_bounds_31 : decode cX11_bounds 31 = .ok (.getfield 27, 3) := by decide +kernel
theorem dX11_bounds_34 : decode cX11_bounds 34 = .ok (.iload_n 1, 1) := by decide +kernel
theorem dX11_bounds_35 : decode cX11_bounds 35 = .ok (.iload_n 2, 1) := by decide +kernel
theorem dX11_bounds_36 : decode cX11_bounds 36 = .ok (.iload_n 3, 1) := by decide +kernel
theorem dX11_bounds_37 : decode cX11_bounds 37 = .ok (.invokevirtual 90, 3) := by decide +kernel
theorem dX11_bounds_40 : decode cX11_bounds 40 = .ok (.istore 4, 2) := by decide +kernel
theorem dX11_bounds_42 : decode cX11_bounds 42 = .ok (.iload 4, 2) := by decide +kernel
theorem dX11_bounds_44 : decode cX11_bounds 44 = .ok (.ifCond .eq 10, 3) := by decide +kernel
theorem dX11_bounds_47 : decode cX11_bounds 47 = .ok (.aload_n 0, 1) := by decide +kernel
theorem dX11_bounds_48 : decode cX11_bounds 48 = .ok (.iload 4, 2) := by decide +kernel
theorem dX11_bounds_50 : decode cX11_bounds 50 = .ok (.invokevirtual 79, 3) := by decide +kernel
theorem dX11_bounds_53 : decode cX11_bounds 53 = .ok (.ireturn, 1) := by decide +kernel
theorem dX11_bounds_54 : decode cX11_bounds 54 = .ok (.aload_n 0, 1) := by decide +kernel
theorem dX11_bounds_55 : decode cX11_bounds 55 = .ok (.aload_n 0, 1) := by decide +kernel
theorem dX11_bounds_56 : decode cX11_bounds 56 = .ok (.iload_n 1, 1) := by decide +kernel
theorem dX11_bounds_57 : decode cX11_bounds 57 = .ok (.iload_n 2, 1) := by decide +kernel
theorem dX11_bounds_58 : decode cX11_bounds 58 = .ok (.iload_n 3, 1) := by decide +kernel
theorem dX11_bounds_59 : decode cX11_bounds 59 = .ok (.invokevirtual 235, 3) := by decide +kernel
theorem dX11_bounds_62 : decode cX11_bounds 62 = .ok (.invokevirtual 87, 3) := by decide +kernel
theorem dX11_bounds_65 : decode cX11_bounds 65 = .ok (.ireturn, 1) := by decide +kernel
theorem dX11_rain_0 : decode cX11_rain 0 = .ok (.aload_n 0, 1) := by decide +kernel
theorem dX11_rain_1 : decode cX11_rain 1 = .ok (.iload_n 1, 1) := by decide +kernel
theorem dX11_rain_2 : decode cX11_rain 2 = .ok (.invokevirtual 168, 3) := by decide +kernel
theorem dX11_rain_5 : decode cX11_rain 5 = .ok (.ifCond .eq 22, 3) := by decide +kernel
theorem dX11_rain_8 : decode cX11_rain 8 = .ok (.iload_n 2, 1) := by decide +kernel
theorem dX11_rain_9 : decode cX11_rain 9 = .ok (.iconst 0, 1) := by decide +kernel
theorem dX11_rain_10 : decode cX11_rain 10 = .ok (.bipush 10, 2) := by decide +kernel
theorem dX11_rain_12 : decode cX11_rain 12 = .ok (.invokestatic 74, 3) := by decide +kernel
theorem dX11_rain_15 : decode cX11_rain 15 = .ok (.ifCond .eq 12, 3) := by decide +kernel
theorem dX11_rain_18 : decode cX11_rain 18 = .ok (.iload_n 3, 1) := by decide +kernel
theorem dX11_rain_19 : decode cX11_rain 19 = .ok (.iconst 0, 1) := by decide +kernel
theorem dX11_rain_20 : decode cX11_rain 20 = .ok (.iconst 1, 1) := by decide +kernel
theorem dX11_rain_21 : decode cX11_rain 21 = .ok (.invokestatic 74, 3) := by decide +kernel
theorem dX11_rain_24 : decode cX11_rain 24 = .ok (.ifCond .ne 6, 3) := by decide +kernel
theorem dX11_rain_27 : decode cX11_rain 27 = .ok (.ldc 78, 2) := by decide +kernel
theorem dX11_rain_29 : decode cX11_rain 29 = .ok (.ireturn, 1) := by decide +kernel
theorem dX11_rain_30 : decode cX11_rain 30 = .ok (.iconst 0, 1) := by decide +kernel
theorem dX11_rain_31 : decode cX11_rain 31 = .ok (.istore 4, 2) := by decide +kernel
theorem dX11_rain_33 : decode cX11_rain 33 = .ok (.iconst 0, 1) := by decide +kernel
theorem dX11_rain_34 : decode cX11_rain 34 = .ok (.istore 5, 2) := by decide +kernel
theorem dX11_rain_36 : decode cX11_rain 36 = .ok (.iconst 0, 1) := by decide +kernel
theorem dX11_rain_37 : decode cX11_rain 37 = .ok (.istore 6, 2) := by decide +kernel
theorem dX11_rain_39 : decode cX11_rain 39 = .ok (.iload 6, 2) := by decide +kernel
theorem dX11_rain_41 : decode cX11_rain 41 = .ok (.aload_n 0, 1) := by decide +kernel
theorem dX11_rain_42 : decode cX11_rain 42 = .ok (.getfield 45, 3) := by decide +kernel
theorem dX11_rain_45 : decode cX11_rain 45 = .ok (.invokevirtual 209, 3) := by decide +kernel
theorem dX11_rain_48 : decode cX11_rain 48 = .ok (.if_icmp .gt 45, 3) := by decide +kernel
theorem dX11_rain_51 : decode cX11_rain 51 = .ok (.aload_n 0, 1) := by decide +kernel
theorem dX11_rain_52 : decode cX11_rain 52 = .ok (.iload 6, 2) := by decide +kernel
theorem dX11_rain_54 : decode cX11_rain 54 = .ok (.iload_n 2, 1) := by decide +kernel
theorem dX11_rain_55 : decode cX11_rain 55 = .ok (.invokevirtual 238, 3) := by decide +kernel
theorem dX11_rain_58 : decode cX11_rain 58 = .ok (.istore 7, 2) := by decide +kernel
theorem dX11_rain_60 : decode cX11_rain 60 = .ok (.iload 5, 2) := by decide +kernel
theorem dX11_rain_62 : decode cX11_rain 62 = .ok (.iload 7, 2) := by decide +kernel
theorem dX11_rain_64 : decode cX11_rain 64 = .ok (.iadd, 1) := by decide +kernel
theorem dX11_rain_65 : decode cX11_rain 65 = .ok (.istore 5, 2) := by decide +kernel
theorem dX11_rain_67 : decode cX11_rain 67 = .ok (.aload_n 0, 1) := by decide +kernel
theorem dX11_rain_68 : decode cX11_rain 68 = .ok (.getfield 45, 3) := by decide +kernel
theorem dX11_rain_71 : decode cX11_rain 71 = .ok (.iload 6, 2) := by decide +kernel
theorem dX11_rain_73 : decode cX11_rain 73 = .ok (.invokevirtual 202, 3) := by decide +kernel
theorem dX11_rain_76 : decode cX11_rain 76 = .ok (.iload_n 1, 1) := by decide +kernel
theorem dX11_rain_77 : decode cX11_rain 77 = .ok (.if_icmp .ne 10, 3) := by decide +kernel
theorem dX11_rain_80 : decode cX11_rain 80 = .ok (.iload 4, 2) := by decide +kernel
theorem dX11_rain_82 : decode cX11_rain 82 = .ok (.iload 7, 2) := by decide +kernel
theorem dX11_rain_84 : decode cX11_rain 84 = .ok (.iadd, 1) := by decide +kernel
theorem dX11_rain_85 : decode cX11_rain 85 = .ok (.istore 4, 2) := by decide +kernel
theorem dX11_rain_87 : decode cX11_rain 87 = .ok (.iinc 6 1, 3) := by decide +kernel
theorem dX11_rain_90 : decode cX11_rain 90 = .ok (.goto (-51), 3) := by decide +kernel
theorem dX11_rain_93 : decode cX11_rain 93 = .ok (.iload_n 3, 1) := by decide +kernel
theorem dX11_rain_94 : decode cX11_rain 94 = .ok (.ifCond .ne 8, 3) := by decide +kernel
theorem dX11_rain_97 : decode cX11_rain 97 = .ok (.iload 4, 2) := by decide +kernel
theorem dX11_rain_99 : decode cX11_rain 99 = .ok (.goto 5, 3) := by decide +kernel
theorem dX11_rain_102 : decode cX11_rain 102 = .ok (.iload 5, 2) := by decide +kernel
theorem dX11_rain_104 : decode cX11_rain 104 = .ok (.iload 4, 2) := by decide +kernel
theorem dX11_rain_106 : decode cX11_rain 106 = .ok (.iload 5, 2) := by decide +kernel
theorem dX11_rain_108 : decode cX11_rain 108 = .ok (.invokestatic 241, 3) := by decide +kernel
theorem dX11_rain_111 : decode cX11_rain 111 = .ok (.idiv, 1) := by decide +kernel
theorem dX11_rain_112 : decode cX11_rain 112 = .ok (.ireturn, 1) := by decide +kernel
theorem dX11_drawn_0 : decode cX11_drawn 0 = .ok (.aload_n 0, 1) := by decide +kernel
theorem dX11_drawn_1 : decode cX11_drawn 1 = .ok (.invokevirtual 143, 3) := by decide +kernel
theorem dX11_drawn_4 : decode cX11_drawn 4 = .ok (.ifCond .ne 6, 3) := by decide +kernel
theorem dX11_drawn_7 : decode cX11_drawn 7 = .ok (.ldc 147, 2) := by decide +kernel
theorem dX11_drawn_9 : decode cX11_drawn 9 = .ok (.ireturn, 1) := by decide +kernel
theorem dX11_drawn_10 : decode cX11_drawn 10 = .ok (.iload_n 1, 1) := by decide +kernel
theorem dX11_drawn_11 : decode cX11_drawn 11 = .ok (.iconst 0, 1) := by decide +kernel
theorem dX11_drawn_12 : decode cX11_drawn 12 = .ok (.bipush 60, 2) := by decide +kernel
theorem dX11_drawn_14 : decode cX11_drawn 14 = .ok (.invokestatic 74, 3) := by decide +kernel
theorem dX11_drawn_17 : decode cX11_drawn 17 = .ok (.ifCond .eq 22, 3) := by decide +kernel
theorem dX11_drawn_20 : decode cX11_drawn 20 = .ok (.iload_n 2, 1) := by decide +kernel
theorem dX11_drawn_21 : decode cX11_drawn 21 = .ok (.iconst 1, 1) := by decide +kernel
theorem dX11_drawn_22 : decode cX11_drawn 22 = .ok (.ldc 244, 2) := by decide +kernel
theorem dX11_drawn_24 : decode cX11_drawn 24 = .ok (.invokestatic 74, 3) := by decide +kernel
theorem dX11_drawn_27 : decode cX11_drawn 27 = .ok (.ifCond .eq 12, 3) := by decide +kernel
theorem dX11_drawn_30 : decode cX11_drawn 30 = .ok (.iload_n 3, 1) := by decide +kernel
theorem dX11_drawn_31 : decode cX11_drawn 31 = .ok (.iconst 0, 1) := by decide +kernel
theorem dX11_drawn_32 : decode cX11_drawn 32 = .ok (.iconst 1, 1) := by decide +kernel
theorem dX11_drawn_33 : decode cX11_drawn 33 = .ok (.invokestatic 74, 3) := by decide +kernel
theorem dX11_drawn_36 : decode cX11_drawn 36 = .ok (.ifCond .ne 6, 3) := by decide +kernel
theorem dX11_drawn_39 : decode cX11_drawn 39 = .ok (.ldc 78, 2) := by decide +kernel
theorem dX11_drawn_41 : decode cX11_drawn 41 = .ok (.ireturn, 1) := by decide +kernel
theorem dX11_drawn_42 : decode cX11_drawn 42 = .ok (.aload_n 0, 1) := by decide +kernel
theorem dX11_drawn_43 : decode cX11_drawn 43 = .ok (.getfield 49, 3) := by decide +kernel
theorem dX11_drawn_46 : decode cX11_drawn 46 = .ok (.aload_n 0, 1) := by decide +kernel
theorem dX11_drawn_47 : decode cX11_drawn 47 = .ok (.getfield 45, 3) := by decide +kernel
theorem dX11_drawn_50 : decode cX11_drawn 50 = .ok (.invokevirtual 133, 3) := by decide +kernel
theorem dX11_drawn_53 : decode cX11_drawn 53 = .ok (.iload_n 2, 1) := by decide +kernel
theorem dX11_drawn_54 : decode cX11_drawn 54 = .ok (.i2l, 1) := by decide +kernel
theorem dX11_drawn_55 : decode cX11_drawn 55 = .ok (.lstore 4, 2) := by decide +kernel
theorem dX11_drawn_57 : decode cX11_drawn 57 = .ok (.iconst 0, 1) := by decide +kernel
theorem dX11_drawn_58 : decode cX11_drawn 58 = .ok (.istore 6, 2) := by decide +kernel
theorem dX11_drawn_60 : decode cX11_drawn 60 = .ok (.iconst 0, 1) := by decide +kernel
theorem dX11_drawn_61 : decode cX11_drawn 61 = .ok (.istore 7, 2) := by decide +kernel
theorem dX11_drawn_63 : decode cX11_drawn 63 = .ok (.iload 7, 2) := by decide +kernel
theorem dX11_drawn_65 : decode cX11_drawn 65 = .ok (.iload_n 1, 1) := by decide +kernel
theorem dX11_drawn_66 : decode cX11_drawn 66 = .ok (.if_icmp .ge 42, 3) := by decide +kernel
theorem dX11_drawn_69 : decode cX11_drawn 69 = .ok (.lload 4, 2) := by decide +kernel
theorem dX11_drawn_71 : decode cX11_drawn 71 = .ok (.ldc2_w 245, 3) := by decide +kernel
theorem dX11_drawn_74 : decode cX11_drawn 74 = .ok (.lmul, 1) := by decide +kernel
theorem dX11_drawn_75 : decode cX11_drawn 75 = .ok (.ldc2_w 247, 3) := by decide +kernel
theorem dX11_drawn_78 : decode cX11_drawn 78 = .ok (.lrem, 1) := by decide +kernel
theorem dX11_drawn_79 : decode cX11_drawn 79 = .ok (.lstore 4, 2) := by decide +kernel
theorem dX11_drawn_81 : decode cX11_drawn 81 = .ok (.aload_n 0, 1) := by decide +kernel
theorem dX11_drawn_82 : decode cX11_drawn 82 = .ok (.lload 4, 2) := by decide +kernel
theorem dX11_drawn_84 : decode cX11_drawn 84 = .ok (.invokevirtual 249, 3) := by decide +kernel
theorem dX11_drawn_87 : decode cX11_drawn 87 = .ok (.aload_n 0, 1) := by decide +kernel
theorem dX11_drawn_88 : decode cX11_drawn 88 = .ok (.getfield 49, 3) := by decide +kernel
theorem dX11_drawn_91 : decode cX11_drawn 91 = .ok (.iconst 0, 1) := by decide +kernel
theorem dX11_drawn_92 : decode cX11_drawn 92 = .ok (.invokevirtual 154, 3) := by decide +kernel
theorem dX11_drawn_95 : decode cX11_drawn 95 = .ok (.iconst (-1), 1) := by decide +kernel
theorem dX11_drawn_96 : decode cX11_drawn 96 = .ok (.if_icmp .eq 6, 3) := by decide +kernel
theorem dX11_drawn_99 : decode cX11_drawn 99 = .ok (.iinc 6 1, 3) := by decide +kernel
theorem dX11_drawn_102 : decode cX11_drawn 102 = .ok (.iinc 7 1, 3) := by decide +kernel
theorem dX11_drawn_105 : decode cX11_drawn 105 = .ok (.goto (-42), 3) := by decide +kernel
theorem dX11_drawn_108 : decode cX11_drawn 108 = .ok (.iload_n 3, 1) := by decide +kernel
theorem dX11_drawn_109 : decode cX11_drawn 109 = .ok (.ifCond .ne 13, 3) := by decide +kernel
theorem dX11_drawn_112 : decode cX11_drawn 112 = .ok (.aload_n 0, 1) := by decide +kernel
theorem dX11_drawn_113 : decode cX11_drawn 113 = .ok (.getfield 49, 3) := by decide +kernel
theorem dX11_drawn_116 : decode cX11_drawn 116 = .ok (.invokevirtual 157, 3) := by decide +kernel
theorem dX11_drawn_119 : decode cX11_drawn 119 = .ok (.goto 5, 3) := by decide +kernel
theorem dX11_drawn_122 : decode cX11_drawn 122 = .ok (.iload 6, 2) := by decide +kernel
theorem dX11_drawn_124 : decode cX11_drawn 124 = .ok (.ireturn, 1) := by decide +kernel
theorem dX11_image_0 : decode cX11_image 0 = .ok (.iload_n 1, 1) := by decide +kernel
theorem dX11_image_1 : decode cX11_image 1 = .ok (.iconst 0, 1) := by decide +kernel
theorem dX11_image_2 : decode cX11_image 2 = .ok (.iconst 1, 1) := by decide +kernel
theorem dX11_image_3 : decode cX11_image 3 = .ok (.invokestatic 74, 3) := by decide +kernel
theorem dX11_image_6 : decode cX11_image 6 = .ok (.ifCond .ne 6, 3) := by decide +kernel
theorem dX11_image_9 : decode cX11_image 9 = .ok (.ldc 78, 2) := by decide +kernel
theorem dX11_image_11 : decode cX11_image 11 = .ok (.ireturn, 1) := by decide +kernel
theorem dX11_image_12 : decode cX11_image 12 = .ok (.aload_n 0, 1) := by decide +kernel
theorem dX11_image_13 : decode cX11_image 13 = .ok (.invokevirtual 143, 3) := by decide +kernel
theorem dX11_image_16 : decode cX11_image 16 = .ok (.ifCond .ne 6, 3) := by decide +kernel
theorem dX11_image_19 : decode cX11_image 19 = .ok (.ldc 147, 2) := by decide +kernel
theorem dX11_image_21 : decode cX11_image 21 = .ok (.ireturn, 1) := by decide +kernel
theorem dX11_image_22 : decode cX11_image 22 = .ok (.aload_n 0, 1) := by decide +kernel
theorem dX11_image_23 : decode cX11_image 23 = .ok (.getfield 52, 3) := by decide +kernel
theorem dX11_image_26 : decode cX11_image 26 = .ok (.iload_n 1, 1) := by decide +kernel
theorem dX11_image_27 : decode cX11_image 27 = .ok (.aaload, 1) := by decide +kernel
theorem dX11_image_28 : decode cX11_image 28 = .ok (.aload_n 0, 1) := by decide +kernel
theorem dX11_image_29 : decode cX11_image 29 = .ok (.getfield 45, 3) := by decide +kernel
theorem dX11_image_32 : decode cX11_image 32 = .ok (.invokevirtual 133, 3) := by decide +kernel
theorem dX11_image_35 : decode cX11_image 35 = .ok (.iconst 1, 1) := by decide +kernel
theorem dX11_image_36 : decode cX11_image 36 = .ok (.ireturn, 1) := by decide +kernel
theorem dX11_restore_0 : decode cX11_restore 0 = .ok (.iload_n 1, 1) := by decide +kernel
theorem dX11_restore_1 : decode cX11_restore 1 = .ok (.iconst 0, 1) := by decide +kernel
theorem dX11_restore_2 : decode cX11_restore 2 = .ok (.iconst 1, 1) := by decide +kernel
theorem dX11_restore_3 : decode cX11_restore 3 = .ok (.invokestatic 74, 3) := by decide +kernel
theorem dX11_restore_6 : decode cX11_restore 6 = .ok (.ifCond .ne 6, 3) := by decide +kernel
theorem dX11_restore_9 : decode cX11_restore 9 = .ok (.ldc 78, 2) := by decide +kernel
theorem dX11_restore_11 : decode cX11_restore 11 = .ok (.ireturn, 1) := by decide +kernel
theorem dX11_restore_12 : decode cX11_restore 12 = .ok (.aload_n 0, 1) := by decide +kernel
theorem dX11_restore_13 : decode cX11_restore 13 = .ok (.getfield 52, 3) := by decide +kernel
theorem dX11_restore_16 : decode cX11_restore 16 = .ok (.iload_n 1, 1) := by decide +kernel
theorem dX11_restore_17 : decode cX11_restore 17 = .ok (.aaload, 1) := by decide +kernel
theorem dX11_restore_18 : decode cX11_restore 18 = .ok (.getfield 219, 3) := by decide +kernel
theorem dX11_restore_21 : decode cX11_restore 21 = .ok (.ifCond .ne 6, 3) := by decide +kernel
theorem dX11_restore_24 : decode cX11_restore 24 = .ok (.ldc 147, 2) := by decide +kernel
theorem dX11_restore_26 : decode cX11_restore 26 = .ok (.ireturn, 1) := by decide +kernel
theorem dX11_restore_27 : decode cX11_restore 27 = .ok (.aload_n 0, 1) := by decide +kernel
theorem dX11_restore_28 : decode cX11_restore 28 = .ok (.getfield 45, 3) := by decide +kernel
theorem dX11_restore_31 : decode cX11_restore 31 = .ok (.aload_n 0, 1) := by decide +kernel
theorem dX11_restore_32 : decode cX11_restore 32 = .ok (.getfield 52, 3) := by decide +kernel
theorem dX11_restore_35 : decode cX11_restore 35 = .ok (.iload_n 1, 1) := by decide +kernel
theorem dX11_restore_36 : decode cX11_restore 36 = .ok (.aaload, 1) := by decide +kernel
theorem dX11_restore_37 : decode cX11_restore 37 = .ok (.invokevirtual 133, 3) := by decide +kernel
theorem dX11_restore_40 : decode cX11_restore 40 = .ok (.aload_n 0, 1) := by decide +kernel
theorem dX11_restore_41 : decode cX11_restore 41 = .ok (.getfield 59, 3) := by decide +kernel
theorem dX11_restore_44 : decode cX11_restore 44 = .ok (.invokevirtual 137, 3) := by decide +kernel
theorem dX11_restore_47 : decode cX11_restore 47 = .ok (.iconst 1, 1) := by decide +kernel
theorem dX11_restore_48 : decode cX11_restore 48 = .ok (.ireturn, 1) := by decide +kernel
theorem dX11_kind_0 : decode cX11_kind 0 = .ok (.aload_n 0, 1) := by decide +kernel
theorem dX11_kind_1 : decode cX11_kind 1 = .ok (.iload_n 1, 1) := by decide +kernel
theorem dX11_kind_2 : decode cX11_kind 2 = .ok (.invokevirtual 161, 3) := by decide +kernel
theorem dX11_kind_5 : decode cX11_kind 5 = .ok (.ifCond .ne 6, 3) := by decide +kernel
theorem dX11_kind_8 : decode cX11_kind 8 = .ok (.ldc 78, 2) := by decide +kernel
theorem dX11_kind_10 : decode cX11_kind 10 = .ok (.ireturn, 1) := by decide +kernel
theorem dX11_kind_11 : decode cX11_kind 11 = .ok (.aload_n 0, 1) := by decide +kernel
theorem dX11_kind_12 : decode cX11_kind 12 = .ok (.getfield 45, 3) := by decide +kernel
theorem dX11_kind_15 : decode cX11_kind 15 = .ok (.getfield 253, 3) := by decide +kernel
theorem dX11_kind_18 : decode cX11_kind 18 = .ok (.iload_n 1, 1) := by decide +kernel
theorem dX11_kind_19 : decode cX11_kind 19 = .ok (.iaload, 1) := by decide +kernel
theorem dX11_kind_20 : decode cX11_kind 20 = .ok (.ireturn, 1) := by decide +kernel
theorem dX11_as_0 : decode cX11_as 0 = .ok (.aload_n 0, 1) := by decide +kernel
theorem dX11_as_1 : decode cX11_as 1 = .ok (.iload_n 1, 1) := by decide +kernel
theorem dX11_as_2 : decode cX11_as 2 = .ok (.invokevirtual 161, 3) := by decide +kernel
theorem dX11_as_5 : decode cX11_as 5 = .ok (.ifCond .eq 12, 3) := by decide +kernel
theorem dX11_as_8 : decode cX11_as 8 = .ok (.iload_n 2, 1) := by decide +kernel
theorem dX11_as_9 : decode cX11_as 9 = .ok (.iconst 0, 1) := by decide +kernel
theorem dX11_as_10 : decode cX11_as 10 = .ok (.iconst 5, 1) := by decide +kernel
theorem dX11_as_11 : decode cX11_as 11 = .ok (.invokestatic 74, 3) := by decide +kernel
theorem dX11_as_14 : decode cX11_as 14 = .ok (.ifCond .ne 6, 3) := by decide +kernel
theorem dX11_as_17 : decode cX11_as 17 = .ok (.ldc 78, 2) := by decide +kernel
theorem dX11_as_19 : decode cX11_as 19 = .ok (.ireturn, 1) := by decide +kernel
theorem dX11_as_20 : decode cX11_as 20 = .ok (.aload_n 0, 1) := by decide +kernel
theorem dX11_as_21 : decode cX11_as 21 = .ok (.getfield 45, 3) := by decide +kernel
theorem dX11_as_24 : decode cX11_as 24 = .ok (.iload_n 1, 1) := by decide +kernel
theorem dX11_as_25 : decode cX11_as 25 = .ok (.invokevirtual 256, 3) := by decide +kernel
theorem dX11_as_28 : decode cX11_as 28 = .ok (.iload_n 2, 1) := by decide +kernel
theorem dX11_as_29 : decode cX11_as 29 = .ok (.invokestatic 260, 3) := by decide +kernel
theorem dX11_as_32 : decode cX11_as 32 = .ok (.ifCond .ne 9, 3) := by decide +kernel
theorem dX11_as_35 : decode cX11_as 35 = .ok (.aload_n 0, 1) := by decide +kernel
theorem dX11_as_36 : decode cX11_as 36 = .ok (.iconst 3, 1) := by decide +kernel
theorem dX11_as_37 : decode cX11_as 37 = .ok (.invokevirtual 79, 3) := by decide +kernel
theorem dX11_as_40 : decode cX11_as 40 = .ok (.ireturn, 1) := by decide +kernel
theorem dX11_as_41 : decode cX11_as 41 = .ok (.aload_n 0, 1) := by decide +kernel
theorem dX11_as_42 : decode cX11_as 42 = .ok (.iload_n 1, 1) := by decide +kernel
theorem dX11_as_43 : decode cX11_as 43 = .ok (.invokevirtual 87, 3) := by decide +kernel
theorem dX11_as_46 : decode cX11_as 46 = .ok (.ireturn, 1) := by decide +kernel
theorem dX11_ask_0 : decode cX11_ask 0 = .ok (.aload_n 0, 1) := by decide +kernel
theorem dX11_ask_1 : decode cX11_ask 1 = .ok (.iload_n 1, 1) := by decide +kernel
theorem dX11_ask_2 : decode cX11_ask 2 = .ok (.invokevirtual 161, 3) := by decide +kernel
theorem dX11_ask_5 : decode cX11_ask 5 = .ok (.ifCond .eq 12, 3) := by decide +kernel
theorem dX11_ask_8 : decode cX11_ask 8 = .ok (.iload_n 2, 1) := by decide +kernel
theorem dX11_ask_9 : decode cX11_ask 9 = .ok (.iconst 0, 1) := by decide +kernel
theorem dX11_ask_10 : decode cX11_ask 10 = .ok (.iconst 1, 1) := by decide +kernel
theorem dX11_ask_11 : decode cX11_ask 11 = .ok (.invokestatic 74, 3) := by decide +kernel
theorem dX11_ask_14 : decode cX11_ask 14 = .ok (.ifCond .ne 6, 3) := by decide +kernel
theorem dX11_ask_17 : decode cX11_ask 17 = .ok (.ldc 78, 2) := by decide +kernel
theorem dX11_ask_19 : decode cX11_ask 19 = .ok (.ireturn, 1) := by decide +kernel
theorem dX11_ask_20 : decode cX11_ask 20 = .ok (.aload_n 0, 1) := by decide +kernel
theorem dX11_ask_21 : decode cX11_ask 21 = .ok (.getfield 66, 3) := by decide +kernel
theorem dX11_ask_24 : decode cX11_ask 24 = .ok (.iload_n 1, 1) := by decide +kernel
theorem dX11_ask_25 : decode cX11_ask 25 = .ok (.aload_n 0, 1) := by decide +kernel
theorem dX11_ask_26 : decode cX11_ask 26 = .ok (.getfield 45, 3) := by decide +kernel
theorem dX11_ask_29 : decode cX11_ask 29 = .ok (.getfield 175, 3) := by decide +kernel
theorem dX11_ask_32 : decode cX11_ask 32 = .ok (.iload_n 1, 1) := by decide +kernel
theorem dX11_ask_33 : decode cX11_ask 33 = .ok (.iaload, 1) := by decide +kernel
theorem dX11_ask_34 : decode cX11_ask 34 = .ok (.aload_n 0, 1) := by decide +kernel
theorem dX11_ask_35 : decode cX11_ask 35 = .ok (.getfield 45, 3) := by decide +kernel
theorem dX11_ask_38 : decode cX11_ask 38 = .ok (.getfield 187, 3) := by decide +kernel
theorem dX11_ask_41 : decode cX11_ask 41 = .ok (.iload_n 1, 1) := by decide +kernel
theorem dX11_ask_42 : decode cX11_ask 42 = .ok (.iaload, 1) := by decide +kernel
theorem dX11_ask_43 : decode cX11_ask 43 = .ok (.invokevirtual 264, 3) := by decide +kernel
theorem dX11_ask_46 : decode cX11_ask 46 = .ok (.aload_n 0, 1) := by decide +kernel
theorem dX11_ask_47 : decode cX11_ask 47 = .ok (.getfield 45, 3) := by decide +kernel
theorem dX11_ask_50 : decode cX11_ask 50 = .ok (.iload_n 1, 1) := by decide +kernel
theorem dX11_ask_51 : decode cX11_ask 51 = .ok (.invokevirtual 256, 3) := by decide +kernel
theorem dX11_ask_54 : decode cX11_ask 54 = .ok (.astore_n 3, 1) := by decide +kernel
theorem dX11_ask_55 : decode cX11_ask 55 = .ok (.iload_n 2, 1) := by decide +kernel
theorem dX11_ask_56 : decode cX11_ask 56 = .ok (.ifCond .ne 14, 3) := by decide +kernel
theorem dX11_ask_59 : decode cX11_ask 59 = .ok (.aload_n 3, 1) := by decide +kernel
theorem dX11_ask_60 : decode cX11_ask 60 = .ok (.aload_n 0, 1) := by decide +kernel
theorem dX11_ask_61 : decode cX11_ask 61 = .ok (.getfield 66, 3) := by decide +kernel
theorem dX11_ask_64 : decode cX11_ask 64 = .ok (.invokevirtual 267, 3) := by decide +kernel
theorem dX11_ask_67 : decode cX11_ask 67 = .ok (.goto 11, 3) := by decide +kernel
theorem dX11_ask_70 : decode cX11_ask 70 = .ok (.aload_n 3, 1) := by decide +kernel
theorem dX11_ask_71 : decode cX11_ask 71 = .ok (.aload_n 0, 1) := by decide +kernel
theorem dX11_ask_72 : decode cX11_ask 72 = .ok (.getfield 66, 3) := by decide +kernel
theorem dX11_ask_75 : decode cX11_ask 75 = .ok (.invokevirtual 271, 3) := by decide +kernel
theorem dX11_ask_78 : decode cX11_ask 78 = .ok (.ireturn, 1) := by decide +kernel
theorem dX11_trace_0 : decode cX11_trace 0 = .ok (.aload_n 0, 1) := by decide +kernel
theorem dX11_trace_1 : decode cX11_trace 1 = .ok (.getfield 66, 3) := by decide +kernel
theorem dX11_trace_4 : decode cX11_trace 4 = .ok (.iload_n 1, 1) := by decide +kernel
theorem dX11_trace_5 : decode cX11_trace 5 = .ok (.invokevirtual 274, 3) := by decide +kernel
theorem dX11_trace_8 : decode cX11_trace 8 = .ok (.ireturn, 1) := by decide +kernel
theorem dX11_count_0 : decode cX11_count 0 = .ok (.iload_n 1, 1) := by decide +kernel
theorem dX11_count_1 : decode cX11_count 1 = .ok (.tableswitch 111 0 7 #[47, 55, 63, 71, 79, 87, 95, 103], 47) := by decide +kernel
theorem dX11_count_48 : decode cX11_count 48 = .ok (.aload_n 0, 1) := by decide +kernel
theorem dX11_count_49 : decode cX11_count 49 = .ok (.getfield 27, 3) := by decide +kernel
theorem dX11_count_52 : decode cX11_count 52 = .ok (.invokevirtual 277, 3) := by decide +kernel
theorem dX11_count_55 : decode cX11_count 55 = .ok (.ireturn, 1) := by decide +kernel
theorem dX11_count_56 : decode cX11_count 56 = .ok (.aload_n 0, 1) := by decide +kernel
theorem dX11_count_57 : decode cX11_count 57 = .ok (.getfield 45, 3) := by decide +kernel
theorem dX11_count_60 : decode cX11_count 60 = .ok (.getfield 219, 3) := by decide +kernel
theorem dX11_count_63 : decode cX11_count 63 = .ok (.ireturn, 1) := by decide +kernel
theorem dX11_count_64 : decode cX11_count 64 = .ok (.aload_n 0, 1) := by decide +kernel
theorem dX11_count_65 : decode cX11_count 65 = .ok (.getfield 45, 3) := by decide +kernel
theorem dX11_count_68 : decode cX11_count 68 = .ok (.getfield 140, 3) := by decide +kernel
theorem dX11_count_71 : decode cX11_count 71 = .ok (.ireturn, 1) := by decide +kernel
theorem dX11_count_72 : decode cX11_count 72 = .ok (.aload_n 0, 1) := by decide +kernel
theorem dX11_count_73 : decode cX11_count 73 = .ok (.getfield 45, 3) := by decide +kernel
theorem dX11_count_76 : decode cX11_count 76 = .ok (.getfield 148, 3) := by decide +kernel
theorem dX11_count_79 : decode cX11_count 79 = .ok (.ireturn, 1) := by decide +kernel
theorem dX11_count_80 : decode cX11_count 80 = .ok (.aload_n 0, 1) := by decide +kernel
theorem dX11_count_81 : decode cX11_count 81 = .ok (.getfield 45, 3) := by decide +kernel
theorem dX11_count_84 : decode cX11_count 84 = .ok (.getfield 280, 3) := by decide +kernel
theorem dX11_count_87 : decode cX11_count 87 = .ok (.ireturn, 1) := by decide +kernel
theorem dX11_count_88 : decode cX11_count 88 = .ok (.aload_n 0, 1) := by decide +kernel
theorem dX11_count_89 : decode cX11_count 89 = .ok (.getfield 45, 3) := by decide +kernel
theorem dX11_count_92 : decode cX11_count 92 = .ok (.invokevirtual 157, 3) := by decide +kernel
theorem dX11_count_95 : decode cX11_count 95 = .ok (.ireturn, 1) := by decide +kernel
theorem dX11_count_96 : decode cX11_count 96 = .ok (.aload_n 0, 1) := by decide +kernel
theorem dX11_count_97 : decode cX11_count 97 = .ok (.getfield 59, 3) := by decide +kernel
theorem dX11_count_100 : decode cX11_count 100 = .ok (.getfield 181, 3) := by decide +kernel
theorem dX11_count_103 : decode cX11_count 103 = .ok (.ireturn, 1) := by decide +kernel
theorem dX11_count_104 : decode cX11_count 104 = .ok (.aload_n 0, 1) := by decide +kernel
theorem dX11_count_105 : decode cX11_count 105 = .ok (.getfield 36, 3) := by decide +kernel
theorem dX11_count_108 : decode cX11_count 108 = .ok (.getfield 111, 3) := by decide +kernel
theorem dX11_count_111 : decode cX11_count 111 = .ok (.ireturn, 1) := by decide +kernel
theorem dX11_count_112 : decode cX11_count 112 = .ok (.ldc 78, 2) := by decide +kernel
theorem dX11_count_114 : decode cX11_count 114 = .ok (.ireturn, 1) := by decide +kernel
theorem dX11_status_0 : decode cX11_status 0 = .ok (.aload_n 0, 1) := by decide +kernel
theorem dX11_status_1 : decode cX11_status 1 = .ok (.getfield 283, 3) := by decide +kernel
theorem dX11_status_4 : decode cX11_status 4 = .ok (.ireturn, 1) := by decide +kernel
theorem dX11_isWithin_0 : decode cX11_isWithin 0 = .ok (.iload_n 0, 1) := by decide +kernel
theorem dX11_isWithin_1 : decode cX11_isWithin 1 = .ok (.iload_n 1, 1) := by decide +kernel
theorem dX11_isWithin_2 : decode cX11_isWithin 2 = .ok (.if_icmp .lt 12, 3) := by decide +kernel
theorem dX11_isWithin_5 : decode cX11_isWithin 5 = .ok (.iload_n 0, 1) := by decide +kernel
theorem dX11_isWithin_6 : decode cX11_isWithin 6 = .ok (.iload_n 2, 1) := by decide +kernel
theorem dX11_isWithin_7 : decode cX11_isWithin 7 = .ok (.if_icmp .gt 7, 3) := by decide +kernel
theorem dX11_isWithin_10 : decode cX11_isWithin 10 = .ok (.iconst 1, 1) := by decide +kernel
theorem dX11_isWithin_11 : decode cX11_isWithin 11 = .ok (.goto 4, 3) := by decide +kernel
theorem dX11_isWithin_14 : decode cX11_isWithin 14 = .ok (.iconst 0, 1) := by decide +kernel
theorem dX11_isWithin_15 : decode cX11_isWithin 15 = .ok (.ireturn, 1) := by decide +kernel
theorem dX11_isIn_0 : decode cX11_isIn 0 = .ok (.iload_n 0, 1) := by decide +kernel
theorem dX11_isIn_1 : decode cX11_isIn 1 = .ok (.iload_n 1, 1) := by decide +kernel
theorem dX11_isIn_2 : decode cX11_isIn 2 = .ok (.ishr, 1) := by decide +kernel
theorem dX11_isIn_3 : decode cX11_isIn 3 = .ok (.iconst 1, 1) := by decide +kernel
theorem dX11_isIn_4 : decode cX11_isIn 4 = .ok (.iand, 1) := by decide +kernel
theorem dX11_isIn_5 : decode cX11_isIn 5 = .ok (.iconst 1, 1) := by decide +kernel
theorem dX11_isIn_6 : decode cX11_isIn 6 = .ok (.if_icmp .ne 7, 3) := by decide +kernel
theorem dX11_isIn_9 : decode cX11_isIn 9 = .ok (.iconst 1, 1) := by decide +kernel
theorem dX11_isIn_10 : decode cX11_isIn 10 = .ok (.goto 4, 3) := by decide +kernel
theorem dX11_isIn_13 : decode cX11_isIn 13 = .ok (.iconst 0, 1) := by decide +kernel
theorem dX11_isIn_14 : decode cX11_isIn 14 = .ok (.ireturn, 1) := by decide +kernel
theorem dX11_isRow_0 : decode cX11_isRow 0 = .ok (.iload_n 0, 1) := by decide +kernel
theorem dX11_isRow_1 : decode cX11_isRow 1 = .ok (.iconst 0, 1) := by decide +kernel
theorem dX11_isRow_2 : decode cX11_isRow 2 = .ok (.bipush 7, 2) := by decide +kernel
theorem dX11_isRow_4 : decode cX11_isRow 4 = .ok (.invokestatic 74, 3) := by decide +kernel
theorem dX11_isRow_7 : decode cX11_isRow 7 = .ok (.ireturn, 1) := by decide +kernel
theorem dX11_hasLine_0 : decode cX11_hasLine 0 = .ok (.aload_n 0, 1) := by decide +kernel
theorem dX11_hasLine_1 : decode cX11_hasLine 1 = .ok (.getfield 45, 3) := by decide +kernel
theorem dX11_hasLine_4 : decode cX11_hasLine 4 = .ok (.getfield 219, 3) := by decide +kernel
theorem dX11_hasLine_7 : decode cX11_hasLine 7 = .ok (.ifCond .le 7, 3) := by decide +kernel
theorem dX11_hasLine_10 : decode cX11_hasLine 10 = .ok (.iconst 1, 1) := by decide +kernel
theorem dX11_hasLine_11 : decode cX11_hasLine 11 = .ok (.goto 4, 3) := by decide +kernel
theorem dX11_hasLine_14 : decode cX11_hasLine 14 = .ok (.iconst 0, 1) := by decide +kernel
theorem dX11_hasLine_15 : decode cX11_hasLine 15 = .ok (.ireturn, 1) := by decide +kernel
theorem dX11_isPerson_0 : decode cX11_isPerson 0 = .ok (.iload_n 1, 1) := by decide +kernel
theorem dX11_isPerson_1 : decode cX11_isPerson 1 = .ok (.iconst 0, 1) := by decide +kernel
theorem dX11_isPerson_2 : decode cX11_isPerson 2 = .ok (.aload_n 0, 1) := by decide +kernel
theorem dX11_isPerson_3 : decode cX11_isPerson 3 = .ok (.getfield 45, 3) := by decide +kernel
theorem dX11_isPerson_6 : decode cX11_isPerson 6 = .ok (.getfield 140, 3) := by decide +kernel
theorem dX11_isPerson_9 : decode cX11_isPerson 9 = .ok (.iconst 1, 1) := by decide +kernel
theorem dX11_isPerson_10 : decode cX11_isPerson 10 = .ok (.isub, 1) := by decide +kernel
theorem dX11_isPerson_11 : decode cX11_isPerson 11 = .ok (.invokestatic 74, 3) := by decide +kernel
theorem dX11_isPerson_14 : decode cX11_isPerson 14 = .ok (.ireturn, 1) := by decide +kernel
theorem dX11_isStop_0 : decode cX11_isStop 0 = .ok (.iload_n 1, 1) := by decide +kernel
theorem dX11_isStop_1 : decode cX11_isStop 1 = .ok (.iconst 0, 1) := by decide +kernel
theorem dX11_isStop_2 : decode cX11_isStop 2 = .ok (.aload_n 0, 1) := by decide +kernel
theorem dX11_isStop_3 : decode cX11_isStop 3 = .ok (.getfield 45, 3) := by decide +kernel
theorem dX11_isStop_6 : decode cX11_isStop 6 = .ok (.getfield 219, 3) := by decide +kernel
theorem dX11_isStop_9 : decode cX11_isStop 9 = .ok (.iconst 1, 1) := by decide +kernel
theorem dX11_isStop_10 : decode cX11_isStop 10 = .ok (.isub, 1) := by decide +kernel
theorem dX11_isStop_11 : decode cX11_isStop 11 = .ok (.invokestatic 74, 3) := by decide +kernel
theorem dX11_isStop_14 : decode cX11_isStop 14 = .ok (.ireturn, 1) := by decide +kernel
theorem dX11_found_0 : decode cX11_found 0 = .ok (.aload_n 0, 1) := by decide +kernel
theorem dX11_found_1 : decode cX11_found 1 = .ok (.iload_n 1, 1) := by decide +kernel
theorem dX11_found_2 : decode cX11_found 2 = .ok (.putfield 283, 3) := by decide +kernel
theorem dX11_found_5 : decode cX11_found 5 = .ok (.ldc_w 286, 3) := by decide +kernel
theorem dX11_found_8 : decode cX11_found 8 = .ok (.iload_n 1, 1) := by decide +kernel
theorem dX11_found_9 : decode cX11_found 9 = .ok (.isub, 1) := by decide +kernel
theorem dX11_found_10 : decode cX11_found 10 = .ok (.ireturn, 1) := by decide +kernel
theorem dX11_foundNothing_0 : decode cX11_foundNothing 0 = .ok (.aload_n 0, 1) := by decide +kernel
theorem dX11_foundNothing_1 : decode cX11_foundNothing 1 = .ok (.iconst 0, 1) := by decide +kernel
theorem dX11_foundNothing_2 : decode cX11_foundNothing 2 = .ok (.putfield 283, 3) := by decide +kernel
theorem dX11_foundNothing_5 : decode cX11_foundNothing 5 = .ok (.iload_n 1, 1) := by decide +kernel
theorem dX11_foundNothing_6 : decode cX11_foundNothing 6 = .ok (.ireturn, 1) := by decide +kernel
theorem dX11_isOne_0 : decode cX11_isOne 0 = .ok (.iload_n 1, 1) := by decide +kernel
theorem dX11_isOne_1 : decode cX11_isOne 1 = .ok (.tableswitch 66 0 5 #[39, 41, 46, 51, 56, 61], 39) := by decide +kernel
theorem dX11_isOne_40 : decode cX11_isOne 40 = .ok (.iconst 1, 1) := by decide +kernel
theorem dX11_isOne_41 : decode cX11_isOne 41 = .ok (.ireturn, 1) := by decide +kernel
theorem dX11_isOne_42 : decode cX11_isOne 42 = .ok (.aload_n 0, 1) := by decide +kernel
theorem dX11_isOne_43 : decode cX11_isOne 43 = .ok (.instanceof 9, 3) := by decide +kernel
theorem dX11_isOne_46 : decode cX11_isOne 46 = .ok (.ireturn, 1) := by decide +kernel
theorem dX11_isOne_47 : decode cX11_isOne 47 = .ok (.aload_n 0, 1) := by decide +kernel
theorem dX11_isOne_48 : decode cX11_isOne 48 = .ok (.instanceof 12, 3) := by decide +kernel
theorem dX11_isOne_51 : decode cX11_isOne 51 = .ok (.ireturn, 1) := by decide +kernel
theorem dX11_isOne_52 : decode cX11_isOne 52 = .ok (.aload_n 0, 1) := by decide +kernel
theorem dX11_isOne_53 : decode cX11_isOne 53 = .ok (.instanceof 15, 3) := by decide +kernel
theorem dX11_isOne_56 : decode cX11_isOne 56 = .ok (.ireturn, 1) := by decide +kernel
theorem dX11_isOne_57 : decode cX11_isOne 57 = .ok (.aload_n 0, 1) := by decide +kernel
theorem dX11_isOne_58 : decode cX11_isOne 58 = .ok (.instanceof 18, 3) := by decide +kernel
theorem dX11_isOne_61 : decode cX11_isOne 61 = .ok (.ireturn, 1) := by decide +kernel
theorem dX11_isOne_62 : decode cX11_isOne 62 = .ok (.aload_n 0, 1) := by decide +kernel
theorem dX11_isOne_63 : decode cX11_isOne 63 = .ok (.instanceof 21, 3) := by decide +kernel
theorem dX11_isOne_66 : decode cX11_isOne 66 = .ok (.ireturn, 1) := by decide +kernel
theorem dX11_isOne_67 : decode cX11_isOne 67 = .ok (.iconst 0, 1) := by decide +kernel
theorem dX11_isOne_68 : decode cX11_isOne 68 = .ok (.ireturn, 1) := by decide +kernel
theorem dX11_playFor_0 : decode cX11_playFor 0 = .ok (.aload_n 0, 1) := by decide +kernel
theorem dX11_playFor_1 : decode cX11_playFor 1 = .ok (.getfield 49, 3) := by decide +kernel
theorem dX11_playFor_4 : decode cX11_playFor 4 = .ok (.aload_n 0, 1) := by decide +kernel
theorem dX11_playFor_5 : decode cX11_playFor 5 = .ok (.getfield 45, 3) := by decide +kernel
theorem dX11_playFor_8 : decode cX11_playFor 8 = .ok (.invokevirtual 133, 3) := by decide +kernel
theorem dX11_playFor_11 : decode cX11_playFor 11 = .ok (.iconst 0, 1) := by decide +kernel
theorem dX11_playFor_12 : decode cX11_playFor 12 = .ok (.istore_n 2, 1) := by decide +kernel
theorem dX11_playFor_13 : decode cX11_playFor 13 = .ok (.iload_n 2, 1) := by decide +kernel
theorem dX11_playFor_14 : decode cX11_playFor 14 = .ok (.iload_n 1, 1) := by decide +kernel
theorem dX11_playFor_15 : decode cX11_playFor 15 = .ok (.if_icmp .ge 18, 3) := by decide +kernel
theorem dX11_playFor_18 : decode cX11_playFor 18 = .ok (.aload_n 0, 1) := by decide +kernel
theorem dX11_playFor_19 : decode cX11_playFor 19 = .ok (.getfield 49, 3) := by decide +kernel
theorem dX11_playFor_22 : decode cX11_playFor 22 = .ok (.iconst 0, 1) := by decide +kernel
theorem dX11_playFor_23 : decode cX11_playFor 23 = .ok (.invokevirtual 154, 3) := by decide +kernel
theorem dX11_playFor_26 : decode cX11_playFor 26 = .ok (.pop, 1) := by decide +kernel
theorem dX11_playFor_27 : decode cX11_playFor 27 = .ok (.iinc 2 1, 3) := by decide +kernel
theorem dX11_playFor_30 : decode cX11_playFor 30 = .ok (.goto (-17), 3) := by decide +kernel
theorem dX11_playFor_33 : decode cX11_playFor 33 = .ok (.return_, 1) := by decide +kernel
theorem dX11_playTill_0 : decode cX11_playTill 0 = .ok (.iconst 0, 1) := by decide +kernel
theorem dX11_playTill_1 : decode cX11_playTill 1 = .ok (.istore 4, 2) := by decide +kernel
theorem dX11_playTill_3 : decode cX11_playTill 3 = .ok (.iload 4, 2) := by decide +kernel
theorem dX11_playTill_5 : decode cX11_playTill 5 = .ok (.iload_n 3, 1) := by decide +kernel
theorem dX11_playTill_6 : decode cX11_playTill 6 = .ok (.if_icmp .ge 34, 3) := by decide +kernel
theorem dX11_playTill_9 : decode cX11_playTill 9 = .ok (.aload_n 0, 1) := by decide +kernel
theorem dX11_playTill_10 : decode cX11_playTill 10 = .ok (.getfield 49, 3) := by decide +kernel
theorem dX11_playTill_13 : decode cX11_playTill 13 = .ok (.invokevirtual 157, 3) := by decide +kernel
theorem dX11_playTill_16 : decode cX11_playTill 16 = .ok (.iload_n 1, 1) := by decide +kernel
theorem dX11_playTill_17 : decode cX11_playTill 17 = .ok (.iand, 1) := by decide +kernel
theorem dX11_playTill_18 : decode cX11_playTill 18 = .ok (.iload_n 1, 1) := by decide +kernel
theorem dX11_playTill_19 : decode cX11_playTill 19 = .ok (.if_icmp .ne 6, 3) := by decide +kernel
theorem dX11_playTill_22 : decode cX11_playTill 22 = .ok (.iload 4, 2) := by decide +kernel
theorem dX11_playTill_24 : decode cX11_playTill 24 = .ok (.ireturn, 1) := by decide +kernel
theorem dX11_playTill_25 : decode cX11_playTill 25 = .ok (.aload_n 0, 1) := by decide +kernel
theorem dX11_playTill_26 : decode cX11_playTill 26 = .ok (.getfield 49, 3) := by decide +kernel
theorem dX11_playTill_29 : decode cX11_playTill 29 = .ok (.iload_n 2, 1) := by decide +kernel
theorem dX11_playTill_30 : decode cX11_playTill 30 = .ok (.invokevirtual 154, 3) := by decide +kernel
theorem dX11_playTill_33 : decode cX11_playTill 33 = .ok (.pop, 1) := by decide +kernel
theorem dX11_playTill_34 : decode cX11_playTill 34 = .ok (.iinc 4 1, 3) := by decide +kernel
theorem dX11_playTill_37 : decode cX11_playTill 37 = .ok (.goto (-34), 3) := by decide +kernel
theorem dX11_playTill_40 : decode cX11_playTill 40 = .ok (.aload_n 0, 1) := by decide +kernel
theorem dX11_playTill_41 : decode cX11_playTill 41 = .ok (.getfield 49, 3) := by decide +kernel
theorem dX11_playTill_44 : decode cX11_playTill 44 = .ok (.invokevirtual 157, 3) := by decide +kernel
theorem dX11_playTill_47 : decode cX11_playTill 47 = .ok (.iload_n 1, 1) := by decide +kernel
theorem dX11_playTill_48 : decode cX11_playTill 48 = .ok (.iand, 1) := by decide +kernel
theorem dX11_playTill_49 : decode cX11_playTill 49 = .ok (.iload_n 1, 1) := by decide +kernel
theorem dX11_playTill_50 : decode cX11_playTill 50 = .ok (.if_icmp .ne 7, 3) := by decide +kernel
theorem dX11_playTill_53 : decode cX11_playTill 53 = .ok (.iload_n 3, 1) := by decide +kernel
theorem dX11_playTill_54 : decode cX11_playTill 54 = .ok (.goto 5, 3) := by decide +kernel
theorem dX11_playTill_57 : decode cX11_playTill 57 = .ok (.ldc 205, 2) := by decide +kernel
theorem dX11_playTill_59 : decode cX11_playTill 59 = .ok (.ireturn, 1) := by decide +kernel
theorem dX11_callerBy_0 : decode cX11_callerBy 0 = .ok (.iconst 0, 1) := by decide +kernel
theorem dX11_callerBy_1 : decode cX11_callerBy 1 = .ok (.istore_n 3, 1) := by decide +kernel
theorem dX11_callerBy_2 : decode cX11_callerBy 2 = .ok (.iload_n 3, 1) := by decide +kernel
theorem dX11_callerBy_3 : decode cX11_callerBy 3 = .ok (.aload_n 0, 1) := by decide +kernel
theorem dX11_callerBy_4 : decode cX11_callerBy 4 = .ok (.getfield 49, 3) := by decide +kernel
theorem dX11_callerBy_7 : decode cX11_callerBy 7 = .ok (.getfield 140, 3) := by decide +kernel
theorem dX11_callerBy_10 : decode cX11_callerBy 10 = .ok (.if_icmp .ge 74, 3) := by decide +kernel
theorem dX11_callerBy_13 : decode cX11_callerBy 13 = .ok (.aload_n 0, 1) := by decide +kernel
theorem dX11_callerBy_14 : decode cX11_callerBy 14 = .ok (.getfield 49, 3) := by decide +kernel
theorem dX11_callerBy_17 : decode cX11_callerBy 17 = .ok (.getfield 164, 3) := by decide +kernel
theorem dX11_callerBy_20 : decode cX11_callerBy 20 = .ok (.iload_n 3, 1) := by decide +kernel
theorem dX11_callerBy_21 : decode cX11_callerBy 21 = .ok (.iaload, 1) := by decide +kernel
theorem dX11_callerBy_22 : decode cX11_callerBy 22 = .ok (.iload_n 1, 1) := by decide +kernel
theorem dX11_callerBy_23 : decode cX11_callerBy 23 = .ok (.if_icmp .ne 55, 3) := by decide +kernel
theorem dX11_callerBy_26 : decode cX11_callerBy 26 = .ok (.aload_n 0, 1) := by decide +kernel
theorem dX11_callerBy_27 : decode cX11_callerBy 27 = .ok (.getfield 49, 3) := by decide +kernel
theorem dX11_callerBy_30 : decode cX11_callerBy 30 = .ok (.getfield 175, 3) := by decide +kernel
theorem dX11_callerBy_33 : decode cX11_callerBy 33 = .ok (.iload_n 3, 1) := by decide +kernel
theorem dX11_callerBy_34 : decode cX11_callerBy 34 = .ok (.dup2, 1) := by decide +kernel
theorem dX11_callerBy_35 : decode cX11_callerBy 35 = .ok (.iaload, 1) := by decide +kernel
theorem dX11_callerBy_36 : decode cX11_callerBy 36 = .ok (.iload_n 2, 1) := by decide +kernel
theorem dX11_callerBy_37 : decode cX11_callerBy 37 = .ok (.iadd, 1) := by decide +kernel
theorem dX11_callerBy_38 : decode cX11_callerBy 38 = .ok (.iastore, 1) := by decide +kernel
theorem dX11_callerBy_39 : decode cX11_callerBy 39 = .ok (.aload_n 0, 1) := by decide +kernel
theorem dX11_callerBy_40 : decode cX11_callerBy 40 = .ok (.getfield 49, 3) := by decide +kernel
theorem dX11_callerBy_43 : decode cX11_callerBy 43 = .ok (.iconst 0, 1) := by decide +kernel
theorem dX11_callerBy_44 : decode cX11_callerBy 44 = .ok (.invokevirtual 202, 3) := by decide +kernel
theorem dX11_callerBy_47 : decode cX11_callerBy 47 = .ok (.iload_n 1, 1) := by decide +kernel
theorem dX11_callerBy_48 : decode cX11_callerBy 48 = .ok (.if_icmp .ne 7, 3) := by decide +kernel
theorem dX11_callerBy_51 : decode cX11_callerBy 51 = .ok (.iconst 1, 1) := by decide +kernel
theorem dX11_callerBy_52 : decode cX11_callerBy 52 = .ok (.goto 4, 3) := by decide +kernel
theorem dX11_callerBy_55 : decode cX11_callerBy 55 = .ok (.iconst 0, 1) := by decide +kernel
theorem dX11_callerBy_56 : decode cX11_callerBy 56 = .ok (.istore 4, 2) := by decide +kernel
theorem dX11_callerBy_58 : decode cX11_callerBy 58 = .ok (.aload_n 0, 1) := by decide +kernel
theorem dX11_callerBy_59 : decode cX11_callerBy 59 = .ok (.getfield 49, 3) := by decide +kernel
theorem dX11_callerBy_62 : decode cX11_callerBy 62 = .ok (.getfield 175, 3) := by decide +kernel
theorem dX11_callerBy_65 : decode cX11_callerBy 65 = .ok (.iload_n 3, 1) := by decide +kernel
theorem dX11_callerBy_66 : decode cX11_callerBy 66 = .ok (.dup2, 1) := by decide +kernel
theorem dX11_callerBy_67 : decode cX11_callerBy 67 = .ok (.iaload, 1) := by decide +kernel
theorem dX11_callerBy_68 : decode cX11_callerBy 68 = .ok (.iload_n 2, 1) := by decide +kernel
theorem dX11_callerBy_69 : decode cX11_callerBy 69 = .ok (.isub, 1) := by decide +kernel
theorem dX11_callerBy_70 : decode cX11_callerBy 70 = .ok (.iastore, 1) := by decide +kernel
theorem dX11_callerBy_71 : decode cX11_callerBy 71 = .ok (.iload 4, 2) := by decide +kernel
theorem dX11_callerBy_73 : decode cX11_callerBy 73 = .ok (.ifCond .eq 5, 3) := by decide +kernel
theorem dX11_callerBy_76 : decode cX11_callerBy 76 = .ok (.iload_n 3, 1) := by decide +kernel
theorem dX11_callerBy_77 : decode cX11_callerBy 77 = .ok (.ireturn, 1) := by decide +kernel
theorem dX11_callerBy_78 : decode cX11_callerBy 78 = .ok (.iinc 3 1, 3) := by decide +kernel
theorem dX11_callerBy_81 : decode cX11_callerBy 81 = .ok (.goto (-79), 3) := by decide +kernel
theorem dX11_callerBy_84 : decode cX11_callerBy 84 = .ok (.ldc 205, 2) := by decide +kernel
theorem dX11_callerBy_86 : decode cX11_callerBy 86 = .ok (.ireturn, 1) := by decide +kernel
theorem dX11_soonFrom_0 : decode cX11_soonFrom 0 = .ok (.aload_n 0, 1) := by decide +kernel
theorem dX11_soonFrom_1 : decode cX11_soonFrom 1 = .ok (.getfield 49, 3) := by decide +kernel
theorem dX11_soonFrom_4 : decode cX11_soonFrom 4 = .ok (.aload_n 0, 1) := by decide +kernel
theorem dX11_soonFrom_5 : decode cX11_soonFrom 5 = .ok (.getfield 45, 3) := by decide +kernel
theorem dX11_soonFrom_8 : decode cX11_soonFrom 8 = .ok (.invokevirtual 133, 3) := by decide +kernel
theorem dX11_soonFrom_11 : decode cX11_soonFrom 11 = .ok (.iload_n 2, 1) := by decide +kernel
theorem dX11_soonFrom_12 : decode cX11_soonFrom 12 = .ok (.aload_n 0, 1) := by decide +kernel
theorem dX11_soonFrom_13 : decode cX11_soonFrom 13 = .ok (.getfield 45, 3) := by decide +kernel
theorem dX11_soonFrom_16 : decode cX11_soonFrom 16 = .ok (.getfield 164, 3) := by decide +kernel
theorem dX11_soonFrom_19 : decode cX11_soonFrom 19 = .ok (.iload_n 1, 1) := by decide +kernel
theorem dX11_soonFrom_20 : decode cX11_soonFrom 20 = .ok (.iaload, 1) := by decide +kernel
theorem dX11_soonFrom_21 : decode cX11_soonFrom 21 = .ok (.if_icmp .eq 12, 3) := by decide +kernel
theorem dX11_soonFrom_24 : decode cX11_soonFrom 24 = .ok (.aload_n 0, 1) := by decide +kernel
theorem dX11_soonFrom_25 : decode cX11_soonFrom 25 = .ok (.getfield 49, 3) := by decide +kernel
theorem dX11_soonFrom_28 : decode cX11_soonFrom 28 = .ok (.iload_n 1, 1) := by decide +kernel
theorem dX11_soonFrom_29 : decode cX11_soonFrom 29 = .ok (.iload_n 2, 1) := by decide +kernel
theorem dX11_soonFrom_30 : decode cX11_soonFrom 30 = .ok (.invokevirtual 171, 3) := by decide +kernel
theorem dX11_soonFrom_33 : decode cX11_soonFrom 33 = .ok (.aload_n 0, 1) := by decide +kernel
theorem dX11_soonFrom_34 : decode cX11_soonFrom 34 = .ok (.iconst 1, 1) := by decide +kernel
theorem dX11_soonFrom_35 : decode cX11_soonFrom 35 = .ok (.iload_n 1, 1) := by decide +kernel
theorem dX11_soonFrom_36 : decode cX11_soonFrom 36 = .ok (.ishl, 1) := by decide +kernel
theorem dX11_soonFrom_37 : decode cX11_soonFrom 37 = .ok (.iconst 0, 1) := by decide +kernel
theorem dX11_soonFrom_38 : decode cX11_soonFrom 38 = .ok (.bipush 60, 2) := by decide +kernel
theorem dX11_soonFrom_40 : decode cX11_soonFrom 40 = .ok (.invokevirtual 206, 3) := by decide +kernel
theorem dX11_soonFrom_43 : decode cX11_soonFrom 43 = .ok (.ireturn, 1) := by decide +kernel
theorem dX11_leastWalkers_0 : decode cX11_leastWalkers 0 = .ok (.iconst 0, 1) := by decide +kernel
theorem dX11_leastWalkers_1 : decode cX11_leastWalkers 1 = .ok (.istore_n 3, 1) := by decide +kernel
theorem dX11_leastWalkers_2 : decode cX11_leastWalkers 2 = .ok (.iload_n 3, 1) := by decide +kernel
theorem dX11_leastWalkers_3 : decode cX11_leastWalkers 3 = .ok (.aload_n 0, 1) := by decide +kernel
theorem dX11_leastWalkers_4 : decode cX11_leastWalkers 4 = .ok (.getfield 45, 3) := by decide +kernel
theorem dX11_leastWalkers_7 : decode cX11_leastWalkers 7 = .ok (.invokevirtual 209, 3) := by decide +kernel
theorem dX11_leastWalkers_10 : decode cX11_leastWalkers 10 = .ok (.if_icmp .gt 48, 3) := by decide +kernel
theorem dX11_leastWalkers_13 : decode cX11_leastWalkers 13 = .ok (.iload_n 3, 1) := by decide +kernel
theorem dX11_leastWalkers_14 : decode cX11_leastWalkers 14 = .ok (.invokestatic 287, 3) := by decide +kernel
theorem dX11_leastWalkers_17 : decode cX11_leastWalkers 17 = .ok (.iload_n 1, 1) := by decide +kernel
theorem dX11_leastWalkers_18 : decode cX11_leastWalkers 18 = .ok (.if_icmp .ne 34, 3) := by decide +kernel
theorem dX11_leastWalkers_21 : decode cX11_leastWalkers 21 = .ok (.aload_n 0, 1) := by decide +kernel
theorem dX11_leastWalkers_22 : decode cX11_leastWalkers 22 = .ok (.getfield 49, 3) := by decide +kernel
theorem dX11_leastWalkers_25 : decode cX11_leastWalkers 25 = .ok (.aload_n 0, 1) := by decide +kernel
theorem dX11_leastWalkers_26 : decode cX11_leastWalkers 26 = .ok (.getfield 45, 3) := by decide +kernel
theorem dX11_leastWalkers_29 : decode cX11_leastWalkers 29 = .ok (.invokevirtual 133, 3) := by decide +kernel
theorem dX11_leastWalkers_32 : decode cX11_leastWalkers 32 = .ok (.aload_n 0, 1) := by decide +kernel
theorem dX11_leastWalkers_33 : decode cX11_leastWalkers 33 = .ok (.aload_n 0, 1) := by decide +kernel
theorem dX11_leastWalkers_34 : decode cX11_leastWalkers 34 = .ok (.getfield 45, 3) := by decide +kernel
theorem dX11_leastWalkers_37 : decode cX11_leastWalkers 37 = .ok (.invokevirtual 209, 3) := by decide +kernel
theorem dX11_leastWalkers_40 : decode cX11_leastWalkers 40 = .ok (.iload_n 3, 1) := by decide +kernel
theorem dX11_leastWalkers_41 : decode cX11_leastWalkers 41 = .ok (.iload_n 2, 1) := by decide +kernel
theorem dX11_leastWalkers_42 : decode cX11_leastWalkers 42 = .ok (.invokevirtual 206, 3) := by decide +kernel
theorem dX11_leastWalkers_45 : decode cX11_leastWalkers 45 = .ok (.ldc 205, 2) := by decide +kernel
theorem dX11_leastWalkers_47 : decode cX11_leastWalkers 47 = .ok (.if_icmp .eq 5, 3) := by decide +kernel
theorem dX11_leastWalkers_50 : decode cX11_leastWalkers 50 = .ok (.iload_n 3, 1) := by decide +kernel
theorem dX11_leastWalkers_51 : decode cX11_leastWalkers 51 = .ok (.ireturn, 1) := by decide +kernel
theorem dX11_leastWalkers_52 : decode cX11_leastWalkers 52 = .ok (.iinc 3 1, 3) := by decide +kernel
theorem dX11_leastWalkers_55 : decode cX11_leastWalkers 55 = .ok (.goto (-53), 3) := by decide +kernel
theorem dX11_leastWalkers_58 : decode cX11_leastWalkers 58 = .ok (.ldc 205, 2) := by decide +kernel
theorem dX11_leastWalkers_60 : decode cX11_leastWalkers 60 = .ok (.ireturn, 1) := by decide +kernel
theorem dX11_faithsBy_0 : decode cX11_faithsBy 0 = .ok (.iconst 0, 1) := by decide +kernel
theorem dX11_faithsBy_1 : decode cX11_faithsBy 1 = .ok (.istore 5, 2) := by decide +kernel
theorem dX11_faithsBy_3 : decode cX11_faithsBy 3 = .ok (.iconst 0, 1) := by decide +kernel
theorem dX11_faithsBy_4 : decode cX11_faithsBy 4 = .ok (.istore 6, 2) := by decide +kernel
theorem dX11_faithsBy_6 : decode cX11_faithsBy 6 = .ok (.iload 6, 2) := by decide +kernel
theorem dX11_faithsBy_8 : decode cX11_faithsBy 8 = .ok (.bipush 20, 2) := by decide +kernel
theorem dX11_faithsBy_10 : decode cX11_faithsBy 10 = .ok (.if_icmp .gt 51, 3) := by decide +kernel
theorem dX11_faithsBy_13 : decode cX11_faithsBy 13 = .ok (.aload_n 0, 1) := by decide +kernel
theorem dX11_faithsBy_14 : decode cX11_faithsBy 14 = .ok (.getfield 49, 3) := by decide +kernel
theorem dX11_faithsBy_17 : decode cX11_faithsBy 17 = .ok (.aload_n 0, 1) := by decide +kernel
theorem dX11_faithsBy_18 : decode cX11_faithsBy 18 = .ok (.getfield 45, 3) := by decide +kernel
theorem dX11_faithsBy_21 : decode cX11_faithsBy 21 = .ok (.invokevirtual 133, 3) := by decide +kernel
theorem dX11_faithsBy_24 : decode cX11_faithsBy 24 = .ok (.aload_n 0, 1) := by decide +kernel
theorem dX11_faithsBy_25 : decode cX11_faithsBy 25 = .ok (.getfield 49, 3) := by decide +kernel
theorem dX11_faithsBy_28 : decode cX11_faithsBy 28 = .ok (.getfield 175, 3) := by decide +kernel
theorem dX11_faithsBy_31 : decode cX11_faithsBy 31 = .ok (.iload_n 1, 1) := by decide +kernel
theorem dX11_faithsBy_32 : decode cX11_faithsBy 32 = .ok (.iload 6, 2) := by decide +kernel
theorem dX11_faithsBy_34 : decode cX11_faithsBy 34 = .ok (.iastore, 1) := by decide +kernel
theorem dX11_faithsBy_35 : decode cX11_faithsBy 35 = .ok (.aload_n 0, 1) := by decide +kernel
theorem dX11_faithsBy_36 : decode cX11_faithsBy 36 = .ok (.iload_n 2, 1) := by decide +kernel
theorem dX11_faithsBy_37 : decode cX11_faithsBy 37 = .ok (.iload_n 3, 1) := by decide +kernel
theorem dX11_faithsBy_38 : decode cX11_faithsBy 38 = .ok (.iload 4, 2) := by decide +kernel
theorem dX11_faithsBy_40 : decode cX11_faithsBy 40 = .ok (.invokevirtual 292, 3) := by decide +kernel
theorem dX11_faithsBy_43 : decode cX11_faithsBy 43 = .ok (.ifCond .eq 12, 3) := by decide +kernel
theorem dX11_faithsBy_46 : decode cX11_faithsBy 46 = .ok (.iload 5, 2) := by decide +kernel
theorem dX11_faithsBy_48 : decode cX11_faithsBy 48 = .ok (.iconst 1, 1) := by decide +kernel
theorem dX11_faithsBy_49 : decode cX11_faithsBy 49 = .ok (.iload 6, 2) := by decide +kernel
theorem dX11_faithsBy_51 : decode cX11_faithsBy 51 = .ok (.ishl, 1) := by decide +kernel
theorem dX11_faithsBy_52 : decode cX11_faithsBy 52 = .ok (.ior, 1) := by decide +kernel
theorem dX11_faithsBy_53 : decode cX11_faithsBy 53 = .ok (.istore 5, 2) := by decide +kernel
theorem dX11_faithsBy_55 : decode cX11_faithsBy 55 = .ok (.iinc 6 1, 3) := by decide +kernel
theorem dX11_faithsBy_58 : decode cX11_faithsBy 58 = .ok (.goto (-52), 3) := by decide +kernel
theorem dX11_faithsBy_61 : decode cX11_faithsBy 61 = .ok (.iload 5, 2) := by decide +kernel
theorem dX11_faithsBy_63 : decode cX11_faithsBy 63 = .ok (.ireturn, 1) := by decide +kernel
theorem dX11_sortsBy_0 : decode cX11_sortsBy 0 = .ok (.iconst 0, 1) := by decide +kernel
theorem dX11_sortsBy_1 : decode cX11_sortsBy 1 = .ok (.istore 5, 2) := by decide +kernel
theorem dX11_sortsBy_3 : decode cX11_sortsBy 3 = .ok (.iconst 1, 1) := by decide +kernel
theorem dX11_sortsBy_4 : decode cX11_sortsBy 4 = .ok (.istore 6, 2) := by decide +kernel
theorem dX11_sortsBy_6 : decode cX11_sortsBy 6 = .ok (.iload 6, 2) := by decide +kernel
theorem dX11_sortsBy_8 : decode cX11_sortsBy 8 = .ok (.iconst 5, 1) := by decide +kernel
theorem dX11_sortsBy_9 : decode cX11_sortsBy 9 = .ok (.if_icmp .gt 51, 3) := by decide +kernel
theorem dX11_sortsBy_12 : decode cX11_sortsBy 12 = .ok (.aload_n 0, 1) := by decide +kernel
theorem dX11_sortsBy_13 : decode cX11_sortsBy 13 = .ok (.getfield 49, 3) := by decide +kernel
theorem dX11_sortsBy_16 : decode cX11_sortsBy 16 = .ok (.aload_n 0, 1) := by decide +kernel
theorem dX11_sortsBy_17 : decode cX11_sortsBy 17 = .ok (.getfield 45, 3) := by decide +kernel
theorem dX11_sortsBy_20 : decode cX11_sortsBy 20 = .ok (.invokevirtual 133, 3) := by decide +kernel
theorem dX11_sortsBy_23 : decode cX11_sortsBy 23 = .ok (.aload_n 0, 1) := by decide +kernel
theorem dX11_sortsBy_24 : decode cX11_sortsBy 24 = .ok (.getfield 49, 3) := by decide +kernel
theorem dX11_sortsBy_27 : decode cX11_sortsBy 27 = .ok (.getfield 253, 3) := by decide +kernel
theorem dX11_sortsBy_30 : decode cX11_sortsBy 30 = .ok (.iload_n 1, 1) := by decide +kernel
theorem dX11_sortsBy_31 : decode cX11_sortsBy 31 = .ok (.iload 6, 2) := by decide +kernel
theorem dX11_sortsBy_33 : decode cX11_sortsBy 33 = .ok (.iastore, 1) := by decide +kernel
theorem dX11_sortsBy_34 : decode cX11_sortsBy 34 = .ok (.aload_n 0, 1) := by decide +kernel
theorem dX11_sortsBy_35 : decode cX11_sortsBy 35 = .ok (.iload_n 2, 1) := by decide +kernel
theorem dX11_sortsBy_36 : decode cX11_sortsBy 36 = .ok (.iload_n 3, 1) := by decide +kernel
theorem dX11_sortsBy_37 : decode cX11_sortsBy 37 = .ok (.iload 4, 2) := by decide +kernel
theorem dX11_sortsBy_39 : decode cX11_sortsBy 39 = .ok (.invokevirtual 292, 3) := by decide +kernel
theorem dX11_sortsBy_42 : decode cX11_sortsBy 42 = .ok (.ifCond .eq 12, 3) := by decide +kernel
theorem dX11_sortsBy_45 : decode cX11_sortsBy 45 = .ok (.iload 5, 2) := by decide +kernel
theorem dX11_sortsBy_47 : decode cX11_sortsBy 47 = .ok (.iconst 1, 1) := by decide +kernel
theorem dX11_sortsBy_48 : decode cX11_sortsBy 48 = .ok (.iload 6, 2) := by decide +kernel
theorem dX11_sortsBy_50 : decode cX11_sortsBy 50 = .ok (.ishl, 1) := by decide +kernel
theorem dX11_sortsBy_51 : decode cX11_sortsBy 51 = .ok (.ior, 1) := by decide +kernel
theorem dX11_sortsBy_52 : decode cX11_sortsBy 52 = .ok (.istore 5, 2) := by decide +kernel
theorem dX11_sortsBy_54 : decode cX11_sortsBy 54 = .ok (.iinc 6 1, 3) := by decide +kernel
theorem dX11_sortsBy_57 : decode cX11_sortsBy 57 = .ok (.goto (-51), 3) := by decide +kernel
theorem dX11_sortsBy_60 : decode cX11_sortsBy 60 = .ok (.iload 5, 2) := by decide +kernel
theorem dX11_sortsBy_62 : decode cX11_sortsBy 62 = .ok (.ireturn, 1) := by decide +kernel
theorem dX11_boundsBy_0 : decode cX11_boundsBy 0 = .ok (.iconst 0, 1) := by decide +kernel
theorem dX11_boundsBy_1 : decode cX11_boundsBy 1 = .ok (.istore 4, 2) := by decide +kernel
theorem dX11_boundsBy_3 : decode cX11_boundsBy 3 = .ok (.iconst 0, 1) := by decide +kernel
theorem dX11_boundsBy_4 : decode cX11_boundsBy 4 = .ok (.istore 5, 2) := by decide +kernel
theorem dX11_boundsBy_6 : decode cX11_boundsBy 6 = .ok (.iload 5, 2) := by decide +kernel
theorem dX11_boundsBy_8 : decode cX11_boundsBy 8 = .ok (.bipush 29, 2) := by decide +kernel
theorem dX11_boundsBy_10 : decode cX11_boundsBy 10 = .ok (.if_icmp .gt 48, 3) := by decide +kernel
theorem dX11_boundsBy_13 : decode cX11_boundsBy 13 = .ok (.aload_n 0, 1) := by decide +kernel
theorem dX11_boundsBy_14 : decode cX11_boundsBy 14 = .ok (.getfield 49, 3) := by decide +kernel
theorem dX11_boundsBy_17 : decode cX11_boundsBy 17 = .ok (.aload_n 0, 1) := by decide +kernel
theorem dX11_boundsBy_18 : decode cX11_boundsBy 18 = .ok (.getfield 45, 3) := by decide +kernel
theorem dX11_boundsBy_21 : decode cX11_boundsBy 21 = .ok (.invokevirtual 133, 3) := by decide +kernel
theorem dX11_boundsBy_24 : decode cX11_boundsBy 24 = .ok (.aload_n 0, 1) := by decide +kernel
theorem dX11_boundsBy_25 : decode cX11_boundsBy 25 = .ok (.getfield 49, 3) := by decide +kernel
theorem dX11_boundsBy_28 : decode cX11_boundsBy 28 = .ok (.iload 5, 2) := by decide +kernel
theorem dX11_boundsBy_30 : decode cX11_boundsBy 30 = .ok (.putfield 280, 3) := by decide +kernel
theorem dX11_boundsBy_33 : decode cX11_boundsBy 33 = .ok (.aload_n 0, 1) := by decide +kernel
theorem dX11_boundsBy_34 : decode cX11_boundsBy 34 = .ok (.iload_n 1, 1) := by decide +kernel
theorem dX11_boundsBy_35 : decode cX11_boundsBy 35 = .ok (.iload_n 2, 1) := by decide +kernel
theorem dX11_boundsBy_36 : decode cX11_boundsBy 36 = .ok (.iload_n 3, 1) := by decide +kernel
theorem dX11_boundsBy_37 : decode cX11_boundsBy 37 = .ok (.invokevirtual 292, 3) := by decide +kernel
theorem dX11_boundsBy_40 : decode cX11_boundsBy 40 = .ok (.ifCond .eq 12, 3) := by decide +kernel
theorem dX11_boundsBy_43 : decode cX11_boundsBy 43 = .ok (.iload 4, 2) := by decide +kernel
theorem dX11_boundsBy_45 : decode cX11_boundsBy 45 = .ok (.iconst 1, 1) := by decide +kernel
theorem dX11_boundsBy_46 : decode cX11_boundsBy 46 = .ok (.iload 5, 2) := by decide +kernel
theorem dX11_boundsBy_48 : decode cX11_boundsBy 48 = .ok (.ishl, 1) := by decide +kernel
theorem dX11_boundsBy_49 : decode cX11_boundsBy 49 = .ok (.ior, 1) := by decide +kernel
theorem dX11_boundsBy_50 : decode cX11_boundsBy 50 = .ok (.istore 4, 2) := by decide +kernel
theorem dX11_boundsBy_52 : decode cX11_boundsBy 52 = .ok (.iinc 5 1, 3) := by decide +kernel
theorem dX11_boundsBy_55 : decode cX11_boundsBy 55 = .ok (.goto (-49), 3) := by decide +kernel
theorem dX11_boundsBy_58 : decode cX11_boundsBy 58 = .ok (.iload 4, 2) := by decide +kernel
theorem dX11_boundsBy_60 : decode cX11_boundsBy 60 = .ok (.ireturn, 1) := by decide +kernel
theorem dX11_playIsAsTold_0 : decode cX11_playIsAsTold 0 = .ok (.iconst 0, 1) := by decide +kernel
theorem dX11_playIsAsTold_1 : decode cX11_playIsAsTold 1 = .ok (.istore 4, 2) := by decide +kernel
theorem dX11_playIsAsTold_3 : decode cX11_playIsAsTold 3 = .ok (.iload 4, 2) := by decide +kernel
theorem dX11_playIsAsTold_5 : decode cX11_playIsAsTold 5 = .ok (.iload_n 3, 1) := by decide +kernel
theorem dX11_playIsAsTold_6 : decode cX11_playIsAsTold 6 = .ok (.if_icmp .ge 34, 3) := by decide +kernel
theorem dX11_playIsAsTold_9 : decode cX11_playIsAsTold 9 = .ok (.aload_n 0, 1) := by decide +kernel
theorem dX11_playIsAsTold_10 : decode cX11_playIsAsTold 10 = .ok (.getfield 49, 3) := by decide +kernel
theorem dX11_playIsAsTold_13 : decode cX11_playIsAsTold 13 = .ok (.iconst 0, 1) := by decide +kernel
theorem dX11_playIsAsTold_14 : decode cX11_playIsAsTold 14 = .ok (.invokevirtual 154, 3) := by decide +kernel
theorem dX11_playIsAsTold_17 : decode cX11_playIsAsTold 17 = .ok (.aload_n 0, 1) := by decide +kernel
theorem dX11_playIsAsTold_18 : decode cX11_playIsAsTold 18 = .ok (.getfield 27, 3) := by decide +kernel
theorem dX11_playIsAsTold_21 : decode cX11_playIsAsTold 21 = .ok (.iload_n 1, 1) := by decide +kernel
theorem dX11_playIsAsTold_22 : decode cX11_playIsAsTold 22 = .ok (.iload_n 2, 1) := by decide +kernel
theorem dX11_playIsAsTold_23 : decode cX11_playIsAsTold 23 = .ok (.iload 4, 2) := by decide +kernel
theorem dX11_playIsAsTold_25 : decode cX11_playIsAsTold 25 = .ok (.iadd, 1) := by decide +kernel
theorem dX11_playIsAsTold_26 : decode cX11_playIsAsTold 26 = .ok (.invokevirtual 295, 3) := by decide +kernel
theorem dX11_playIsAsTold_29 : decode cX11_playIsAsTold 29 = .ok (.if_icmp .eq 5, 3) := by decide +kernel
theorem dX11_playIsAsTold_32 : decode cX11_playIsAsTold 32 = .ok (.iconst 0, 1) := by decide +kernel
theorem dX11_playIsAsTold_33 : decode cX11_playIsAsTold 33 = .ok (.ireturn, 1) := by decide +kernel
theorem dX11_playIsAsTold_34 : decode cX11_playIsAsTold 34 = .ok (.iinc 4 1, 3) := by decide +kernel
theorem dX11_playIsAsTold_37 : decode cX11_playIsAsTold 37 = .ok (.goto (-34), 3) := by decide +kernel
theorem dX11_playIsAsTold_40 : decode cX11_playIsAsTold 40 = .ok (.iconst 1, 1) := by decide +kernel
theorem dX11_playIsAsTold_41 : decode cX11_playIsAsTold 41 = .ok (.ireturn, 1) := by decide +kernel
theorem dX11_waysOf_0 : decode cX11_waysOf 0 = .ok (.iconst 1, 1) := by decide +kernel
theorem dX11_waysOf_1 : decode cX11_waysOf 1 = .ok (.istore_n 3, 1) := by decide +kernel
theorem dX11_waysOf_2 : decode cX11_waysOf 2 = .ok (.iconst 0, 1) := by decide +kernel
theorem dX11_waysOf_3 : decode cX11_waysOf 3 = .ok (.istore 4, 2) := by decide +kernel
theorem dX11_waysOf_5 : decode cX11_waysOf 5 = .ok (.iload 4, 2) := by decide +kernel
theorem dX11_waysOf_7 : decode cX11_waysOf 7 = .ok (.aload_n 0, 1) := by decide +kernel
theorem dX11_waysOf_8 : decode cX11_waysOf 8 = .ok (.getfield 45, 3) := by decide +kernel
theorem dX11_waysOf_11 : decode cX11_waysOf 11 = .ok (.getfield 140, 3) := by decide +kernel
theorem dX11_waysOf_14 : decode cX11_waysOf 14 = .ok (.if_icmp .ge 29, 3) := by decide +kernel
theorem dX11_waysOf_17 : decode cX11_waysOf 17 = .ok (.iload_n 3, 1) := by decide +kernel
theorem dX11_waysOf_18 : decode cX11_waysOf 18 = .ok (.iload_n 1, 1) := by decide +kernel
theorem dX11_waysOf_19 : decode cX11_waysOf 19 = .ok (.iload 4, 2) := by decide +kernel
theorem dX11_waysOf_21 : decode cX11_waysOf 21 = .ok (.invokestatic 298, 3) := by decide +kernel
theorem dX11_waysOf_24 : decode cX11_waysOf 24 = .ok (.ifCond .eq 7, 3) := by decide +kernel
theorem dX11_waysOf_27 : decode cX11_waysOf 27 = .ok (.iload_n 2, 1) := by decide +kernel
theorem dX11_waysOf_28 : decode cX11_waysOf 28 = .ok (.goto 7, 3) := by decide +kernel
theorem dX11_waysOf_31 : decode cX11_waysOf 31 = .ok (.bipush 10, 2) := by decide +kernel
theorem dX11_waysOf_33 : decode cX11_waysOf 33 = .ok (.iload_n 2, 1) := by decide +kernel
theorem dX11_waysOf_34 : decode cX11_waysOf 34 = .ok (.isub, 1) := by decide +kernel
theorem dX11_waysOf_35 : decode cX11_waysOf 35 = .ok (.imul, 1) := by decide +kernel
theorem dX11_waysOf_36 : decode cX11_waysOf 36 = .ok (.istore_n 3, 1) := by decide +kernel
theorem dX11_waysOf_37 : decode cX11_waysOf 37 = .ok (.iinc 4 1, 3) := by decide +kernel
theorem dX11_waysOf_40 : decode cX11_waysOf 40 = .ok (.goto (-35), 3) := by decide +kernel
theorem dX11_waysOf_43 : decode cX11_waysOf 43 = .ok (.iload_n 3, 1) := by decide +kernel
theorem dX11_waysOf_44 : decode cX11_waysOf 44 = .ok (.ireturn, 1) := by decide +kernel
theorem dX11_sharedBy_0 : decode cX11_sharedBy 0 = .ok (.iload_n 1, 1) := by decide +kernel
theorem dX11_sharedBy_1 : decode cX11_sharedBy 1 = .ok (.istore_n 2, 1) := by decide +kernel
theorem dX11_sharedBy_2 : decode cX11_sharedBy 2 = .ok (.iload_n 0, 1) := by decide +kernel
theorem dX11_sharedBy_3 : decode cX11_sharedBy 3 = .ok (.istore_n 3, 1) := by decide +kernel
theorem dX11_sharedBy_4 : decode cX11_sharedBy 4 = .ok (.iconst 0, 1) := by decide +kernel
theorem dX11_sharedBy_5 : decode cX11_sharedBy 5 = .ok (.istore 4, 2) := by decide +kernel
theorem dX11_sharedBy_7 : decode cX11_sharedBy 7 = .ok (.iload 4, 2) := by decide +kernel
theorem dX11_sharedBy_9 : decode cX11_sharedBy 9 = .ok (.bipush 100, 2) := by decide +kernel
theorem dX11_sharedBy_11 : decode cX11_sharedBy 11 = .ok (.if_icmp .ge 23, 3) := by decide +kernel
theorem dX11_sharedBy_14 : decode cX11_sharedBy 14 = .ok (.iload_n 3, 1) := by decide +kernel
theorem dX11_sharedBy_15 : decode cX11_sharedBy 15 = .ok (.ifCond .le 19, 3) := by decide +kernel
theorem dX11_sharedBy_18 : decode cX11_sharedBy 18 = .ok (.iload_n 2, 1) := by decide +kernel
theorem dX11_sharedBy_19 : decode cX11_sharedBy 19 = .ok (.iload_n 3, 1) := by decide +kernel
theorem dX11_sharedBy_20 : decode cX11_sharedBy 20 = .ok (.irem, 1) := by decide +kernel
theorem dX11_sharedBy_21 : decode cX11_sharedBy 21 = .ok (.istore 5, 2) := by decide +kernel
theorem dX11_sharedBy_23 : decode cX11_sharedBy 23 = .ok (.iload_n 3, 1) := by decide +kernel
theorem dX11_sharedBy_24 : decode cX11_sharedBy 24 = .ok (.istore_n 2, 1) := by decide +kernel
theorem dX11_sharedBy_25 : decode cX11_sharedBy 25 = .ok (.iload 5, 2) := by decide +kernel
theorem dX11_sharedBy_27 : decode cX11_sharedBy 27 = .ok (.istore_n 3, 1) := by decide +kernel
theorem dX11_sharedBy_28 : decode cX11_sharedBy 28 = .ok (.iinc 4 1, 3) := by decide +kernel
theorem dX11_sharedBy_31 : decode cX11_sharedBy 31 = .ok (.goto (-24), 3) := by decide +kernel
theorem dX11_sharedBy_34 : decode cX11_sharedBy 34 = .ok (.iload_n 2, 1) := by decide +kernel
theorem dX11_sharedBy_35 : decode cX11_sharedBy 35 = .ok (.iconst 1, 1) := by decide +kernel
theorem dX11_sharedBy_36 : decode cX11_sharedBy 36 = .ok (.invokestatic 302, 3) := by decide +kernel
theorem dX11_sharedBy_39 : decode cX11_sharedBy 39 = .ok (.ireturn, 1) := by decide +kernel
theorem dX11_preachByDraw_0 : decode cX11_preachByDraw 0 = .ok (.aload_n 0, 1) := by decide +kernel
theorem dX11_preachByDraw_1 : decode cX11_preachByDraw 1 = .ok (.getfield 49, 3) := by decide +kernel
theorem dX11_preachByDraw_4 : decode cX11_preachByDraw 4 = .ok (.getfield 140, 3) := by decide +kernel
theorem dX11_preachByDraw_7 : decode cX11_preachByDraw 7 = .ok (.ifCond .le 28, 3) := by decide +kernel
theorem dX11_preachByDraw_10 : decode cX11_preachByDraw 10 = .ok (.aload_n 0, 1) := by decide +kernel
theorem dX11_preachByDraw_11 : decode cX11_preachByDraw 11 = .ok (.getfield 49, 3) := by decide +kernel
theorem dX11_preachByDraw_14 : decode cX11_preachByDraw 14 = .ok (.getfield 175, 3) := by decide +kernel
theorem dX11_preachByDraw_17 : decode cX11_preachByDraw 17 = .ok (.lload_n 1, 1) := by decide +kernel
theorem dX11_preachByDraw_18 : decode cX11_preachByDraw 18 = .ok (.aload_n 0, 1) := by decide +kernel
theorem dX11_preachByDraw_19 : decode cX11_preachByDraw 19 = .ok (.getfield 49, 3) := by decide +kernel
theorem dX11_preachByDraw_22 : decode cX11_preachByDraw 22 = .ok (.getfield 140, 3) := by decide +kernel
theorem dX11_preachByDraw_25 : decode cX11_preachByDraw 25 = .ok (.i2l, 1) := by decide +kernel
theorem dX11_preachByDraw_26 : decode cX11_preachByDraw 26 = .ok (.lrem, 1) := by decide +kernel
theorem dX11_preachByDraw_27 : decode cX11_preachByDraw 27 = .ok (.l2i, 1) := by decide +kernel
theorem dX11_preachByDraw_28 : decode cX11_preachByDraw 28 = .ok (.lload_n 1, 1) := by decide +kernel
theorem dX11_preachByDraw_29 : decode cX11_preachByDraw 29 = .ok (.ldc2_w 307, 3) := by decide +kernel
theorem dX11_preachByDraw_32 : decode cX11_preachByDraw 32 = .ok (.lrem, 1) := by decide +kernel
theorem dX11_preachByDraw_33 : decode cX11_preachByDraw 33 = .ok (.l2i, 1) := by decide +kernel
theorem dX11_preachByDraw_34 : decode cX11_preachByDraw 34 = .ok (.iastore, 1) := by decide +kernel
theorem dX11_preachByDraw_35 : decode cX11_preachByDraw 35 = .ok (.return_, 1) := by decide +kernel
end
section
theorem dX12_init_0 : decode cX12_init 0 = .ok (.aload_n 0, 1) := by decide +kernel
theorem dX12_init_1 : decode cX12_init 1 = .ok (.invokespecial 1, 3) := by decide +kernel
theorem dX12_init_4 : decode cX12_init 4 = .ok (.aload_n 0, 1) := by decide +kernel
theorem dX12_init_5 : decode cX12_init 5 = .ok (.bipush 8, 2) := by decide +kernel
theorem dX12_init_7 : decode cX12_init 7 = .ok (.newarray .int, 2) := by decide +kernel
theorem dX12_init_9 : decode cX12_init 9 = .ok (.putfield 7, 3) := by decide +kernel
theorem dX12_init_12 : decode cX12_init 12 = .ok (.aload_n 0, 1) := by decide +kernel
theorem dX12_init_13 : decode cX12_init 13 = .ok (.bipush 8, 2) := by decide +kernel
theorem dX12_init_15 : decode cX12_init 15 = .ok (.newarray .int, 2) := by decide +kernel
theorem dX12_init_17 : decode cX12_init 17 = .ok (.putfield 13, 3) := by decide +kernel
theorem dX12_init_20 : decode cX12_init 20 = .ok (.aload_n 0, 1) := by decide +kernel
theorem dX12_init_21 : decode cX12_init 21 = .ok (.sipush 320, 3) := by decide +kernel
theorem dX12_init_24 : decode cX12_init 24 = .ok (.newarray .int, 2) := by decide +kernel
theorem dX12_init_26 : decode cX12_init 26 = .ok (.putfield 16, 3) := by decide +kernel
theorem dX12_init_29 : decode cX12_init 29 = .ok (.aload_n 0, 1) := by decide +kernel
theorem dX12_init_30 : decode cX12_init 30 = .ok (.bipush 40, 2) := by decide +kernel
theorem dX12_init_32 : decode cX12_init 32 = .ok (.newarray .int, 2) := by decide +kernel
theorem dX12_init_34 : decode cX12_init 34 = .ok (.putfield 19, 3) := by decide +kernel
theorem dX12_init_37 : decode cX12_init 37 = .ok (.aload_n 0, 1) := by decide +kernel
theorem dX12_init_38 : decode cX12_init 38 = .ok (.bipush 100, 2) := by decide +kernel
theorem dX12_init_40 : decode cX12_init 40 = .ok (.newarray .int, 2) := by decide +kernel
theorem dX12_init_42 : decode cX12_init 42 = .ok (.putfield 22, 3) := by decide +kernel
theorem dX12_init_45 : decode cX12_init 45 = .ok (.aload_n 0, 1) := by decide +kernel
theorem dX12_init_46 : decode cX12_init 46 = .ok (.bipush 34, 2) := by decide +kernel
theorem dX12_init_48 : decode cX12_init 48 = .ok (.newarray .int, 2) := by decide +kernel
theorem dX12_init_50 : decode cX12_init 50 = .ok (.putfield 25, 3) := by decide +kernel
theorem dX12_init_53 : decode cX12_init 53 = .ok (.aload_n 0, 1) := by decide +kernel
theorem dX12_init_54 : decode cX12_init 54 = .ok (.bipush 34, 2) := by decide +kernel
theorem dX12_init_56 : decode cX12_init 56 = .ok (.newarray .int, 2) := by decide +kernel
theorem dX12_init_58 : decode cX12_init 58 = .ok (.putfield 28, 3) := by decide +kernel
theorem dX12_init_61 : decode cX12_init 61 = .ok (.aload_n 0, 1) := by decide +kernel
theorem dX12_init_62 : decode cX12_init 62 = .ok (.bipush 34, 2) := by decide +kernel
theorem dX12_init_64 : decode cX12_init 64 = .ok (.newarray .int, 2) := by decide +kernel
theorem dX12_init_66 : decode cX12_init 66 = .ok (.putfield 31, 3) := by decide +kernel
theorem dX12_init_69 : decode cX12_init 69 = .ok (.aload_n 0, 1) := by decide +kernel
theorem dX12_init_70 : decode cX12_init 70 = .ok (.sipush 816, 3) := by decide +kernel
theorem dX12_init_73 : decode cX12_init 73 = .ok (.newarray .int, 2) := by decide +kernel
theorem dX12_init_75 : decode cX12_init 75 = .ok (.putfield 34, 3) := by decide +kernel
theorem dX12_init_78 : decode cX12_init 78 = .ok (.aload_n 0, 1) := by decide +kernel
theorem dX12_init_79 : decode cX12_init 79 = .ok (.bipush 68, 2) := by decide +kernel
theorem dX12_init_81 : decode cX12_init 81 = .ok (.newarray .int, 2) := by decide +kernel
theorem dX12_init_83 : decode cX12_init 83 = .ok (.putfield 37, 3) := by decide +kernel
theorem dX12_init_86 : decode cX12_init 86 = .ok (.aload_n 0, 1) := by decide +kernel
theorem dX12_init_87 : decode cX12_init 87 = .ok (.iconst 2, 1) := by decide +kernel
theorem dX12_init_88 : decode cX12_init 88 = .ok (.newarray .boolean, 2) := by decide +kernel
theorem dX12_init_90 : decode cX12_init 90 = .ok (.putfield 40, 3) := by decide +kernel
theorem dX12_init_93 : decode cX12_init 93 = .ok (.aload_n 0, 1) := by decide +kernel
theorem dX12_init_94 : decode cX12_init 94 = .ok (.bipush 16, 2) := by decide +kernel
theorem dX12_init_96 : decode cX12_init 96 = .ok (.newarray .int, 2) := by decide +kernel
theorem dX12_init_98 : decode cX12_init 98 = .ok (.putfield 44, 3) := by decide +kernel
theorem dX12_init_101 : decode cX12_init 101 = .ok (.iconst 0, 1) := by decide +kernel
theorem dX12_init_102 : decode cX12_init 102 = .ok (.istore_n 1, 1) := by decide +kernel
theorem dX12_init_103 : decode cX12_init 103 = .ok (.iload_n 1, 1) := by decide +kernel
theorem dX12_init_104 : decode cX12_init 104 = .ok (.bipush 8, 2) := by decide +kernel
theorem dX12_init_106 : decode cX12_init 106 = .ok (.if_icmp .ge 17, 3) := by decide +kernel
theorem dX12_init_109 : decode cX12_init 109 = .ok (.aload_n 0, 1) := by decide +kernel
theorem dX12_init_110 : decode cX12_init 110 = .ok (.getfield 7, 3) := by decide +kernel
theorem dX12_init_113 : decode cX12_init 113 = .ok (.iload_n 1, 1) := by decide +kernel
theorem dX12_init_114 : decode cX12_init 114 = .ok (.ldc 47, 2) := by decide +kernel
theorem dX12_init_116 : decode cX12_init 116 = .ok (.iastore, 1) := by decide +kernel
theorem dX12_init_117 : decode cX12_init 117 = .ok (.iinc 1 1, 3) := by decide +kernel
theorem dX12_init_120 : decode cX12_init 120 = .ok (.goto (-17), 3) := by decide +kernel
theorem dX12_init_123 : decode cX12_init 123 = .ok (.return_, 1) := by decide +kernel
theorem dX12_in_0 : decode cX12_in 0 = .ok (.iload_n 0, 1) := by decide +kernel
theorem dX12_in_1 : decode cX12_in 1 = .ok (.iload_n 1, 1) := by decide +kernel
theorem dX12_in_2 : decode cX12_in 2 = .ok (.if_icmp .lt 12, 3) := by decide +kernel
theorem dX12_in_5 : decode cX12_in 5 = .ok (.iload_n 0, 1) := by decide +kernel
theorem dX12_in_6 : decode cX12_in 6 = .ok (.iload_n 2, 1) := by decide +kernel
theorem dX12_in_7 : decode cX12_in 7 = .ok (.if_icmp .gt 7, 3) := by decide +kernel
theorem dX12_in_10 : decode cX12_in 10 = .ok (.iconst 1, 1) := by decide +kernel
theorem dX12_in_11 : decode cX12_in 11 = .ok (.goto 4, 3) := by decide +kernel
theorem dX12_in_14 : decode cX12_in 14 = .ok (.iconst 0, 1) := by decide +kernel
theorem dX12_in_15 : decode cX12_in 15 = .ok (.ireturn, 1) := by decide +kernel
theorem dX12_has_0 : decode cX12_has 0 = .ok (.iload_n 0, 1) := by decide +kernel
theorem dX12_has_1 : decode cX12_has 1 = .ok (.iload_n 1, 1) := by decide +kernel
theorem dX12_has_2 : decode cX12_has 2 = .ok (.ishr, 1) := by decide +kernel
theorem dX12_has_3 : decode cX12_has 3 = .ok (.iconst 1, 1) := by decide +kernel
theorem dX12_has_4 : decode cX12_has 4 = .ok (.iand, 1) := by decide +kernel
theorem dX12_has_5 : decode cX12_has 5 = .ok (.iconst 1, 1) := by decide +kernel
theorem dX12_has_6 : decode cX12_has 6 = .ok (.if_icmp .ne 7, 3) := by decide +kernel
theorem dX12_has_9 : decode cX12_has 9 = .ok (.iconst 1, 1) := by decide +kernel
theorem dX12_has_10 : decode cX12_has 10 = .ok (.goto 4, 3) := by decide +kernel
theorem dX12_has_13 : decode cX12_has 13 = .ok (.iconst 0, 1) := by decide +kernel
theorem dX12_has_14 : decode cX12_has 14 = .ok (.ireturn, 1) := by decide +kernel
theorem dX12_ones_0 : decode cX12_ones 0 = .ok (.iconst 0, 1) := by decide +kernel
theorem dX12_ones_1 : decode cX12_ones 1 = .ok (.istore_n 1, 1) := by decide +kernel
theorem dX12_ones_2 : decode cX12_ones 2 = .ok (.iconst 0, 1) := by decide +kernel
theorem dX12_ones_3 : decode cX12_ones 3 = .ok (.istore_n 2, 1) := by decide +kernel
theorem dX12_ones_4 : decode cX12_ones 4 = .ok (.iload_n 2, 1) := by decide +kernel
theorem dX12_ones_5 : decode cX12_ones 5 = .ok (.bipush 8, 2) := by decide +kernel
theorem dX12_ones_7 : decode cX12_ones 7 = .ok (.if_icmp .ge 17, 3) := by decide +kernel
theorem dX12_ones_10 : decode cX12_ones 10 = .ok (.iload_n 1, 1) := by decide +kernel
theorem dX12_ones_11 : decode cX12_ones 11 = .ok (.iload_n 0, 1) := by decide +kernel
theorem dX12_ones_12 : decode cX12_ones 12 = .ok (.iload_n 2, 1) := by decide +kernel
theorem dX12_ones_13 : decode cX12_ones 13 = .ok (.ishr, 1) := by decide +kernel
theorem dX12_ones_14 : decode cX12_ones 14 = .ok (.iconst 1, 1) := by decide +kernel
theorem dX12_ones_15 : decode cX12_ones 15 = .ok (.iand, 1) := by decide +kernel
theorem dX12_ones_16 : decode cX12_ones 16 = .ok (.iadd, 1) := by decide +kernel
theorem dX12_ones_17 : decode cX12_ones 17 = .ok (.istore_n 1, 1) := by decide +kernel
theorem dX12_ones_18 : decode cX12_ones 18 = .ok (.iinc 2 1, 3) := by decide +kernel
theorem dX12_ones_21 : decode cX12_ones 21 = .ok (.goto (-17), 3) := by decide +kernel
theorem dX12_ones_24 : decode cX12_ones 24 = .ok (.iload_n 1, 1) := by decide +kernel
theorem dX12_ones_25 : decode cX12_ones 25 = .ok (.ireturn, 1) := by decide +kernel
theorem dX12_found_0 : decode cX12_found 0 = .ok (.aload_n 0, 1) := by decide +kernel
theorem dX12_found_1 : decode cX12_found 1 = .ok (.iload_n 1, 1) := by decide +kernel
theorem dX12_found_2 : decode cX12_found 2 = .ok (.putfield 48, 3) := by decide +kernel
theorem dX12_found_5 : decode cX12_found 5 = .ok (.ldc 52, 2) := by decide +kernel
theorem dX12_found_7 : decode cX12_found 7 = .ok (.iload_n 1, 1) := by decide +kernel
theorem dX12_found_8 : decode cX12_found 8 = .ok (.isub, 1) := by decide +kernel
theorem dX12_found_9 : decode cX12_found 9 = .ok (.ireturn, 1) := by decide +kernel
theorem dX12_well_0 : decode cX12_well 0 = .ok (.aload_n 0, 1) := by decide +kernel
theorem dX12_well_1 : decode cX12_well 1 = .ok (.iconst 0, 1) := by decide +kernel
theorem dX12_well_2 : decode cX12_well 2 = .ok (.putfield 48, 3) := by decide +kernel
theorem dX12_well_5 : decode cX12_well 5 = .ok (.iload_n 1, 1) := by decide +kernel
theorem dX12_well_6 : decode cX12_well 6 = .ok (.ireturn, 1) := by decide +kernel
theorem dX12_copies_0 : decode cX12_copies 0 = .ok (.iconst 0, 1) := by decide +kernel
theorem dX12_copies_1 : decode cX12_copies 1 = .ok (.istore 4, 2) := by decide +kernel
theorem dX12_copies_3 : decode cX12_copies 3 = .ok (.iload 4, 2) := by decide +kernel
theorem dX12_copies_5 : decode cX12_copies 5 = .ok (.bipush 34, 2) := by decide +kernel
theorem dX12_copies_7 : decode cX12_copies 7 = .ok (.if_icmp .ge 21, 3) := by decide +kernel
theorem dX12_copies_10 : decode cX12_copies 10 = .ok (.aload_n 2, 1) := by decide +kernel
theorem dX12_copies_11 : decode cX12_copies 11 = .ok (.iload_n 3, 1) := by decide +kernel
theorem dX12_copies_12 : decode cX12_copies 12 = .ok (.iload 4, 2) := by decide +kernel
theorem dX12_copies_14 : decode cX12_copies 14 = .ok (.iadd, 1) := by decide +kernel
theorem dX12_copies_15 : decode cX12_copies 15 = .ok (.aload_n 0, 1) := by decide +kernel
theorem dX12_copies_16 : decode cX12_copies 16 = .ok (.iload_n 1, 1) := by decide +kernel
theorem dX12_copies_17 : decode cX12_copies 17 = .ok (.iload 4, 2) := by decide +kernel
theorem dX12_copies_19 : decode cX12_copies 19 = .ok (.iadd, 1) := by decide +kernel
theorem dX12_copies_20 : decode cX12_copies 20 = .ok (.iaload, 1) := by decide +kernel
theorem dX12_copies_21 : decode cX12_copies 21 = .ok (.iastore, 1) := by decide +kernel
theorem dX12_copies_22 : decode cX12_copies 22 = .ok (.iinc 4 1, 3) := by decide +kernel
theorem dX12_copies_25 : decode cX12_copies 25 = .ok (.goto (-22), 3) := by decide +kernel
theorem dX12_copies_28 : decode cX12_copies 28 = .ok (.return_, 1) := by decide +kernel
theorem dX12_isRow_0 : decode cX12_isRow 0 = .ok (.iload_n 0, 1) := by decide +kernel
theorem dX12_isRow_1 : decode cX12_isRow 1 = .ok (.iconst 0, 1) := by decide +kernel
theorem dX12_isRow_2 : decode cX12_isRow 2 = .ok (.bipush 7, 2) := by decide +kernel
theorem dX12_isRow_4 : decode cX12_isRow 4 = .ok (.invokestatic 53, 3) := by decide +kernel
theorem dX12_isRow_7 : decode cX12_isRow 7 = .ok (.ireturn, 1) := by decide +kernel
theorem dX12_isMissing_0 : decode cX12_isMissing 0 = .ok (.aload_n 0, 1) := by decide +kernel
theorem dX12_isMissing_1 : decode cX12_isMissing 1 = .ok (.getfield 7, 3) := by decide +kernel
theorem dX12_isMissing_4 : decode cX12_isMissing 4 = .ok (.iload_n 1, 1) := by decide +kernel
theorem dX12_isMissing_5 : decode cX12_isMissing 5 = .ok (.iaload, 1) := by decide +kernel
theorem dX12_isMissing_6 : decode cX12_isMissing 6 = .ok (.ldc 47, 2) := by decide +kernel
theorem dX12_isMissing_8 : decode cX12_isMissing 8 = .ok (.if_icmp .ne 7, 3) := by decide +kernel
theorem dX12_isMissing_11 : decode cX12_isMissing 11 = .ok (.iconst 1, 1) := by decide +kernel
theorem dX12_isMissing_12 : decode cX12_isMissing 12 = .ok (.goto 4, 3) := by decide +kernel
theorem dX12_isMissing_15 : decode cX12_isMissing 15 = .ok (.iconst 0, 1) := by decide +kernel
theorem dX12_isMissing_16 : decode cX12_isMissing 16 = .ok (.ireturn, 1) := by decide +kernel
theorem dX12_cut_0 : decode cX12_cut 0 = .ok (.iload_n 0, 1) := by decide +kernel
theorem dX12_cut_1 : decode cX12_cut 1 = .ok (.ifCond .ne 13, 3) := by decide +kernel
theorem dX12_cut_4 : decode cX12_cut 4 = .ok (.iload_n 1, 1) := by decide +kernel
theorem dX12_cut_5 : decode cX12_cut 5 = .ok (.bipush 24, 2) := by decide +kernel
theorem dX12_cut_7 : decode cX12_cut 7 = .ok (.ishl, 1) := by decide +kernel
theorem dX12_cut_8 : decode cX12_cut 8 = .ok (.bipush 24, 2) := by decide +kernel
theorem dX12_cut_10 : decode cX12_cut 10 = .ok (.ishr, 1) := by decide +kernel
theorem dX12_cut_11 : decode cX12_cut 11 = .ok (.goto 19, 3) := by decide +kernel
theorem dX12_cut_14 : decode cX12_cut 14 = .ok (.iload_n 0, 1) := by decide +kernel
theorem dX12_cut_15 : decode cX12_cut 15 = .ok (.iconst 1, 1) := by decide +kernel
theorem dX12_cut_16 : decode cX12_cut 16 = .ok (.if_icmp .ne 13, 3) := by decide +kernel
theorem dX12_cut_19 : decode cX12_cut 19 = .ok (.iload_n 1, 1) := by decide +kernel
theorem dX12_cut_20 : decode cX12_cut 20 = .ok (.bipush 16, 2) := by decide +kernel
theorem dX12_cut_22 : decode cX12_cut 22 = .ok (.ishl, 1) := by decide +kernel
theorem dX12_cut_23 : decode cX12_cut 23 = .ok (.bipush 16, 2) := by decide +kernel
theorem dX12_cut_25 : decode cX12_cut 25 = .ok (.ishr, 1) := by decide +kernel
theorem dX12_cut_26 : decode cX12_cut 26 = .ok (.goto 4, 3) := by decide +kernel
theorem dX12_cut_29 : decode cX12_cut 29 = .ok (.iload_n 1, 1) := by decide +kernel
theorem dX12_cut_30 : decode cX12_cut 30 = .ok (.ireturn, 1) := by decide +kernel
theorem dX12_row_0 : decode cX12_row 0 = .ok (.iload_n 1, 1) := by decide +kernel
theorem dX12_row_1 : decode cX12_row 1 = .ok (.invokestatic 57, 3) := by decide +kernel
theorem dX12_row_4 : decode cX12_row 4 = .ok (.ifCond .eq 18, 3) := by decide +kernel
theorem dX12_row_7 : decode cX12_row 7 = .ok (.iload_n 2, 1) := by decide +kernel
theorem dX12_row_8 : decode cX12_row 8 = .ok (.iconst 0, 1) := by decide +kernel
theorem dX12_row_9 : decode cX12_row 9 = .ok (.iconst 2, 1) := by decide +kernel
theorem dX12_row_10 : decode cX12_row 10 = .ok (.invokestatic 53, 3) := by decide +kernel
theorem dX12_row_13 : decode cX12_row 13 = .ok (.ifCond .eq 9, 3) := by decide +kernel
theorem dX12_row_16 : decode cX12_row 16 = .ok (.iload_n 3, 1) := by decide +kernel
theorem dX12_row_17 : decode cX12_row 17 = .ok (.bipush 40, 2) := by decide +kernel
theorem dX12_row_19 : decode cX12_row 19 = .ok (.if_icmp .le 6, 3) := by decide +kernel
theorem dX12_row_22 : decode cX12_row 22 = .ok (.ldc 61, 2) := by decide +kernel
theorem dX12_row_24 : decode cX12_row 24 = .ok (.ireturn, 1) := by decide +kernel
theorem dX12_row_25 : decode cX12_row 25 = .ok (.iload_n 3, 1) := by decide +kernel
theorem dX12_row_26 : decode cX12_row 26 = .ok (.ifCond .ge 9, 3) := by decide +kernel
theorem dX12_row_29 : decode cX12_row 29 = .ok (.aload_n 0, 1) := by decide +kernel
theorem dX12_row_30 : decode cX12_row 30 = .ok (.iconst 4, 1) := by decide +kernel
theorem dX12_row_31 : decode cX12_row 31 = .ok (.invokevirtual 62, 3) := by decide +kernel
theorem dX12_row_34 : decode cX12_row 34 = .ok (.ireturn, 1) := by decide +kernel
theorem dX12_row_35 : decode cX12_row 35 = .ok (.aload_n 0, 1) := by decide +kernel
theorem dX12_row_36 : decode cX12_row 36 = .ok (.getfield 7, 3) := by decide +kernel
theorem dX12_row_39 : decode cX12_row 39 = .ok (.iload_n 1, 1) := by decide +kernel
theorem dX12_row_40 : decode cX12_row 40 = .ok (.iload_n 2, 1) := by decide +kernel
theorem dX12_row_41 : decode cX12_row 41 = .ok (.iastore, 1) := by decide +kernel
theorem dX12_row_42 : decode cX12_row 42 = .ok (.aload_n 0, 1) := by decide +kernel
theorem dX12_row_43 : decode cX12_row 43 = .ok (.getfield 13, 3) := by decide +kernel
theorem dX12_row_46 : decode cX12_row 46 = .ok (.iload_n 1, 1) := by decide +kernel
theorem dX12_row_47 : decode cX12_row 47 = .ok (.iload_n 3, 1) := by decide +kernel
theorem dX12_row_48 : decode cX12_row 48 = .ok (.iastore, 1) := by decide +kernel
theorem dX12_row_49 : decode cX12_row 49 = .ok (.iconst 0, 1) := by decide +kernel
theorem dX12_row_50 : decode cX12_row 50 = .ok (.istore 4, 2) := by decide +kernel
theorem dX12_row_52 : decode cX12_row 52 = .ok (.iload 4, 2) := by decide +kernel
theorem dX12_row_54 : decode cX12_row 54 = .ok (.bipush 40, 2) := by decide +kernel
theorem dX12_row_56 : decode cX12_row 56 = .ok (.if_icmp .ge 22, 3) := by decide +kernel
theorem dX12_row_59 : decode cX12_row 59 = .ok (.aload_n 0, 1) := by decide +kernel
theorem dX12_row_60 : decode cX12_row 60 = .ok (.getfield 16, 3) := by decide +kernel
theorem dX12_row_63 : decode cX12_row 63 = .ok (.bipush 40, 2) := by decide +kernel
theorem dX12_row_65 : decode cX12_row 65 = .ok (.iload_n 1, 1) := by decide +kernel
theorem dX12_row_66 : decode cX12_row 66 = .ok (.imul, 1) := by decide +kernel
theorem dX12_row_67 : decode cX12_row 67 = .ok (.iload 4, 2) := by decide +kernel
theorem dX12_row_69 : decode cX12_row 69 = .ok (.iadd, 1) := by decide +kernel
theorem dX12_row_70 : decode cX12_row 70 = .ok (.iconst 0, 1) := by decide +kernel
theorem dX12_row_71 : decode cX12_row 71 = .ok (.iastore, 1) := by decide +kernel
theorem dX12_row_72 : decode cX12_row 72 = .ok (.iinc 4 1, 3) := by decide +kernel
theorem dX12_row_75 : decode cX12_row 75 = .ok (.goto (-23), 3) := by decide +kernel
theorem dX12_row_78 : decode cX12_row 78 = .ok (.aload_n 0, 1) := by decide +kernel
theorem dX12_row_79 : decode cX12_row 79 = .ok (.iload_n 3, 1) := by decide +kernel
theorem dX12_row_80 : decode cX12_row 80 = .ok (.invokevirtual 66, 3) := by decide +kernel
theorem dX12_row_83 : decode cX12_row 83 = .ok (.ireturn, 1) := by decide +kernel
theorem dX12_set_0 : decode cX12_set 0 = .ok (.iload_n 1, 1) := by decide +kernel
theorem dX12_set_1 : decode cX12_set 1 = .ok (.invokestatic 57, 3) := by decide +kernel
theorem dX12_set_4 : decode cX12_set 4 = .ok (.ifCond .ne 6, 3) := by decide +kernel
theorem dX12_set_7 : decode cX12_set 7 = .ok (.ldc 61, 2) := by decide +kernel
theorem dX12_set_9 : decode cX12_set 9 = .ok (.ireturn, 1) := by decide +kernel
theorem dX12_set_10 : decode cX12_set 10 = .ok (.aload_n 0, 1) := by decide +kernel
theorem dX12_set_11 : decode cX12_set 11 = .ok (.iload_n 1, 1) := by decide +kernel
theorem dX12_set_12 : decode cX12_set 12 = .ok (.invokevirtual 69, 3) := by decide +kernel
theorem dX12_set_15 : decode cX12_set 15 = .ok (.ifCond .eq 9, 3) := by decide +kernel
theorem dX12_set_18 : decode cX12_set 18 = .ok (.aload_n 0, 1) := by decide +kernel
theorem dX12_set_19 : decode cX12_set 19 = .ok (.iconst 1, 1) := by decide +kernel
theorem dX12_set_20 : decode cX12_set 20 = .ok (.invokevirtual 62, 3) := by decide +kernel
theorem dX12_set_23 : decode cX12_set 23 = .ok (.ireturn, 1) := by decide +kernel
theorem dX12_set_24 : decode cX12_set 24 = .ok (.iload_n 2, 1) := by decide +kernel
theorem dX12_set_25 : decode cX12_set 25 = .ok (.iconst 0, 1) := by decide +kernel
theorem dX12_set_26 : decode cX12_set 26 = .ok (.aload_n 0, 1) := by decide +kernel
theorem dX12_set_27 : decode cX12_set 27 = .ok (.getfield 13, 3) := by decide +kernel
theorem dX12_set_30 : decode cX12_set 30 = .ok (.iload_n 1, 1) := by decide +kernel
theorem dX12_set_31 : decode cX12_set 31 = .ok (.iaload, 1) := by decide +kernel
theorem dX12_set_32 : decode cX12_set 32 = .ok (.iconst 1, 1) := by decide +kernel
theorem dX12_set_33 : decode cX12_set 33 = .ok (.isub, 1) := by decide +kernel
theorem dX12_set_34 : decode cX12_set 34 = .ok (.invokestatic 53, 3) := by decide +kernel
theorem dX12_set_37 : decode cX12_set 37 = .ok (.ifCond .ne 9, 3) := by decide +kernel
theorem dX12_set_40 : decode cX12_set 40 = .ok (.aload_n 0, 1) := by decide +kernel
theorem dX12_set_41 : decode cX12_set 41 = .ok (.iconst 2, 1) := by decide +kernel
theorem dX12_set_42 : decode cX12_set 42 = .ok (.invokevirtual 62, 3) := by decide +kernel
theorem dX12_set_45 : decode cX12_set 45 = .ok (.ireturn, 1) := by decide +kernel
theorem dX12_set_46 : decode cX12_set 46 = .ok (.aload_n 0, 1) := by decide +kernel
theorem dX12_set_47 : decode cX12_set 47 = .ok (.getfield 16, 3) := by decide +kernel
theorem dX12_set_50 : decode cX12_set 50 = .ok (.bipush 40, 2) := by decide +kernel
theorem dX12_set_52 : decode cX12_set 52 = .ok (.iload_n 1, 1) := by decide +kernel
theorem dX12_set_53 : decode cX12_set 53 = .ok (.imul, 1) := by decide +kernel
theorem dX12_set_54 : decode cX12_set 54 = .ok (.iload_n 2, 1) := by decide +kernel
theorem dX12_set_55 : decode cX12_set 55 = .ok (.iadd, 1) := by decide +kernel
theorem dX12_set_56 : decode cX12_set 56 = .ok (.aload_n 0, 1) := by decide +kernel
theorem dX12_set_57 : decode cX12_set 57 = .ok (.getfield 7, 3) := by decide +kernel
theorem dX12_set_60 : decode cX12_set 60 = .ok (.iload_n 1, 1) := by decide +kernel
theorem dX12_set_61 : decode cX12_set 61 = .ok (.iaload, 1) := by decide +kernel
theorem dX12_set_62 : decode cX12_set 62 = .ok (.iload_n 3, 1) := by decide +kernel
theorem dX12_set_63 : decode cX12_set 63 = .ok (.invokestatic 72, 3) := by decide +kernel
theorem dX12_set_66 : decode cX12_set 66 = .ok (.iastore, 1) := by decide +kernel
theorem dX12_set_67 : decode cX12_set 67 = .ok (.aload_n 0, 1) := by decide +kernel
theorem dX12_set_68 : decode cX12_set 68 = .ok (.aload_n 0, 1) := by decide +kernel
theorem dX12_set_69 : decode cX12_set 69 = .ok (.getfield 16, 3) := by decide +kernel
theorem dX12_set_72 : decode cX12_set 72 = .ok (.bipush 40, 2) := by decide +kernel
theorem dX12_set_74 : decode cX12_set 74 = .ok (.iload_n 1, 1) := by decide +kernel
theorem dX12_set_75 : decode cX12_set 75 = .ok (.imul, 1) := by decide +kernel
theorem dX12_set_76 : decode cX12_set 76 = .ok (.iload_n 2, 1) := by decide +kernel
theorem dX12_set_77 : decode cX12_set 77 = .ok (.iadd, 1) := by decide +kernel
theorem dX12_set_78 : decode cX12_set 78 = .ok (.iaload, 1) := by decide +kernel
theorem dX12_set_79 : decode cX12_set 79 = .ok (.invokevirtual 66, 3) := by decide +kernel
theorem dX12_set_82 : decode cX12_set 82 = .ok (.ireturn, 1) := by decide +kernel
theorem dX12_isPart_0 : decode cX12_isPart 0 = .ok (.iload_n 2, 1) := by decide +kernel
theorem dX12_isPart_1 : decode cX12_isPart 1 = .ok (.ifCond .lt 33, 3) := by decide +kernel
theorem dX12_isPart_4 : decode cX12_isPart 4 = .ok (.iload_n 3, 1) := by decide +kernel
theorem dX12_isPart_5 : decode cX12_isPart 5 = .ok (.ifCond .lt 29, 3) := by decide +kernel
theorem dX12_isPart_8 : decode cX12_isPart 8 = .ok (.iload_n 2, 1) := by decide +kernel
theorem dX12_isPart_9 : decode cX12_isPart 9 = .ok (.aload_n 0, 1) := by decide +kernel
theorem dX12_isPart_10 : decode cX12_isPart 10 = .ok (.getfield 13, 3) := by decide +kernel
theorem dX12_isPart_13 : decode cX12_isPart 13 = .ok (.iload_n 1, 1) := by decide +kernel
theorem dX12_isPart_14 : decode cX12_isPart 14 = .ok (.iaload, 1) := by decide +kernel
theorem dX12_isPart_15 : decode cX12_isPart 15 = .ok (.if_icmp .gt 19, 3) := by decide +kernel
theorem dX12_isPart_18 : decode cX12_isPart 18 = .ok (.iload_n 3, 1) := by decide +kernel
theorem dX12_isPart_19 : decode cX12_isPart 19 = .ok (.aload_n 0, 1) := by decide +kernel
theorem dX12_isPart_20 : decode cX12_isPart 20 = .ok (.getfield 13, 3) := by decide +kernel
theorem dX12_isPart_23 : decode cX12_isPart 23 = .ok (.iload_n 1, 1) := by decide +kernel
theorem dX12_isPart_24 : decode cX12_isPart 24 = .ok (.iaload, 1) := by decide +kernel
theorem dX12_isPart_25 : decode cX12_isPart 25 = .ok (.iload_n 2, 1) := by decide +kernel
theorem dX12_isPart_26 : decode cX12_isPart 26 = .ok (.isub, 1) := by decide +kernel
theorem dX12_isPart_27 : decode cX12_isPart 27 = .ok (.if_icmp .gt 7, 3) := by decide +kernel
theorem dX12_isPart_30 : decode cX12_isPart 30 = .ok (.iconst 1, 1) := by decide +kernel
theorem dX12_isPart_31 : decode cX12_isPart 31 = .ok (.goto 4, 3) := by decide +kernel
theorem dX12_isPart_34 : decode cX12_isPart 34 = .ok (.iconst 0, 1) := by decide +kernel
theorem dX12_isPart_35 : decode cX12_isPart 35 = .ok (.ireturn, 1) := by decide +kernel
theorem dX12_copy_0 : decode cX12_copy 0 = .ok (.iload_n 1, 1) := by decide +kernel
theorem dX12_copy_1 : decode cX12_copy 1 = .ok (.invokestatic 57, 3) := by decide +kernel
theorem dX12_copy_4 : decode cX12_copy 4 = .ok (.ifCond .eq 10, 3) := by decide +kernel
theorem dX12_copy_7 : decode cX12_copy 7 = .ok (.iload_n 3, 1) := by decide +kernel
theorem dX12_copy_8 : decode cX12_copy 8 = .ok (.invokestatic 57, 3) := by decide +kernel
theorem dX12_copy_11 : decode cX12_copy 11 = .ok (.ifCond .ne 6, 3) := by decide +kernel
theorem dX12_copy_14 : decode cX12_copy 14 = .ok (.ldc 61, 2) := by decide +kernel
theorem dX12_copy_16 : decode cX12_copy 16 = .ok (.ireturn, 1) := by decide +kernel
theorem dX12_copy_17 : decode cX12_copy 17 = .ok (.aload_n 0, 1) := by decide +kernel
theorem dX12_copy_18 : decode cX12_copy 18 = .ok (.iload_n 1, 1) := by decide +kernel
theorem dX12_copy_19 : decode cX12_copy 19 = .ok (.invokevirtual 69, 3) := by decide +kernel
theorem dX12_copy_22 : decode cX12_copy 22 = .ok (.ifCond .ne 11, 3) := by decide +kernel
theorem dX12_copy_25 : decode cX12_copy 25 = .ok (.aload_n 0, 1) := by decide +kernel
theorem dX12_copy_26 : decode cX12_copy 26 = .ok (.iload_n 3, 1) := by decide +kernel
theorem dX12_copy_27 : decode cX12_copy 27 = .ok (.invokevirtual 69, 3) := by decide +kernel
theorem dX12_copy_30 : decode cX12_copy 30 = .ok (.ifCond .eq 9, 3) := by decide +kernel
theorem dX12_copy_33 : decode cX12_copy 33 = .ok (.aload_n 0, 1) := by decide +kernel
theorem dX12_copy_34 : decode cX12_copy 34 = .ok (.iconst 1, 1) := by decide +kernel
theorem dX12_copy_35 : decode cX12_copy 35 = .ok (.invokevirtual 62, 3) := by decide +kernel
theorem dX12_copy_38 : decode cX12_copy 38 = .ok (.ireturn, 1) := by decide +kernel
theorem dX12_copy_39 : decode cX12_copy 39 = .ok (.aload_n 0, 1) := by decide +kernel
theorem dX12_copy_40 : decode cX12_copy 40 = .ok (.getfield 7, 3) := by decide +kernel
theorem dX12_copy_43 : decode cX12_copy 43 = .ok (.iload_n 1, 1) := by decide +kernel
theorem dX12_copy_44 : decode cX12_copy 44 = .ok (.iaload, 1) := by decide +kernel
theorem dX12_copy_45 : decode cX12_copy 45 = .ok (.aload_n 0, 1) := by decide +kernel
theorem dX12_copy_46 : decode cX12_copy 46 = .ok (.getfield 7, 3) := by decide +kernel
theorem dX12_copy_49 : decode cX12_copy 49 = .ok (.iload_n 3, 1) := by decide +kernel
theorem dX12_copy_50 : decode cX12_copy 50 = .ok (.iaload, 1) := by decide +kernel
theorem dX12_copy_51 : decode cX12_copy 51 = .ok (.if_icmp .eq 9, 3) := by decide +kernel
theorem dX12_copy_54 : decode cX12_copy 54 = .ok (.aload_n 0, 1) := by decide +kernel
theorem dX12_copy_55 : decode cX12_copy 55 = .ok (.iconst 5, 1) := by decide +kernel
theorem dX12_copy_56 : decode cX12_copy 56 = .ok (.invokevirtual 62, 3) := by decide +kernel
theorem dX12_copy_59 : decode cX12_copy 59 = .ok (.ireturn, 1) := by decide +kernel
theorem dX12_copy_60 : decode cX12_copy 60 = .ok (.aload_n 0, 1) := by decide +kernel
theorem dX12_copy_61 : decode cX12_copy 61 = .ok (.iload_n 1, 1) := by decide +kernel
theorem dX12_copy_62 : decode cX12_copy 62 = .ok (.iload_n 2, 1) := by decide +kernel
theorem dX12_copy_63 : decode cX12_copy 63 = .ok (.iload 5, 2) := by decide +kernel
theorem dX12_copy_65 : decode cX12_copy 65 = .ok (.invokevirtual 76, 3) := by decide +kernel
theorem dX12_copy_68 : decode cX12_copy 68 = .ok (.ifCond .eq 15, 3) := by decide +kernel
theorem dX12_copy_71 : decode cX12_copy 71 = .ok (.aload_n 0, 1) := by decide +kernel
theorem dX12_copy_72 : decode cX12_copy 72 = .ok (.iload_n 3, 1) := by decide +kernel
theorem dX12_copy_73 : decode cX12_copy 73 = .ok (.iload 4, 2) := by decide +kernel
theorem dX12_copy_75 : decode cX12_copy 75 = .ok (.iload 5, 2) := by decide +kernel
theorem dX12_copy_77 : decode cX12_copy 77 = .ok (.invokevirtual 76, 3) := by decide +kernel
theorem dX12_copy_80 : decode cX12_copy 80 = .ok (.ifCond .ne 9, 3) := by decide +kernel
theorem dX12_copy_83 : decode cX12_copy 83 = .ok (.aload_n 0, 1) := by decide +kernel
theorem dX12_copy_84 : decode cX12_copy 84 = .ok (.iconst 2, 1) := by decide +kernel
theorem dX12_copy_85 : decode cX12_copy 85 = .ok (.invokevirtual 62, 3) := by decide +kernel
theorem dX12_copy_88 : decode cX12_copy 88 = .ok (.ireturn, 1) := by decide +kernel
theorem dX12_copy_89 : decode cX12_copy 89 = .ok (.iconst 0, 1) := by decide +kernel
theorem dX12_copy_90 : decode cX12_copy 90 = .ok (.istore 6, 2) := by decide +kernel
theorem dX12_copy_92 : decode cX12_copy 92 = .ok (.iload 6, 2) := by decide +kernel
theorem dX12_copy_94 : decode cX12_copy 94 = .ok (.iload 5, 2) := by decide +kernel
theorem dX12_copy_96 : decode cX12_copy 96 = .ok (.if_icmp .ge 30, 3) := by decide +kernel
theorem dX12_copy_99 : decode cX12_copy 99 = .ok (.aload_n 0, 1) := by decide +kernel
theorem dX12_copy_100 : decode cX12_copy 100 = .ok (.getfield 19, 3) := by decide +kernel
theorem dX12_copy_103 : decode cX12_copy 103 = .ok (.iload 6, 2) := by decide +kernel
theorem dX12_copy_105 : decode cX12_copy 105 = .ok (.aload_n 0, 1) := by decide +kernel
theorem dX12_copy_106 : decode cX12_copy 106 = .ok (.getfield 16, 3) := by decide +kernel
theorem dX12_copy_109 : decode cX12_copy 109 = .ok (.bipush 40, 2) := by decide +kernel
theorem dX12_copy_111 : decode cX12_copy 111 = .ok (.iload_n 1, 1) := by decide +kernel
theorem dX12_copy_112 : decode cX12_copy 112 = .ok (.imul, 1) := by decide +kernel
theorem dX12_copy_113 : decode cX12_copy 113 = .ok (.iload_n 2, 1) := by decide +kernel
theorem dX12_copy_114 : decode cX12_copy 114 = .ok (.iadd, 1) := by decide +kernel
theorem dX12_copy_115 : decode cX12_copy 115 = .ok (.iload 6, 2) := by decide +kernel
theorem dX12_copy_117 : decode cX12_copy 117 = .ok (.iadd, 1) := by decide +kernel
theorem dX12_copy_118 : decode cX12_copy 118 = .ok (.iaload, 1) := by decide +kernel
theorem dX12_copy_119 : decode cX12_copy 119 = .ok (.iastore, 1) := by decide +kernel
theorem dX12_copy_120 : decode cX12_copy 120 = .ok (.iinc 6 1, 3) := by decide +kernel
theorem dX12_copy_123 : decode cX12_copy 123 = .ok (.goto (-31), 3) := by decide +kernel
theorem dX12_copy_126 : decode cX12_copy 126 = .ok (.iconst 0, 1) := by decide +kernel
theorem dX12_copy_127 : decode cX12_copy 127 = .ok (.istore 6, 2) := by decide +kernel
theorem dX12_copy_129 : decode cX12_copy 129 = .ok (.iload 6, 2) := by decide +kernel
theorem dX12_copy_131 : decode cX12_copy 131 = .ok (.iload 5, 2) := by decide +kernel
theorem dX12_copy_133 : decode cX12_copy 133 = .ok (.if_icmp .ge 31, 3) := by decide +kernel
theorem dX12_copy_136 : decode cX12_copy 136 = .ok (.aload_n 0, 1) := by decide +kernel
theorem dX12_copy_137 : decode cX12_copy 137 = .ok (.getfield 16, 3) := by decide +kernel
theorem dX12_copy_140 : decode cX12_copy 140 = .ok (.bipush 40, 2) := by decide +kernel
theorem dX12_copy_142 : decode cX12_copy 142 = .ok (.iload_n 3, 1) := by decide +kernel
theorem dX12_copy_143 : decode cX12_copy 143 = .ok (.imul, 1) := by decide +kernel
theorem dX12_copy_144 : decode cX12_copy 144 = .ok (.iload 4, 2) := by decide +kernel
theorem dX12_copy_146 : decode cX12_copy 146 = .ok (.iadd, 1) := by decide +kernel
theorem dX12_copy_147 : decode cX12_copy 147 = .ok (.iload 6, 2) := by decide +kernel
theorem dX12_copy_149 : decode cX12_copy 149 = .ok (.iadd, 1) := by decide +kernel
theorem dX12_copy_150 : decode cX12_copy 150 = .ok (.aload_n 0, 1) := by decide +kernel
theorem dX12_copy_151 : decode cX12_copy 151 = .ok (.getfield 19, 3) := by decide +kernel
theorem dX12_copy_154 : decode cX12_copy 154 = .ok (.iload 6, 2) := by decide +kernel
theorem dX12_copy_156 : decode cX12_copy 156 = .ok (.iaload, 1) := by decide +kernel
theorem dX12_copy_157 : decode cX12_copy 157 = .ok (.iastore, 1) := by decide +kernel
theorem dX12_copy_158 : decode cX12_copy 158 = .ok (.iinc 6 1, 3) := by decide +kernel
theorem dX12_copy_161 : decode cX12_copy 161 = .ok (.goto (-32), 3) := by decide +kernel
theorem dX12_copy_164 : decode cX12_copy 164 = .ok (.aload_n 0, 1) := by decide +kernel
theorem dX12_copy_165 : decode cX12_copy 165 = .ok (.iload 5, 2) := by decide +kernel
theorem dX12_copy_167 : decode cX12_copy 167 = .ok (.invokevirtual 66, 3) := by decide +kernel
theorem dX12_copy_170 : decode cX12_copy 170 = .ok (.ireturn, 1) := by decide +kernel
theorem dX12_drop_0 : decode cX12_drop 0 = .ok (.iload_n 1, 1) := by decide +kernel
theorem dX12_drop_1 : decode cX12_drop 1 = .ok (.invokestatic 57, 3) := by decide +kernel
theorem dX12_drop_4 : decode cX12_drop 4 = .ok (.ifCond .ne 6, 3) := by decide +kernel
theorem dX12_drop_7 : decode cX12_drop 7 = .ok (.ldc 61, 2) := by decide +kernel
theorem dX12_drop_9 : decode cX12_drop 9 = .ok (.ireturn, 1) := by decide +kernel
theorem dX12_drop_10 : decode cX12_drop 10 = .ok (.aload_n 0, 1) := by decide +kernel
theorem dX12_drop_11 : decode cX12_drop 11 = .ok (.iload_n 1, 1) := by decide +kernel
theorem dX12_drop_12 : decode cX12_drop 12 = .ok (.invokevirtual 69, 3) := by decide +kernel
theorem dX12_drop_15 : decode cX12_drop 15 = .ok (.ifCond .eq 9, 3) := by decide +kernel
theorem dX12_drop_18 : decode cX12_drop 18 = .ok (.aload_n 0, 1) := by decide +kernel
theorem dX12_drop_19 : decode cX12_drop 19 = .ok (.iconst 1, 1) := by decide +kernel
theorem dX12_drop_20 : decode cX12_drop 20 = .ok (.invokevirtual 62, 3) := by decide +kernel
theorem dX12_drop_23 : decode cX12_drop 23 = .ok (.ireturn, 1) := by decide +kernel
theorem dX12_drop_24 : decode cX12_drop 24 = .ok (.aload_n 0, 1) := by decide +kernel
theorem dX12_drop_25 : decode cX12_drop 25 = .ok (.getfield 7, 3) := by decide +kernel
theorem dX12_drop_28 : decode cX12_drop 28 = .ok (.iload_n 1, 1) := by decide +kernel
theorem dX12_drop_29 : decode cX12_drop 29 = .ok (.ldc 47, 2) := by decide +kernel
theorem dX12_drop_31 : decode cX12_drop 31 = .ok (.iastore, 1) := by decide +kernel
theorem dX12_drop_32 : decode cX12_drop 32 = .ok (.aload_n 0, 1) := by decide +kernel
theorem dX12_drop_33 : decode cX12_drop 33 = .ok (.aload_n 0, 1) := by decide +kernel
theorem dX12_drop_34 : decode cX12_drop 34 = .ok (.getfield 13, 3) := by decide +kernel
theorem dX12_drop_37 : decode cX12_drop 37 = .ok (.iload_n 1, 1) := by decide +kernel
theorem dX12_drop_38 : decode cX12_drop 38 = .ok (.iaload, 1) := by decide +kernel
theorem dX12_drop_39 : decode cX12_drop 39 = .ok (.invokevirtual 66, 3) := by decide +kernel
theorem dX12_drop_42 : decode cX12_drop 42 = .ok (.ireturn, 1) := by decide +kernel
theorem dX12_feed_0 : decode cX12_feed 0 = .ok (.iload_n 1, 1) := by decide +kernel
theorem dX12_feed_1 : decode cX12_feed 1 = .ok (.iconst 0, 1) := by decide +kernel
theorem dX12_feed_2 : decode cX12_feed 2 = .ok (.sipush 255, 3) := by decide +kernel
theorem dX12_feed_5 : decode cX12_feed 5 = .ok (.invokestatic 53, 3) := by decide +kernel
theorem dX12_feed_8 : decode cX12_feed 8 = .ok (.ifCond .ne 6, 3) := by decide +kernel
theorem dX12_feed_11 : decode cX12_feed 11 = .ok (.ldc 61, 2) := by decide +kernel
theorem dX12_feed_13 : decode cX12_feed 13 = .ok (.ireturn, 1) := by decide +kernel
theorem dX12_feed_14 : decode cX12_feed 14 = .ok (.aload_n 0, 1) := by decide +kernel
theorem dX12_feed_15 : decode cX12_feed 15 = .ok (.getfield 79, 3) := by decide +kernel
theorem dX12_feed_18 : decode cX12_feed 18 = .ok (.bipush 100, 2) := by decide +kernel
theorem dX12_feed_20 : decode cX12_feed 20 = .ok (.if_icmp .ne 6, 3) := by decide +kernel
theorem dX12_feed_23 : decode cX12_feed 23 = .ok (.ldc 82, 2) := by decide +kernel
theorem dX12_feed_25 : decode cX12_feed 25 = .ok (.ireturn, 1) := by decide +kernel
theorem dX12_feed_26 : decode cX12_feed 26 = .ok (.aload_n 0, 1) := by decide +kernel
theorem dX12_feed_27 : decode cX12_feed 27 = .ok (.getfield 22, 3) := by decide +kernel
theorem dX12_feed_30 : decode cX12_feed 30 = .ok (.aload_n 0, 1) := by decide +kernel
theorem dX12_feed_31 : decode cX12_feed 31 = .ok (.getfield 79, 3) := by decide +kernel
theorem dX12_feed_34 : decode cX12_feed 34 = .ok (.iload_n 1, 1) := by decide +kernel
theorem dX12_feed_35 : decode cX12_feed 35 = .ok (.iastore, 1) := by decide +kernel
theorem dX12_feed_36 : decode cX12_feed 36 = .ok (.aload_n 0, 1) := by decide +kernel
theorem dX12_feed_37 : decode cX12_feed 37 = .ok (.dup, 1) := by decide +kernel
theorem dX12_feed_38 : decode cX12_feed 38 = .ok (.getfield 79, 3) := by decide +kernel
theorem dX12_feed_41 : decode cX12_feed 41 = .ok (.iconst 1, 1) := by decide +kernel
theorem dX12_feed_42 : decode cX12_feed 42 = .ok (.iadd, 1) := by decide +kernel
theorem dX12_feed_43 : decode cX12_feed 43 = .ok (.putfield 79, 3) := by decide +kernel
theorem dX12_feed_46 : decode cX12_feed 46 = .ok (.aload_n 0, 1) := by decide +kernel
theorem dX12_feed_47 : decode cX12_feed 47 = .ok (.getfield 79, 3) := by decide +kernel
theorem dX12_feed_50 : decode cX12_feed 50 = .ok (.ireturn, 1) := by decide +kernel
theorem dX12_byteAt_0 : decode cX12_byteAt 0 = .ok (.iload_n 1, 1) := by decide +kernel
theorem dX12_byteAt_1 : decode cX12_byteAt 1 = .ok (.aload_n 0, 1) := by decide +kernel
theorem dX12_byteAt_2 : decode cX12_byteAt 2 = .ok (.getfield 79, 3) := by decide +kernel
theorem dX12_byteAt_5 : decode cX12_byteAt 5 = .ok (.if_icmp .ge 12, 3) := by decide +kernel
theorem dX12_byteAt_8 : decode cX12_byteAt 8 = .ok (.aload_n 0, 1) := by decide +kernel
theorem dX12_byteAt_9 : decode cX12_byteAt 9 = .ok (.getfield 22, 3) := by decide +kernel
theorem dX12_byteAt_12 : decode cX12_byteAt 12 = .ok (.iload_n 1, 1) := by decide +kernel
theorem dX12_byteAt_13 : decode cX12_byteAt 13 = .ok (.iaload, 1) := by decide +kernel
theorem dX12_byteAt_14 : decode cX12_byteAt 14 = .ok (.goto 4, 3) := by decide +kernel
theorem dX12_byteAt_17 : decode cX12_byteAt 17 = .ok (.iconst (-1), 1) := by decide +kernel
theorem dX12_byteAt_18 : decode cX12_byteAt 18 = .ok (.ireturn, 1) := by decide +kernel
theorem dX12_advances_0 : decode cX12_advances 0 = .ok (.aload_n 0, 1) := by decide +kernel
theorem dX12_advances_1 : decode cX12_advances 1 = .ok (.aload_n 0, 1) := by decide +kernel
theorem dX12_advances_2 : decode cX12_advances 2 = .ok (.getfield 83, 3) := by decide +kernel
theorem dX12_advances_5 : decode cX12_advances 5 = .ok (.putfield 86, 3) := by decide +kernel
theorem dX12_advances_8 : decode cX12_advances 8 = .ok (.aload_n 0, 1) := by decide +kernel
theorem dX12_advances_9 : decode cX12_advances 9 = .ok (.aload_n 0, 1) := by decide +kernel
theorem dX12_advances_10 : decode cX12_advances 10 = .ok (.getfield 83, 3) := by decide +kernel
theorem dX12_advances_13 : decode cX12_advances 13 = .ok (.invokevirtual 89, 3) := by decide +kernel
theorem dX12_advances_16 : decode cX12_advances 16 = .ok (.istore_n 1, 1) := by decide +kernel
theorem dX12_advances_17 : decode cX12_advances 17 = .ok (.aload_n 0, 1) := by decide +kernel
theorem dX12_advances_18 : decode cX12_advances 18 = .ok (.iload_n 1, 1) := by decide +kernel
theorem dX12_advances_19 : decode cX12_advances 19 = .ok (.putfield 92, 3) := by decide +kernel
theorem dX12_advances_22 : decode cX12_advances 22 = .ok (.iload_n 1, 1) := by decide +kernel
theorem dX12_advances_23 : decode cX12_advances 23 = .ok (.bipush 48, 2) := by decide +kernel
theorem dX12_advances_25 : decode cX12_advances 25 = .ok (.bipush 57, 2) := by decide +kernel
theorem dX12_advances_27 : decode cX12_advances 27 = .ok (.invokestatic 53, 3) := by decide +kernel
theorem dX12_advances_30 : decode cX12_advances 30 = .ok (.ifCond .eq 105, 3) := by decide +kernel
theorem dX12_advances_33 : decode cX12_advances 33 = .ok (.aload_n 0, 1) := by decide +kernel
theorem dX12_advances_34 : decode cX12_advances 34 = .ok (.iconst 0, 1) := by decide +kernel
theorem dX12_advances_35 : decode cX12_advances 35 = .ok (.putfield 92, 3) := by decide +kernel
theorem dX12_advances_38 : decode cX12_advances 38 = .ok (.aload_n 0, 1) := by decide +kernel
theorem dX12_advances_39 : decode cX12_advances 39 = .ok (.aload_n 0, 1) := by decide +kernel
theorem dX12_advances_40 : decode cX12_advances 40 = .ok (.getfield 83, 3) := by decide +kernel
theorem dX12_advances_43 : decode cX12_advances 43 = .ok (.invokevirtual 89, 3) := by decide +kernel
theorem dX12_advances_46 : decode cX12_advances 46 = .ok (.bipush 48, 2) := by decide +kernel
theorem dX12_advances_48 : decode cX12_advances 48 = .ok (.bipush 57, 2) := by decide +kernel
theorem dX12_advances_50 : decode cX12_advances 50 = .ok (.invokestatic 53, 3) := by decide +kernel
theorem dX12_advances_53 : decode cX12_advances 53 = .ok (.ifCond .eq 59, 3) := by decide +kernel
theorem dX12_advances_56 : decode cX12_advances 56 = .ok (.aload_n 0, 1) := by decide +kernel
theorem dX12_advances_57 : decode cX12_advances 57 = .ok (.aload_n 0, 1) := by decide +kernel
theorem dX12_advances_58 : decode cX12_advances 58 = .ok (.getfield 83, 3) := by decide +kernel
theorem dX12_advances_61 : decode cX12_advances 61 = .ok (.aload_n 0, 1) := by decide +kernel
theorem dX12_advances_62 : decode cX12_advances 62 = .ok (.getfield 86, 3) := by decide +kernel
theorem dX12_advances_65 : decode cX12_advances 65 = .ok (.isub, 1) := by decide +kernel
theorem dX12_advances_66 : decode cX12_advances 66 = .ok (.iconst 2, 1) := by decide +kernel
theorem dX12_advances_67 : decode cX12_advances 67 = .ok (.if_icmp .ge 25, 3) := by decide +kernel
theorem dX12_advances_70 : decode cX12_advances 70 = .ok (.bipush 10, 2) := by decide +kernel
theorem dX12_advances_72 : decode cX12_advances 72 = .ok (.aload_n 0, 1) := by decide +kernel
theorem dX12_advances_73 : decode cX12_advances 73 = .ok (.getfield 92, 3) := by decide +kernel
theorem dX12_advances_76 : decode cX12_advances 76 = .ok (.imul, 1) := by decide +kernel
theorem dX12_advances_77 : decode cX12_advances 77 = .ok (.aload_n 0, 1) := by decide +kernel
theorem dX12_advances_78 : decode cX12_advances 78 = .ok (.aload_n 0, 1) := by decide +kernel
theorem dX12_advances_79 : decode cX12_advances 79 = .ok (.getfield 83, 3) := by decide +kernel
theorem dX12_advances_82 : decode cX12_advances 82 = .ok (.invokevirtual 89, 3) := by decide +kernel
theorem dX12_advances_85 : decode cX12_advances 85 = .ok (.iadd, 1) := by decide +kernel
theorem dX12_advances_86 : decode cX12_advances 86 = .ok (.bipush 48, 2) := by decide +kernel
theorem dX12_advances_88 : decode cX12_advances 88 = .ok (.isub, 1) := by decide +kernel
theorem dX12_advances_89 : decode cX12_advances 89 = .ok (.goto 7, 3) := by decide +kernel
theorem dX12_advances_92 : decode cX12_advances 92 = .ok (.aload_n 0, 1) := by decide +kernel
theorem dX12_advances_93 : decode cX12_advances 93 = .ok (.getfield 92, 3) := by decide +kernel
theorem dX12_advances_96 : decode cX12_advances 96 = .ok (.putfield 92, 3) := by decide +kernel
theorem dX12_advances_99 : decode cX12_advances 99 = .ok (.aload_n 0, 1) := by decide +kernel
theorem dX12_advances_100 : decode cX12_advances 100 = .ok (.dup, 1) := by decide +kernel
theorem dX12_advances_101 : decode cX12_advances 101 = .ok (.getfield 83, 3) := by decide +kernel
theorem dX12_advances_104 : decode cX12_advances 104 = .ok (.iconst 1, 1) := by decide +kernel
theorem dX12_advances_105 : decode cX12_advances 105 = .ok (.iadd, 1) := by decide +kernel
theorem dX12_advances_106 : decode cX12_advances 106 = .ok (.putfield 83, 3) := by decide +kernel
theorem dX12_advances_109 : decode cX12_advances 109 = .ok (.goto (-71), 3) := by decide +kernel
theorem dX12_advances_112 : decode cX12_advances 112 = .ok (.aload_n 0, 1) := by decide +kernel
theorem dX12_advances_113 : decode cX12_advances 113 = .ok (.aload_n 0, 1) := by decide +kernel
theorem dX12_advances_114 : decode cX12_advances 114 = .ok (.getfield 83, 3) := by decide +kernel
theorem dX12_advances_117 : decode cX12_advances 117 = .ok (.aload_n 0, 1) := by decide +kernel
theorem dX12_advances_118 : decode cX12_advances 118 = .ok (.getfield 86, 3) := by decide +kernel
theorem dX12_advances_121 : decode cX12_advances 121 = .ok (.isub, 1) := by decide +kernel
theorem dX12_advances_122 : decode cX12_advances 122 = .ok (.iconst 3, 1) := by decide +kernel
theorem dX12_advances_123 : decode cX12_advances 123 = .ok (.if_icmp .ge 7, 3) := by decide +kernel
theorem dX12_advances_126 : decode cX12_advances 126 = .ok (.iconst 2, 1) := by decide +kernel
theorem dX12_advances_127 : decode cX12_advances 127 = .ok (.goto 4, 3) := by decide +kernel
theorem dX12_advances_130 : decode cX12_advances 130 = .ok (.iconst 5, 1) := by decide +kernel
theorem dX12_advances_131 : decode cX12_advances 131 = .ok (.putfield 95, 3) := by decide +kernel
theorem dX12_advances_134 : decode cX12_advances 134 = .ok (.return_, 1) := by decide +kernel
theorem dX12_advances_135 : decode cX12_advances 135 = .ok (.aload_n 0, 1) := by decide +kernel
theorem dX12_advances_136 : decode cX12_advances 136 = .ok (.iload_n 1, 1) := by decide +kernel
theorem dX12_advances_137 : decode cX12_advances 137 = .ok (.ifCond .ge 7, 3) := by decide +kernel
theorem dX12_advances_140 : decode cX12_advances 140 = .ok (.iconst 0, 1) := by decide +kernel
theorem dX12_advances_141 : decode cX12_advances 141 = .ok (.goto 39, 3) := by decide +kernel
theorem dX12_advances_144 : decode cX12_advances 144 = .ok (.iload_n 1, 1) := by decide +kernel
theorem dX12_advances_145 : decode cX12_advances 145 = .ok (.bipush 97, 2) := by decide +kernel
theorem dX12_advances_147 : decode cX12_advances 147 = .ok (.bipush 122, 2) := by decide +kernel
theorem dX12_advances_149 : decode cX12_advances 149 = .ok (.invokestatic 53, 3) := by decide +kernel
theorem dX12_advances_152 : decode cX12_advances 152 = .ok (.ifCond .eq 7, 3) := by decide +kernel
theorem dX12_advances_155 : decode cX12_advances 155 = .ok (.iconst 1, 1) := by decide +kernel
theorem dX12_advances_156 : decode cX12_advances 156 = .ok (.goto 24, 3) := by decide +kernel
theorem dX12_advances_159 : decode cX12_advances 159 = .ok (.iload_n 1, 1) := by decide +kernel
theorem dX12_advances_160 : decode cX12_advances 160 = .ok (.bipush 44, 2) := by decide +kernel
theorem dX12_advances_162 : decode cX12_advances 162 = .ok (.if_icmp .ne 7, 3) := by decide +kernel
theorem dX12_advances_165 : decode cX12_advances 165 = .ok (.iconst 3, 1) := by decide +kernel
theorem dX12_advances_166 : decode cX12_advances 166 = .ok (.goto 14, 3) := by decide +kernel
theorem dX12_advances_169 : decode cX12_advances 169 = .ok (.iload_n 1, 1) := by decide +kernel
theorem dX12_advances_170 : decode cX12_advances 170 = .ok (.bipush 59, 2) := by decide +kernel
theorem dX12_advances_172 : decode cX12_advances 172 = .ok (.if_icmp .ne 7, 3) := by decide +kernel
theorem dX12_advances_175 : decode cX12_advances 175 = .ok (.iconst 4, 1) := by decide +kernel
theorem dX12_advances_176 : decode cX12_advances 176 = .ok (.goto 4, 3) := by decide +kernel
theorem dX12_advances_179 : decode cX12_advances 179 = .ok (.iconst 5, 1) := by decide +kernel
theorem dX12_advances_180 : decode cX12_advances 180 = .ok (.putfield 95, 3) := by decide +kernel
theorem dX12_advances_183 : decode cX12_advances 183 = .ok (.aload_n 0, 1) := by decide +kernel
theorem dX12_advances_184 : decode cX12_advances 184 = .ok (.dup, 1) := by decide +kernel
theorem dX12_advances_185 : decode cX12_advances 185 = .ok (.getfield 83, 3) := by decide +kernel
theorem dX12_advances_188 : decode cX12_advances 188 = .ok (.aload_n 0, 1) := by decide +kernel
theorem dX12_advances_189 : decode cX12_advances 189 = .ok (.getfield 95, 3) := by decide +kernel
theorem dX12_advances_192 : decode cX12_advances 192 = .ok (.ifCond .ne 7, 3) := by decide +kernel
theorem dX12_advances_195 : decode cX12_advances 195 = .ok (.iconst 0, 1) := by decide +kernel
theorem dX12_advances_196 : decode cX12_advances 196 = .ok (.goto 4, 3) := by decide +kernel
theorem dX12_advances_199 : decode cX12_advances 199 = .ok (.iconst 1, 1) := by decide +kernel
theorem dX12_advances_200 : decode cX12_advances 200 = .ok (.iadd, 1) := by decide +kernel
theorem dX12_advances_201 : decode cX12_advances 201 = .ok (.putfield 83, 3) := by decide +kernel
theorem dX12_advances_204 : decode cX12_advances 204 = .ok (.return_, 1) := by decide +kernel
theorem dX12_isWell_0 : decode cX12_isWell 0 = .ok (.aload_n 0, 1) := by decide +kernel
theorem dX12_isWell_1 : decode cX12_isWell 1 = .ok (.getfield 98, 3) := by decide +kernel
theorem dX12_isWell_4 : decode cX12_isWell 4 = .ok (.ifCond .ge 7, 3) := by decide +kernel
theorem dX12_isWell_7 : decode cX12_isWell 7 = .ok (.iconst 1, 1) := by decide +kernel
theorem dX12_isWell_8 : decode cX12_isWell 8 = .ok (.goto 4, 3) := by decide +kernel
theorem dX12_isWell_11 : decode cX12_isWell 11 = .ok (.iconst 0, 1) := by decide +kernel
theorem dX12_isWell_12 : decode cX12_isWell 12 = .ok (.ireturn, 1) := by decide +kernel
theorem dX12_takes_0 : decode cX12_takes 0 = .ok (.aload_n 0, 1) := by decide +kernel
theorem dX12_takes_1 : decode cX12_takes 1 = .ok (.invokevirtual 101, 3) := by decide +kernel
theorem dX12_takes_4 : decode cX12_takes 4 = .ok (.ifCond .ne 5, 3) := by decide +kernel
theorem dX12_takes_7 : decode cX12_takes 7 = .ok (.iconst 0, 1) := by decide +kernel
theorem dX12_takes_8 : decode cX12_takes 8 = .ok (.ireturn, 1) := by decide +kernel
theorem dX12_takes_9 : decode cX12_takes 9 = .ok (.iload_n 1, 1) := by decide +kernel
theorem dX12_takes_10 : decode cX12_takes 10 = .ok (.ifCond .ne 18, 3) := by decide +kernel
theorem dX12_takes_13 : decode cX12_takes 13 = .ok (.aload_n 0, 1) := by decide +kernel
theorem dX12_takes_14 : decode cX12_takes 14 = .ok (.aload_n 0, 1) := by decide +kernel
theorem dX12_takes_15 : decode cX12_takes 15 = .ok (.getfield 86, 3) := by decide +kernel
theorem dX12_takes_18 : decode cX12_takes 18 = .ok (.putfield 98, 3) := by decide +kernel
theorem dX12_takes_21 : decode cX12_takes 21 = .ok (.aload_n 0, 1) := by decide +kernel
theorem dX12_takes_22 : decode cX12_takes 22 = .ok (.iload_n 2, 1) := by decide +kernel
theorem dX12_takes_23 : decode cX12_takes 23 = .ok (.putfield 105, 3) := by decide +kernel
theorem dX12_takes_26 : decode cX12_takes 26 = .ok (.iconst 0, 1) := by decide +kernel
theorem dX12_takes_27 : decode cX12_takes 27 = .ok (.ireturn, 1) := by decide +kernel
theorem dX12_takes_28 : decode cX12_takes 28 = .ok (.aload_n 0, 1) := by decide +kernel
theorem dX12_takes_29 : decode cX12_takes 29 = .ok (.getfield 92, 3) := by decide +kernel
theorem dX12_takes_32 : decode cX12_takes 32 = .ok (.istore_n 3, 1) := by decide +kernel
theorem dX12_takes_33 : decode cX12_takes 33 = .ok (.aload_n 0, 1) := by decide +kernel
theorem dX12_takes_34 : decode cX12_takes 34 = .ok (.invokevirtual 108, 3) := by decide +kernel
theorem dX12_takes_37 : decode cX12_takes 37 = .ok (.iload_n 3, 1) := by decide +kernel
theorem dX12_takes_38 : decode cX12_takes 38 = .ok (.ireturn, 1) := by decide +kernel
theorem dX12_figure_0 : decode cX12_figure 0 = .ok (.aload_n 0, 1) := by decide +kernel
theorem dX12_figure_1 : decode cX12_figure 1 = .ok (.invokevirtual 101, 3) := by decide +kernel
theorem dX12_figure_4 : decode cX12_figure 4 = .ok (.ifCond .eq 18, 3) := by decide +kernel
theorem dX12_figure_7 : decode cX12_figure 7 = .ok (.aload_n 0, 1) := by decide +kernel
theorem dX12_figure_8 : decode cX12_figure 8 = .ok (.getfield 95, 3) := by decide +kernel
theorem dX12_figure_11 : decode cX12_figure 11 = .ok (.iconst 2, 1) := by decide +kernel
theorem dX12_figure_12 : decode cX12_figure 12 = .ok (.if_icmp .eq 10, 3) := by decide +kernel
theorem dX12_figure_15 : decode cX12_figure 15 = .ok (.aload_n 0, 1) := by decide +kernel
theorem dX12_figure_16 : decode cX12_figure 16 = .ok (.iconst 0, 1) := by decide +kernel
theorem dX12_figure_17 : decode cX12_figure 17 = .ok (.iconst 1, 1) := by decide +kernel
theorem dX12_figure_18 : decode cX12_figure 18 = .ok (.invokevirtual 111, 3) := by decide +kernel
theorem dX12_figure_21 : decode cX12_figure 21 = .ok (.ireturn, 1) := by decide +kernel
theorem dX12_figure_22 : decode cX12_figure 22 = .ok (.aload_n 0, 1) := by decide +kernel
theorem dX12_figure_23 : decode cX12_figure 23 = .ok (.aload_n 0, 1) := by decide +kernel
theorem dX12_figure_24 : decode cX12_figure 24 = .ok (.getfield 92, 3) := by decide +kernel
theorem dX12_figure_27 : decode cX12_figure 27 = .ok (.iload_n 1, 1) := by decide +kernel
theorem dX12_figure_28 : decode cX12_figure 28 = .ok (.iload_n 2, 1) := by decide +kernel
theorem dX12_figure_29 : decode cX12_figure 29 = .ok (.invokestatic 53, 3) := by decide +kernel
theorem dX12_figure_32 : decode cX12_figure 32 = .ok (.iconst 2, 1) := by decide +kernel
theorem dX12_figure_33 : decode cX12_figure 33 = .ok (.invokevirtual 111, 3) := by decide +kernel
theorem dX12_figure_36 : decode cX12_figure 36 = .ok (.ireturn, 1) := by decide +kernel
theorem dX12_kindOf_0 : decode cX12_kindOf 0 = .ok (.iload_n 0, 1) := by decide +kernel
theorem dX12_kindOf_1 : decode cX12_kindOf 1 = .ok (.bipush 112, 2) := by decide +kernel
theorem dX12_kindOf_3 : decode cX12_kindOf 3 = .ok (.if_icmp .ne 7, 3) := by decide +kernel
theorem dX12_kindOf_6 : decode cX12_kindOf 6 = .ok (.iconst 1, 1) := by decide +kernel
theorem dX12_kindOf_7 : decode cX12_kindOf 7 = .ok (.goto 44, 3) := by decide +kernel
theorem dX12_kindOf_10 : decode cX12_kindOf 10 = .ok (.iload_n 0, 1) := by decide +kernel
theorem dX12_kindOf_11 : decode cX12_kindOf 11 = .ok (.bipush 99, 2) := by decide +kernel
theorem dX12_kindOf_13 : decode cX12_kindOf 13 = .ok (.if_icmp .ne 7, 3) := by decide +kernel
theorem dX12_kindOf_16 : decode cX12_kindOf 16 = .ok (.iconst 2, 1) := by decide +kernel
theorem dX12_kindOf_17 : decode cX12_kindOf 17 = .ok (.goto 34, 3) := by decide +kernel
theorem dX12_kindOf_20 : decode cX12_kindOf 20 = .ok (.iload_n 0, 1) := by decide +kernel
theorem dX12_kindOf_21 : decode cX12_kindOf 21 = .ok (.bipush 100, 2) := by decide +kernel
theorem dX12_kindOf_23 : decode cX12_kindOf 23 = .ok (.if_icmp .ne 7, 3) := by decide +kernel
theorem dX12_kindOf_26 : decode cX12_kindOf 26 = .ok (.iconst 3, 1) := by decide +kernel
theorem dX12_kindOf_27 : decode cX12_kindOf 27 = .ok (.goto 24, 3) := by decide +kernel
theorem dX12_kindOf_30 : decode cX12_kindOf 30 = .ok (.iload_n 0, 1) := by decide +kernel
theorem dX12_kindOf_31 : decode cX12_kindOf 31 = .ok (.bipush 107, 2) := by decide +kernel
theorem dX12_kindOf_33 : decode cX12_kindOf 33 = .ok (.if_icmp .ne 7, 3) := by decide +kernel
theorem dX12_kindOf_36 : decode cX12_kindOf 36 = .ok (.iconst 4, 1) := by decide +kernel
theorem dX12_kindOf_37 : decode cX12_kindOf 37 = .ok (.goto 14, 3) := by decide +kernel
theorem dX12_kindOf_40 : decode cX12_kindOf 40 = .ok (.iload_n 0, 1) := by decide +kernel
theorem dX12_kindOf_41 : decode cX12_kindOf 41 = .ok (.bipush 115, 2) := by decide +kernel
theorem dX12_kindOf_43 : decode cX12_kindOf 43 = .ok (.if_icmp .ne 7, 3) := by decide +kernel
theorem dX12_kindOf_46 : decode cX12_kindOf 46 = .ok (.iconst 5, 1) := by decide +kernel
theorem dX12_kindOf_47 : decode cX12_kindOf 47 = .ok (.goto 4, 3) := by decide +kernel
theorem dX12_kindOf_50 : decode cX12_kindOf 50 = .ok (.iconst 0, 1) := by decide +kernel
theorem dX12_kindOf_51 : decode cX12_kindOf 51 = .ok (.ireturn, 1) := by decide +kernel
theorem dX12_next_0 : decode cX12_next 0 = .ok (.aload_n 0, 1) := by decide +kernel
theorem dX12_next_1 : decode cX12_next 1 = .ok (.aload_n 0, 1) := by decide +kernel
theorem dX12_next_2 : decode cX12_next 2 = .ok (.getfield 95, 3) := by decide +kernel
theorem dX12_next_5 : decode cX12_next 5 = .ok (.iconst 3, 1) := by decide +kernel
theorem dX12_next_6 : decode cX12_next 6 = .ok (.if_icmp .ne 7, 3) := by decide +kernel
theorem dX12_next_9 : decode cX12_next 9 = .ok (.iconst 1, 1) := by decide +kernel
theorem dX12_next_10 : decode cX12_next 10 = .ok (.goto 4, 3) := by decide +kernel
theorem dX12_next_13 : decode cX12_next 13 = .ok (.iconst 0, 1) := by decide +kernel
theorem dX12_next_14 : decode cX12_next 14 = .ok (.iconst 1, 1) := by decide +kernel
theorem dX12_next_15 : decode cX12_next 15 = .ok (.invokevirtual 111, 3) := by decide +kernel
theorem dX12_next_18 : decode cX12_next 18 = .ok (.pop, 1) := by decide +kernel
theorem dX12_next_19 : decode cX12_next 19 = .ok (.aload_n 0, 1) := by decide +kernel
theorem dX12_next_20 : decode cX12_next 20 = .ok (.iload_n 1, 1) := by decide +kernel
theorem dX12_next_21 : decode cX12_next 21 = .ok (.iload_n 2, 1) := by decide +kernel
theorem dX12_next_22 : decode cX12_next 22 = .ok (.invokevirtual 115, 3) := by decide +kernel
theorem dX12_next_25 : decode cX12_next 25 = .ok (.ireturn, 1) := by decide +kernel
theorem dX12_readsPerson_0 : decode cX12_readsPerson 0 = .ok (.aload_n 0, 1) := by decide +kernel
theorem dX12_readsPerson_1 : decode cX12_readsPerson 1 = .ok (.getfield 92, 3) := by decide +kernel
theorem dX12_readsPerson_4 : decode cX12_readsPerson 4 = .ok (.invokestatic 118, 3) := by decide +kernel
theorem dX12_readsPerson_7 : decode cX12_readsPerson 7 = .ok (.istore_n 1, 1) := by decide +kernel
theorem dX12_readsPerson_8 : decode cX12_readsPerson 8 = .ok (.aload_n 0, 1) := by decide +kernel
theorem dX12_readsPerson_9 : decode cX12_readsPerson 9 = .ok (.aload_n 0, 1) := by decide +kernel
theorem dX12_readsPerson_10 : decode cX12_readsPerson 10 = .ok (.getfield 28, 3) := by decide +kernel
theorem dX12_readsPerson_13 : decode cX12_readsPerson 13 = .ok (.iconst 3, 1) := by decide +kernel
theorem dX12_readsPerson_14 : decode cX12_readsPerson 14 = .ok (.iaload, 1) := by decide +kernel
theorem dX12_readsPerson_15 : decode cX12_readsPerson 15 = .ok (.bipush 6, 2) := by decide +kernel
theorem dX12_readsPerson_17 : decode cX12_readsPerson 17 = .ok (.if_icmp .ge 7, 3) := by decide +kernel
theorem dX12_readsPerson_20 : decode cX12_readsPerson 20 = .ok (.iconst 1, 1) := by decide +kernel
theorem dX12_readsPerson_21 : decode cX12_readsPerson 21 = .ok (.goto 4, 3) := by decide +kernel
theorem dX12_readsPerson_24 : decode cX12_readsPerson 24 = .ok (.iconst 0, 1) := by decide +kernel
theorem dX12_readsPerson_25 : decode cX12_readsPerson 25 = .ok (.iconst 3, 1) := by decide +kernel
theorem dX12_readsPerson_26 : decode cX12_readsPerson 26 = .ok (.invokevirtual 111, 3) := by decide +kernel
theorem dX12_readsPerson_29 : decode cX12_readsPerson 29 = .ok (.pop, 1) := by decide +kernel
theorem dX12_readsPerson_30 : decode cX12_readsPerson 30 = .ok (.iconst 4, 1) := by decide +kernel
theorem dX12_readsPerson_31 : decode cX12_readsPerson 31 = .ok (.iconst 5, 1) := by decide +kernel
theorem dX12_readsPerson_32 : decode cX12_readsPerson 32 = .ok (.aload_n 0, 1) := by decide +kernel
theorem dX12_readsPerson_33 : decode cX12_readsPerson 33 = .ok (.getfield 28, 3) := by decide +kernel
theorem dX12_readsPerson_36 : decode cX12_readsPerson 36 = .ok (.iconst 3, 1) := by decide +kernel
theorem dX12_readsPerson_37 : decode cX12_readsPerson 37 = .ok (.iaload, 1) := by decide +kernel
theorem dX12_readsPerson_38 : decode cX12_readsPerson 38 = .ok (.bipush 6, 2) := by decide +kernel
theorem dX12_readsPerson_40 : decode cX12_readsPerson 40 = .ok (.if_icmp .ge 12, 3) := by decide +kernel
theorem dX12_readsPerson_43 : decode cX12_readsPerson 43 = .ok (.aload_n 0, 1) := by decide +kernel
theorem dX12_readsPerson_44 : decode cX12_readsPerson 44 = .ok (.getfield 28, 3) := by decide +kernel
theorem dX12_readsPerson_47 : decode cX12_readsPerson 47 = .ok (.iconst 3, 1) := by decide +kernel
theorem dX12_readsPerson_48 : decode cX12_readsPerson 48 = .ok (.iaload, 1) := by decide +kernel
theorem dX12_readsPerson_49 : decode cX12_readsPerson 49 = .ok (.goto 4, 3) := by decide +kernel
theorem dX12_readsPerson_52 : decode cX12_readsPerson 52 = .ok (.iconst 0, 1) := by decide +kernel
theorem dX12_readsPerson_53 : decode cX12_readsPerson 53 = .ok (.imul, 1) := by decide +kernel
theorem dX12_readsPerson_54 : decode cX12_readsPerson 54 = .ok (.iadd, 1) := by decide +kernel
theorem dX12_readsPerson_55 : decode cX12_readsPerson 55 = .ok (.istore_n 2, 1) := by decide +kernel
theorem dX12_readsPerson_56 : decode cX12_readsPerson 56 = .ok (.aload_n 0, 1) := by decide +kernel
theorem dX12_readsPerson_57 : decode cX12_readsPerson 57 = .ok (.iconst 0, 1) := by decide +kernel
theorem dX12_readsPerson_58 : decode cX12_readsPerson 58 = .ok (.aload_n 0, 1) := by decide +kernel
theorem dX12_readsPerson_59 : decode cX12_readsPerson 59 = .ok (.getfield 28, 3) := by decide +kernel
theorem dX12_readsPerson_62 : decode cX12_readsPerson 62 = .ok (.iconst 0, 1) := by decide +kernel
theorem dX12_readsPerson_63 : decode cX12_readsPerson 63 = .ok (.iaload, 1) := by decide +kernel
theorem dX12_readsPerson_64 : decode cX12_readsPerson 64 = .ok (.iconst 1, 1) := by decide +kernel
theorem dX12_readsPerson_65 : decode cX12_readsPerson 65 = .ok (.isub, 1) := by decide +kernel
theorem dX12_readsPerson_66 : decode cX12_readsPerson 66 = .ok (.invokevirtual 115, 3) := by decide +kernel
theorem dX12_readsPerson_69 : decode cX12_readsPerson 69 = .ok (.istore_n 3, 1) := by decide +kernel
theorem dX12_readsPerson_70 : decode cX12_readsPerson 70 = .ok (.aload_n 0, 1) := by decide +kernel
theorem dX12_readsPerson_71 : decode cX12_readsPerson 71 = .ok (.iconst 0, 1) := by decide +kernel
theorem dX12_readsPerson_72 : decode cX12_readsPerson 72 = .ok (.bipush 20, 2) := by decide +kernel
theorem dX12_readsPerson_74 : decode cX12_readsPerson 74 = .ok (.invokevirtual 121, 3) := by decide +kernel
theorem dX12_readsPerson_77 : decode cX12_readsPerson 77 = .ok (.istore 4, 2) := by decide +kernel
theorem dX12_readsPerson_79 : decode cX12_readsPerson 79 = .ok (.aload_n 0, 1) := by decide +kernel
theorem dX12_readsPerson_80 : decode cX12_readsPerson 80 = .ok (.iconst 0, 1) := by decide +kernel
theorem dX12_readsPerson_81 : decode cX12_readsPerson 81 = .ok (.aload_n 0, 1) := by decide +kernel
theorem dX12_readsPerson_82 : decode cX12_readsPerson 82 = .ok (.getfield 28, 3) := by decide +kernel
theorem dX12_readsPerson_85 : decode cX12_readsPerson 85 = .ok (.iconst 0, 1) := by decide +kernel
theorem dX12_readsPerson_86 : decode cX12_readsPerson 86 = .ok (.iaload, 1) := by decide +kernel
theorem dX12_readsPerson_87 : decode cX12_readsPerson 87 = .ok (.iconst 1, 1) := by decide +kernel
theorem dX12_readsPerson_88 : decode cX12_readsPerson 88 = .ok (.isub, 1) := by decide +kernel
theorem dX12_readsPerson_89 : decode cX12_readsPerson 89 = .ok (.invokevirtual 121, 3) := by decide +kernel
theorem dX12_readsPerson_92 : decode cX12_readsPerson 92 = .ok (.istore 5, 2) := by decide +kernel
theorem dX12_readsPerson_94 : decode cX12_readsPerson 94 = .ok (.aload_n 0, 1) := by decide +kernel
theorem dX12_readsPerson_95 : decode cX12_readsPerson 95 = .ok (.aload_n 0, 1) := by decide +kernel
theorem dX12_readsPerson_96 : decode cX12_readsPerson 96 = .ok (.getfield 95, 3) := by decide +kernel
theorem dX12_readsPerson_99 : decode cX12_readsPerson 99 = .ok (.iconst 4, 1) := by decide +kernel
theorem dX12_readsPerson_100 : decode cX12_readsPerson 100 = .ok (.if_icmp .ne 7, 3) := by decide +kernel
theorem dX12_readsPerson_103 : decode cX12_readsPerson 103 = .ok (.iconst 1, 1) := by decide +kernel
theorem dX12_readsPerson_104 : decode cX12_readsPerson 104 = .ok (.goto 4, 3) := by decide +kernel
theorem dX12_readsPerson_107 : decode cX12_readsPerson 107 = .ok (.iconst 0, 1) := by decide +kernel
theorem dX12_readsPerson_108 : decode cX12_readsPerson 108 = .ok (.iconst 1, 1) := by decide +kernel
theorem dX12_readsPerson_109 : decode cX12_readsPerson 109 = .ok (.invokevirtual 111, 3) := by decide +kernel
theorem dX12_readsPerson_112 : decode cX12_readsPerson 112 = .ok (.pop, 1) := by decide +kernel
theorem dX12_readsPerson_113 : decode cX12_readsPerson 113 = .ok (.aload_n 0, 1) := by decide +kernel
theorem dX12_readsPerson_114 : decode cX12_readsPerson 114 = .ok (.invokevirtual 101, 3) := by decide +kernel
theorem dX12_readsPerson_117 : decode cX12_readsPerson 117 = .ok (.ifCond .eq 49, 3) := by decide +kernel
theorem dX12_readsPerson_120 : decode cX12_readsPerson 120 = .ok (.aload_n 0, 1) := by decide +kernel
theorem dX12_readsPerson_121 : decode cX12_readsPerson 121 = .ok (.getfield 28, 3) := by decide +kernel
theorem dX12_readsPerson_124 : decode cX12_readsPerson 124 = .ok (.iload_n 2, 1) := by decide +kernel
theorem dX12_readsPerson_125 : decode cX12_readsPerson 125 = .ok (.iload_n 1, 1) := by decide +kernel
theorem dX12_readsPerson_126 : decode cX12_readsPerson 126 = .ok (.iastore, 1) := by decide +kernel
theorem dX12_readsPerson_127 : decode cX12_readsPerson 127 = .ok (.aload_n 0, 1) := by decide +kernel
theorem dX12_readsPerson_128 : decode cX12_readsPerson 128 = .ok (.getfield 28, 3) := by decide +kernel
theorem dX12_readsPerson_131 : decode cX12_readsPerson 131 = .ok (.iload_n 2, 1) := by decide +kernel
theorem dX12_readsPerson_132 : decode cX12_readsPerson 132 = .ok (.iconst 1, 1) := by decide +kernel
theorem dX12_readsPerson_133 : decode cX12_readsPerson 133 = .ok (.iadd, 1) := by decide +kernel
theorem dX12_readsPerson_134 : decode cX12_readsPerson 134 = .ok (.iload_n 3, 1) := by decide +kernel
theorem dX12_readsPerson_135 : decode cX12_readsPerson 135 = .ok (.iastore, 1) := by decide +kernel
theorem dX12_readsPerson_136 : decode cX12_readsPerson 136 = .ok (.aload_n 0, 1) := by decide +kernel
theorem dX12_readsPerson_137 : decode cX12_readsPerson 137 = .ok (.getfield 28, 3) := by decide +kernel
theorem dX12_readsPerson_140 : decode cX12_readsPerson 140 = .ok (.iload_n 2, 1) := by decide +kernel
theorem dX12_readsPerson_141 : decode cX12_readsPerson 141 = .ok (.iconst 2, 1) := by decide +kernel
theorem dX12_readsPerson_142 : decode cX12_readsPerson 142 = .ok (.iadd, 1) := by decide +kernel
theorem dX12_readsPerson_143 : decode cX12_readsPerson 143 = .ok (.iload 4, 2) := by decide +kernel
theorem dX12_readsPerson_145 : decode cX12_readsPerson 145 = .ok (.iastore, 1) := by decide +kernel
theorem dX12_readsPerson_146 : decode cX12_readsPerson 146 = .ok (.aload_n 0, 1) := by decide +kernel
theorem dX12_readsPerson_147 : decode cX12_readsPerson 147 = .ok (.getfield 28, 3) := by decide +kernel
theorem dX12_readsPerson_150 : decode cX12_readsPerson 150 = .ok (.iload_n 2, 1) := by decide +kernel
theorem dX12_readsPerson_151 : decode cX12_readsPerson 151 = .ok (.iconst 3, 1) := by decide +kernel
theorem dX12_readsPerson_152 : decode cX12_readsPerson 152 = .ok (.iadd, 1) := by decide +kernel
theorem dX12_readsPerson_153 : decode cX12_readsPerson 153 = .ok (.iload 5, 2) := by decide +kernel
theorem dX12_readsPerson_155 : decode cX12_readsPerson 155 = .ok (.iastore, 1) := by decide +kernel
theorem dX12_readsPerson_156 : decode cX12_readsPerson 156 = .ok (.aload_n 0, 1) := by decide +kernel
theorem dX12_readsPerson_157 : decode cX12_readsPerson 157 = .ok (.getfield 28, 3) := by decide +kernel
theorem dX12_readsPerson_160 : decode cX12_readsPerson 160 = .ok (.iconst 3, 1) := by decide +kernel
theorem dX12_readsPerson_161 : decode cX12_readsPerson 161 = .ok (.dup2, 1) := by decide +kernel
theorem dX12_readsPerson_162 : decode cX12_readsPerson 162 = .ok (.iaload, 1) := by decide +kernel
theorem dX12_readsPerson_163 : decode cX12_readsPerson 163 = .ok (.iconst 1, 1) := by decide +kernel
theorem dX12_readsPerson_164 : decode cX12_readsPerson 164 = .ok (.iadd, 1) := by decide +kernel
theorem dX12_readsPerson_165 : decode cX12_readsPerson 165 = .ok (.iastore, 1) := by decide +kernel
theorem dX12_readsPerson_166 : decode cX12_readsPerson 166 = .ok (.return_, 1) := by decide +kernel
theorem dX12_line_0 : decode cX12_line 0 = .ok (.iconst 0, 1) := by decide +kernel
theorem dX12_line_1 : decode cX12_line 1 = .ok (.istore_n 1, 1) := by decide +kernel
theorem dX12_line_2 : decode cX12_line 2 = .ok (.iload_n 1, 1) := by decide +kernel
theorem dX12_line_3 : decode cX12_line 3 = .ok (.bipush 34, 2) := by decide +kernel
theorem dX12_line_5 : decode cX12_line 5 = .ok (.if_icmp .ge 16, 3) := by decide +kernel
theorem dX12_line_8 : decode cX12_line 8 = .ok (.aload_n 0, 1) := by decide +kernel
theorem dX12_line_9 : decode cX12_line 9 = .ok (.getfield 28, 3) := by decide +kernel
theorem dX12_line_12 : decode cX12_line 12 = .ok (.iload_n 1, 1) := by decide +kernel
theorem dX12_line_13 : decode cX12_line 13 = .ok (.iconst 0, 1) := by decide +kernel
theorem dX12_line_14 : decode cX12_line 14 = .ok (.iastore, 1) := by decide +kernel
theorem dX12_line_15 : decode cX12_line 15 = .ok (.iinc 1 1, 3) := by decide +kernel
theorem dX12_line_18 : decode cX12_line 18 = .ok (.goto (-16), 3) := by decide +kernel
theorem dX12_line_21 : decode cX12_line 21 = .ok (.aload_n 0, 1) := by decide +kernel
theorem dX12_line_22 : decode cX12_line 22 = .ok (.iconst 0, 1) := by decide +kernel
theorem dX12_line_23 : decode cX12_line 23 = .ok (.putfield 83, 3) := by decide +kernel
theorem dX12_line_26 : decode cX12_line 26 = .ok (.aload_n 0, 1) := by decide +kernel
theorem dX12_line_27 : decode cX12_line 27 = .ok (.iconst (-1), 1) := by decide +kernel
theorem dX12_line_28 : decode cX12_line 28 = .ok (.putfield 98, 3) := by decide +kernel
theorem dX12_line_31 : decode cX12_line 31 = .ok (.aload_n 0, 1) := by decide +kernel
theorem dX12_line_32 : decode cX12_line 32 = .ok (.invokevirtual 108, 3) := by decide +kernel
theorem dX12_line_35 : decode cX12_line 35 = .ok (.aload_n 0, 1) := by decide +kernel
theorem dX12_line_36 : decode cX12_line 36 = .ok (.aload_n 0, 1) := by decide +kernel
theorem dX12_line_37 : decode cX12_line 37 = .ok (.getfield 95, 3) := by decide +kernel
theorem dX12_line_40 : decode cX12_line 40 = .ok (.iconst 1, 1) := by decide +kernel
theorem dX12_line_41 : decode cX12_line 41 = .ok (.if_icmp .ne 16, 3) := by decide +kernel
theorem dX12_line_44 : decode cX12_line 44 = .ok (.aload_n 0, 1) := by decide +kernel
theorem dX12_line_45 : decode cX12_line 45 = .ok (.getfield 92, 3) := by decide +kernel
theorem dX12_line_48 : decode cX12_line 48 = .ok (.bipush 116, 2) := by decide +kernel
theorem dX12_line_50 : decode cX12_line 50 = .ok (.if_icmp .ne 7, 3) := by decide +kernel
theorem dX12_line_53 : decode cX12_line 53 = .ok (.iconst 1, 1) := by decide +kernel
theorem dX12_line_54 : decode cX12_line 54 = .ok (.goto 4, 3) := by decide +kernel
theorem dX12_line_57 : decode cX12_line 57 = .ok (.iconst 0, 1) := by decide +kernel
theorem dX12_line_58 : decode cX12_line 58 = .ok (.iconst 1, 1) := by decide +kernel
theorem dX12_line_59 : decode cX12_line 59 = .ok (.invokevirtual 111, 3) := by decide +kernel
theorem dX12_line_62 : decode cX12_line 62 = .ok (.pop, 1) := by decide +kernel
theorem dX12_line_63 : decode cX12_line 63 = .ok (.aload_n 0, 1) := by decide +kernel
theorem dX12_line_64 : decode cX12_line 64 = .ok (.getfield 28, 3) := by decide +kernel
theorem dX12_line_67 : decode cX12_line 67 = .ok (.iconst 0, 1) := by decide +kernel
theorem dX12_line_68 : decode cX12_line 68 = .ok (.aload_n 0, 1) := by decide +kernel
theorem dX12_line_69 : decode cX12_line 69 = .ok (.iconst 2, 1) := by decide +kernel
theorem dX12_line_70 : decode cX12_line 70 = .ok (.bipush 8, 2) := by decide +kernel
theorem dX12_line_72 : decode cX12_line 72 = .ok (.invokevirtual 115, 3) := by decide +kernel
theorem dX12_line_75 : decode cX12_line 75 = .ok (.iastore, 1) := by decide +kernel
theorem dX12_line_76 : decode cX12_line 76 = .ok (.aload_n 0, 1) := by decide +kernel
theorem dX12_line_77 : decode cX12_line 77 = .ok (.getfield 28, 3) := by decide +kernel
theorem dX12_line_80 : decode cX12_line 80 = .ok (.iconst 1, 1) := by decide +kernel
theorem dX12_line_81 : decode cX12_line 81 = .ok (.aload_n 0, 1) := by decide +kernel
theorem dX12_line_82 : decode cX12_line 82 = .ok (.iconst 0, 1) := by decide +kernel
theorem dX12_line_83 : decode cX12_line 83 = .ok (.bipush 40, 2) := by decide +kernel
theorem dX12_line_85 : decode cX12_line 85 = .ok (.invokevirtual 121, 3) := by decide +kernel
theorem dX12_line_88 : decode cX12_line 88 = .ok (.iastore, 1) := by decide +kernel
theorem dX12_line_89 : decode cX12_line 89 = .ok (.aload_n 0, 1) := by decide +kernel
theorem dX12_line_90 : decode cX12_line 90 = .ok (.aload_n 0, 1) := by decide +kernel
theorem dX12_line_91 : decode cX12_line 91 = .ok (.getfield 95, 3) := by decide +kernel
theorem dX12_line_94 : decode cX12_line 94 = .ok (.iconst 4, 1) := by decide +kernel
theorem dX12_line_95 : decode cX12_line 95 = .ok (.if_icmp .ne 7, 3) := by decide +kernel
theorem dX12_line_98 : decode cX12_line 98 = .ok (.iconst 1, 1) := by decide +kernel
theorem dX12_line_99 : decode cX12_line 99 = .ok (.goto 4, 3) := by decide +kernel
theorem dX12_line_102 : decode cX12_line 102 = .ok (.iconst 0, 1) := by decide +kernel
theorem dX12_line_103 : decode cX12_line 103 = .ok (.iconst 1, 1) := by decide +kernel
theorem dX12_line_104 : decode cX12_line 104 = .ok (.invokevirtual 111, 3) := by decide +kernel
theorem dX12_line_107 : decode cX12_line 107 = .ok (.pop, 1) := by decide +kernel
theorem dX12_line_108 : decode cX12_line 108 = .ok (.aload_n 0, 1) := by decide +kernel
theorem dX12_line_109 : decode cX12_line 109 = .ok (.invokevirtual 101, 3) := by decide +kernel
theorem dX12_line_112 : decode cX12_line 112 = .ok (.ifCond .eq 28, 3) := by decide +kernel
theorem dX12_line_115 : decode cX12_line 115 = .ok (.aload_n 0, 1) := by decide +kernel
theorem dX12_line_116 : decode cX12_line 116 = .ok (.getfield 95, 3) := by decide +kernel
theorem dX12_line_119 : decode cX12_line 119 = .ok (.iconst 1, 1) := by decide +kernel
theorem dX12_line_120 : decode cX12_line 120 = .ok (.if_icmp .ne 20, 3) := by decide +kernel
theorem dX12_line_123 : decode cX12_line 123 = .ok (.aload_n 0, 1) := by decide +kernel
theorem dX12_line_124 : decode cX12_line 124 = .ok (.getfield 92, 3) := by decide +kernel
theorem dX12_line_127 : decode cX12_line 127 = .ok (.invokestatic 118, 3) := by decide +kernel
theorem dX12_line_130 : decode cX12_line 130 = .ok (.ifCond .le 10, 3) := by decide +kernel
theorem dX12_line_133 : decode cX12_line 133 = .ok (.aload_n 0, 1) := by decide +kernel
theorem dX12_line_134 : decode cX12_line 134 = .ok (.invokevirtual 124, 3) := by decide +kernel
theorem dX12_line_137 : decode cX12_line 137 = .ok (.goto (-29), 3) := by decide +kernel
theorem dX12_line_140 : decode cX12_line 140 = .ok (.aload_n 0, 1) := by decide +kernel
theorem dX12_line_141 : decode cX12_line 141 = .ok (.invokevirtual 101, 3) := by decide +kernel
theorem dX12_line_144 : decode cX12_line 144 = .ok (.ifCond .eq 17, 3) := by decide +kernel
theorem dX12_line_147 : decode cX12_line 147 = .ok (.aload_n 0, 1) := by decide +kernel
theorem dX12_line_148 : decode cX12_line 148 = .ok (.getfield 95, 3) := by decide +kernel
theorem dX12_line_151 : decode cX12_line 151 = .ok (.ifCond .eq 10, 3) := by decide +kernel
theorem dX12_line_154 : decode cX12_line 154 = .ok (.aload_n 0, 1) := by decide +kernel
theorem dX12_line_155 : decode cX12_line 155 = .ok (.iconst 0, 1) := by decide +kernel
theorem dX12_line_156 : decode cX12_line 156 = .ok (.iconst 1, 1) := by decide +kernel
theorem dX12_line_157 : decode cX12_line 157 = .ok (.invokevirtual 111, 3) := by decide +kernel
theorem dX12_line_160 : decode cX12_line 160 = .ok (.pop, 1) := by decide +kernel
theorem dX12_line_161 : decode cX12_line 161 = .ok (.aload_n 0, 1) := by decide +kernel
theorem dX12_line_162 : decode cX12_line 162 = .ok (.iconst 0, 1) := by decide +kernel
theorem dX12_line_163 : decode cX12_line 163 = .ok (.putfield 79, 3) := by decide +kernel
theorem dX12_line_166 : decode cX12_line 166 = .ok (.aload_n 0, 1) := by decide +kernel
theorem dX12_line_167 : decode cX12_line 167 = .ok (.invokevirtual 101, 3) := by decide +kernel
theorem dX12_line_170 : decode cX12_line 170 = .ok (.ifCond .ne 11, 3) := by decide +kernel
theorem dX12_line_173 : decode cX12_line 173 = .ok (.ldc 127, 2) := by decide +kernel
theorem dX12_line_175 : decode cX12_line 175 = .ok (.aload_n 0, 1) := by decide +kernel
theorem dX12_line_176 : decode cX12_line 176 = .ok (.getfield 98, 3) := by decide +kernel
theorem dX12_line_179 : decode cX12_line 179 = .ok (.isub, 1) := by decide +kernel
theorem dX12_line_180 : decode cX12_line 180 = .ok (.ireturn, 1) := by decide +kernel
theorem dX12_line_181 : decode cX12_line 181 = .ok (.aload_n 0, 1) := by decide +kernel
theorem dX12_line_182 : decode cX12_line 182 = .ok (.getfield 28, 3) := by decide +kernel
theorem dX12_line_185 : decode cX12_line 185 = .ok (.iconst 0, 1) := by decide +kernel
theorem dX12_line_186 : decode cX12_line 186 = .ok (.aload_n 0, 1) := by decide +kernel
theorem dX12_line_187 : decode cX12_line 187 = .ok (.getfield 25, 3) := by decide +kernel
theorem dX12_line_190 : decode cX12_line 190 = .ok (.iconst 0, 1) := by decide +kernel
theorem dX12_line_191 : decode cX12_line 191 = .ok (.invokestatic 128, 3) := by decide +kernel
theorem dX12_line_194 : decode cX12_line 194 = .ok (.aload_n 0, 1) := by decide +kernel
theorem dX12_line_195 : decode cX12_line 195 = .ok (.iconst 0, 1) := by decide +kernel
theorem dX12_line_196 : decode cX12_line 196 = .ok (.putfield 132, 3) := by decide +kernel
theorem dX12_line_199 : decode cX12_line 199 = .ok (.aload_n 0, 1) := by decide +kernel
theorem dX12_line_200 : decode cX12_line 200 = .ok (.getfield 25, 3) := by decide +kernel
theorem dX12_line_203 : decode cX12_line 203 = .ok (.iconst 3, 1) := by decide +kernel
theorem dX12_line_204 : decode cX12_line 204 = .ok (.iaload, 1) := by decide +kernel
theorem dX12_line_205 : decode cX12_line 205 = .ok (.ireturn, 1) := by decide +kernel
theorem dX12_fault_0 : decode cX12_fault 0 = .ok (.aload_n 0, 1) := by decide +kernel
theorem dX12_fault_1 : decode cX12_fault 1 = .ok (.getfield 105, 3) := by decide +kernel
theorem dX12_fault_4 : decode cX12_fault 4 = .ok (.ireturn, 1) := by decide +kernel
theorem dX12_isLine_0 : decode cX12_isLine 0 = .ok (.aload_n 0, 1) := by decide +kernel
theorem dX12_isLine_1 : decode cX12_isLine 1 = .ok (.getfield 25, 3) := by decide +kernel
theorem dX12_isLine_4 : decode cX12_isLine 4 = .ok (.iconst 0, 1) := by decide +kernel
theorem dX12_isLine_5 : decode cX12_isLine 5 = .ok (.iaload, 1) := by decide +kernel
theorem dX12_isLine_6 : decode cX12_isLine 6 = .ok (.ifCond .le 7, 3) := by decide +kernel
theorem dX12_isLine_9 : decode cX12_isLine 9 = .ok (.iconst 1, 1) := by decide +kernel
theorem dX12_isLine_10 : decode cX12_isLine 10 = .ok (.goto 4, 3) := by decide +kernel
theorem dX12_isLine_13 : decode cX12_isLine 13 = .ok (.iconst 0, 1) := by decide +kernel
theorem dX12_isLine_14 : decode cX12_isLine 14 = .ok (.ireturn, 1) := by decide +kernel
theorem dX12_isPerson_0 : decode cX12_isPerson 0 = .ok (.iload_n 1, 1) := by decide +kernel
theorem dX12_isPerson_1 : decode cX12_isPerson 1 = .ok (.iconst 0, 1) := by decide +kernel
theorem dX12_isPerson_2 : decode cX12_isPerson 2 = .ok (.aload_n 0, 1) := by decide +kernel
theorem dX12_isPerson_3 : decode cX12_isPerson 3 = .ok (.getfield 25, 3) := by decide +kernel
theorem dX12_isPerson_6 : decode cX12_isPerson 6 = .ok (.iconst 3, 1) := by decide +kernel
theorem dX12_isPerson_7 : decode cX12_isPerson 7 = .ok (.iaload, 1) := by decide +kernel
theorem dX12_isPerson_8 : decode cX12_isPerson 8 = .ok (.iconst 1, 1) := by decide +kernel
theorem dX12_isPerson_9 : decode cX12_isPerson 9 = .ok (.isub, 1) := by decide +kernel
theorem dX12_isPerson_10 : decode cX12_isPerson 10 = .ok (.invokestatic 53, 3) := by decide +kernel
theorem dX12_isPerson_13 : decode cX12_isPerson 13 = .ok (.ireturn, 1) := by decide +kernel
theorem dX12_isStop_0 : decode cX12_isStop 0 = .ok (.iload_n 1, 1) := by decide +kernel
theorem dX12_isStop_1 : decode cX12_isStop 1 = .ok (.iconst 0, 1) := by decide +kernel
theorem dX12_isStop_2 : decode cX12_isStop 2 = .ok (.aload_n 0, 1) := by decide +kernel
theorem dX12_isStop_3 : decode cX12_isStop 3 = .ok (.getfield 25, 3) := by decide +kernel
theorem dX12_isStop_6 : decode cX12_isStop 6 = .ok (.iconst 0, 1) := by decide +kernel
theorem dX12_isStop_7 : decode cX12_isStop 7 = .ok (.iaload, 1) := by decide +kernel
theorem dX12_isStop_8 : decode cX12_isStop 8 = .ok (.iconst 1, 1) := by decide +kernel
theorem dX12_isStop_9 : decode cX12_isStop 9 = .ok (.isub, 1) := by decide +kernel
theorem dX12_isStop_10 : decode cX12_isStop 10 = .ok (.invokestatic 53, 3) := by decide +kernel
theorem dX12_isStop_13 : decode cX12_isStop 13 = .ok (.ireturn, 1) := by decide +kernel
theorem dX12_isFar_0 : decode cX12_isFar 0 = .ok (.iload_n 0, 1) := by decide +kernel
theorem dX12_isFar_1 : decode cX12_isFar 1 = .ok (.iconst 0, 1) := by decide +kernel
theorem dX12_isFar_2 : decode cX12_isFar 2 = .ok (.bipush 60, 2) := by decide +kernel
theorem dX12_isFar_4 : decode cX12_isFar 4 = .ok (.invokestatic 53, 3) := by decide +kernel
theorem dX12_isFar_7 : decode cX12_isFar 7 = .ok (.ireturn, 1) := by decide +kernel
theorem dX12_atStop_0 : decode cX12_atStop 0 = .ok (.iconst 0, 1) := by decide +kernel
theorem dX12_atStop_1 : decode cX12_atStop 1 = .ok (.istore_n 2, 1) := by decide +kernel
theorem dX12_atStop_2 : decode cX12_atStop 2 = .ok (.iconst 0, 1) := by decide +kernel
theorem dX12_atStop_3 : decode cX12_atStop 3 = .ok (.istore_n 3, 1) := by decide +kernel
theorem dX12_atStop_4 : decode cX12_atStop 4 = .ok (.iload_n 3, 1) := by decide +kernel
theorem dX12_atStop_5 : decode cX12_atStop 5 = .ok (.aload_n 0, 1) := by decide +kernel
theorem dX12_atStop_6 : decode cX12_atStop 6 = .ok (.iconst 3, 1) := by decide +kernel
theorem dX12_atStop_7 : decode cX12_atStop 7 = .ok (.iaload, 1) := by decide +kernel
theorem dX12_atStop_8 : decode cX12_atStop 8 = .ok (.if_icmp .ge 32, 3) := by decide +kernel
theorem dX12_atStop_11 : decode cX12_atStop 11 = .ok (.iload_n 2, 1) := by decide +kernel
theorem dX12_atStop_12 : decode cX12_atStop 12 = .ok (.aload_n 0, 1) := by decide +kernel
theorem dX12_atStop_13 : decode cX12_atStop 13 = .ok (.iconst 4, 1) := by decide +kernel
theorem dX12_atStop_14 : decode cX12_atStop 14 = .ok (.iconst 5, 1) := by decide +kernel
theorem dX12_atStop_15 : decode cX12_atStop 15 = .ok (.iload_n 3, 1) := by decide +kernel
theorem dX12_atStop_16 : decode cX12_atStop 16 = .ok (.imul, 1) := by decide +kernel
theorem dX12_atStop_17 : decode cX12_atStop 17 = .ok (.iadd, 1) := by decide +kernel
theorem dX12_atStop_18 : decode cX12_atStop 18 = .ok (.iconst 1, 1) := by decide +kernel
theorem dX12_atStop_19 : decode cX12_atStop 19 = .ok (.iadd, 1) := by decide +kernel
theorem dX12_atStop_20 : decode cX12_atStop 20 = .ok (.iaload, 1) := by decide +kernel
theorem dX12_atStop_21 : decode cX12_atStop 21 = .ok (.iload_n 1, 1) := by decide +kernel
theorem dX12_atStop_22 : decode cX12_atStop 22 = .ok (.if_icmp .ne 9, 3) := by decide +kernel
theorem dX12_atStop_25 : decode cX12_atStop 25 = .ok (.iconst 1, 1) := by decide +kernel
theorem dX12_atStop_26 : decode cX12_atStop 26 = .ok (.iload_n 3, 1) := by decide +kernel
theorem dX12_atStop_27 : decode cX12_atStop 27 = .ok (.ishl, 1) := by decide +kernel
theorem dX12_atStop_28 : decode cX12_atStop 28 = .ok (.goto 4, 3) := by decide +kernel
theorem dX12_atStop_31 : decode cX12_atStop 31 = .ok (.iconst 0, 1) := by decide +kernel
theorem dX12_atStop_32 : decode cX12_atStop 32 = .ok (.ior, 1) := by decide +kernel
theorem dX12_atStop_33 : decode cX12_atStop 33 = .ok (.istore_n 2, 1) := by decide +kernel
theorem dX12_atStop_34 : decode cX12_atStop 34 = .ok (.iinc 3 1, 3) := by decide +kernel
theorem dX12_atStop_37 : decode cX12_atStop 37 = .ok (.goto (-33), 3) := by decide +kernel
theorem dX12_atStop_40 : decode cX12_atStop 40 = .ok (.iload_n 2, 1) := by decide +kernel
theorem dX12_atStop_41 : decode cX12_atStop 41 = .ok (.ireturn, 1) := by decide +kernel
theorem dX12_hopes_0 : decode cX12_hopes 0 = .ok (.iconst 4, 1) := by decide +kernel
theorem dX12_hopes_1 : decode cX12_hopes 1 = .ok (.iconst 5, 1) := by decide +kernel
theorem dX12_hopes_2 : decode cX12_hopes 2 = .ok (.iload_n 1, 1) := by decide +kernel
theorem dX12_hopes_3 : decode cX12_hopes 3 = .ok (.imul, 1) := by decide +kernel
theorem dX12_hopes_4 : decode cX12_hopes 4 = .ok (.iadd, 1) := by decide +kernel
theorem dX12_hopes_5 : decode cX12_hopes 5 = .ok (.istore_n 2, 1) := by decide +kernel
theorem dX12_hopes_6 : decode cX12_hopes 6 = .ok (.aload_n 0, 1) := by decide +kernel
theorem dX12_hopes_7 : decode cX12_hopes 7 = .ok (.aload_n 0, 1) := by decide +kernel
theorem dX12_hopes_8 : decode cX12_hopes 8 = .ok (.iload_n 2, 1) := by decide +kernel
theorem dX12_hopes_9 : decode cX12_hopes 9 = .ok (.iconst 1, 1) := by decide +kernel
theorem dX12_hopes_10 : decode cX12_hopes 10 = .ok (.iadd, 1) := by decide +kernel
theorem dX12_hopes_11 : decode cX12_hopes 11 = .ok (.iaload, 1) := by decide +kernel
theorem dX12_hopes_12 : decode cX12_hopes 12 = .ok (.invokestatic 135, 3) := by decide +kernel
theorem dX12_hopes_15 : decode cX12_hopes 15 = .ok (.invokestatic 139, 3) := by decide +kernel
theorem dX12_hopes_18 : decode cX12_hopes 18 = .ok (.iconst 1, 1) := by decide +kernel
theorem dX12_hopes_19 : decode cX12_hopes 19 = .ok (.isub, 1) := by decide +kernel
theorem dX12_hopes_20 : decode cX12_hopes 20 = .ok (.istore_n 3, 1) := by decide +kernel
theorem dX12_hopes_21 : decode cX12_hopes 21 = .ok (.aload_n 0, 1) := by decide +kernel
theorem dX12_hopes_22 : decode cX12_hopes 22 = .ok (.iload_n 2, 1) := by decide +kernel
theorem dX12_hopes_23 : decode cX12_hopes 23 = .ok (.iconst 2, 1) := by decide +kernel
theorem dX12_hopes_24 : decode cX12_hopes 24 = .ok (.iadd, 1) := by decide +kernel
theorem dX12_hopes_25 : decode cX12_hopes 25 = .ok (.iaload, 1) := by decide +kernel
theorem dX12_hopes_26 : decode cX12_hopes 26 = .ok (.aload_n 0, 1) := by decide +kernel
theorem dX12_hopes_27 : decode cX12_hopes 27 = .ok (.iload_n 2, 1) := by decide +kernel
theorem dX12_hopes_28 : decode cX12_hopes 28 = .ok (.iconst 4, 1) := by decide +kernel
theorem dX12_hopes_29 : decode cX12_hopes 29 = .ok (.iadd, 1) := by decide +kernel
theorem dX12_hopes_30 : decode cX12_hopes 30 = .ok (.iaload, 1) := by decide +kernel
theorem dX12_hopes_31 : decode cX12_hopes 31 = .ok (.isub, 1) := by decide +kernel
theorem dX12_hopes_32 : decode cX12_hopes 32 = .ok (.istore 4, 2) := by decide +kernel
theorem dX12_hopes_34 : decode cX12_hopes 34 = .ok (.aload_n 0, 1) := by decide +kernel
theorem dX12_hopes_35 : decode cX12_hopes 35 = .ok (.iload_n 2, 1) := by decide +kernel
theorem dX12_hopes_36 : decode cX12_hopes 36 = .ok (.iaload, 1) := by decide +kernel
theorem dX12_hopes_37 : decode cX12_hopes 37 = .ok (.tableswitch 59 1 4 #[31, 37, 45, 57], 31) := by decide +kernel
theorem dX12_hopes_68 : decode cX12_hopes 68 = .ok (.aload_n 0, 1) := by decide +kernel
theorem dX12_hopes_69 : decode cX12_hopes 69 = .ok (.iload_n 2, 1) := by decide +kernel
theorem dX12_hopes_70 : decode cX12_hopes 70 = .ok (.iconst 2, 1) := by decide +kernel
theorem dX12_hopes_71 : decode cX12_hopes 71 = .ok (.iadd, 1) := by decide +kernel
theorem dX12_hopes_72 : decode cX12_hopes 72 = .ok (.iaload, 1) := by decide +kernel
theorem dX12_hopes_73 : decode cX12_hopes 73 = .ok (.ireturn, 1) := by decide +kernel
theorem dX12_hopes_74 : decode cX12_hopes 74 = .ok (.aload_n 0, 1) := by decide +kernel
theorem dX12_hopes_75 : decode cX12_hopes 75 = .ok (.iload_n 2, 1) := by decide +kernel
theorem dX12_hopes_76 : decode cX12_hopes 76 = .ok (.iconst 2, 1) := by decide +kernel
theorem dX12_hopes_77 : decode cX12_hopes 77 = .ok (.iadd, 1) := by decide +kernel
theorem dX12_hopes_78 : decode cX12_hopes 78 = .ok (.iaload, 1) := by decide +kernel
theorem dX12_hopes_79 : decode cX12_hopes 79 = .ok (.iload_n 3, 1) := by decide +kernel
theorem dX12_hopes_80 : decode cX12_hopes 80 = .ok (.iadd, 1) := by decide +kernel
theorem dX12_hopes_81 : decode cX12_hopes 81 = .ok (.ireturn, 1) := by decide +kernel
theorem dX12_hopes_82 : decode cX12_hopes 82 = .ok (.iload 4, 2) := by decide +kernel
theorem dX12_hopes_84 : decode cX12_hopes 84 = .ok (.ifCond .ge 7, 3) := by decide +kernel
theorem dX12_hopes_87 : decode cX12_hopes 87 = .ok (.iconst 0, 1) := by decide +kernel
theorem dX12_hopes_88 : decode cX12_hopes 88 = .ok (.goto 5, 3) := by decide +kernel
theorem dX12_hopes_91 : decode cX12_hopes 91 = .ok (.iload 4, 2) := by decide +kernel
theorem dX12_hopes_93 : decode cX12_hopes 93 = .ok (.ireturn, 1) := by decide +kernel
theorem dX12_hopes_94 : decode cX12_hopes 94 = .ok (.iconst 3, 1) := by decide +kernel
theorem dX12_hopes_95 : decode cX12_hopes 95 = .ok (.ireturn, 1) := by decide +kernel
theorem dX12_hopes_96 : decode cX12_hopes 96 = .ok (.iload_n 3, 1) := by decide +kernel
theorem dX12_hopes_97 : decode cX12_hopes 97 = .ok (.ifCond .ne 8, 3) := by decide +kernel
theorem dX12_hopes_100 : decode cX12_hopes 100 = .ok (.bipush 13, 2) := by decide +kernel
theorem dX12_hopes_102 : decode cX12_hopes 102 = .ok (.goto 4, 3) := by decide +kernel
theorem dX12_hopes_105 : decode cX12_hopes 105 = .ok (.iconst 3, 1) := by decide +kernel
theorem dX12_hopes_106 : decode cX12_hopes 106 = .ok (.ireturn, 1) := by decide +kernel
theorem dX12_hope_0 : decode cX12_hope 0 = .ok (.iconst 0, 1) := by decide +kernel
theorem dX12_hope_1 : decode cX12_hope 1 = .ok (.istore_n 3, 1) := by decide +kernel
theorem dX12_hope_2 : decode cX12_hope 2 = .ok (.iconst 0, 1) := by decide +kernel
theorem dX12_hope_3 : decode cX12_hope 3 = .ok (.istore 4, 2) := by decide +kernel
theorem dX12_hope_5 : decode cX12_hope 5 = .ok (.iload 4, 2) := by decide +kernel
theorem dX12_hope_7 : decode cX12_hope 7 = .ok (.aload_n 0, 1) := by decide +kernel
theorem dX12_hope_8 : decode cX12_hope 8 = .ok (.iconst 3, 1) := by decide +kernel
theorem dX12_hope_9 : decode cX12_hope 9 = .ok (.iaload, 1) := by decide +kernel
theorem dX12_hope_10 : decode cX12_hope 10 = .ok (.if_icmp .ge 45, 3) := by decide +kernel
theorem dX12_hope_13 : decode cX12_hope 13 = .ok (.iload_n 3, 1) := by decide +kernel
theorem dX12_hope_14 : decode cX12_hope 14 = .ok (.aload_n 0, 1) := by decide +kernel
theorem dX12_hope_15 : decode cX12_hope 15 = .ok (.iconst 4, 1) := by decide +kernel
theorem dX12_hope_16 : decode cX12_hope 16 = .ok (.iconst 5, 1) := by decide +kernel
theorem dX12_hope_17 : decode cX12_hope 17 = .ok (.iload 4, 2) := by decide +kernel
theorem dX12_hope_19 : decode cX12_hope 19 = .ok (.imul, 1) := by decide +kernel
theorem dX12_hope_20 : decode cX12_hope 20 = .ok (.iadd, 1) := by decide +kernel
theorem dX12_hope_21 : decode cX12_hope 21 = .ok (.iconst 1, 1) := by decide +kernel
theorem dX12_hope_22 : decode cX12_hope 22 = .ok (.iadd, 1) := by decide +kernel
theorem dX12_hope_23 : decode cX12_hope 23 = .ok (.iaload, 1) := by decide +kernel
theorem dX12_hope_24 : decode cX12_hope 24 = .ok (.iload_n 1, 1) := by decide +kernel
theorem dX12_hope_25 : decode cX12_hope 25 = .ok (.if_icmp .ne 21, 3) := by decide +kernel
theorem dX12_hope_28 : decode cX12_hope 28 = .ok (.iload_n 2, 1) := by decide +kernel
theorem dX12_hope_29 : decode cX12_hope 29 = .ok (.iload 4, 2) := by decide +kernel
theorem dX12_hope_31 : decode cX12_hope 31 = .ok (.invokestatic 142, 3) := by decide +kernel
theorem dX12_hope_34 : decode cX12_hope 34 = .ok (.ifCond .ne 12, 3) := by decide +kernel
theorem dX12_hope_37 : decode cX12_hope 37 = .ok (.aload_n 0, 1) := by decide +kernel
theorem dX12_hope_38 : decode cX12_hope 38 = .ok (.iload 4, 2) := by decide +kernel
theorem dX12_hope_40 : decode cX12_hope 40 = .ok (.invokestatic 146, 3) := by decide +kernel
theorem dX12_hope_43 : decode cX12_hope 43 = .ok (.goto 4, 3) := by decide +kernel
theorem dX12_hope_46 : decode cX12_hope 46 = .ok (.iconst 0, 1) := by decide +kernel
theorem dX12_hope_47 : decode cX12_hope 47 = .ok (.iadd, 1) := by decide +kernel
theorem dX12_hope_48 : decode cX12_hope 48 = .ok (.istore_n 3, 1) := by decide +kernel
theorem dX12_hope_49 : decode cX12_hope 49 = .ok (.iinc 4 1, 3) := by decide +kernel
theorem dX12_hope_52 : decode cX12_hope 52 = .ok (.goto (-47), 3) := by decide +kernel
theorem dX12_hope_55 : decode cX12_hope 55 = .ok (.iload_n 3, 1) := by decide +kernel
theorem dX12_hope_56 : decode cX12_hope 56 = .ok (.ireturn, 1) := by decide +kernel
theorem dX12_holds_0 : decode cX12_holds 0 = .ok (.iload_n 1, 1) := by decide +kernel
theorem dX12_holds_1 : decode cX12_holds 1 = .ok (.ifCond .le 14, 3) := by decide +kernel
theorem dX12_holds_4 : decode cX12_holds 4 = .ok (.iload_n 1, 1) := by decide +kernel
theorem dX12_holds_5 : decode cX12_holds 5 = .ok (.aload_n 0, 1) := by decide +kernel
theorem dX12_holds_6 : decode cX12_holds 6 = .ok (.iconst 1, 1) := by decide +kernel
theorem dX12_holds_7 : decode cX12_holds 7 = .ok (.iaload, 1) := by decide +kernel
theorem dX12_holds_8 : decode cX12_holds 8 = .ok (.if_icmp .lt 7, 3) := by decide +kernel
theorem dX12_holds_11 : decode cX12_holds 11 = .ok (.iconst 1, 1) := by decide +kernel
theorem dX12_holds_12 : decode cX12_holds 12 = .ok (.goto 4, 3) := by decide +kernel
theorem dX12_holds_15 : decode cX12_holds 15 = .ok (.iconst 0, 1) := by decide +kernel
theorem dX12_holds_16 : decode cX12_holds 16 = .ok (.ireturn, 1) := by decide +kernel
theorem dX12_tramBy_0 : decode cX12_tramBy 0 = .ok (.ldc 47, 2) := by decide +kernel
theorem dX12_tramBy_2 : decode cX12_tramBy 2 = .ok (.istore_n 2, 1) := by decide +kernel
theorem dX12_tramBy_3 : decode cX12_tramBy 3 = .ok (.iconst 0, 1) := by decide +kernel
theorem dX12_tramBy_4 : decode cX12_tramBy 4 = .ok (.istore_n 3, 1) := by decide +kernel
theorem dX12_tramBy_5 : decode cX12_tramBy 5 = .ok (.iconst 0, 1) := by decide +kernel
theorem dX12_tramBy_6 : decode cX12_tramBy 6 = .ok (.istore 4, 2) := by decide +kernel
theorem dX12_tramBy_8 : decode cX12_tramBy 8 = .ok (.iload 4, 2) := by decide +kernel
theorem dX12_tramBy_10 : decode cX12_tramBy 10 = .ok (.aload_n 0, 1) := by decide +kernel
theorem dX12_tramBy_11 : decode cX12_tramBy 11 = .ok (.iconst 0, 1) := by decide +kernel
theorem dX12_tramBy_12 : decode cX12_tramBy 12 = .ok (.iaload, 1) := by decide +kernel
theorem dX12_tramBy_13 : decode cX12_tramBy 13 = .ok (.if_icmp .ge 44, 3) := by decide +kernel
theorem dX12_tramBy_16 : decode cX12_tramBy 16 = .ok (.aload_n 0, 1) := by decide +kernel
theorem dX12_tramBy_17 : decode cX12_tramBy 17 = .ok (.iload 4, 2) := by decide +kernel
theorem dX12_tramBy_19 : decode cX12_tramBy 19 = .ok (.iload_n 1, 1) := by decide +kernel
theorem dX12_tramBy_20 : decode cX12_tramBy 20 = .ok (.invokestatic 149, 3) := by decide +kernel
theorem dX12_tramBy_23 : decode cX12_tramBy 23 = .ok (.istore 5, 2) := by decide +kernel
theorem dX12_tramBy_25 : decode cX12_tramBy 25 = .ok (.iload 5, 2) := by decide +kernel
theorem dX12_tramBy_27 : decode cX12_tramBy 27 = .ok (.iload_n 3, 1) := by decide +kernel
theorem dX12_tramBy_28 : decode cX12_tramBy 28 = .ok (.if_icmp .le 8, 3) := by decide +kernel
theorem dX12_tramBy_31 : decode cX12_tramBy 31 = .ok (.iload 4, 2) := by decide +kernel
theorem dX12_tramBy_33 : decode cX12_tramBy 33 = .ok (.goto 4, 3) := by decide +kernel
theorem dX12_tramBy_36 : decode cX12_tramBy 36 = .ok (.iload_n 2, 1) := by decide +kernel
theorem dX12_tramBy_37 : decode cX12_tramBy 37 = .ok (.istore_n 2, 1) := by decide +kernel
theorem dX12_tramBy_38 : decode cX12_tramBy 38 = .ok (.iload 5, 2) := by decide +kernel
theorem dX12_tramBy_40 : decode cX12_tramBy 40 = .ok (.iload_n 3, 1) := by decide +kernel
theorem dX12_tramBy_41 : decode cX12_tramBy 41 = .ok (.if_icmp .le 8, 3) := by decide +kernel
theorem dX12_tramBy_44 : decode cX12_tramBy 44 = .ok (.iload 5, 2) := by decide +kernel
theorem dX12_tramBy_46 : decode cX12_tramBy 46 = .ok (.goto 4, 3) := by decide +kernel
theorem dX12_tramBy_49 : decode cX12_tramBy 49 = .ok (.iload_n 3, 1) := by decide +kernel
theorem dX12_tramBy_50 : decode cX12_tramBy 50 = .ok (.istore_n 3, 1) := by decide +kernel
theorem dX12_tramBy_51 : decode cX12_tramBy 51 = .ok (.iinc 4 1, 3) := by decide +kernel
theorem dX12_tramBy_54 : decode cX12_tramBy 54 = .ok (.goto (-46), 3) := by decide +kernel
theorem dX12_tramBy_57 : decode cX12_tramBy 57 = .ok (.aload_n 0, 1) := by decide +kernel
theorem dX12_tramBy_58 : decode cX12_tramBy 58 = .ok (.iload_n 3, 1) := by decide +kernel
theorem dX12_tramBy_59 : decode cX12_tramBy 59 = .ok (.invokestatic 153, 3) := by decide +kernel
theorem dX12_tramBy_62 : decode cX12_tramBy 62 = .ok (.ifCond .eq 7, 3) := by decide +kernel
theorem dX12_tramBy_65 : decode cX12_tramBy 65 = .ok (.iload_n 2, 1) := by decide +kernel
theorem dX12_tramBy_66 : decode cX12_tramBy 66 = .ok (.goto 5, 3) := by decide +kernel
theorem dX12_tramBy_69 : decode cX12_tramBy 69 = .ok (.ldc 47, 2) := by decide +kernel
theorem dX12_tramBy_71 : decode cX12_tramBy 71 = .ok (.ireturn, 1) := by decide +kernel
theorem dX12_isThere_0 : decode cX12_isThere 0 = .ok (.aload_n 0, 1) := by decide +kernel
theorem dX12_isThere_1 : decode cX12_isThere 1 = .ok (.iconst 4, 1) := by decide +kernel
theorem dX12_isThere_2 : decode cX12_isThere 2 = .ok (.iconst 5, 1) := by decide +kernel
theorem dX12_isThere_3 : decode cX12_isThere 3 = .ok (.iload_n 1, 1) := by decide +kernel
theorem dX12_isThere_4 : decode cX12_isThere 4 = .ok (.imul, 1) := by decide +kernel
theorem dX12_isThere_5 : decode cX12_isThere 5 = .ok (.iadd, 1) := by decide +kernel
theorem dX12_isThere_6 : decode cX12_isThere 6 = .ok (.iconst 1, 1) := by decide +kernel
theorem dX12_isThere_7 : decode cX12_isThere 7 = .ok (.iadd, 1) := by decide +kernel
theorem dX12_isThere_8 : decode cX12_isThere 8 = .ok (.iaload, 1) := by decide +kernel
theorem dX12_isThere_9 : decode cX12_isThere 9 = .ok (.aload_n 0, 1) := by decide +kernel
theorem dX12_isThere_10 : decode cX12_isThere 10 = .ok (.iconst 4, 1) := by decide +kernel
theorem dX12_isThere_11 : decode cX12_isThere 11 = .ok (.iconst 5, 1) := by decide +kernel
theorem dX12_isThere_12 : decode cX12_isThere 12 = .ok (.iload_n 1, 1) := by decide +kernel
theorem dX12_isThere_13 : decode cX12_isThere 13 = .ok (.imul, 1) := by decide +kernel
theorem dX12_isThere_14 : decode cX12_isThere 14 = .ok (.iadd, 1) := by decide +kernel
theorem dX12_isThere_15 : decode cX12_isThere 15 = .ok (.iconst 3, 1) := by decide +kernel
theorem dX12_isThere_16 : decode cX12_isThere 16 = .ok (.iadd, 1) := by decide +kernel
theorem dX12_isThere_17 : decode cX12_isThere 17 = .ok (.iaload, 1) := by decide +kernel
theorem dX12_isThere_18 : decode cX12_isThere 18 = .ok (.if_icmp .ne 7, 3) := by decide +kernel
theorem dX12_isThere_21 : decode cX12_isThere 21 = .ok (.iconst 1, 1) := by decide +kernel
theorem dX12_isThere_22 : decode cX12_isThere 22 = .ok (.goto 4, 3) := by decide +kernel
theorem dX12_isThere_25 : decode cX12_isThere 25 = .ok (.iconst 0, 1) := by decide +kernel
theorem dX12_isThere_26 : decode cX12_isThere 26 = .ok (.ireturn, 1) := by decide +kernel
theorem dX12_thereIn_0 : decode cX12_thereIn 0 = .ok (.iconst 0, 1) := by decide +kernel
theorem dX12_thereIn_1 : decode cX12_thereIn 1 = .ok (.istore_n 1, 1) := by decide +kernel
theorem dX12_thereIn_2 : decode cX12_thereIn 2 = .ok (.iconst 0, 1) := by decide +kernel
theorem dX12_thereIn_3 : decode cX12_thereIn 3 = .ok (.istore_n 2, 1) := by decide +kernel
theorem dX12_thereIn_4 : decode cX12_thereIn 4 = .ok (.iload_n 2, 1) := by decide +kernel
theorem dX12_thereIn_5 : decode cX12_thereIn 5 = .ok (.aload_n 0, 1) := by decide +kernel
theorem dX12_thereIn_6 : decode cX12_thereIn 6 = .ok (.iconst 3, 1) := by decide +kernel
theorem dX12_thereIn_7 : decode cX12_thereIn 7 = .ok (.iaload, 1) := by decide +kernel
theorem dX12_thereIn_8 : decode cX12_thereIn 8 = .ok (.if_icmp .ge 27, 3) := by decide +kernel
theorem dX12_thereIn_11 : decode cX12_thereIn 11 = .ok (.iload_n 1, 1) := by decide +kernel
theorem dX12_thereIn_12 : decode cX12_thereIn 12 = .ok (.aload_n 0, 1) := by decide +kernel
theorem dX12_thereIn_13 : decode cX12_thereIn 13 = .ok (.iload_n 2, 1) := by decide +kernel
theorem dX12_thereIn_14 : decode cX12_thereIn 14 = .ok (.invokestatic 157, 3) := by decide +kernel
theorem dX12_thereIn_17 : decode cX12_thereIn 17 = .ok (.ifCond .eq 9, 3) := by decide +kernel
theorem dX12_thereIn_20 : decode cX12_thereIn 20 = .ok (.iconst 1, 1) := by decide +kernel
theorem dX12_thereIn_21 : decode cX12_thereIn 21 = .ok (.iload_n 2, 1) := by decide +kernel
theorem dX12_thereIn_22 : decode cX12_thereIn 22 = .ok (.ishl, 1) := by decide +kernel
theorem dX12_thereIn_23 : decode cX12_thereIn 23 = .ok (.goto 4, 3) := by decide +kernel
theorem dX12_thereIn_26 : decode cX12_thereIn 26 = .ok (.iconst 0, 1) := by decide +kernel
theorem dX12_thereIn_27 : decode cX12_thereIn 27 = .ok (.ior, 1) := by decide +kernel
theorem dX12_thereIn_28 : decode cX12_thereIn 28 = .ok (.istore_n 1, 1) := by decide +kernel
theorem dX12_thereIn_29 : decode cX12_thereIn 29 = .ok (.iinc 2 1, 3) := by decide +kernel
theorem dX12_thereIn_32 : decode cX12_thereIn 32 = .ok (.goto (-28), 3) := by decide +kernel
theorem dX12_thereIn_35 : decode cX12_thereIn 35 = .ok (.iload_n 1, 1) := by decide +kernel
theorem dX12_thereIn_36 : decode cX12_thereIn 36 = .ok (.ireturn, 1) := by decide +kernel
theorem dX12_everybody_0 : decode cX12_everybody 0 = .ok (.iconst 1, 1) := by decide +kernel
theorem dX12_everybody_1 : decode cX12_everybody 1 = .ok (.aload_n 0, 1) := by decide +kernel
theorem dX12_everybody_2 : decode cX12_everybody 2 = .ok (.iconst 3, 1) := by decide +kernel
theorem dX12_everybody_3 : decode cX12_everybody 3 = .ok (.iaload, 1) := by decide +kernel
theorem dX12_everybody_4 : decode cX12_everybody 4 = .ok (.ishl, 1) := by decide +kernel
theorem dX12_everybody_5 : decode cX12_everybody 5 = .ok (.iconst 1, 1) := by decide +kernel
theorem dX12_everybody_6 : decode cX12_everybody 6 = .ok (.isub, 1) := by decide +kernel
theorem dX12_everybody_7 : decode cX12_everybody 7 = .ok (.ireturn, 1) := by decide +kernel
theorem dX12_passes_0 : decode cX12_passes 0 = .ok (.aload_n 0, 1) := by decide +kernel
theorem dX12_passes_1 : decode cX12_passes 1 = .ok (.iconst 0, 1) := by decide +kernel
theorem dX12_passes_2 : decode cX12_passes 2 = .ok (.invokestatic 160, 3) := by decide +kernel
theorem dX12_passes_5 : decode cX12_passes 5 = .ok (.istore_n 2, 1) := by decide +kernel
theorem dX12_passes_6 : decode cX12_passes 6 = .ok (.iconst 0, 1) := by decide +kernel
theorem dX12_passes_7 : decode cX12_passes 7 = .ok (.istore_n 3, 1) := by decide +kernel
theorem dX12_passes_8 : decode cX12_passes 8 = .ok (.iload_n 3, 1) := by decide +kernel
theorem dX12_passes_9 : decode cX12_passes 9 = .ok (.aload_n 0, 1) := by decide +kernel
theorem dX12_passes_10 : decode cX12_passes 10 = .ok (.iconst 3, 1) := by decide +kernel
theorem dX12_passes_11 : decode cX12_passes 11 = .ok (.iaload, 1) := by decide +kernel
theorem dX12_passes_12 : decode cX12_passes 12 = .ok (.if_icmp .ge 106, 3) := by decide +kernel
theorem dX12_passes_15 : decode cX12_passes 15 = .ok (.iconst 4, 1) := by decide +kernel
theorem dX12_passes_16 : decode cX12_passes 16 = .ok (.iconst 5, 1) := by decide +kernel
theorem dX12_passes_17 : decode cX12_passes 17 = .ok (.iload_n 3, 1) := by decide +kernel
theorem dX12_passes_18 : decode cX12_passes 18 = .ok (.imul, 1) := by decide +kernel
theorem dX12_passes_19 : decode cX12_passes 19 = .ok (.iadd, 1) := by decide +kernel
theorem dX12_passes_20 : decode cX12_passes 20 = .ok (.istore 4, 2) := by decide +kernel
theorem dX12_passes_22 : decode cX12_passes 22 = .ok (.aload_n 0, 1) := by decide +kernel
theorem dX12_passes_23 : decode cX12_passes 23 = .ok (.iload_n 3, 1) := by decide +kernel
theorem dX12_passes_24 : decode cX12_passes 24 = .ok (.invokestatic 157, 3) := by decide +kernel
theorem dX12_passes_27 : decode cX12_passes 27 = .ok (.ifCond .ne 60, 3) := by decide +kernel
theorem dX12_passes_30 : decode cX12_passes 30 = .ok (.iload_n 1, 1) := by decide +kernel
theorem dX12_passes_31 : decode cX12_passes 31 = .ok (.iload_n 3, 1) := by decide +kernel
theorem dX12_passes_32 : decode cX12_passes 32 = .ok (.invokestatic 142, 3) := by decide +kernel
theorem dX12_passes_35 : decode cX12_passes 35 = .ok (.ifCond .ne 13, 3) := by decide +kernel
theorem dX12_passes_38 : decode cX12_passes 38 = .ok (.aload_n 0, 1) := by decide +kernel
theorem dX12_passes_39 : decode cX12_passes 39 = .ok (.iload 4, 2) := by decide +kernel
theorem dX12_passes_41 : decode cX12_passes 41 = .ok (.iconst 1, 1) := by decide +kernel
theorem dX12_passes_42 : decode cX12_passes 42 = .ok (.iadd, 1) := by decide +kernel
theorem dX12_passes_43 : decode cX12_passes 43 = .ok (.iaload, 1) := by decide +kernel
theorem dX12_passes_44 : decode cX12_passes 44 = .ok (.iload_n 2, 1) := by decide +kernel
theorem dX12_passes_45 : decode cX12_passes 45 = .ok (.if_icmp .ne 42, 3) := by decide +kernel
theorem dX12_passes_48 : decode cX12_passes 48 = .ok (.aload_n 0, 1) := by decide +kernel
theorem dX12_passes_49 : decode cX12_passes 49 = .ok (.iload 4, 2) := by decide +kernel
theorem dX12_passes_51 : decode cX12_passes 51 = .ok (.iconst 1, 1) := by decide +kernel
theorem dX12_passes_52 : decode cX12_passes 52 = .ok (.iadd, 1) := by decide +kernel
theorem dX12_passes_53 : decode cX12_passes 53 = .ok (.dup2, 1) := by decide +kernel
theorem dX12_passes_54 : decode cX12_passes 54 = .ok (.iaload, 1) := by decide +kernel
theorem dX12_passes_55 : decode cX12_passes 55 = .ok (.aload_n 0, 1) := by decide +kernel
theorem dX12_passes_56 : decode cX12_passes 56 = .ok (.iload 4, 2) := by decide +kernel
theorem dX12_passes_58 : decode cX12_passes 58 = .ok (.iconst 3, 1) := by decide +kernel
theorem dX12_passes_59 : decode cX12_passes 59 = .ok (.iadd, 1) := by decide +kernel
theorem dX12_passes_60 : decode cX12_passes 60 = .ok (.iaload, 1) := by decide +kernel
theorem dX12_passes_61 : decode cX12_passes 61 = .ok (.aload_n 0, 1) := by decide +kernel
theorem dX12_passes_62 : decode cX12_passes 62 = .ok (.iload 4, 2) := by decide +kernel
theorem dX12_passes_64 : decode cX12_passes 64 = .ok (.iconst 1, 1) := by decide +kernel
theorem dX12_passes_65 : decode cX12_passes 65 = .ok (.iadd, 1) := by decide +kernel
theorem dX12_passes_66 : decode cX12_passes 66 = .ok (.iaload, 1) := by decide +kernel
theorem dX12_passes_67 : decode cX12_passes 67 = .ok (.if_icmp .le 7, 3) := by decide +kernel
theorem dX12_passes_70 : decode cX12_passes 70 = .ok (.iconst 1, 1) := by decide +kernel
theorem dX12_passes_71 : decode cX12_passes 71 = .ok (.goto 4, 3) := by decide +kernel
theorem dX12_passes_74 : decode cX12_passes 74 = .ok (.iconst (-1), 1) := by decide +kernel
theorem dX12_passes_75 : decode cX12_passes 75 = .ok (.iadd, 1) := by decide +kernel
theorem dX12_passes_76 : decode cX12_passes 76 = .ok (.iastore, 1) := by decide +kernel
theorem dX12_passes_77 : decode cX12_passes 77 = .ok (.aload_n 0, 1) := by decide +kernel
theorem dX12_passes_78 : decode cX12_passes 78 = .ok (.iload 4, 2) := by decide +kernel
theorem dX12_passes_80 : decode cX12_passes 80 = .ok (.iconst 4, 1) := by decide +kernel
theorem dX12_passes_81 : decode cX12_passes 81 = .ok (.iadd, 1) := by decide +kernel
theorem dX12_passes_82 : decode cX12_passes 82 = .ok (.iconst 0, 1) := by decide +kernel
theorem dX12_passes_83 : decode cX12_passes 83 = .ok (.iastore, 1) := by decide +kernel
theorem dX12_passes_84 : decode cX12_passes 84 = .ok (.goto 28, 3) := by decide +kernel
theorem dX12_passes_87 : decode cX12_passes 87 = .ok (.aload_n 0, 1) := by decide +kernel
theorem dX12_passes_88 : decode cX12_passes 88 = .ok (.iload 4, 2) := by decide +kernel
theorem dX12_passes_90 : decode cX12_passes 90 = .ok (.iconst 4, 1) := by decide +kernel
theorem dX12_passes_91 : decode cX12_passes 91 = .ok (.iadd, 1) := by decide +kernel
theorem dX12_passes_92 : decode cX12_passes 92 = .ok (.dup2, 1) := by decide +kernel
theorem dX12_passes_93 : decode cX12_passes 93 = .ok (.iaload, 1) := by decide +kernel
theorem dX12_passes_94 : decode cX12_passes 94 = .ok (.aload_n 0, 1) := by decide +kernel
theorem dX12_passes_95 : decode cX12_passes 95 = .ok (.iload 4, 2) := by decide +kernel
theorem dX12_passes_97 : decode cX12_passes 97 = .ok (.iconst 4, 1) := by decide +kernel
theorem dX12_passes_98 : decode cX12_passes 98 = .ok (.iadd, 1) := by decide +kernel
theorem dX12_passes_99 : decode cX12_passes 99 = .ok (.iaload, 1) := by decide +kernel
theorem dX12_passes_100 : decode cX12_passes 100 = .ok (.bipush 99, 2) := by decide +kernel
theorem dX12_passes_102 : decode cX12_passes 102 = .ok (.if_icmp .ge 7, 3) := by decide +kernel
theorem dX12_passes_105 : decode cX12_passes 105 = .ok (.iconst 1, 1) := by decide +kernel
theorem dX12_passes_106 : decode cX12_passes 106 = .ok (.goto 4, 3) := by decide +kernel
theorem dX12_passes_109 : decode cX12_passes 109 = .ok (.iconst 0, 1) := by decide +kernel
theorem dX12_passes_110 : decode cX12_passes 110 = .ok (.iadd, 1) := by decide +kernel
theorem dX12_passes_111 : decode cX12_passes 111 = .ok (.iastore, 1) := by decide +kernel
theorem dX12_passes_112 : decode cX12_passes 112 = .ok (.iinc 3 1, 3) := by decide +kernel
theorem dX12_passes_115 : decode cX12_passes 115 = .ok (.goto (-107), 3) := by decide +kernel
theorem dX12_passes_118 : decode cX12_passes 118 = .ok (.aload_n 0, 1) := by decide +kernel
theorem dX12_passes_119 : decode cX12_passes 119 = .ok (.iconst 2, 1) := by decide +kernel
theorem dX12_passes_120 : decode cX12_passes 120 = .ok (.dup2, 1) := by decide +kernel
theorem dX12_passes_121 : decode cX12_passes 121 = .ok (.iaload, 1) := by decide +kernel
theorem dX12_passes_122 : decode cX12_passes 122 = .ok (.iconst 1, 1) := by decide +kernel
theorem dX12_passes_123 : decode cX12_passes 123 = .ok (.iadd, 1) := by decide +kernel
theorem dX12_passes_124 : decode cX12_passes 124 = .ok (.iastore, 1) := by decide +kernel
theorem dX12_passes_125 : decode cX12_passes 125 = .ok (.return_, 1) := by decide +kernel
theorem dX12_tries_0 : decode cX12_tries 0 = .ok (.aload_n 0, 1) := by decide +kernel
theorem dX12_tries_1 : decode cX12_tries 1 = .ok (.getfield 25, 3) := by decide +kernel
theorem dX12_tries_4 : decode cX12_tries 4 = .ok (.iconst 0, 1) := by decide +kernel
theorem dX12_tries_5 : decode cX12_tries 5 = .ok (.aload_n 0, 1) := by decide +kernel
theorem dX12_tries_6 : decode cX12_tries 6 = .ok (.getfield 31, 3) := by decide +kernel
theorem dX12_tries_9 : decode cX12_tries 9 = .ok (.iconst 0, 1) := by decide +kernel
theorem dX12_tries_10 : decode cX12_tries 10 = .ok (.invokestatic 128, 3) := by decide +kernel
theorem dX12_tries_13 : decode cX12_tries 13 = .ok (.iconst 0, 1) := by decide +kernel
theorem dX12_tries_14 : decode cX12_tries 14 = .ok (.istore_n 2, 1) := by decide +kernel
theorem dX12_tries_15 : decode cX12_tries 15 = .ok (.iload_n 2, 1) := by decide +kernel
theorem dX12_tries_16 : decode cX12_tries 16 = .ok (.iload_n 1, 1) := by decide +kernel
theorem dX12_tries_17 : decode cX12_tries 17 = .ok (.if_icmp .ge 17, 3) := by decide +kernel
theorem dX12_tries_20 : decode cX12_tries 20 = .ok (.aload_n 0, 1) := by decide +kernel
theorem dX12_tries_21 : decode cX12_tries 21 = .ok (.getfield 31, 3) := by decide +kernel
theorem dX12_tries_24 : decode cX12_tries 24 = .ok (.iconst 0, 1) := by decide +kernel
theorem dX12_tries_25 : decode cX12_tries 25 = .ok (.invokestatic 163, 3) := by decide +kernel
theorem dX12_tries_28 : decode cX12_tries 28 = .ok (.iinc 2 1, 3) := by decide +kernel
theorem dX12_tries_31 : decode cX12_tries 31 = .ok (.goto (-16), 3) := by decide +kernel
theorem dX12_tries_34 : decode cX12_tries 34 = .ok (.return_, 1) := by decide +kernel
theorem dX12_notes_0 : decode cX12_notes 0 = .ok (.aload_n 0, 1) := by decide +kernel
theorem dX12_notes_1 : decode cX12_notes 1 = .ok (.getfield 132, 3) := by decide +kernel
theorem dX12_notes_4 : decode cX12_notes 4 = .ok (.bipush 24, 2) := by decide +kernel
theorem dX12_notes_6 : decode cX12_notes 6 = .ok (.if_icmp .ne 43, 3) := by decide +kernel
theorem dX12_notes_9 : decode cX12_notes 9 = .ok (.iconst 0, 1) := by decide +kernel
theorem dX12_notes_10 : decode cX12_notes 10 = .ok (.istore_n 1, 1) := by decide +kernel
theorem dX12_notes_11 : decode cX12_notes 11 = .ok (.iload_n 1, 1) := by decide +kernel
theorem dX12_notes_12 : decode cX12_notes 12 = .ok (.sipush 782, 3) := by decide +kernel
theorem dX12_notes_15 : decode cX12_notes 15 = .ok (.if_icmp .ge 24, 3) := by decide +kernel
theorem dX12_notes_18 : decode cX12_notes 18 = .ok (.aload_n 0, 1) := by decide +kernel
theorem dX12_notes_19 : decode cX12_notes 19 = .ok (.getfield 34, 3) := by decide +kernel
theorem dX12_notes_22 : decode cX12_notes 22 = .ok (.iload_n 1, 1) := by decide +kernel
theorem dX12_notes_23 : decode cX12_notes 23 = .ok (.aload_n 0, 1) := by decide +kernel
theorem dX12_notes_24 : decode cX12_notes 24 = .ok (.getfield 34, 3) := by decide +kernel
theorem dX12_notes_27 : decode cX12_notes 27 = .ok (.iload_n 1, 1) := by decide +kernel
theorem dX12_notes_28 : decode cX12_notes 28 = .ok (.bipush 34, 2) := by decide +kernel
theorem dX12_notes_30 : decode cX12_notes 30 = .ok (.iadd, 1) := by decide +kernel
theorem dX12_notes_31 : decode cX12_notes 31 = .ok (.iaload, 1) := by decide +kernel
theorem dX12_notes_32 : decode cX12_notes 32 = .ok (.iastore, 1) := by decide +kernel
theorem dX12_notes_33 : decode cX12_notes 33 = .ok (.iinc 1 1, 3) := by decide +kernel
theorem dX12_notes_36 : decode cX12_notes 36 = .ok (.goto (-25), 3) := by decide +kernel
theorem dX12_notes_39 : decode cX12_notes 39 = .ok (.aload_n 0, 1) := by decide +kernel
theorem dX12_notes_40 : decode cX12_notes 40 = .ok (.dup, 1) := by decide +kernel
theorem dX12_notes_41 : decode cX12_notes 41 = .ok (.getfield 132, 3) := by decide +kernel
theorem dX12_notes_44 : decode cX12_notes 44 = .ok (.iconst 1, 1) := by decide +kernel
theorem dX12_notes_45 : decode cX12_notes 45 = .ok (.isub, 1) := by decide +kernel
theorem dX12_notes_46 : decode cX12_notes 46 = .ok (.putfield 132, 3) := by decide +kernel
theorem dX12_notes_49 : decode cX12_notes 49 = .ok (.aload_n 0, 1) := by decide +kernel
theorem dX12_notes_50 : decode cX12_notes 50 = .ok (.getfield 25, 3) := by decide +kernel
theorem dX12_notes_53 : decode cX12_notes 53 = .ok (.iconst 0, 1) := by decide +kernel
theorem dX12_notes_54 : decode cX12_notes 54 = .ok (.aload_n 0, 1) := by decide +kernel
theorem dX12_notes_55 : decode cX12_notes 55 = .ok (.getfield 34, 3) := by decide +kernel
theorem dX12_notes_58 : decode cX12_notes 58 = .ok (.bipush 34, 2) := by decide +kernel
theorem dX12_notes_60 : decode cX12_notes 60 = .ok (.aload_n 0, 1) := by decide +kernel
theorem dX12_notes_61 : decode cX12_notes 61 = .ok (.getfield 132, 3) := by decide +kernel
theorem dX12_notes_64 : decode cX12_notes 64 = .ok (.imul, 1) := by decide +kernel
theorem dX12_notes_65 : decode cX12_notes 65 = .ok (.invokestatic 128, 3) := by decide +kernel
theorem dX12_notes_68 : decode cX12_notes 68 = .ok (.aload_n 0, 1) := by decide +kernel
theorem dX12_notes_69 : decode cX12_notes 69 = .ok (.dup, 1) := by decide +kernel
theorem dX12_notes_70 : decode cX12_notes 70 = .ok (.getfield 132, 3) := by decide +kernel
theorem dX12_notes_73 : decode cX12_notes 73 = .ok (.iconst 1, 1) := by decide +kernel
theorem dX12_notes_74 : decode cX12_notes 74 = .ok (.iadd, 1) := by decide +kernel
theorem dX12_notes_75 : decode cX12_notes 75 = .ok (.putfield 132, 3) := by decide +kernel
theorem dX12_notes_78 : decode cX12_notes 78 = .ok (.return_, 1) := by decide +kernel
theorem dX12_minutes_0 : decode cX12_minutes 0 = .ok (.aload_n 0, 1) := by decide +kernel
theorem dX12_minutes_1 : decode cX12_minutes 1 = .ok (.invokevirtual 167, 3) := by decide +kernel
theorem dX12_minutes_4 : decode cX12_minutes 4 = .ok (.ifCond .ne 6, 3) := by decide +kernel
theorem dX12_minutes_7 : decode cX12_minutes 7 = .ok (.ldc 170, 2) := by decide +kernel
theorem dX12_minutes_9 : decode cX12_minutes 9 = .ok (.ireturn, 1) := by decide +kernel
theorem dX12_minutes_10 : decode cX12_minutes 10 = .ok (.iload_n 1, 1) := by decide +kernel
theorem dX12_minutes_11 : decode cX12_minutes 11 = .ok (.iconst 1, 1) := by decide +kernel
theorem dX12_minutes_12 : decode cX12_minutes 12 = .ok (.bipush 24, 2) := by decide +kernel
theorem dX12_minutes_14 : decode cX12_minutes 14 = .ok (.invokestatic 53, 3) := by decide +kernel
theorem dX12_minutes_17 : decode cX12_minutes 17 = .ok (.ifCond .ne 6, 3) := by decide +kernel
theorem dX12_minutes_20 : decode cX12_minutes 20 = .ok (.ldc 61, 2) := by decide +kernel
theorem dX12_minutes_22 : decode cX12_minutes 22 = .ok (.ireturn, 1) := by decide +kernel
theorem dX12_minutes_23 : decode cX12_minutes 23 = .ok (.aload_n 0, 1) := by decide +kernel
theorem dX12_minutes_24 : decode cX12_minutes 24 = .ok (.getfield 25, 3) := by decide +kernel
theorem dX12_minutes_27 : decode cX12_minutes 27 = .ok (.iconst 2, 1) := by decide +kernel
theorem dX12_minutes_28 : decode cX12_minutes 28 = .ok (.iaload, 1) := by decide +kernel
theorem dX12_minutes_29 : decode cX12_minutes 29 = .ok (.iload_n 1, 1) := by decide +kernel
theorem dX12_minutes_30 : decode cX12_minutes 30 = .ok (.iadd, 1) := by decide +kernel
theorem dX12_minutes_31 : decode cX12_minutes 31 = .ok (.sipush 999, 3) := by decide +kernel
theorem dX12_minutes_34 : decode cX12_minutes 34 = .ok (.if_icmp .le 6, 3) := by decide +kernel
theorem dX12_minutes_37 : decode cX12_minutes 37 = .ok (.ldc 82, 2) := by decide +kernel
theorem dX12_minutes_39 : decode cX12_minutes 39 = .ok (.ireturn, 1) := by decide +kernel
theorem dX12_minutes_40 : decode cX12_minutes 40 = .ok (.iconst 0, 1) := by decide +kernel
theorem dX12_minutes_41 : decode cX12_minutes 41 = .ok (.istore_n 2, 1) := by decide +kernel
theorem dX12_minutes_42 : decode cX12_minutes 42 = .ok (.iload_n 2, 1) := by decide +kernel
theorem dX12_minutes_43 : decode cX12_minutes 43 = .ok (.iload_n 1, 1) := by decide +kernel
theorem dX12_minutes_44 : decode cX12_minutes 44 = .ok (.if_icmp .ge 21, 3) := by decide +kernel
theorem dX12_minutes_47 : decode cX12_minutes 47 = .ok (.aload_n 0, 1) := by decide +kernel
theorem dX12_minutes_48 : decode cX12_minutes 48 = .ok (.invokevirtual 171, 3) := by decide +kernel
theorem dX12_minutes_51 : decode cX12_minutes 51 = .ok (.aload_n 0, 1) := by decide +kernel
theorem dX12_minutes_52 : decode cX12_minutes 52 = .ok (.getfield 25, 3) := by decide +kernel
theorem dX12_minutes_55 : decode cX12_minutes 55 = .ok (.iconst 0, 1) := by decide +kernel
theorem dX12_minutes_56 : decode cX12_minutes 56 = .ok (.invokestatic 163, 3) := by decide +kernel
theorem dX12_minutes_59 : decode cX12_minutes 59 = .ok (.iinc 2 1, 3) := by decide +kernel
theorem dX12_minutes_62 : decode cX12_minutes 62 = .ok (.goto (-20), 3) := by decide +kernel
theorem dX12_minutes_65 : decode cX12_minutes 65 = .ok (.aload_n 0, 1) := by decide +kernel
theorem dX12_minutes_66 : decode cX12_minutes 66 = .ok (.getfield 25, 3) := by decide +kernel
theorem dX12_minutes_69 : decode cX12_minutes 69 = .ok (.invokestatic 174, 3) := by decide +kernel
theorem dX12_minutes_72 : decode cX12_minutes 72 = .ok (.ireturn, 1) := by decide +kernel
theorem dX12_walk_0 : decode cX12_walk 0 = .ok (.aload_n 0, 1) := by decide +kernel
theorem dX12_walk_1 : decode cX12_walk 1 = .ok (.iload_n 1, 1) := by decide +kernel
theorem dX12_walk_2 : decode cX12_walk 2 = .ok (.invokevirtual 178, 3) := by decide +kernel
theorem dX12_walk_5 : decode cX12_walk 5 = .ok (.ifCond .eq 12, 3) := by decide +kernel
theorem dX12_walk_8 : decode cX12_walk 8 = .ok (.iload_n 2, 1) := by decide +kernel
theorem dX12_walk_9 : decode cX12_walk 9 = .ok (.iconst 0, 1) := by decide +kernel
theorem dX12_walk_10 : decode cX12_walk 10 = .ok (.iconst 1, 1) := by decide +kernel
theorem dX12_walk_11 : decode cX12_walk 11 = .ok (.invokestatic 53, 3) := by decide +kernel
theorem dX12_walk_14 : decode cX12_walk 14 = .ok (.ifCond .ne 6, 3) := by decide +kernel
theorem dX12_walk_17 : decode cX12_walk 17 = .ok (.ldc 61, 2) := by decide +kernel
theorem dX12_walk_19 : decode cX12_walk 19 = .ok (.ireturn, 1) := by decide +kernel
theorem dX12_walk_20 : decode cX12_walk 20 = .ok (.iconst 4, 1) := by decide +kernel
theorem dX12_walk_21 : decode cX12_walk 21 = .ok (.iconst 5, 1) := by decide +kernel
theorem dX12_walk_22 : decode cX12_walk 22 = .ok (.iload_n 1, 1) := by decide +kernel
theorem dX12_walk_23 : decode cX12_walk 23 = .ok (.imul, 1) := by decide +kernel
theorem dX12_walk_24 : decode cX12_walk 24 = .ok (.iadd, 1) := by decide +kernel
theorem dX12_walk_25 : decode cX12_walk 25 = .ok (.istore_n 3, 1) := by decide +kernel
theorem dX12_walk_26 : decode cX12_walk 26 = .ok (.aload_n 0, 1) := by decide +kernel
theorem dX12_walk_27 : decode cX12_walk 27 = .ok (.getfield 25, 3) := by decide +kernel
theorem dX12_walk_30 : decode cX12_walk 30 = .ok (.iload_n 3, 1) := by decide +kernel
theorem dX12_walk_31 : decode cX12_walk 31 = .ok (.iconst 1, 1) := by decide +kernel
theorem dX12_walk_32 : decode cX12_walk 32 = .ok (.iadd, 1) := by decide +kernel
theorem dX12_walk_33 : decode cX12_walk 33 = .ok (.iaload, 1) := by decide +kernel
theorem dX12_walk_34 : decode cX12_walk 34 = .ok (.iload_n 2, 1) := by decide +kernel
theorem dX12_walk_35 : decode cX12_walk 35 = .ok (.iconst 1, 1) := by decide +kernel
theorem dX12_walk_36 : decode cX12_walk 36 = .ok (.if_icmp .ne 7, 3) := by decide +kernel
theorem dX12_walk_39 : decode cX12_walk 39 = .ok (.iconst 1, 1) := by decide +kernel
theorem dX12_walk_40 : decode cX12_walk 40 = .ok (.goto 4, 3) := by decide +kernel
theorem dX12_walk_43 : decode cX12_walk 43 = .ok (.iconst (-1), 1) := by decide +kernel
theorem dX12_walk_44 : decode cX12_walk 44 = .ok (.iadd, 1) := by decide +kernel
theorem dX12_walk_45 : decode cX12_walk 45 = .ok (.istore 4, 2) := by decide +kernel
theorem dX12_walk_47 : decode cX12_walk 47 = .ok (.aload_n 0, 1) := by decide +kernel
theorem dX12_walk_48 : decode cX12_walk 48 = .ok (.iload 4, 2) := by decide +kernel
theorem dX12_walk_50 : decode cX12_walk 50 = .ok (.invokevirtual 181, 3) := by decide +kernel
theorem dX12_walk_53 : decode cX12_walk 53 = .ok (.ifCond .ne 6, 3) := by decide +kernel
theorem dX12_walk_56 : decode cX12_walk 56 = .ok (.ldc 170, 2) := by decide +kernel
theorem dX12_walk_58 : decode cX12_walk 58 = .ok (.ireturn, 1) := by decide +kernel
theorem dX12_walk_59 : decode cX12_walk 59 = .ok (.aload_n 0, 1) := by decide +kernel
theorem dX12_walk_60 : decode cX12_walk 60 = .ok (.invokevirtual 171, 3) := by decide +kernel
theorem dX12_walk_63 : decode cX12_walk 63 = .ok (.aload_n 0, 1) := by decide +kernel
theorem dX12_walk_64 : decode cX12_walk 64 = .ok (.getfield 25, 3) := by decide +kernel
theorem dX12_walk_67 : decode cX12_walk 67 = .ok (.iload_n 3, 1) := by decide +kernel
theorem dX12_walk_68 : decode cX12_walk 68 = .ok (.iconst 1, 1) := by decide +kernel
theorem dX12_walk_69 : decode cX12_walk 69 = .ok (.iadd, 1) := by decide +kernel
theorem dX12_walk_70 : decode cX12_walk 70 = .ok (.iload 4, 2) := by decide +kernel
theorem dX12_walk_72 : decode cX12_walk 72 = .ok (.iastore, 1) := by decide +kernel
theorem dX12_walk_73 : decode cX12_walk 73 = .ok (.aload_n 0, 1) := by decide +kernel
theorem dX12_walk_74 : decode cX12_walk 74 = .ok (.getfield 25, 3) := by decide +kernel
theorem dX12_walk_77 : decode cX12_walk 77 = .ok (.iload_n 3, 1) := by decide +kernel
theorem dX12_walk_78 : decode cX12_walk 78 = .ok (.iconst 4, 1) := by decide +kernel
theorem dX12_walk_79 : decode cX12_walk 79 = .ok (.iadd, 1) := by decide +kernel
theorem dX12_walk_80 : decode cX12_walk 80 = .ok (.iconst 0, 1) := by decide +kernel
theorem dX12_walk_81 : decode cX12_walk 81 = .ok (.iastore, 1) := by decide +kernel
theorem dX12_walk_82 : decode cX12_walk 82 = .ok (.iload 4, 2) := by decide +kernel
theorem dX12_walk_84 : decode cX12_walk 84 = .ok (.ireturn, 1) := by decide +kernel
theorem dX12_puts_0 : decode cX12_puts 0 = .ok (.aload_n 0, 1) := by decide +kernel
theorem dX12_puts_1 : decode cX12_puts 1 = .ok (.invokevirtual 171, 3) := by decide +kernel
theorem dX12_puts_4 : decode cX12_puts 4 = .ok (.aload_n 0, 1) := by decide +kernel
theorem dX12_puts_5 : decode cX12_puts 5 = .ok (.getfield 25, 3) := by decide +kernel
theorem dX12_puts_8 : decode cX12_puts 8 = .ok (.iload_n 1, 1) := by decide +kernel
theorem dX12_puts_9 : decode cX12_puts 9 = .ok (.iaload, 1) := by decide +kernel
theorem dX12_puts_10 : decode cX12_puts 10 = .ok (.istore_n 3, 1) := by decide +kernel
theorem dX12_puts_11 : decode cX12_puts 11 = .ok (.aload_n 0, 1) := by decide +kernel
theorem dX12_puts_12 : decode cX12_puts 12 = .ok (.getfield 25, 3) := by decide +kernel
theorem dX12_puts_15 : decode cX12_puts 15 = .ok (.iload_n 1, 1) := by decide +kernel
theorem dX12_puts_16 : decode cX12_puts 16 = .ok (.iload_n 2, 1) := by decide +kernel
theorem dX12_puts_17 : decode cX12_puts 17 = .ok (.iastore, 1) := by decide +kernel
theorem dX12_puts_18 : decode cX12_puts 18 = .ok (.iload_n 3, 1) := by decide +kernel
theorem dX12_puts_19 : decode cX12_puts 19 = .ok (.ireturn, 1) := by decide +kernel
theorem dX12_preach_0 : decode cX12_preach 0 = .ok (.aload_n 0, 1) := by decide +kernel
theorem dX12_preach_1 : decode cX12_preach 1 = .ok (.iload_n 1, 1) := by decide +kernel
theorem dX12_preach_2 : decode cX12_preach 2 = .ok (.invokevirtual 178, 3) := by decide +kernel
theorem dX12_preach_5 : decode cX12_preach 5 = .ok (.ifCond .eq 28, 3) := by decide +kernel
theorem dX12_preach_8 : decode cX12_preach 8 = .ok (.iload_n 2, 1) := by decide +kernel
theorem dX12_preach_9 : decode cX12_preach 9 = .ok (.iconst 0, 1) := by decide +kernel
theorem dX12_preach_10 : decode cX12_preach 10 = .ok (.bipush 20, 2) := by decide +kernel
theorem dX12_preach_12 : decode cX12_preach 12 = .ok (.invokestatic 53, 3) := by decide +kernel
theorem dX12_preach_15 : decode cX12_preach 15 = .ok (.ifCond .eq 18, 3) := by decide +kernel
theorem dX12_preach_18 : decode cX12_preach 18 = .ok (.aload_n 0, 1) := by decide +kernel
theorem dX12_preach_19 : decode cX12_preach 19 = .ok (.iconst 4, 1) := by decide +kernel
theorem dX12_preach_20 : decode cX12_preach 20 = .ok (.iconst 5, 1) := by decide +kernel
theorem dX12_preach_21 : decode cX12_preach 21 = .ok (.iload_n 1, 1) := by decide +kernel
theorem dX12_preach_22 : decode cX12_preach 22 = .ok (.imul, 1) := by decide +kernel
theorem dX12_preach_23 : decode cX12_preach 23 = .ok (.iadd, 1) := by decide +kernel
theorem dX12_preach_24 : decode cX12_preach 24 = .ok (.iconst 2, 1) := by decide +kernel
theorem dX12_preach_25 : decode cX12_preach 25 = .ok (.iadd, 1) := by decide +kernel
theorem dX12_preach_26 : decode cX12_preach 26 = .ok (.iload_n 2, 1) := by decide +kernel
theorem dX12_preach_27 : decode cX12_preach 27 = .ok (.invokevirtual 184, 3) := by decide +kernel
theorem dX12_preach_30 : decode cX12_preach 30 = .ok (.goto 5, 3) := by decide +kernel
theorem dX12_preach_33 : decode cX12_preach 33 = .ok (.ldc 61, 2) := by decide +kernel
theorem dX12_preach_35 : decode cX12_preach 35 = .ok (.ireturn, 1) := by decide +kernel
theorem dX12_wish_0 : decode cX12_wish 0 = .ok (.aload_n 0, 1) := by decide +kernel
theorem dX12_wish_1 : decode cX12_wish 1 = .ok (.iload_n 1, 1) := by decide +kernel
theorem dX12_wish_2 : decode cX12_wish 2 = .ok (.invokevirtual 178, 3) := by decide +kernel
theorem dX12_wish_5 : decode cX12_wish 5 = .ok (.ifCond .eq 26, 3) := by decide +kernel
theorem dX12_wish_8 : decode cX12_wish 8 = .ok (.aload_n 0, 1) := by decide +kernel
theorem dX12_wish_9 : decode cX12_wish 9 = .ok (.iload_n 2, 1) := by decide +kernel
theorem dX12_wish_10 : decode cX12_wish 10 = .ok (.invokevirtual 181, 3) := by decide +kernel
theorem dX12_wish_13 : decode cX12_wish 13 = .ok (.ifCond .eq 18, 3) := by decide +kernel
theorem dX12_wish_16 : decode cX12_wish 16 = .ok (.aload_n 0, 1) := by decide +kernel
theorem dX12_wish_17 : decode cX12_wish 17 = .ok (.iconst 4, 1) := by decide +kernel
theorem dX12_wish_18 : decode cX12_wish 18 = .ok (.iconst 5, 1) := by decide +kernel
theorem dX12_wish_19 : decode cX12_wish 19 = .ok (.iload_n 1, 1) := by decide +kernel
theorem dX12_wish_20 : decode cX12_wish 20 = .ok (.imul, 1) := by decide +kernel
theorem dX12_wish_21 : decode cX12_wish 21 = .ok (.iadd, 1) := by decide +kernel
theorem dX12_wish_22 : decode cX12_wish 22 = .ok (.iconst 3, 1) := by decide +kernel
theorem dX12_wish_23 : decode cX12_wish 23 = .ok (.iadd, 1) := by decide +kernel
theorem dX12_wish_24 : decode cX12_wish 24 = .ok (.iload_n 2, 1) := by decide +kernel
theorem dX12_wish_25 : decode cX12_wish 25 = .ok (.invokevirtual 184, 3) := by decide +kernel
theorem dX12_wish_28 : decode cX12_wish 28 = .ok (.goto 5, 3) := by decide +kernel
theorem dX12_wish_31 : decode cX12_wish 31 = .ok (.ldc 61, 2) := by decide +kernel
theorem dX12_wish_33 : decode cX12_wish 33 = .ok (.ireturn, 1) := by decide +kernel
theorem dX12_undo_0 : decode cX12_undo 0 = .ok (.aload_n 0, 1) := by decide +kernel
theorem dX12_undo_1 : decode cX12_undo 1 = .ok (.getfield 132, 3) := by decide +kernel
theorem dX12_undo_4 : decode cX12_undo 4 = .ok (.ifCond .ne 6, 3) := by decide +kernel
theorem dX12_undo_7 : decode cX12_undo 7 = .ok (.ldc 170, 2) := by decide +kernel
theorem dX12_undo_9 : decode cX12_undo 9 = .ok (.ireturn, 1) := by decide +kernel
theorem dX12_undo_10 : decode cX12_undo 10 = .ok (.aload_n 0, 1) := by decide +kernel
theorem dX12_undo_11 : decode cX12_undo 11 = .ok (.dup, 1) := by decide +kernel
theorem dX12_undo_12 : decode cX12_undo 12 = .ok (.getfield 132, 3) := by decide +kernel
theorem dX12_undo_15 : decode cX12_undo 15 = .ok (.iconst 1, 1) := by decide +kernel
theorem dX12_undo_16 : decode cX12_undo 16 = .ok (.isub, 1) := by decide +kernel
theorem dX12_undo_17 : decode cX12_undo 17 = .ok (.putfield 132, 3) := by decide +kernel
theorem dX12_undo_20 : decode cX12_undo 20 = .ok (.aload_n 0, 1) := by decide +kernel
theorem dX12_undo_21 : decode cX12_undo 21 = .ok (.getfield 34, 3) := by decide +kernel
theorem dX12_undo_24 : decode cX12_undo 24 = .ok (.bipush 34, 2) := by decide +kernel
theorem dX12_undo_26 : decode cX12_undo 26 = .ok (.aload_n 0, 1) := by decide +kernel
theorem dX12_undo_27 : decode cX12_undo 27 = .ok (.getfield 132, 3) := by decide +kernel
theorem dX12_undo_30 : decode cX12_undo 30 = .ok (.imul, 1) := by decide +kernel
theorem dX12_undo_31 : decode cX12_undo 31 = .ok (.aload_n 0, 1) := by decide +kernel
theorem dX12_undo_32 : decode cX12_undo 32 = .ok (.getfield 25, 3) := by decide +kernel
theorem dX12_undo_35 : decode cX12_undo 35 = .ok (.iconst 0, 1) := by decide +kernel
theorem dX12_undo_36 : decode cX12_undo 36 = .ok (.invokestatic 128, 3) := by decide +kernel
theorem dX12_undo_39 : decode cX12_undo 39 = .ok (.aload_n 0, 1) := by decide +kernel
theorem dX12_undo_40 : decode cX12_undo 40 = .ok (.getfield 132, 3) := by decide +kernel
theorem dX12_undo_43 : decode cX12_undo 43 = .ok (.ireturn, 1) := by decide +kernel
theorem dX12_person_0 : decode cX12_person 0 = .ok (.aload_n 0, 1) := by decide +kernel
theorem dX12_person_1 : decode cX12_person 1 = .ok (.iload_n 1, 1) := by decide +kernel
theorem dX12_person_2 : decode cX12_person 2 = .ok (.invokevirtual 178, 3) := by decide +kernel
theorem dX12_person_5 : decode cX12_person 5 = .ok (.ifCond .eq 12, 3) := by decide +kernel
theorem dX12_person_8 : decode cX12_person 8 = .ok (.iload_n 2, 1) := by decide +kernel
theorem dX12_person_9 : decode cX12_person 9 = .ok (.iconst 0, 1) := by decide +kernel
theorem dX12_person_10 : decode cX12_person 10 = .ok (.iconst 4, 1) := by decide +kernel
theorem dX12_person_11 : decode cX12_person 11 = .ok (.invokestatic 53, 3) := by decide +kernel
theorem dX12_person_14 : decode cX12_person 14 = .ok (.ifCond .ne 6, 3) := by decide +kernel
theorem dX12_person_17 : decode cX12_person 17 = .ok (.ldc 61, 2) := by decide +kernel
theorem dX12_person_19 : decode cX12_person 19 = .ok (.ireturn, 1) := by decide +kernel
theorem dX12_person_20 : decode cX12_person 20 = .ok (.iload_n 2, 1) := by decide +kernel
theorem dX12_person_21 : decode cX12_person 21 = .ok (.iconst 4, 1) := by decide +kernel
theorem dX12_person_22 : decode cX12_person 22 = .ok (.if_icmp .ne 14, 3) := by decide +kernel
theorem dX12_person_25 : decode cX12_person 25 = .ok (.aload_n 0, 1) := by decide +kernel
theorem dX12_person_26 : decode cX12_person 26 = .ok (.getfield 25, 3) := by decide +kernel
theorem dX12_person_29 : decode cX12_person 29 = .ok (.iload_n 1, 1) := by decide +kernel
theorem dX12_person_30 : decode cX12_person 30 = .ok (.invokestatic 146, 3) := by decide +kernel
theorem dX12_person_33 : decode cX12_person 33 = .ok (.goto 17, 3) := by decide +kernel
theorem dX12_person_36 : decode cX12_person 36 = .ok (.aload_n 0, 1) := by decide +kernel
theorem dX12_person_37 : decode cX12_person 37 = .ok (.getfield 25, 3) := by decide +kernel
theorem dX12_person_40 : decode cX12_person 40 = .ok (.iconst 4, 1) := by decide +kernel
theorem dX12_person_41 : decode cX12_person 41 = .ok (.iconst 5, 1) := by decide +kernel
theorem dX12_person_42 : decode cX12_person 42 = .ok (.iload_n 1, 1) := by decide +kernel
theorem dX12_person_43 : decode cX12_person 43 = .ok (.imul, 1) := by decide +kernel
theorem dX12_person_44 : decode cX12_person 44 = .ok (.iadd, 1) := by decide +kernel
theorem dX12_person_45 : decode cX12_person 45 = .ok (.iconst 1, 1) := by decide +kernel
theorem dX12_person_46 : decode cX12_person 46 = .ok (.iadd, 1) := by decide +kernel
theorem dX12_person_47 : decode cX12_person 47 = .ok (.iload_n 2, 1) := by decide +kernel
theorem dX12_person_48 : decode cX12_person 48 = .ok (.iadd, 1) := by decide +kernel
theorem dX12_person_49 : decode cX12_person 49 = .ok (.iaload, 1) := by decide +kernel
theorem dX12_person_50 : decode cX12_person 50 = .ok (.ireturn, 1) := by decide +kernel
theorem dX12_stop_0 : decode cX12_stop 0 = .ok (.aload_n 0, 1) := by decide +kernel
theorem dX12_stop_1 : decode cX12_stop 1 = .ok (.iload_n 1, 1) := by decide +kernel
theorem dX12_stop_2 : decode cX12_stop 2 = .ok (.invokevirtual 181, 3) := by decide +kernel
theorem dX12_stop_5 : decode cX12_stop 5 = .ok (.ifCond .eq 12, 3) := by decide +kernel
theorem dX12_stop_8 : decode cX12_stop 8 = .ok (.iload_n 2, 1) := by decide +kernel
theorem dX12_stop_9 : decode cX12_stop 9 = .ok (.iconst 0, 1) := by decide +kernel
theorem dX12_stop_10 : decode cX12_stop 10 = .ok (.iconst 1, 1) := by decide +kernel
theorem dX12_stop_11 : decode cX12_stop 11 = .ok (.invokestatic 53, 3) := by decide +kernel
theorem dX12_stop_14 : decode cX12_stop 14 = .ok (.ifCond .ne 6, 3) := by decide +kernel
theorem dX12_stop_17 : decode cX12_stop 17 = .ok (.ldc 61, 2) := by decide +kernel
theorem dX12_stop_19 : decode cX12_stop 19 = .ok (.ireturn, 1) := by decide +kernel
theorem dX12_stop_20 : decode cX12_stop 20 = .ok (.iload_n 2, 1) := by decide +kernel
theorem dX12_stop_21 : decode cX12_stop 21 = .ok (.ifCond .ne 15, 3) := by decide +kernel
theorem dX12_stop_24 : decode cX12_stop 24 = .ok (.aload_n 0, 1) := by decide +kernel
theorem dX12_stop_25 : decode cX12_stop 25 = .ok (.getfield 25, 3) := by decide +kernel
theorem dX12_stop_28 : decode cX12_stop 28 = .ok (.iload_n 1, 1) := by decide +kernel
theorem dX12_stop_29 : decode cX12_stop 29 = .ok (.iconst 0, 1) := by decide +kernel
theorem dX12_stop_30 : decode cX12_stop 30 = .ok (.invokestatic 149, 3) := by decide +kernel
theorem dX12_stop_33 : decode cX12_stop 33 = .ok (.goto 11, 3) := by decide +kernel
theorem dX12_stop_36 : decode cX12_stop 36 = .ok (.aload_n 0, 1) := by decide +kernel
theorem dX12_stop_37 : decode cX12_stop 37 = .ok (.getfield 25, 3) := by decide +kernel
theorem dX12_stop_40 : decode cX12_stop 40 = .ok (.iload_n 1, 1) := by decide +kernel
theorem dX12_stop_41 : decode cX12_stop 41 = .ok (.invokestatic 135, 3) := by decide +kernel
theorem dX12_stop_44 : decode cX12_stop 44 = .ok (.ireturn, 1) := by decide +kernel
theorem dX12_where_0 : decode cX12_where 0 = .ok (.aload_n 0, 1) := by decide +kernel
theorem dX12_where_1 : decode cX12_where 1 = .ok (.iload_n 1, 1) := by decide +kernel
theorem dX12_where_2 : decode cX12_where 2 = .ok (.invokevirtual 178, 3) := by decide +kernel
theorem dX12_where_5 : decode cX12_where 5 = .ok (.ifCond .eq 10, 3) := by decide +kernel
theorem dX12_where_8 : decode cX12_where 8 = .ok (.iload_n 2, 1) := by decide +kernel
theorem dX12_where_9 : decode cX12_where 9 = .ok (.invokestatic 187, 3) := by decide +kernel
theorem dX12_where_12 : decode cX12_where 12 = .ok (.ifCond .ne 6, 3) := by decide +kernel
theorem dX12_where_15 : decode cX12_where 15 = .ok (.ldc 61, 2) := by decide +kernel
theorem dX12_where_17 : decode cX12_where 17 = .ok (.ireturn, 1) := by decide +kernel
theorem dX12_where_18 : decode cX12_where 18 = .ok (.aload_n 0, 1) := by decide +kernel
theorem dX12_where_19 : decode cX12_where 19 = .ok (.iload_n 2, 1) := by decide +kernel
theorem dX12_where_20 : decode cX12_where 20 = .ok (.invokevirtual 190, 3) := by decide +kernel
theorem dX12_where_23 : decode cX12_where 23 = .ok (.aload_n 0, 1) := by decide +kernel
theorem dX12_where_24 : decode cX12_where 24 = .ok (.getfield 31, 3) := by decide +kernel
theorem dX12_where_27 : decode cX12_where 27 = .ok (.iconst 4, 1) := by decide +kernel
theorem dX12_where_28 : decode cX12_where 28 = .ok (.iconst 5, 1) := by decide +kernel
theorem dX12_where_29 : decode cX12_where 29 = .ok (.iload_n 1, 1) := by decide +kernel
theorem dX12_where_30 : decode cX12_where 30 = .ok (.imul, 1) := by decide +kernel
theorem dX12_where_31 : decode cX12_where 31 = .ok (.iadd, 1) := by decide +kernel
theorem dX12_where_32 : decode cX12_where 32 = .ok (.iconst 1, 1) := by decide +kernel
theorem dX12_where_33 : decode cX12_where 33 = .ok (.iadd, 1) := by decide +kernel
theorem dX12_where_34 : decode cX12_where 34 = .ok (.iaload, 1) := by decide +kernel
theorem dX12_where_35 : decode cX12_where 35 = .ok (.ireturn, 1) := by decide +kernel
theorem dX12_tram_0 : decode cX12_tram 0 = .ok (.aload_n 0, 1) := by decide +kernel
theorem dX12_tram_1 : decode cX12_tram 1 = .ok (.invokevirtual 167, 3) := by decide +kernel
theorem dX12_tram_4 : decode cX12_tram 4 = .ok (.ifCond .ne 6, 3) := by decide +kernel
theorem dX12_tram_7 : decode cX12_tram 7 = .ok (.ldc 170, 2) := by decide +kernel
theorem dX12_tram_9 : decode cX12_tram 9 = .ok (.ireturn, 1) := by decide +kernel
theorem dX12_tram_10 : decode cX12_tram 10 = .ok (.iload_n 1, 1) := by decide +kernel
theorem dX12_tram_11 : decode cX12_tram 11 = .ok (.invokestatic 187, 3) := by decide +kernel
theorem dX12_tram_14 : decode cX12_tram 14 = .ok (.ifCond .ne 6, 3) := by decide +kernel
theorem dX12_tram_17 : decode cX12_tram 17 = .ok (.ldc 61, 2) := by decide +kernel
theorem dX12_tram_19 : decode cX12_tram 19 = .ok (.ireturn, 1) := by decide +kernel
theorem dX12_tram_20 : decode cX12_tram 20 = .ok (.aload_n 0, 1) := by decide +kernel
theorem dX12_tram_21 : decode cX12_tram 21 = .ok (.iload_n 1, 1) := by decide +kernel
theorem dX12_tram_22 : decode cX12_tram 22 = .ok (.invokevirtual 190, 3) := by decide +kernel
theorem dX12_tram_25 : decode cX12_tram 25 = .ok (.aload_n 0, 1) := by decide +kernel
theorem dX12_tram_26 : decode cX12_tram 26 = .ok (.getfield 31, 3) := by decide +kernel
theorem dX12_tram_29 : decode cX12_tram 29 = .ok (.iconst 0, 1) := by decide +kernel
theorem dX12_tram_30 : decode cX12_tram 30 = .ok (.invokestatic 160, 3) := by decide +kernel
theorem dX12_tram_33 : decode cX12_tram 33 = .ok (.ireturn, 1) := by decide +kernel
theorem dX12_there_0 : decode cX12_there 0 = .ok (.aload_n 0, 1) := by decide +kernel
theorem dX12_there_1 : decode cX12_there 1 = .ok (.invokevirtual 167, 3) := by decide +kernel
theorem dX12_there_4 : decode cX12_there 4 = .ok (.ifCond .ne 6, 3) := by decide +kernel
theorem dX12_there_7 : decode cX12_there 7 = .ok (.ldc 170, 2) := by decide +kernel
theorem dX12_there_9 : decode cX12_there 9 = .ok (.ireturn, 1) := by decide +kernel
theorem dX12_there_10 : decode cX12_there 10 = .ok (.iload_n 1, 1) := by decide +kernel
theorem dX12_there_11 : decode cX12_there 11 = .ok (.invokestatic 187, 3) := by decide +kernel
theorem dX12_there_14 : decode cX12_there 14 = .ok (.ifCond .ne 6, 3) := by decide +kernel
theorem dX12_there_17 : decode cX12_there 17 = .ok (.ldc 61, 2) := by decide +kernel
theorem dX12_there_19 : decode cX12_there 19 = .ok (.ireturn, 1) := by decide +kernel
theorem dX12_there_20 : decode cX12_there 20 = .ok (.aload_n 0, 1) := by decide +kernel
theorem dX12_there_21 : decode cX12_there 21 = .ok (.iload_n 1, 1) := by decide +kernel
theorem dX12_there_22 : decode cX12_there 22 = .ok (.invokevirtual 190, 3) := by decide +kernel
theorem dX12_there_25 : decode cX12_there 25 = .ok (.aload_n 0, 1) := by decide +kernel
theorem dX12_there_26 : decode cX12_there 26 = .ok (.getfield 31, 3) := by decide +kernel
theorem dX12_there_29 : decode cX12_there 29 = .ok (.invokestatic 174, 3) := by decide +kernel
theorem dX12_there_32 : decode cX12_there 32 = .ok (.ireturn, 1) := by decide +kernel
theorem dX12_behind_0 : decode cX12_behind 0 = .ok (.iconst 0, 1) := by decide +kernel
theorem dX12_behind_1 : decode cX12_behind 1 = .ok (.istore 4, 2) := by decide +kernel
theorem dX12_behind_3 : decode cX12_behind 3 = .ok (.iload 4, 2) := by decide +kernel
theorem dX12_behind_5 : decode cX12_behind 5 = .ok (.iload_n 2, 1) := by decide +kernel
theorem dX12_behind_6 : decode cX12_behind 6 = .ok (.if_icmp .gt 33, 3) := by decide +kernel
theorem dX12_behind_9 : decode cX12_behind 9 = .ok (.aload_n 0, 1) := by decide +kernel
theorem dX12_behind_10 : decode cX12_behind 10 = .ok (.getfield 31, 3) := by decide +kernel
theorem dX12_behind_13 : decode cX12_behind 13 = .ok (.invokestatic 174, 3) := by decide +kernel
theorem dX12_behind_16 : decode cX12_behind 16 = .ok (.iload_n 1, 1) := by decide +kernel
theorem dX12_behind_17 : decode cX12_behind 17 = .ok (.iand, 1) := by decide +kernel
theorem dX12_behind_18 : decode cX12_behind 18 = .ok (.iload_n 1, 1) := by decide +kernel
theorem dX12_behind_19 : decode cX12_behind 19 = .ok (.if_icmp .ne 6, 3) := by decide +kernel
theorem dX12_behind_22 : decode cX12_behind 22 = .ok (.iload 4, 2) := by decide +kernel
theorem dX12_behind_24 : decode cX12_behind 24 = .ok (.ireturn, 1) := by decide +kernel
theorem dX12_behind_25 : decode cX12_behind 25 = .ok (.aload_n 0, 1) := by decide +kernel
theorem dX12_behind_26 : decode cX12_behind 26 = .ok (.getfield 31, 3) := by decide +kernel
theorem dX12_behind_29 : decode cX12_behind 29 = .ok (.iload_n 3, 1) := by decide +kernel
theorem dX12_behind_30 : decode cX12_behind 30 = .ok (.invokestatic 163, 3) := by decide +kernel
theorem dX12_behind_33 : decode cX12_behind 33 = .ok (.iinc 4 1, 3) := by decide +kernel
theorem dX12_behind_36 : decode cX12_behind 36 = .ok (.goto (-33), 3) := by decide +kernel
theorem dX12_behind_39 : decode cX12_behind 39 = .ok (.ldc 47, 2) := by decide +kernel
theorem dX12_behind_41 : decode cX12_behind 41 = .ok (.ireturn, 1) := by decide +kernel
theorem dX12_when_0 : decode cX12_when 0 = .ok (.aload_n 0, 1) := by decide +kernel
theorem dX12_when_1 : decode cX12_when 1 = .ok (.iload_n 1, 1) := by decide +kernel
theorem dX12_when_2 : decode cX12_when 2 = .ok (.invokevirtual 178, 3) := by decide +kernel
theorem dX12_when_5 : decode cX12_when 5 = .ok (.ifCond .ne 6, 3) := by decide +kernel
theorem dX12_when_8 : decode cX12_when 8 = .ok (.ldc 61, 2) := by decide +kernel
theorem dX12_when_10 : decode cX12_when 10 = .ok (.ireturn, 1) := by decide +kernel
theorem dX12_when_11 : decode cX12_when 11 = .ok (.aload_n 0, 1) := by decide +kernel
theorem dX12_when_12 : decode cX12_when 12 = .ok (.iconst 0, 1) := by decide +kernel
theorem dX12_when_13 : decode cX12_when 13 = .ok (.invokevirtual 190, 3) := by decide +kernel
theorem dX12_when_16 : decode cX12_when 16 = .ok (.aload_n 0, 1) := by decide +kernel
theorem dX12_when_17 : decode cX12_when 17 = .ok (.iconst 1, 1) := by decide +kernel
theorem dX12_when_18 : decode cX12_when 18 = .ok (.iload_n 1, 1) := by decide +kernel
theorem dX12_when_19 : decode cX12_when 19 = .ok (.ishl, 1) := by decide +kernel
theorem dX12_when_20 : decode cX12_when 20 = .ok (.bipush 60, 2) := by decide +kernel
theorem dX12_when_22 : decode cX12_when 22 = .ok (.iconst 0, 1) := by decide +kernel
theorem dX12_when_23 : decode cX12_when 23 = .ok (.invokevirtual 194, 3) := by decide +kernel
theorem dX12_when_26 : decode cX12_when 26 = .ok (.ireturn, 1) := by decide +kernel
theorem dX12_all_0 : decode cX12_all 0 = .ok (.aload_n 0, 1) := by decide +kernel
theorem dX12_all_1 : decode cX12_all 1 = .ok (.invokevirtual 167, 3) := by decide +kernel
theorem dX12_all_4 : decode cX12_all 4 = .ok (.ifCond .ne 6, 3) := by decide +kernel
theorem dX12_all_7 : decode cX12_all 7 = .ok (.ldc 170, 2) := by decide +kernel
theorem dX12_all_9 : decode cX12_all 9 = .ok (.ireturn, 1) := by decide +kernel
theorem dX12_all_10 : decode cX12_all 10 = .ok (.aload_n 0, 1) := by decide +kernel
theorem dX12_all_11 : decode cX12_all 11 = .ok (.iconst 0, 1) := by decide +kernel
theorem dX12_all_12 : decode cX12_all 12 = .ok (.invokevirtual 190, 3) := by decide +kernel
theorem dX12_all_15 : decode cX12_all 15 = .ok (.aload_n 0, 1) := by decide +kernel
theorem dX12_all_16 : decode cX12_all 16 = .ok (.aload_n 0, 1) := by decide +kernel
theorem dX12_all_17 : decode cX12_all 17 = .ok (.getfield 25, 3) := by decide +kernel
theorem dX12_all_20 : decode cX12_all 20 = .ok (.invokestatic 198, 3) := by decide +kernel
theorem dX12_all_23 : decode cX12_all 23 = .ok (.bipush 60, 2) := by decide +kernel
theorem dX12_all_25 : decode cX12_all 25 = .ok (.iconst 0, 1) := by decide +kernel
theorem dX12_all_26 : decode cX12_all 26 = .ok (.invokevirtual 194, 3) := by decide +kernel
theorem dX12_all_29 : decode cX12_all 29 = .ok (.ireturn, 1) := by decide +kernel
theorem dX12_never_0 : decode cX12_never 0 = .ok (.aload_n 0, 1) := by decide +kernel
theorem dX12_never_1 : decode cX12_never 1 = .ok (.invokevirtual 167, 3) := by decide +kernel
theorem dX12_never_4 : decode cX12_never 4 = .ok (.ifCond .ne 6, 3) := by decide +kernel
theorem dX12_never_7 : decode cX12_never 7 = .ok (.ldc 170, 2) := by decide +kernel
theorem dX12_never_9 : decode cX12_never 9 = .ok (.ireturn, 1) := by decide +kernel
theorem dX12_never_10 : decode cX12_never 10 = .ok (.aload_n 0, 1) := by decide +kernel
theorem dX12_never_11 : decode cX12_never 11 = .ok (.iconst 0, 1) := by decide +kernel
theorem dX12_never_12 : decode cX12_never 12 = .ok (.invokevirtual 190, 3) := by decide +kernel
theorem dX12_never_15 : decode cX12_never 15 = .ok (.iconst 0, 1) := by decide +kernel
theorem dX12_never_16 : decode cX12_never 16 = .ok (.istore_n 1, 1) := by decide +kernel
theorem dX12_never_17 : decode cX12_never 17 = .ok (.iconst 0, 1) := by decide +kernel
theorem dX12_never_18 : decode cX12_never 18 = .ok (.istore_n 2, 1) := by decide +kernel
theorem dX12_never_19 : decode cX12_never 19 = .ok (.iload_n 2, 1) := by decide +kernel
theorem dX12_never_20 : decode cX12_never 20 = .ok (.bipush 61, 2) := by decide +kernel
theorem dX12_never_22 : decode cX12_never 22 = .ok (.if_icmp .ge 27, 3) := by decide +kernel
theorem dX12_never_25 : decode cX12_never 25 = .ok (.iload_n 1, 1) := by decide +kernel
theorem dX12_never_26 : decode cX12_never 26 = .ok (.aload_n 0, 1) := by decide +kernel
theorem dX12_never_27 : decode cX12_never 27 = .ok (.getfield 31, 3) := by decide +kernel
theorem dX12_never_30 : decode cX12_never 30 = .ok (.invokestatic 174, 3) := by decide +kernel
theorem dX12_never_33 : decode cX12_never 33 = .ok (.ior, 1) := by decide +kernel
theorem dX12_never_34 : decode cX12_never 34 = .ok (.istore_n 1, 1) := by decide +kernel
theorem dX12_never_35 : decode cX12_never 35 = .ok (.aload_n 0, 1) := by decide +kernel
theorem dX12_never_36 : decode cX12_never 36 = .ok (.getfield 31, 3) := by decide +kernel
theorem dX12_never_39 : decode cX12_never 39 = .ok (.iconst 0, 1) := by decide +kernel
theorem dX12_never_40 : decode cX12_never 40 = .ok (.invokestatic 163, 3) := by decide +kernel
theorem dX12_never_43 : decode cX12_never 43 = .ok (.iinc 2 1, 3) := by decide +kernel
theorem dX12_never_46 : decode cX12_never 46 = .ok (.goto (-27), 3) := by decide +kernel
theorem dX12_never_49 : decode cX12_never 49 = .ok (.aload_n 0, 1) := by decide +kernel
theorem dX12_never_50 : decode cX12_never 50 = .ok (.getfield 25, 3) := by decide +kernel
theorem dX12_never_53 : decode cX12_never 53 = .ok (.invokestatic 198, 3) := by decide +kernel
theorem dX12_never_56 : decode cX12_never 56 = .ok (.iload_n 1, 1) := by decide +kernel
theorem dX12_never_57 : decode cX12_never 57 = .ok (.iconst (-1), 1) := by decide +kernel
theorem dX12_never_58 : decode cX12_never 58 = .ok (.ixor, 1) := by decide +kernel
theorem dX12_never_59 : decode cX12_never 59 = .ok (.iand, 1) := by decide +kernel
theorem dX12_never_60 : decode cX12_never 60 = .ok (.ireturn, 1) := by decide +kernel
theorem dX12_holding_0 : decode cX12_holding 0 = .ok (.aload_n 0, 1) := by decide +kernel
theorem dX12_holding_1 : decode cX12_holding 1 = .ok (.invokevirtual 167, 3) := by decide +kernel
theorem dX12_holding_4 : decode cX12_holding 4 = .ok (.ifCond .ne 6, 3) := by decide +kernel
theorem dX12_holding_7 : decode cX12_holding 7 = .ok (.ldc 170, 2) := by decide +kernel
theorem dX12_holding_9 : decode cX12_holding 9 = .ok (.ireturn, 1) := by decide +kernel
theorem dX12_holding_10 : decode cX12_holding 10 = .ok (.iconst 0, 1) := by decide +kernel
theorem dX12_holding_11 : decode cX12_holding 11 = .ok (.istore_n 1, 1) := by decide +kernel
theorem dX12_holding_12 : decode cX12_holding 12 = .ok (.iconst 0, 1) := by decide +kernel
theorem dX12_holding_13 : decode cX12_holding 13 = .ok (.istore_n 2, 1) := by decide +kernel
theorem dX12_holding_14 : decode cX12_holding 14 = .ok (.iload_n 2, 1) := by decide +kernel
theorem dX12_holding_15 : decode cX12_holding 15 = .ok (.aload_n 0, 1) := by decide +kernel
theorem dX12_holding_16 : decode cX12_holding 16 = .ok (.getfield 25, 3) := by decide +kernel
theorem dX12_holding_19 : decode cX12_holding 19 = .ok (.iconst 0, 1) := by decide +kernel
theorem dX12_holding_20 : decode cX12_holding 20 = .ok (.iaload, 1) := by decide +kernel
theorem dX12_holding_21 : decode cX12_holding 21 = .ok (.if_icmp .ge 38, 3) := by decide +kernel
theorem dX12_holding_24 : decode cX12_holding 24 = .ok (.iload_n 1, 1) := by decide +kernel
theorem dX12_holding_25 : decode cX12_holding 25 = .ok (.aload_n 0, 1) := by decide +kernel
theorem dX12_holding_26 : decode cX12_holding 26 = .ok (.getfield 25, 3) := by decide +kernel
theorem dX12_holding_29 : decode cX12_holding 29 = .ok (.aload_n 0, 1) := by decide +kernel
theorem dX12_holding_30 : decode cX12_holding 30 = .ok (.getfield 25, 3) := by decide +kernel
theorem dX12_holding_33 : decode cX12_holding 33 = .ok (.iload_n 2, 1) := by decide +kernel
theorem dX12_holding_34 : decode cX12_holding 34 = .ok (.iconst 0, 1) := by decide +kernel
theorem dX12_holding_35 : decode cX12_holding 35 = .ok (.invokestatic 149, 3) := by decide +kernel
theorem dX12_holding_38 : decode cX12_holding 38 = .ok (.invokestatic 153, 3) := by decide +kernel
theorem dX12_holding_41 : decode cX12_holding 41 = .ok (.ifCond .eq 9, 3) := by decide +kernel
theorem dX12_holding_44 : decode cX12_holding 44 = .ok (.iconst 1, 1) := by decide +kernel
theorem dX12_holding_45 : decode cX12_holding 45 = .ok (.iload_n 2, 1) := by decide +kernel
theorem dX12_holding_46 : decode cX12_holding 46 = .ok (.ishl, 1) := by decide +kernel
theorem dX12_holding_47 : decode cX12_holding 47 = .ok (.goto 4, 3) := by decide +kernel
theorem dX12_holding_50 : decode cX12_holding 50 = .ok (.iconst 0, 1) := by decide +kernel
theorem dX12_holding_51 : decode cX12_holding 51 = .ok (.ior, 1) := by decide +kernel
theorem dX12_holding_52 : decode cX12_holding 52 = .ok (.istore_n 1, 1) := by decide +kernel
theorem dX12_holding_53 : decode cX12_holding 53 = .ok (.iinc 2 1, 3) := by decide +kernel
theorem dX12_holding_56 : decode cX12_holding 56 = .ok (.goto (-42), 3) := by decide +kernel
theorem dX12_holding_59 : decode cX12_holding 59 = .ok (.iload_n 1, 1) := by decide +kernel
theorem dX12_holding_60 : decode cX12_holding 60 = .ok (.ireturn, 1) := by decide +kernel
theorem dX12_call_0 : decode cX12_call 0 = .ok (.aload_n 0, 1) := by decide +kernel
theorem dX12_call_1 : decode cX12_call 1 = .ok (.iload_n 1, 1) := by decide +kernel
theorem dX12_call_2 : decode cX12_call 2 = .ok (.invokevirtual 181, 3) := by decide +kernel
theorem dX12_call_5 : decode cX12_call 5 = .ok (.ifCond .eq 12, 3) := by decide +kernel
theorem dX12_call_8 : decode cX12_call 8 = .ok (.iload_n 2, 1) := by decide +kernel
theorem dX12_call_9 : decode cX12_call 9 = .ok (.iconst 0, 1) := by decide +kernel
theorem dX12_call_10 : decode cX12_call 10 = .ok (.iconst 1, 1) := by decide +kernel
theorem dX12_call_11 : decode cX12_call 11 = .ok (.invokestatic 53, 3) := by decide +kernel
theorem dX12_call_14 : decode cX12_call 14 = .ok (.ifCond .ne 6, 3) := by decide +kernel
theorem dX12_call_17 : decode cX12_call 17 = .ok (.ldc 61, 2) := by decide +kernel
theorem dX12_call_19 : decode cX12_call 19 = .ok (.ireturn, 1) := by decide +kernel
theorem dX12_call_20 : decode cX12_call 20 = .ok (.iconst 0, 1) := by decide +kernel
theorem dX12_call_21 : decode cX12_call 21 = .ok (.istore_n 3, 1) := by decide +kernel
theorem dX12_call_22 : decode cX12_call 22 = .ok (.iload_n 3, 1) := by decide +kernel
theorem dX12_call_23 : decode cX12_call 23 = .ok (.bipush 41, 2) := by decide +kernel
theorem dX12_call_25 : decode cX12_call 25 = .ok (.if_icmp .ge 91, 3) := by decide +kernel
theorem dX12_call_28 : decode cX12_call 28 = .ok (.iconst 0, 1) := by decide +kernel
theorem dX12_call_29 : decode cX12_call 29 = .ok (.istore 4, 2) := by decide +kernel
theorem dX12_call_31 : decode cX12_call 31 = .ok (.iload 4, 2) := by decide +kernel
theorem dX12_call_33 : decode cX12_call 33 = .ok (.aload_n 0, 1) := by decide +kernel
theorem dX12_call_34 : decode cX12_call 34 = .ok (.getfield 25, 3) := by decide +kernel
theorem dX12_call_37 : decode cX12_call 37 = .ok (.iconst 3, 1) := by decide +kernel
theorem dX12_call_38 : decode cX12_call 38 = .ok (.iaload, 1) := by decide +kernel
theorem dX12_call_39 : decode cX12_call 39 = .ok (.if_icmp .ge 71, 3) := by decide +kernel
theorem dX12_call_42 : decode cX12_call 42 = .ok (.aload_n 0, 1) := by decide +kernel
theorem dX12_call_43 : decode cX12_call 43 = .ok (.getfield 25, 3) := by decide +kernel
theorem dX12_call_46 : decode cX12_call 46 = .ok (.iconst 4, 1) := by decide +kernel
theorem dX12_call_47 : decode cX12_call 47 = .ok (.iconst 5, 1) := by decide +kernel
theorem dX12_call_48 : decode cX12_call 48 = .ok (.iload 4, 2) := by decide +kernel
theorem dX12_call_50 : decode cX12_call 50 = .ok (.imul, 1) := by decide +kernel
theorem dX12_call_51 : decode cX12_call 51 = .ok (.iadd, 1) := by decide +kernel
theorem dX12_call_52 : decode cX12_call 52 = .ok (.iconst 1, 1) := by decide +kernel
theorem dX12_call_53 : decode cX12_call 53 = .ok (.iadd, 1) := by decide +kernel
theorem dX12_call_54 : decode cX12_call 54 = .ok (.iaload, 1) := by decide +kernel
theorem dX12_call_55 : decode cX12_call 55 = .ok (.iload_n 1, 1) := by decide +kernel
theorem dX12_call_56 : decode cX12_call 56 = .ok (.if_icmp .ne 48, 3) := by decide +kernel
theorem dX12_call_59 : decode cX12_call 59 = .ok (.aload_n 0, 1) := by decide +kernel
theorem dX12_call_60 : decode cX12_call 60 = .ok (.iconst 0, 1) := by decide +kernel
theorem dX12_call_61 : decode cX12_call 61 = .ok (.invokevirtual 190, 3) := by decide +kernel
theorem dX12_call_64 : decode cX12_call 64 = .ok (.aload_n 0, 1) := by decide +kernel
theorem dX12_call_65 : decode cX12_call 65 = .ok (.getfield 31, 3) := by decide +kernel
theorem dX12_call_68 : decode cX12_call 68 = .ok (.iconst 4, 1) := by decide +kernel
theorem dX12_call_69 : decode cX12_call 69 = .ok (.iconst 5, 1) := by decide +kernel
theorem dX12_call_70 : decode cX12_call 70 = .ok (.iload 4, 2) := by decide +kernel
theorem dX12_call_72 : decode cX12_call 72 = .ok (.imul, 1) := by decide +kernel
theorem dX12_call_73 : decode cX12_call 73 = .ok (.iadd, 1) := by decide +kernel
theorem dX12_call_74 : decode cX12_call 74 = .ok (.iconst 2, 1) := by decide +kernel
theorem dX12_call_75 : decode cX12_call 75 = .ok (.iadd, 1) := by decide +kernel
theorem dX12_call_76 : decode cX12_call 76 = .ok (.dup2, 1) := by decide +kernel
theorem dX12_call_77 : decode cX12_call 77 = .ok (.iaload, 1) := by decide +kernel
theorem dX12_call_78 : decode cX12_call 78 = .ok (.iload_n 3, 1) := by decide +kernel
theorem dX12_call_79 : decode cX12_call 79 = .ok (.iadd, 1) := by decide +kernel
theorem dX12_call_80 : decode cX12_call 80 = .ok (.iastore, 1) := by decide +kernel
theorem dX12_call_81 : decode cX12_call 81 = .ok (.aload_n 0, 1) := by decide +kernel
theorem dX12_call_82 : decode cX12_call 82 = .ok (.getfield 31, 3) := by decide +kernel
theorem dX12_call_85 : decode cX12_call 85 = .ok (.iconst 0, 1) := by decide +kernel
theorem dX12_call_86 : decode cX12_call 86 = .ok (.invokestatic 160, 3) := by decide +kernel
theorem dX12_call_89 : decode cX12_call 89 = .ok (.iload_n 1, 1) := by decide +kernel
theorem dX12_call_90 : decode cX12_call 90 = .ok (.if_icmp .ne 14, 3) := by decide +kernel
theorem dX12_call_93 : decode cX12_call 93 = .ok (.iload_n 2, 1) := by decide +kernel
theorem dX12_call_94 : decode cX12_call 94 = .ok (.ifCond .ne 7, 3) := by decide +kernel
theorem dX12_call_97 : decode cX12_call 97 = .ok (.iload_n 3, 1) := by decide +kernel
theorem dX12_call_98 : decode cX12_call 98 = .ok (.goto 5, 3) := by decide +kernel
theorem dX12_call_101 : decode cX12_call 101 = .ok (.iload 4, 2) := by decide +kernel
theorem dX12_call_103 : decode cX12_call 103 = .ok (.ireturn, 1) := by decide +kernel
theorem dX12_call_104 : decode cX12_call 104 = .ok (.iinc 4 1, 3) := by decide +kernel
theorem dX12_call_107 : decode cX12_call 107 = .ok (.goto (-76), 3) := by decide +kernel
theorem dX12_call_110 : decode cX12_call 110 = .ok (.iinc 3 1, 3) := by decide +kernel
theorem dX12_call_113 : decode cX12_call 113 = .ok (.goto (-91), 3) := by decide +kernel
theorem dX12_call_116 : decode cX12_call 116 = .ok (.ldc 47, 2) := by decide +kernel
theorem dX12_call_118 : decode cX12_call 118 = .ok (.ireturn, 1) := by decide +kernel
theorem dX12_go_0 : decode cX12_go 0 = .ok (.aload_n 0, 1) := by decide +kernel
theorem dX12_go_1 : decode cX12_go 1 = .ok (.iload_n 1, 1) := by decide +kernel
theorem dX12_go_2 : decode cX12_go 2 = .ok (.invokevirtual 178, 3) := by decide +kernel
theorem dX12_go_5 : decode cX12_go 5 = .ok (.ifCond .eq 12, 3) := by decide +kernel
theorem dX12_go_8 : decode cX12_go 8 = .ok (.iload_n 2, 1) := by decide +kernel
theorem dX12_go_9 : decode cX12_go 9 = .ok (.iconst 0, 1) := by decide +kernel
theorem dX12_go_10 : decode cX12_go 10 = .ok (.iconst 1, 1) := by decide +kernel
theorem dX12_go_11 : decode cX12_go 11 = .ok (.invokestatic 53, 3) := by decide +kernel
theorem dX12_go_14 : decode cX12_go 14 = .ok (.ifCond .ne 6, 3) := by decide +kernel
theorem dX12_go_17 : decode cX12_go 17 = .ok (.ldc 61, 2) := by decide +kernel
theorem dX12_go_19 : decode cX12_go 19 = .ok (.ireturn, 1) := by decide +kernel
theorem dX12_go_20 : decode cX12_go 20 = .ok (.iconst 4, 1) := by decide +kernel
theorem dX12_go_21 : decode cX12_go 21 = .ok (.iconst 5, 1) := by decide +kernel
theorem dX12_go_22 : decode cX12_go 22 = .ok (.iload_n 1, 1) := by decide +kernel
theorem dX12_go_23 : decode cX12_go 23 = .ok (.imul, 1) := by decide +kernel
theorem dX12_go_24 : decode cX12_go 24 = .ok (.iadd, 1) := by decide +kernel
theorem dX12_go_25 : decode cX12_go 25 = .ok (.istore_n 3, 1) := by decide +kernel
theorem dX12_go_26 : decode cX12_go 26 = .ok (.ldc 47, 2) := by decide +kernel
theorem dX12_go_28 : decode cX12_go 28 = .ok (.istore 4, 2) := by decide +kernel
theorem dX12_go_30 : decode cX12_go 30 = .ok (.ldc 47, 2) := by decide +kernel
theorem dX12_go_32 : decode cX12_go 32 = .ok (.istore 5, 2) := by decide +kernel
theorem dX12_go_34 : decode cX12_go 34 = .ok (.iconst 0, 1) := by decide +kernel
theorem dX12_go_35 : decode cX12_go 35 = .ok (.istore 6, 2) := by decide +kernel
theorem dX12_go_37 : decode cX12_go 37 = .ok (.iload 6, 2) := by decide +kernel
theorem dX12_go_39 : decode cX12_go 39 = .ok (.aload_n 0, 1) := by decide +kernel
theorem dX12_go_40 : decode cX12_go 40 = .ok (.getfield 25, 3) := by decide +kernel
theorem dX12_go_43 : decode cX12_go 43 = .ok (.iconst 0, 1) := by decide +kernel
theorem dX12_go_44 : decode cX12_go 44 = .ok (.iaload, 1) := by decide +kernel
theorem dX12_go_45 : decode cX12_go 45 = .ok (.if_icmp .ge 138, 3) := by decide +kernel
theorem dX12_go_48 : decode cX12_go 48 = .ok (.iload 6, 2) := by decide +kernel
theorem dX12_go_50 : decode cX12_go 50 = .ok (.aload_n 0, 1) := by decide +kernel
theorem dX12_go_51 : decode cX12_go 51 = .ok (.getfield 25, 3) := by decide +kernel
theorem dX12_go_54 : decode cX12_go 54 = .ok (.iload_n 3, 1) := by decide +kernel
theorem dX12_go_55 : decode cX12_go 55 = .ok (.iconst 3, 1) := by decide +kernel
theorem dX12_go_56 : decode cX12_go 56 = .ok (.iadd, 1) := by decide +kernel
theorem dX12_go_57 : decode cX12_go 57 = .ok (.iaload, 1) := by decide +kernel
theorem dX12_go_58 : decode cX12_go 58 = .ok (.if_icmp .eq 119, 3) := by decide +kernel
theorem dX12_go_61 : decode cX12_go 61 = .ok (.aload_n 0, 1) := by decide +kernel
theorem dX12_go_62 : decode cX12_go 62 = .ok (.iconst 0, 1) := by decide +kernel
theorem dX12_go_63 : decode cX12_go 63 = .ok (.invokevirtual 190, 3) := by decide +kernel
theorem dX12_go_66 : decode cX12_go 66 = .ok (.aload_n 0, 1) := by decide +kernel
theorem dX12_go_67 : decode cX12_go 67 = .ok (.getfield 31, 3) := by decide +kernel
theorem dX12_go_70 : decode cX12_go 70 = .ok (.iload_n 3, 1) := by decide +kernel
theorem dX12_go_71 : decode cX12_go 71 = .ok (.iconst 4, 1) := by decide +kernel
theorem dX12_go_72 : decode cX12_go 72 = .ok (.iadd, 1) := by decide +kernel
theorem dX12_go_73 : decode cX12_go 73 = .ok (.iload 6, 2) := by decide +kernel
theorem dX12_go_75 : decode cX12_go 75 = .ok (.aload_n 0, 1) := by decide +kernel
theorem dX12_go_76 : decode cX12_go 76 = .ok (.getfield 25, 3) := by decide +kernel
theorem dX12_go_79 : decode cX12_go 79 = .ok (.iload_n 3, 1) := by decide +kernel
theorem dX12_go_80 : decode cX12_go 80 = .ok (.iconst 1, 1) := by decide +kernel
theorem dX12_go_81 : decode cX12_go 81 = .ok (.iadd, 1) := by decide +kernel
theorem dX12_go_82 : decode cX12_go 82 = .ok (.iaload, 1) := by decide +kernel
theorem dX12_go_83 : decode cX12_go 83 = .ok (.if_icmp .ne 14, 3) := by decide +kernel
theorem dX12_go_86 : decode cX12_go 86 = .ok (.aload_n 0, 1) := by decide +kernel
theorem dX12_go_87 : decode cX12_go 87 = .ok (.getfield 25, 3) := by decide +kernel
theorem dX12_go_90 : decode cX12_go 90 = .ok (.iload_n 3, 1) := by decide +kernel
theorem dX12_go_91 : decode cX12_go 91 = .ok (.iconst 4, 1) := by decide +kernel
theorem dX12_go_92 : decode cX12_go 92 = .ok (.iadd, 1) := by decide +kernel
theorem dX12_go_93 : decode cX12_go 93 = .ok (.iaload, 1) := by decide +kernel
theorem dX12_go_94 : decode cX12_go 94 = .ok (.goto 4, 3) := by decide +kernel
theorem dX12_go_97 : decode cX12_go 97 = .ok (.iconst 0, 1) := by decide +kernel
theorem dX12_go_98 : decode cX12_go 98 = .ok (.iastore, 1) := by decide +kernel
theorem dX12_go_99 : decode cX12_go 99 = .ok (.aload_n 0, 1) := by decide +kernel
theorem dX12_go_100 : decode cX12_go 100 = .ok (.getfield 31, 3) := by decide +kernel
theorem dX12_go_103 : decode cX12_go 103 = .ok (.iload_n 3, 1) := by decide +kernel
theorem dX12_go_104 : decode cX12_go 104 = .ok (.iconst 1, 1) := by decide +kernel
theorem dX12_go_105 : decode cX12_go 105 = .ok (.iadd, 1) := by decide +kernel
theorem dX12_go_106 : decode cX12_go 106 = .ok (.iload 6, 2) := by decide +kernel
theorem dX12_go_108 : decode cX12_go 108 = .ok (.iastore, 1) := by decide +kernel
theorem dX12_go_109 : decode cX12_go 109 = .ok (.aload_n 0, 1) := by decide +kernel
theorem dX12_go_110 : decode cX12_go 110 = .ok (.iconst 1, 1) := by decide +kernel
theorem dX12_go_111 : decode cX12_go 111 = .ok (.iload_n 1, 1) := by decide +kernel
theorem dX12_go_112 : decode cX12_go 112 = .ok (.ishl, 1) := by decide +kernel
theorem dX12_go_113 : decode cX12_go 113 = .ok (.bipush 60, 2) := by decide +kernel
theorem dX12_go_115 : decode cX12_go 115 = .ok (.iconst 0, 1) := by decide +kernel
theorem dX12_go_116 : decode cX12_go 116 = .ok (.invokevirtual 194, 3) := by decide +kernel
theorem dX12_go_119 : decode cX12_go 119 = .ok (.istore 7, 2) := by decide +kernel
theorem dX12_go_121 : decode cX12_go 121 = .ok (.iload 7, 2) := by decide +kernel
theorem dX12_go_123 : decode cX12_go 123 = .ok (.ldc 47, 2) := by decide +kernel
theorem dX12_go_125 : decode cX12_go 125 = .ok (.if_icmp .eq 21, 3) := by decide +kernel
theorem dX12_go_128 : decode cX12_go 128 = .ok (.iload 5, 2) := by decide +kernel
theorem dX12_go_130 : decode cX12_go 130 = .ok (.ldc 47, 2) := by decide +kernel
theorem dX12_go_132 : decode cX12_go 132 = .ok (.if_icmp .eq 10, 3) := by decide +kernel
theorem dX12_go_135 : decode cX12_go 135 = .ok (.iload 7, 2) := by decide +kernel
theorem dX12_go_137 : decode cX12_go 137 = .ok (.iload 5, 2) := by decide +kernel
theorem dX12_go_139 : decode cX12_go 139 = .ok (.if_icmp .ge 7, 3) := by decide +kernel
theorem dX12_go_142 : decode cX12_go 142 = .ok (.iconst 1, 1) := by decide +kernel
theorem dX12_go_143 : decode cX12_go 143 = .ok (.goto 4, 3) := by decide +kernel
theorem dX12_go_146 : decode cX12_go 146 = .ok (.iconst 0, 1) := by decide +kernel
theorem dX12_go_147 : decode cX12_go 147 = .ok (.istore 8, 2) := by decide +kernel
theorem dX12_go_149 : decode cX12_go 149 = .ok (.iload 8, 2) := by decide +kernel
theorem dX12_go_151 : decode cX12_go 151 = .ok (.ifCond .eq 8, 3) := by decide +kernel
theorem dX12_go_154 : decode cX12_go 154 = .ok (.iload 6, 2) := by decide +kernel
theorem dX12_go_156 : decode cX12_go 156 = .ok (.goto 5, 3) := by decide +kernel
theorem dX12_go_159 : decode cX12_go 159 = .ok (.iload 4, 2) := by decide +kernel
theorem dX12_go_161 : decode cX12_go 161 = .ok (.istore 4, 2) := by decide +kernel
theorem dX12_go_163 : decode cX12_go 163 = .ok (.iload 8, 2) := by decide +kernel
theorem dX12_go_165 : decode cX12_go 165 = .ok (.ifCond .eq 8, 3) := by decide +kernel
theorem dX12_go_168 : decode cX12_go 168 = .ok (.iload 7, 2) := by decide +kernel
theorem dX12_go_170 : decode cX12_go 170 = .ok (.goto 5, 3) := by decide +kernel
theorem dX12_go_173 : decode cX12_go 173 = .ok (.iload 5, 2) := by decide +kernel
theorem dX12_go_175 : decode cX12_go 175 = .ok (.istore 5, 2) := by decide +kernel
theorem dX12_go_177 : decode cX12_go 177 = .ok (.iinc 6 1, 3) := by decide +kernel
theorem dX12_go_180 : decode cX12_go 180 = .ok (.goto (-143), 3) := by decide +kernel
theorem dX12_go_183 : decode cX12_go 183 = .ok (.iload_n 2, 1) := by decide +kernel
theorem dX12_go_184 : decode cX12_go 184 = .ok (.ifCond .ne 8, 3) := by decide +kernel
theorem dX12_go_187 : decode cX12_go 187 = .ok (.iload 4, 2) := by decide +kernel
theorem dX12_go_189 : decode cX12_go 189 = .ok (.goto 5, 3) := by decide +kernel
theorem dX12_go_192 : decode cX12_go 192 = .ok (.iload 5, 2) := by decide +kernel
theorem dX12_go_194 : decode cX12_go 194 = .ok (.ireturn, 1) := by decide +kernel
theorem dX12_walkers_0 : decode cX12_walkers 0 = .ok (.aload_n 0, 1) := by decide +kernel
theorem dX12_walkers_1 : decode cX12_walkers 1 = .ok (.invokevirtual 167, 3) := by decide +kernel
theorem dX12_walkers_4 : decode cX12_walkers 4 = .ok (.ifCond .ne 6, 3) := by decide +kernel
theorem dX12_walkers_7 : decode cX12_walkers 7 = .ok (.ldc 170, 2) := by decide +kernel
theorem dX12_walkers_9 : decode cX12_walkers 9 = .ok (.ireturn, 1) := by decide +kernel
theorem dX12_walkers_10 : decode cX12_walkers 10 = .ok (.iload_n 1, 1) := by decide +kernel
theorem dX12_walkers_11 : decode cX12_walkers 11 = .ok (.invokestatic 187, 3) := by decide +kernel
theorem dX12_walkers_14 : decode cX12_walkers 14 = .ok (.ifCond .eq 12, 3) := by decide +kernel
theorem dX12_walkers_17 : decode cX12_walkers 17 = .ok (.iload_n 2, 1) := by decide +kernel
theorem dX12_walkers_18 : decode cX12_walkers 18 = .ok (.iconst 0, 1) := by decide +kernel
theorem dX12_walkers_19 : decode cX12_walkers 19 = .ok (.iconst 1, 1) := by decide +kernel
theorem dX12_walkers_20 : decode cX12_walkers 20 = .ok (.invokestatic 53, 3) := by decide +kernel
theorem dX12_walkers_23 : decode cX12_walkers 23 = .ok (.ifCond .ne 6, 3) := by decide +kernel
theorem dX12_walkers_26 : decode cX12_walkers 26 = .ok (.ldc 61, 2) := by decide +kernel
theorem dX12_walkers_28 : decode cX12_walkers 28 = .ok (.ireturn, 1) := by decide +kernel
theorem dX12_walkers_29 : decode cX12_walkers 29 = .ok (.ldc 47, 2) := by decide +kernel
theorem dX12_walkers_31 : decode cX12_walkers 31 = .ok (.istore_n 3, 1) := by decide +kernel
theorem dX12_walkers_32 : decode cX12_walkers 32 = .ok (.iconst 0, 1) := by decide +kernel
theorem dX12_walkers_33 : decode cX12_walkers 33 = .ok (.istore 4, 2) := by decide +kernel
theorem dX12_walkers_35 : decode cX12_walkers 35 = .ok (.iload 4, 2) := by decide +kernel
theorem dX12_walkers_37 : decode cX12_walkers 37 = .ok (.aload_n 0, 1) := by decide +kernel
theorem dX12_walkers_38 : decode cX12_walkers 38 = .ok (.getfield 25, 3) := by decide +kernel
theorem dX12_walkers_41 : decode cX12_walkers 41 = .ok (.invokestatic 198, 3) := by decide +kernel
theorem dX12_walkers_44 : decode cX12_walkers 44 = .ok (.if_icmp .gt 58, 3) := by decide +kernel
theorem dX12_walkers_47 : decode cX12_walkers 47 = .ok (.iload_n 3, 1) := by decide +kernel
theorem dX12_walkers_48 : decode cX12_walkers 48 = .ok (.ldc 47, 2) := by decide +kernel
theorem dX12_walkers_50 : decode cX12_walkers 50 = .ok (.if_icmp .eq 15, 3) := by decide +kernel
theorem dX12_walkers_53 : decode cX12_walkers 53 = .ok (.iload 4, 2) := by decide +kernel
theorem dX12_walkers_55 : decode cX12_walkers 55 = .ok (.invokestatic 139, 3) := by decide +kernel
theorem dX12_walkers_58 : decode cX12_walkers 58 = .ok (.iload_n 3, 1) := by decide +kernel
theorem dX12_walkers_59 : decode cX12_walkers 59 = .ok (.invokestatic 139, 3) := by decide +kernel
theorem dX12_walkers_62 : decode cX12_walkers 62 = .ok (.if_icmp .ge 34, 3) := by decide +kernel
theorem dX12_walkers_65 : decode cX12_walkers 65 = .ok (.aload_n 0, 1) := by decide +kernel
theorem dX12_walkers_66 : decode cX12_walkers 66 = .ok (.iconst 0, 1) := by decide +kernel
theorem dX12_walkers_67 : decode cX12_walkers 67 = .ok (.invokevirtual 190, 3) := by decide +kernel
theorem dX12_walkers_70 : decode cX12_walkers 70 = .ok (.aload_n 0, 1) := by decide +kernel
theorem dX12_walkers_71 : decode cX12_walkers 71 = .ok (.aload_n 0, 1) := by decide +kernel
theorem dX12_walkers_72 : decode cX12_walkers 72 = .ok (.getfield 25, 3) := by decide +kernel
theorem dX12_walkers_75 : decode cX12_walkers 75 = .ok (.invokestatic 198, 3) := by decide +kernel
theorem dX12_walkers_78 : decode cX12_walkers 78 = .ok (.iload_n 1, 1) := by decide +kernel
theorem dX12_walkers_79 : decode cX12_walkers 79 = .ok (.iload 4, 2) := by decide +kernel
theorem dX12_walkers_81 : decode cX12_walkers 81 = .ok (.invokevirtual 194, 3) := by decide +kernel
theorem dX12_walkers_84 : decode cX12_walkers 84 = .ok (.ldc 47, 2) := by decide +kernel
theorem dX12_walkers_86 : decode cX12_walkers 86 = .ok (.if_icmp .eq 8, 3) := by decide +kernel
theorem dX12_walkers_89 : decode cX12_walkers 89 = .ok (.iload 4, 2) := by decide +kernel
theorem dX12_walkers_91 : decode cX12_walkers 91 = .ok (.goto 4, 3) := by decide +kernel
theorem dX12_walkers_94 : decode cX12_walkers 94 = .ok (.iload_n 3, 1) := by decide +kernel
theorem dX12_walkers_95 : decode cX12_walkers 95 = .ok (.istore_n 3, 1) := by decide +kernel
theorem dX12_walkers_96 : decode cX12_walkers 96 = .ok (.iinc 4 1, 3) := by decide +kernel
theorem dX12_walkers_99 : decode cX12_walkers 99 = .ok (.goto (-64), 3) := by decide +kernel
theorem dX12_walkers_102 : decode cX12_walkers 102 = .ok (.iload_n 3, 1) := by decide +kernel
theorem dX12_walkers_103 : decode cX12_walkers 103 = .ok (.ldc 47, 2) := by decide +kernel
theorem dX12_walkers_105 : decode cX12_walkers 105 = .ok (.if_icmp .eq 8, 3) := by decide +kernel
theorem dX12_walkers_108 : decode cX12_walkers 108 = .ok (.iload_n 2, 1) := by decide +kernel
theorem dX12_walkers_109 : decode cX12_walkers 109 = .ok (.iconst 1, 1) := by decide +kernel
theorem dX12_walkers_110 : decode cX12_walkers 110 = .ok (.if_icmp .ne 7, 3) := by decide +kernel
theorem dX12_walkers_113 : decode cX12_walkers 113 = .ok (.iload_n 3, 1) := by decide +kernel
theorem dX12_walkers_114 : decode cX12_walkers 114 = .ok (.goto 7, 3) := by decide +kernel
theorem dX12_walkers_117 : decode cX12_walkers 117 = .ok (.iload_n 3, 1) := by decide +kernel
theorem dX12_walkers_118 : decode cX12_walkers 118 = .ok (.invokestatic 139, 3) := by decide +kernel
theorem dX12_walkers_121 : decode cX12_walkers 121 = .ok (.ireturn, 1) := by decide +kernel
theorem dX12_goesSo_0 : decode cX12_goesSo 0 = .ok (.iconst 1, 1) := by decide +kernel
theorem dX12_goesSo_1 : decode cX12_goesSo 1 = .ok (.istore_n 3, 1) := by decide +kernel
theorem dX12_goesSo_2 : decode cX12_goesSo 2 = .ok (.iconst 0, 1) := by decide +kernel
theorem dX12_goesSo_3 : decode cX12_goesSo 3 = .ok (.istore 4, 2) := by decide +kernel
theorem dX12_goesSo_5 : decode cX12_goesSo 5 = .ok (.iload 4, 2) := by decide +kernel
theorem dX12_goesSo_7 : decode cX12_goesSo 7 = .ok (.iload_n 2, 1) := by decide +kernel
theorem dX12_goesSo_8 : decode cX12_goesSo 8 = .ok (.if_icmp .ge 62, 3) := by decide +kernel
theorem dX12_goesSo_11 : decode cX12_goesSo 11 = .ok (.aload_n 0, 1) := by decide +kernel
theorem dX12_goesSo_12 : decode cX12_goesSo 12 = .ok (.getfield 31, 3) := by decide +kernel
theorem dX12_goesSo_15 : decode cX12_goesSo 15 = .ok (.iconst 0, 1) := by decide +kernel
theorem dX12_goesSo_16 : decode cX12_goesSo 16 = .ok (.invokestatic 160, 3) := by decide +kernel
theorem dX12_goesSo_19 : decode cX12_goesSo 19 = .ok (.istore 5, 2) := by decide +kernel
theorem dX12_goesSo_21 : decode cX12_goesSo 21 = .ok (.iload_n 3, 1) := by decide +kernel
theorem dX12_goesSo_22 : decode cX12_goesSo 22 = .ok (.ifCond .eq 32, 3) := by decide +kernel
theorem dX12_goesSo_25 : decode cX12_goesSo 25 = .ok (.iload 5, 2) := by decide +kernel
theorem dX12_goesSo_27 : decode cX12_goesSo 27 = .ok (.ldc 47, 2) := by decide +kernel
theorem dX12_goesSo_29 : decode cX12_goesSo 29 = .ok (.if_icmp .ne 7, 3) := by decide +kernel
theorem dX12_goesSo_32 : decode cX12_goesSo 32 = .ok (.iconst (-1), 1) := by decide +kernel
theorem dX12_goesSo_33 : decode cX12_goesSo 33 = .ok (.goto 5, 3) := by decide +kernel
theorem dX12_goesSo_36 : decode cX12_goesSo 36 = .ok (.iload 5, 2) := by decide +kernel
theorem dX12_goesSo_38 : decode cX12_goesSo 38 = .ok (.aload_n 0, 1) := by decide +kernel
theorem dX12_goesSo_39 : decode cX12_goesSo 39 = .ok (.getfield 16, 3) := by decide +kernel
theorem dX12_goesSo_42 : decode cX12_goesSo 42 = .ok (.iload_n 1, 1) := by decide +kernel
theorem dX12_goesSo_43 : decode cX12_goesSo 43 = .ok (.iload 4, 2) := by decide +kernel
theorem dX12_goesSo_45 : decode cX12_goesSo 45 = .ok (.iadd, 1) := by decide +kernel
theorem dX12_goesSo_46 : decode cX12_goesSo 46 = .ok (.iaload, 1) := by decide +kernel
theorem dX12_goesSo_47 : decode cX12_goesSo 47 = .ok (.if_icmp .ne 7, 3) := by decide +kernel
theorem dX12_goesSo_50 : decode cX12_goesSo 50 = .ok (.iconst 1, 1) := by decide +kernel
theorem dX12_goesSo_51 : decode cX12_goesSo 51 = .ok (.goto 4, 3) := by decide +kernel
theorem dX12_goesSo_54 : decode cX12_goesSo 54 = .ok (.iconst 0, 1) := by decide +kernel
theorem dX12_goesSo_55 : decode cX12_goesSo 55 = .ok (.istore_n 3, 1) := by decide +kernel
theorem dX12_goesSo_56 : decode cX12_goesSo 56 = .ok (.aload_n 0, 1) := by decide +kernel
theorem dX12_goesSo_57 : decode cX12_goesSo 57 = .ok (.getfield 31, 3) := by decide +kernel
theorem dX12_goesSo_60 : decode cX12_goesSo 60 = .ok (.iconst 0, 1) := by decide +kernel
theorem dX12_goesSo_61 : decode cX12_goesSo 61 = .ok (.invokestatic 163, 3) := by decide +kernel
theorem dX12_goesSo_64 : decode cX12_goesSo 64 = .ok (.iinc 4 1, 3) := by decide +kernel
theorem dX12_goesSo_67 : decode cX12_goesSo 67 = .ok (.goto (-62), 3) := by decide +kernel
theorem dX12_goesSo_70 : decode cX12_goesSo 70 = .ok (.iload_n 3, 1) := by decide +kernel
theorem dX12_goesSo_71 : decode cX12_goesSo 71 = .ok (.ireturn, 1) := by decide +kernel
theorem dX12_fits_0 : decode cX12_fits 0 = .ok (.aload_n 0, 1) := by decide +kernel
theorem dX12_fits_1 : decode cX12_fits 1 = .ok (.iload_n 1, 1) := by decide +kernel
theorem dX12_fits_2 : decode cX12_fits 2 = .ok (.invokevirtual 178, 3) := by decide +kernel
theorem dX12_fits_5 : decode cX12_fits 5 = .ok (.ifCond .eq 31, 3) := by decide +kernel
theorem dX12_fits_8 : decode cX12_fits 8 = .ok (.iload_n 2, 1) := by decide +kernel
theorem dX12_fits_9 : decode cX12_fits 9 = .ok (.invokestatic 57, 3) := by decide +kernel
theorem dX12_fits_12 : decode cX12_fits 12 = .ok (.ifCond .eq 24, 3) := by decide +kernel
theorem dX12_fits_15 : decode cX12_fits 15 = .ok (.iload 4, 2) := by decide +kernel
theorem dX12_fits_17 : decode cX12_fits 17 = .ok (.iconst 1, 1) := by decide +kernel
theorem dX12_fits_18 : decode cX12_fits 18 = .ok (.bipush 16, 2) := by decide +kernel
theorem dX12_fits_20 : decode cX12_fits 20 = .ok (.invokestatic 53, 3) := by decide +kernel
theorem dX12_fits_23 : decode cX12_fits 23 = .ok (.ifCond .eq 13, 3) := by decide +kernel
theorem dX12_fits_26 : decode cX12_fits 26 = .ok (.iload 5, 2) := by decide +kernel
theorem dX12_fits_28 : decode cX12_fits 28 = .ok (.iconst 0, 1) := by decide +kernel
theorem dX12_fits_29 : decode cX12_fits 29 = .ok (.iconst 1, 1) := by decide +kernel
theorem dX12_fits_30 : decode cX12_fits 30 = .ok (.invokestatic 53, 3) := by decide +kernel
theorem dX12_fits_33 : decode cX12_fits 33 = .ok (.ifCond .ne 6, 3) := by decide +kernel
theorem dX12_fits_36 : decode cX12_fits 36 = .ok (.ldc 61, 2) := by decide +kernel
theorem dX12_fits_38 : decode cX12_fits 38 = .ok (.ireturn, 1) := by decide +kernel
theorem dX12_fits_39 : decode cX12_fits 39 = .ok (.aload_n 0, 1) := by decide +kernel
theorem dX12_fits_40 : decode cX12_fits 40 = .ok (.iload_n 2, 1) := by decide +kernel
theorem dX12_fits_41 : decode cX12_fits 41 = .ok (.invokevirtual 69, 3) := by decide +kernel
theorem dX12_fits_44 : decode cX12_fits 44 = .ok (.ifCond .eq 9, 3) := by decide +kernel
theorem dX12_fits_47 : decode cX12_fits 47 = .ok (.aload_n 0, 1) := by decide +kernel
theorem dX12_fits_48 : decode cX12_fits 48 = .ok (.iconst 1, 1) := by decide +kernel
theorem dX12_fits_49 : decode cX12_fits 49 = .ok (.invokevirtual 62, 3) := by decide +kernel
theorem dX12_fits_52 : decode cX12_fits 52 = .ok (.ireturn, 1) := by decide +kernel
theorem dX12_fits_53 : decode cX12_fits 53 = .ok (.aload_n 0, 1) := by decide +kernel
theorem dX12_fits_54 : decode cX12_fits 54 = .ok (.iload_n 2, 1) := by decide +kernel
theorem dX12_fits_55 : decode cX12_fits 55 = .ok (.iload_n 3, 1) := by decide +kernel
theorem dX12_fits_56 : decode cX12_fits 56 = .ok (.iload 4, 2) := by decide +kernel
theorem dX12_fits_58 : decode cX12_fits 58 = .ok (.invokevirtual 76, 3) := by decide +kernel
theorem dX12_fits_61 : decode cX12_fits 61 = .ok (.ifCond .ne 9, 3) := by decide +kernel
theorem dX12_fits_64 : decode cX12_fits 64 = .ok (.aload_n 0, 1) := by decide +kernel
theorem dX12_fits_65 : decode cX12_fits 65 = .ok (.iconst 2, 1) := by decide +kernel
theorem dX12_fits_66 : decode cX12_fits 66 = .ok (.invokevirtual 62, 3) := by decide +kernel
theorem dX12_fits_69 : decode cX12_fits 69 = .ok (.ireturn, 1) := by decide +kernel
theorem dX12_fits_70 : decode cX12_fits 70 = .ok (.iconst 4, 1) := by decide +kernel
theorem dX12_fits_71 : decode cX12_fits 71 = .ok (.iconst 5, 1) := by decide +kernel
theorem dX12_fits_72 : decode cX12_fits 72 = .ok (.iload_n 1, 1) := by decide +kernel
theorem dX12_fits_73 : decode cX12_fits 73 = .ok (.imul, 1) := by decide +kernel
theorem dX12_fits_74 : decode cX12_fits 74 = .ok (.iadd, 1) := by decide +kernel
theorem dX12_fits_75 : decode cX12_fits 75 = .ok (.iload 5, 2) := by decide +kernel
theorem dX12_fits_77 : decode cX12_fits 77 = .ok (.ifCond .ne 7, 3) := by decide +kernel
theorem dX12_fits_80 : decode cX12_fits 80 = .ok (.iconst 2, 1) := by decide +kernel
theorem dX12_fits_81 : decode cX12_fits 81 = .ok (.goto 4, 3) := by decide +kernel
theorem dX12_fits_84 : decode cX12_fits 84 = .ok (.iconst 0, 1) := by decide +kernel
theorem dX12_fits_85 : decode cX12_fits 85 = .ok (.iadd, 1) := by decide +kernel
theorem dX12_fits_86 : decode cX12_fits 86 = .ok (.istore 6, 2) := by decide +kernel
theorem dX12_fits_88 : decode cX12_fits 88 = .ok (.iconst 0, 1) := by decide +kernel
theorem dX12_fits_89 : decode cX12_fits 89 = .ok (.istore 7, 2) := by decide +kernel
theorem dX12_fits_91 : decode cX12_fits 91 = .ok (.iload 5, 2) := by decide +kernel
theorem dX12_fits_93 : decode cX12_fits 93 = .ok (.istore 8, 2) := by decide +kernel
theorem dX12_fits_95 : decode cX12_fits 95 = .ok (.iload 8, 2) := by decide +kernel
theorem dX12_fits_97 : decode cX12_fits 97 = .ok (.iload 5, 2) := by decide +kernel
theorem dX12_fits_99 : decode cX12_fits 99 = .ok (.ifCond .ne 8, 3) := by decide +kernel
theorem dX12_fits_102 : decode cX12_fits 102 = .ok (.bipush 20, 2) := by decide +kernel
theorem dX12_fits_104 : decode cX12_fits 104 = .ok (.goto 4, 3) := by decide +kernel
theorem dX12_fits_107 : decode cX12_fits 107 = .ok (.iconst 5, 1) := by decide +kernel
theorem dX12_fits_108 : decode cX12_fits 108 = .ok (.if_icmp .gt 51, 3) := by decide +kernel
theorem dX12_fits_111 : decode cX12_fits 111 = .ok (.aload_n 0, 1) := by decide +kernel
theorem dX12_fits_112 : decode cX12_fits 112 = .ok (.iconst 0, 1) := by decide +kernel
theorem dX12_fits_113 : decode cX12_fits 113 = .ok (.invokevirtual 190, 3) := by decide +kernel
theorem dX12_fits_116 : decode cX12_fits 116 = .ok (.aload_n 0, 1) := by decide +kernel
theorem dX12_fits_117 : decode cX12_fits 117 = .ok (.getfield 31, 3) := by decide +kernel
theorem dX12_fits_120 : decode cX12_fits 120 = .ok (.iload 6, 2) := by decide +kernel
theorem dX12_fits_122 : decode cX12_fits 122 = .ok (.iload 8, 2) := by decide +kernel
theorem dX12_fits_124 : decode cX12_fits 124 = .ok (.iastore, 1) := by decide +kernel
theorem dX12_fits_125 : decode cX12_fits 125 = .ok (.iload 7, 2) := by decide +kernel
theorem dX12_fits_127 : decode cX12_fits 127 = .ok (.aload_n 0, 1) := by decide +kernel
theorem dX12_fits_128 : decode cX12_fits 128 = .ok (.bipush 40, 2) := by decide +kernel
theorem dX12_fits_130 : decode cX12_fits 130 = .ok (.iload_n 2, 1) := by decide +kernel
theorem dX12_fits_131 : decode cX12_fits 131 = .ok (.imul, 1) := by decide +kernel
theorem dX12_fits_132 : decode cX12_fits 132 = .ok (.iload_n 3, 1) := by decide +kernel
theorem dX12_fits_133 : decode cX12_fits 133 = .ok (.iadd, 1) := by decide +kernel
theorem dX12_fits_134 : decode cX12_fits 134 = .ok (.iload 4, 2) := by decide +kernel
theorem dX12_fits_136 : decode cX12_fits 136 = .ok (.invokevirtual 201, 3) := by decide +kernel
theorem dX12_fits_139 : decode cX12_fits 139 = .ok (.ifCond .eq 10, 3) := by decide +kernel
theorem dX12_fits_142 : decode cX12_fits 142 = .ok (.iconst 1, 1) := by decide +kernel
theorem dX12_fits_143 : decode cX12_fits 143 = .ok (.iload 8, 2) := by decide +kernel
theorem dX12_fits_145 : decode cX12_fits 145 = .ok (.ishl, 1) := by decide +kernel
theorem dX12_fits_146 : decode cX12_fits 146 = .ok (.goto 4, 3) := by decide +kernel
theorem dX12_fits_149 : decode cX12_fits 149 = .ok (.iconst 0, 1) := by decide +kernel
theorem dX12_fits_150 : decode cX12_fits 150 = .ok (.ior, 1) := by decide +kernel
theorem dX12_fits_151 : decode cX12_fits 151 = .ok (.istore 7, 2) := by decide +kernel
theorem dX12_fits_153 : decode cX12_fits 153 = .ok (.iinc 8 1, 3) := by decide +kernel
theorem dX12_fits_156 : decode cX12_fits 156 = .ok (.goto (-61), 3) := by decide +kernel
theorem dX12_fits_159 : decode cX12_fits 159 = .ok (.aload_n 0, 1) := by decide +kernel
theorem dX12_fits_160 : decode cX12_fits 160 = .ok (.iload 7, 2) := by decide +kernel
theorem dX12_fits_162 : decode cX12_fits 162 = .ok (.invokevirtual 66, 3) := by decide +kernel
theorem dX12_fits_165 : decode cX12_fits 165 = .ok (.ireturn, 1) := by decide +kernel
theorem dX12_bounds_0 : decode cX12_bounds 0 = .ok (.aload_n 0, 1) := by decide +kernel
theorem dX12_bounds_1 : decode cX12_bounds 1 = .ok (.invokevirtual 167, 3) := by decide +kernel
theorem dX12_bounds_4 : decode cX12_bounds 4 = .ok (.ifCond .ne 6, 3) := by decide +kernel
theorem dX12_bounds_7 : decode cX12_bounds 7 = .ok (.ldc 170, 2) := by decide +kernel
theorem dX12_bounds_9 : decode cX12_bounds 9 = .ok (.ireturn, 1) := by decide +kernel
theorem dX12_bounds_10 : decode cX12_bounds 10 = .ok (.iload_n 1, 1) := by decide +kernel
theorem dX12_bounds_11 : decode cX12_bounds 11 = .ok (.invokestatic 57, 3) := by decide +kernel
theorem dX12_bounds_14 : decode cX12_bounds 14 = .ok (.ifCond .eq 13, 3) := by decide +kernel
theorem dX12_bounds_17 : decode cX12_bounds 17 = .ok (.iload_n 3, 1) := by decide +kernel
theorem dX12_bounds_18 : decode cX12_bounds 18 = .ok (.iconst 1, 1) := by decide +kernel
theorem dX12_bounds_19 : decode cX12_bounds 19 = .ok (.bipush 16, 2) := by decide +kernel
theorem dX12_bounds_21 : decode cX12_bounds 21 = .ok (.invokestatic 53, 3) := by decide +kernel
theorem dX12_bounds_24 : decode cX12_bounds 24 = .ok (.ifCond .ne 6, 3) := by decide +kernel
theorem dX12_bounds_27 : decode cX12_bounds 27 = .ok (.ldc 61, 2) := by decide +kernel
theorem dX12_bounds_29 : decode cX12_bounds 29 = .ok (.ireturn, 1) := by decide +kernel
theorem dX12_bounds_30 : decode cX12_bounds 30 = .ok (.aload_n 0, 1) := by decide +kernel
theorem dX12_bounds_31 : decode cX12_bounds 31 = .ok (.iload_n 1, 1) := by decide +kernel
theorem dX12_bounds_32 : decode cX12_bounds 32 = .ok (.invokevirtual 69, 3) := by decide +kernel
theorem dX12_bounds_35 : decode cX12_bounds 35 = .ok (.ifCond .eq 9, 3) := by decide +kernel
theorem dX12_bounds_38 : decode cX12_bounds 38 = .ok (.aload_n 0, 1) := by decide +kernel
theorem dX12_bounds_39 : decode cX12_bounds 39 = .ok (.iconst 1, 1) := by decide +kernel
theorem dX12_bounds_40 : decode cX12_bounds 40 = .ok (.invokevirtual 62, 3) := by decide +kernel
theorem dX12_bounds_43 : decode cX12_bounds 43 = .ok (.ireturn, 1) := by decide +kernel
theorem dX12_bounds_44 : decode cX12_bounds 44 = .ok (.aload_n 0, 1) := by decide +kernel
theorem dX12_bounds_45 : decode cX12_bounds 45 = .ok (.iload_n 1, 1) := by decide +kernel
theorem dX12_bounds_46 : decode cX12_bounds 46 = .ok (.iload_n 2, 1) := by decide +kernel
theorem dX12_bounds_47 : decode cX12_bounds 47 = .ok (.iload_n 3, 1) := by decide +kernel
theorem dX12_bounds_48 : decode cX12_bounds 48 = .ok (.invokevirtual 76, 3) := by decide +kernel
theorem dX12_bounds_51 : decode cX12_bounds 51 = .ok (.ifCond .ne 9, 3) := by decide +kernel
theorem dX12_bounds_54 : decode cX12_bounds 54 = .ok (.aload_n 0, 1) := by decide +kernel
theorem dX12_bounds_55 : decode cX12_bounds 55 = .ok (.iconst 2, 1) := by decide +kernel
theorem dX12_bounds_56 : decode cX12_bounds 56 = .ok (.invokevirtual 62, 3) := by decide +kernel
theorem dX12_bounds_59 : decode cX12_bounds 59 = .ok (.ireturn, 1) := by decide +kernel
theorem dX12_bounds_60 : decode cX12_bounds 60 = .ok (.iconst 0, 1) := by decide +kernel
theorem dX12_bounds_61 : decode cX12_bounds 61 = .ok (.istore 4, 2) := by decide +kernel
theorem dX12_bounds_63 : decode cX12_bounds 63 = .ok (.iconst 0, 1) := by decide +kernel
theorem dX12_bounds_64 : decode cX12_bounds 64 = .ok (.istore 5, 2) := by decide +kernel
theorem dX12_bounds_66 : decode cX12_bounds 66 = .ok (.iload 5, 2) := by decide +kernel
theorem dX12_bounds_68 : decode cX12_bounds 68 = .ok (.bipush 30, 2) := by decide +kernel
theorem dX12_bounds_70 : decode cX12_bounds 70 = .ok (.if_icmp .ge 49, 3) := by decide +kernel
theorem dX12_bounds_73 : decode cX12_bounds 73 = .ok (.aload_n 0, 1) := by decide +kernel
theorem dX12_bounds_74 : decode cX12_bounds 74 = .ok (.iconst 0, 1) := by decide +kernel
theorem dX12_bounds_75 : decode cX12_bounds 75 = .ok (.invokevirtual 190, 3) := by decide +kernel
theorem dX12_bounds_78 : decode cX12_bounds 78 = .ok (.aload_n 0, 1) := by decide +kernel
theorem dX12_bounds_79 : decode cX12_bounds 79 = .ok (.getfield 31, 3) := by decide +kernel
theorem dX12_bounds_82 : decode cX12_bounds 82 = .ok (.iconst 1, 1) := by decide +kernel
theorem dX12_bounds_83 : decode cX12_bounds 83 = .ok (.iload 5, 2) := by decide +kernel
theorem dX12_bounds_85 : decode cX12_bounds 85 = .ok (.iastore, 1) := by decide +kernel
theorem dX12_bounds_86 : decode cX12_bounds 86 = .ok (.iload 4, 2) := by decide +kernel
theorem dX12_bounds_88 : decode cX12_bounds 88 = .ok (.aload_n 0, 1) := by decide +kernel
theorem dX12_bounds_89 : decode cX12_bounds 89 = .ok (.bipush 40, 2) := by decide +kernel
theorem dX12_bounds_91 : decode cX12_bounds 91 = .ok (.iload_n 1, 1) := by decide +kernel
theorem dX12_bounds_92 : decode cX12_bounds 92 = .ok (.imul, 1) := by decide +kernel
theorem dX12_bounds_93 : decode cX12_bounds 93 = .ok (.iload_n 2, 1) := by decide +kernel
theorem dX12_bounds_94 : decode cX12_bounds 94 = .ok (.iadd, 1) := by decide +kernel
theorem dX12_bounds_95 : decode cX12_bounds 95 = .ok (.iload_n 3, 1) := by decide +kernel
theorem dX12_bounds_96 : decode cX12_bounds 96 = .ok (.invokevirtual 201, 3) := by decide +kernel
theorem dX12_bounds_99 : decode cX12_bounds 99 = .ok (.ifCond .eq 10, 3) := by decide +kernel
theorem dX12_bounds_102 : decode cX12_bounds 102 = .ok (.iconst 1, 1) := by decide +kernel
theorem dX12_bounds_103 : decode cX12_bounds 103 = .ok (.iload 5, 2) := by decide +kernel
theorem dX12_bounds_105 : decode cX12_bounds 105 = .ok (.ishl, 1) := by decide +kernel
theorem dX12_bounds_106 : decode cX12_bounds 106 = .ok (.goto 4, 3) := by decide +kernel
theorem dX12_bounds_109 : decode cX12_bounds 109 = .ok (.iconst 0, 1) := by decide +kernel
theorem dX12_bounds_110 : decode cX12_bounds 110 = .ok (.ior, 1) := by decide +kernel
theorem dX12_bounds_111 : decode cX12_bounds 111 = .ok (.istore 4, 2) := by decide +kernel
theorem dX12_bounds_113 : decode cX12_bounds 113 = .ok (.iinc 5 1, 3) := by decide +kernel
theorem dX12_bounds_116 : decode cX12_bounds 116 = .ok (.goto (-50), 3) := by decide +kernel
theorem dX12_bounds_119 : decode cX12_bounds 119 = .ok (.aload_n 0, 1) := by decide +kernel
theorem dX12_bounds_120 : decode cX12_bounds 120 = .ok (.iload 4, 2) := by decide +kernel
theorem dX12_bounds_122 : decode cX12_bounds 122 = .ok (.invokevirtual 66, 3) := by decide +kernel
theorem dX12_bounds_125 : decode cX12_bounds 125 = .ok (.ireturn, 1) := by decide +kernel
theorem dX12_rain_0 : decode cX12_rain 0 = .ok (.aload_n 0, 1) := by decide +kernel
theorem dX12_rain_1 : decode cX12_rain 1 = .ok (.iload_n 1, 1) := by decide +kernel
theorem dX12_rain_2 : decode cX12_rain 2 = .ok (.invokevirtual 181, 3) := by decide +kernel
theorem dX12_rain_5 : decode cX12_rain 5 = .ok (.ifCond .eq 22, 3) := by decide +kernel
theorem dX12_rain_8 : decode cX12_rain 8 = .ok (.iload_n 2, 1) := by decide +kernel
theorem dX12_rain_9 : decode cX12_rain 9 = .ok (.iconst 0, 1) := by decide +kernel
theorem dX12_rain_10 : decode cX12_rain 10 = .ok (.bipush 10, 2) := by decide +kernel
theorem dX12_rain_12 : decode cX12_rain 12 = .ok (.invokestatic 53, 3) := by decide +kernel
theorem dX12_rain_15 : decode cX12_rain 15 = .ok (.ifCond .eq 12, 3) := by decide +kernel
theorem dX12_rain_18 : decode cX12_rain 18 = .ok (.iload_n 3, 1) := by decide +kernel
theorem dX12_rain_19 : decode cX12_rain 19 = .ok (.iconst 0, 1) := by decide +kernel
theorem dX12_rain_20 : decode cX12_rain 20 = .ok (.iconst 1, 1) := by decide +kernel
theorem dX12_rain_21 : decode cX12_rain 21 = .ok (.invokestatic 53, 3) := by decide +kernel
theorem dX12_rain_24 : decode cX12_rain 24 = .ok (.ifCond .ne 6, 3) := by decide +kernel
theorem dX12_rain_27 : decode cX12_rain 27 = .ok (.ldc 61, 2) := by decide +kernel
theorem dX12_rain_29 : decode cX12_rain 29 = .ok (.ireturn, 1) := by decide +kernel
theorem dX12_rain_30 : decode cX12_rain 30 = .ok (.iconst 0, 1) := by decide +kernel
theorem dX12_rain_31 : decode cX12_rain 31 = .ok (.istore 4, 2) := by decide +kernel
theorem dX12_rain_33 : decode cX12_rain 33 = .ok (.iconst 1, 1) := by decide +kernel
theorem dX12_rain_34 : decode cX12_rain 34 = .ok (.istore 5, 2) := by decide +kernel
theorem dX12_rain_36 : decode cX12_rain 36 = .ok (.iconst 0, 1) := by decide +kernel
theorem dX12_rain_37 : decode cX12_rain 37 = .ok (.istore 6, 2) := by decide +kernel
theorem dX12_rain_39 : decode cX12_rain 39 = .ok (.iload 6, 2) := by decide +kernel
theorem dX12_rain_41 : decode cX12_rain 41 = .ok (.aload_n 0, 1) := by decide +kernel
theorem dX12_rain_42 : decode cX12_rain 42 = .ok (.getfield 25, 3) := by decide +kernel
theorem dX12_rain_45 : decode cX12_rain 45 = .ok (.iconst 3, 1) := by decide +kernel
theorem dX12_rain_46 : decode cX12_rain 46 = .ok (.iaload, 1) := by decide +kernel
theorem dX12_rain_47 : decode cX12_rain 47 = .ok (.if_icmp .ge 16, 3) := by decide +kernel
theorem dX12_rain_50 : decode cX12_rain 50 = .ok (.iload 5, 2) := by decide +kernel
theorem dX12_rain_52 : decode cX12_rain 52 = .ok (.bipush 10, 2) := by decide +kernel
theorem dX12_rain_54 : decode cX12_rain 54 = .ok (.imul, 1) := by decide +kernel
theorem dX12_rain_55 : decode cX12_rain 55 = .ok (.istore 5, 2) := by decide +kernel
theorem dX12_rain_57 : decode cX12_rain 57 = .ok (.iinc 6 1, 3) := by decide +kernel
theorem dX12_rain_60 : decode cX12_rain 60 = .ok (.goto (-21), 3) := by decide +kernel
theorem dX12_rain_63 : decode cX12_rain 63 = .ok (.iconst 0, 1) := by decide +kernel
theorem dX12_rain_64 : decode cX12_rain 64 = .ok (.istore 6, 2) := by decide +kernel
theorem dX12_rain_66 : decode cX12_rain 66 = .ok (.iload 6, 2) := by decide +kernel
theorem dX12_rain_68 : decode cX12_rain 68 = .ok (.aload_n 0, 1) := by decide +kernel
theorem dX12_rain_69 : decode cX12_rain 69 = .ok (.getfield 25, 3) := by decide +kernel
theorem dX12_rain_72 : decode cX12_rain 72 = .ok (.invokestatic 198, 3) := by decide +kernel
theorem dX12_rain_75 : decode cX12_rain 75 = .ok (.if_icmp .gt 79, 3) := by decide +kernel
theorem dX12_rain_78 : decode cX12_rain 78 = .ok (.iconst 1, 1) := by decide +kernel
theorem dX12_rain_79 : decode cX12_rain 79 = .ok (.istore 7, 2) := by decide +kernel
theorem dX12_rain_81 : decode cX12_rain 81 = .ok (.iconst 0, 1) := by decide +kernel
theorem dX12_rain_82 : decode cX12_rain 82 = .ok (.istore 8, 2) := by decide +kernel
theorem dX12_rain_84 : decode cX12_rain 84 = .ok (.iload 8, 2) := by decide +kernel
theorem dX12_rain_86 : decode cX12_rain 86 = .ok (.aload_n 0, 1) := by decide +kernel
theorem dX12_rain_87 : decode cX12_rain 87 = .ok (.getfield 25, 3) := by decide +kernel
theorem dX12_rain_90 : decode cX12_rain 90 = .ok (.iconst 3, 1) := by decide +kernel
theorem dX12_rain_91 : decode cX12_rain 91 = .ok (.iaload, 1) := by decide +kernel
theorem dX12_rain_92 : decode cX12_rain 92 = .ok (.if_icmp .ge 32, 3) := by decide +kernel
theorem dX12_rain_95 : decode cX12_rain 95 = .ok (.iload 7, 2) := by decide +kernel
theorem dX12_rain_97 : decode cX12_rain 97 = .ok (.iload 6, 2) := by decide +kernel
theorem dX12_rain_99 : decode cX12_rain 99 = .ok (.iload 8, 2) := by decide +kernel
theorem dX12_rain_101 : decode cX12_rain 101 = .ok (.invokestatic 142, 3) := by decide +kernel
theorem dX12_rain_104 : decode cX12_rain 104 = .ok (.ifCond .eq 7, 3) := by decide +kernel
theorem dX12_rain_107 : decode cX12_rain 107 = .ok (.iload_n 2, 1) := by decide +kernel
theorem dX12_rain_108 : decode cX12_rain 108 = .ok (.goto 7, 3) := by decide +kernel
theorem dX12_rain_111 : decode cX12_rain 111 = .ok (.bipush 10, 2) := by decide +kernel
theorem dX12_rain_113 : decode cX12_rain 113 = .ok (.iload_n 2, 1) := by decide +kernel
theorem dX12_rain_114 : decode cX12_rain 114 = .ok (.isub, 1) := by decide +kernel
theorem dX12_rain_115 : decode cX12_rain 115 = .ok (.imul, 1) := by decide +kernel
theorem dX12_rain_116 : decode cX12_rain 116 = .ok (.istore 7, 2) := by decide +kernel
theorem dX12_rain_118 : decode cX12_rain 118 = .ok (.iinc 8 1, 3) := by decide +kernel
theorem dX12_rain_121 : decode cX12_rain 121 = .ok (.goto (-37), 3) := by decide +kernel
theorem dX12_rain_124 : decode cX12_rain 124 = .ok (.iload 4, 2) := by decide +kernel
theorem dX12_rain_126 : decode cX12_rain 126 = .ok (.aload_n 0, 1) := by decide +kernel
theorem dX12_rain_127 : decode cX12_rain 127 = .ok (.getfield 25, 3) := by decide +kernel
theorem dX12_rain_130 : decode cX12_rain 130 = .ok (.iload 6, 2) := by decide +kernel
theorem dX12_rain_132 : decode cX12_rain 132 = .ok (.invokestatic 160, 3) := by decide +kernel
theorem dX12_rain_135 : decode cX12_rain 135 = .ok (.iload_n 1, 1) := by decide +kernel
theorem dX12_rain_136 : decode cX12_rain 136 = .ok (.if_icmp .ne 8, 3) := by decide +kernel
theorem dX12_rain_139 : decode cX12_rain 139 = .ok (.iload 7, 2) := by decide +kernel
theorem dX12_rain_141 : decode cX12_rain 141 = .ok (.goto 4, 3) := by decide +kernel
theorem dX12_rain_144 : decode cX12_rain 144 = .ok (.iconst 0, 1) := by decide +kernel
theorem dX12_rain_145 : decode cX12_rain 145 = .ok (.iadd, 1) := by decide +kernel
theorem dX12_rain_146 : decode cX12_rain 146 = .ok (.istore 4, 2) := by decide +kernel
theorem dX12_rain_148 : decode cX12_rain 148 = .ok (.iinc 6 1, 3) := by decide +kernel
theorem dX12_rain_151 : decode cX12_rain 151 = .ok (.goto (-85), 3) := by decide +kernel
theorem dX12_rain_154 : decode cX12_rain 154 = .ok (.iload 4, 2) := by decide +kernel
theorem dX12_rain_156 : decode cX12_rain 156 = .ok (.istore 6, 2) := by decide +kernel
theorem dX12_rain_158 : decode cX12_rain 158 = .ok (.iload 5, 2) := by decide +kernel
theorem dX12_rain_160 : decode cX12_rain 160 = .ok (.istore 7, 2) := by decide +kernel
theorem dX12_rain_162 : decode cX12_rain 162 = .ok (.iload 7, 2) := by decide +kernel
theorem dX12_rain_164 : decode cX12_rain 164 = .ok (.ifCond .eq 21, 3) := by decide +kernel
theorem dX12_rain_167 : decode cX12_rain 167 = .ok (.iload 6, 2) := by decide +kernel
theorem dX12_rain_169 : decode cX12_rain 169 = .ok (.iload 7, 2) := by decide +kernel
theorem dX12_rain_171 : decode cX12_rain 171 = .ok (.irem, 1) := by decide +kernel
theorem dX12_rain_172 : decode cX12_rain 172 = .ok (.istore 8, 2) := by decide +kernel
theorem dX12_rain_174 : decode cX12_rain 174 = .ok (.iload 7, 2) := by decide +kernel
theorem dX12_rain_176 : decode cX12_rain 176 = .ok (.istore 6, 2) := by decide +kernel
theorem dX12_rain_178 : decode cX12_rain 178 = .ok (.iload 8, 2) := by decide +kernel
theorem dX12_rain_180 : decode cX12_rain 180 = .ok (.istore 7, 2) := by decide +kernel
theorem dX12_rain_182 : decode cX12_rain 182 = .ok (.goto (-20), 3) := by decide +kernel
theorem dX12_rain_185 : decode cX12_rain 185 = .ok (.iload_n 3, 1) := by decide +kernel
theorem dX12_rain_186 : decode cX12_rain 186 = .ok (.ifCond .ne 8, 3) := by decide +kernel
theorem dX12_rain_189 : decode cX12_rain 189 = .ok (.iload 4, 2) := by decide +kernel
theorem dX12_rain_191 : decode cX12_rain 191 = .ok (.goto 5, 3) := by decide +kernel
theorem dX12_rain_194 : decode cX12_rain 194 = .ok (.iload 5, 2) := by decide +kernel
theorem dX12_rain_196 : decode cX12_rain 196 = .ok (.iload 6, 2) := by decide +kernel
theorem dX12_rain_198 : decode cX12_rain 198 = .ok (.idiv, 1) := by decide +kernel
theorem dX12_rain_199 : decode cX12_rain 199 = .ok (.ireturn, 1) := by decide +kernel
theorem dX12_drawn_0 : decode cX12_drawn 0 = .ok (.aload_n 0, 1) := by decide +kernel
theorem dX12_drawn_1 : decode cX12_drawn 1 = .ok (.invokevirtual 167, 3) := by decide +kernel
theorem dX12_drawn_4 : decode cX12_drawn 4 = .ok (.ifCond .ne 6, 3) := by decide +kernel
theorem dX12_drawn_7 : decode cX12_drawn 7 = .ok (.ldc 170, 2) := by decide +kernel
theorem dX12_drawn_9 : decode cX12_drawn 9 = .ok (.ireturn, 1) := by decide +kernel
theorem dX12_drawn_10 : decode cX12_drawn 10 = .ok (.iload_n 1, 1) := by decide +kernel
theorem dX12_drawn_11 : decode cX12_drawn 11 = .ok (.invokestatic 187, 3) := by decide +kernel
theorem dX12_drawn_14 : decode cX12_drawn 14 = .ok (.ifCond .eq 22, 3) := by decide +kernel
theorem dX12_drawn_17 : decode cX12_drawn 17 = .ok (.iload_n 2, 1) := by decide +kernel
theorem dX12_drawn_18 : decode cX12_drawn 18 = .ok (.iconst 1, 1) := by decide +kernel
theorem dX12_drawn_19 : decode cX12_drawn 19 = .ok (.ldc 204, 2) := by decide +kernel
theorem dX12_drawn_21 : decode cX12_drawn 21 = .ok (.invokestatic 53, 3) := by decide +kernel
theorem dX12_drawn_24 : decode cX12_drawn 24 = .ok (.ifCond .eq 12, 3) := by decide +kernel
theorem dX12_drawn_27 : decode cX12_drawn 27 = .ok (.iload_n 3, 1) := by decide +kernel
theorem dX12_drawn_28 : decode cX12_drawn 28 = .ok (.iconst 0, 1) := by decide +kernel
theorem dX12_drawn_29 : decode cX12_drawn 29 = .ok (.iconst 1, 1) := by decide +kernel
theorem dX12_drawn_30 : decode cX12_drawn 30 = .ok (.invokestatic 53, 3) := by decide +kernel
theorem dX12_drawn_33 : decode cX12_drawn 33 = .ok (.ifCond .ne 6, 3) := by decide +kernel
theorem dX12_drawn_36 : decode cX12_drawn 36 = .ok (.ldc 61, 2) := by decide +kernel
theorem dX12_drawn_38 : decode cX12_drawn 38 = .ok (.ireturn, 1) := by decide +kernel
theorem dX12_drawn_39 : decode cX12_drawn 39 = .ok (.aload_n 0, 1) := by decide +kernel
theorem dX12_drawn_40 : decode cX12_drawn 40 = .ok (.iconst 0, 1) := by decide +kernel
theorem dX12_drawn_41 : decode cX12_drawn 41 = .ok (.invokevirtual 190, 3) := by decide +kernel
theorem dX12_drawn_44 : decode cX12_drawn 44 = .ok (.iload_n 2, 1) := by decide +kernel
theorem dX12_drawn_45 : decode cX12_drawn 45 = .ok (.i2l, 1) := by decide +kernel
theorem dX12_drawn_46 : decode cX12_drawn 46 = .ok (.lstore 4, 2) := by decide +kernel
theorem dX12_drawn_48 : decode cX12_drawn 48 = .ok (.iconst 0, 1) := by decide +kernel
theorem dX12_drawn_49 : decode cX12_drawn 49 = .ok (.istore 6, 2) := by decide +kernel
theorem dX12_drawn_51 : decode cX12_drawn 51 = .ok (.iconst 0, 1) := by decide +kernel
theorem dX12_drawn_52 : decode cX12_drawn 52 = .ok (.istore 7, 2) := by decide +kernel
theorem dX12_drawn_54 : decode cX12_drawn 54 = .ok (.iload 7, 2) := by decide +kernel
theorem dX12_drawn_56 : decode cX12_drawn 56 = .ok (.iload_n 1, 1) := by decide +kernel
theorem dX12_drawn_57 : decode cX12_drawn 57 = .ok (.if_icmp .ge 90, 3) := by decide +kernel
theorem dX12_drawn_60 : decode cX12_drawn 60 = .ok (.lload 4, 2) := by decide +kernel
theorem dX12_drawn_62 : decode cX12_drawn 62 = .ok (.ldc2_w 205, 3) := by decide +kernel
theorem dX12_drawn_65 : decode cX12_drawn 65 = .ok (.lmul, 1) := by decide +kernel
theorem dX12_drawn_66 : decode cX12_drawn 66 = .ok (.ldc2_w 207, 3) := by decide +kernel
theorem dX12_drawn_69 : decode cX12_drawn 69 = .ok (.lrem, 1) := by decide +kernel
theorem dX12_drawn_70 : decode cX12_drawn 70 = .ok (.lstore 4, 2) := by decide +kernel
theorem dX12_drawn_72 : decode cX12_drawn 72 = .ok (.aload_n 0, 1) := by decide +kernel
theorem dX12_drawn_73 : decode cX12_drawn 73 = .ok (.getfield 25, 3) := by decide +kernel
theorem dX12_drawn_76 : decode cX12_drawn 76 = .ok (.iconst 3, 1) := by decide +kernel
theorem dX12_drawn_77 : decode cX12_drawn 77 = .ok (.iaload, 1) := by decide +kernel
theorem dX12_drawn_78 : decode cX12_drawn 78 = .ok (.ifCond .le 32, 3) := by decide +kernel
theorem dX12_drawn_81 : decode cX12_drawn 81 = .ok (.aload_n 0, 1) := by decide +kernel
theorem dX12_drawn_82 : decode cX12_drawn 82 = .ok (.getfield 31, 3) := by decide +kernel
theorem dX12_drawn_85 : decode cX12_drawn 85 = .ok (.iconst 4, 1) := by decide +kernel
theorem dX12_drawn_86 : decode cX12_drawn 86 = .ok (.iconst 5, 1) := by decide +kernel
theorem dX12_drawn_87 : decode cX12_drawn 87 = .ok (.lload 4, 2) := by decide +kernel
theorem dX12_drawn_89 : decode cX12_drawn 89 = .ok (.aload_n 0, 1) := by decide +kernel
theorem dX12_drawn_90 : decode cX12_drawn 90 = .ok (.getfield 25, 3) := by decide +kernel
theorem dX12_drawn_93 : decode cX12_drawn 93 = .ok (.iconst 3, 1) := by decide +kernel
theorem dX12_drawn_94 : decode cX12_drawn 94 = .ok (.iaload, 1) := by decide +kernel
theorem dX12_drawn_95 : decode cX12_drawn 95 = .ok (.i2l, 1) := by decide +kernel
theorem dX12_drawn_96 : decode cX12_drawn 96 = .ok (.lrem, 1) := by decide +kernel
theorem dX12_drawn_97 : decode cX12_drawn 97 = .ok (.l2i, 1) := by decide +kernel
theorem dX12_drawn_98 : decode cX12_drawn 98 = .ok (.imul, 1) := by decide +kernel
theorem dX12_drawn_99 : decode cX12_drawn 99 = .ok (.iadd, 1) := by decide +kernel
theorem dX12_drawn_100 : decode cX12_drawn 100 = .ok (.iconst 2, 1) := by decide +kernel
theorem dX12_drawn_101 : decode cX12_drawn 101 = .ok (.iadd, 1) := by decide +kernel
theorem dX12_drawn_102 : decode cX12_drawn 102 = .ok (.lload 4, 2) := by decide +kernel
theorem dX12_drawn_104 : decode cX12_drawn 104 = .ok (.ldc2_w 209, 3) := by decide +kernel
theorem dX12_drawn_107 : decode cX12_drawn 107 = .ok (.lrem, 1) := by decide +kernel
theorem dX12_drawn_108 : decode cX12_drawn 108 = .ok (.l2i, 1) := by decide +kernel
theorem dX12_drawn_109 : decode cX12_drawn 109 = .ok (.iastore, 1) := by decide +kernel
theorem dX12_drawn_110 : decode cX12_drawn 110 = .ok (.iload 6, 2) := by decide +kernel
theorem dX12_drawn_112 : decode cX12_drawn 112 = .ok (.aload_n 0, 1) := by decide +kernel
theorem dX12_drawn_113 : decode cX12_drawn 113 = .ok (.getfield 31, 3) := by decide +kernel
theorem dX12_drawn_116 : decode cX12_drawn 116 = .ok (.iconst 0, 1) := by decide +kernel
theorem dX12_drawn_117 : decode cX12_drawn 117 = .ok (.invokestatic 160, 3) := by decide +kernel
theorem dX12_drawn_120 : decode cX12_drawn 120 = .ok (.ldc 47, 2) := by decide +kernel
theorem dX12_drawn_122 : decode cX12_drawn 122 = .ok (.if_icmp .ne 7, 3) := by decide +kernel
theorem dX12_drawn_125 : decode cX12_drawn 125 = .ok (.iconst 0, 1) := by decide +kernel
theorem dX12_drawn_126 : decode cX12_drawn 126 = .ok (.goto 4, 3) := by decide +kernel
theorem dX12_drawn_129 : decode cX12_drawn 129 = .ok (.iconst 1, 1) := by decide +kernel
theorem dX12_drawn_130 : decode cX12_drawn 130 = .ok (.iadd, 1) := by decide +kernel
theorem dX12_drawn_131 : decode cX12_drawn 131 = .ok (.istore 6, 2) := by decide +kernel
theorem dX12_drawn_133 : decode cX12_drawn 133 = .ok (.aload_n 0, 1) := by decide +kernel
theorem dX12_drawn_134 : decode cX12_drawn 134 = .ok (.getfield 31, 3) := by decide +kernel
theorem dX12_drawn_137 : decode cX12_drawn 137 = .ok (.iconst 0, 1) := by decide +kernel
theorem dX12_drawn_138 : decode cX12_drawn 138 = .ok (.invokestatic 163, 3) := by decide +kernel
theorem dX12_drawn_141 : decode cX12_drawn 141 = .ok (.iinc 7 1, 3) := by decide +kernel
theorem dX12_drawn_144 : decode cX12_drawn 144 = .ok (.goto (-90), 3) := by decide +kernel
theorem dX12_drawn_147 : decode cX12_drawn 147 = .ok (.iload_n 3, 1) := by decide +kernel
theorem dX12_drawn_148 : decode cX12_drawn 148 = .ok (.ifCond .ne 13, 3) := by decide +kernel
theorem dX12_drawn_151 : decode cX12_drawn 151 = .ok (.aload_n 0, 1) := by decide +kernel
theorem dX12_drawn_152 : decode cX12_drawn 152 = .ok (.getfield 31, 3) := by decide +kernel
theorem dX12_drawn_155 : decode cX12_drawn 155 = .ok (.invokestatic 174, 3) := by decide +kernel
theorem dX12_drawn_158 : decode cX12_drawn 158 = .ok (.goto 5, 3) := by decide +kernel
theorem dX12_drawn_161 : decode cX12_drawn 161 = .ok (.iload 6, 2) := by decide +kernel
theorem dX12_drawn_163 : decode cX12_drawn 163 = .ok (.ireturn, 1) := by decide +kernel
theorem dX12_image_0 : decode cX12_image 0 = .ok (.iload_n 1, 1) := by decide +kernel
theorem dX12_image_1 : decode cX12_image 1 = .ok (.iconst 0, 1) := by decide +kernel
theorem dX12_image_2 : decode cX12_image 2 = .ok (.iconst 1, 1) := by decide +kernel
theorem dX12_image_3 : decode cX12_image 3 = .ok (.invokestatic 53, 3) := by decide +kernel
theorem dX12_image_6 : decode cX12_image 6 = .ok (.ifCond .ne 6, 3) := by decide +kernel
theorem dX12_image_9 : decode cX12_image 9 = .ok (.ldc 61, 2) := by decide +kernel
theorem dX12_image_11 : decode cX12_image 11 = .ok (.ireturn, 1) := by decide +kernel
theorem dX12_image_12 : decode cX12_image 12 = .ok (.aload_n 0, 1) := by decide +kernel
theorem dX12_image_13 : decode cX12_image 13 = .ok (.invokevirtual 167, 3) := by decide +kernel
theorem dX12_image_16 : decode cX12_image 16 = .ok (.ifCond .ne 6, 3) := by decide +kernel
theorem dX12_image_19 : decode cX12_image 19 = .ok (.ldc 170, 2) := by decide +kernel
theorem dX12_image_21 : decode cX12_image 21 = .ok (.ireturn, 1) := by decide +kernel
theorem dX12_image_22 : decode cX12_image 22 = .ok (.aload_n 0, 1) := by decide +kernel
theorem dX12_image_23 : decode cX12_image 23 = .ok (.getfield 25, 3) := by decide +kernel
theorem dX12_image_26 : decode cX12_image 26 = .ok (.iconst 0, 1) := by decide +kernel
theorem dX12_image_27 : decode cX12_image 27 = .ok (.aload_n 0, 1) := by decide +kernel
theorem dX12_image_28 : decode cX12_image 28 = .ok (.getfield 37, 3) := by decide +kernel
theorem dX12_image_31 : decode cX12_image 31 = .ok (.bipush 34, 2) := by decide +kernel
theorem dX12_image_33 : decode cX12_image 33 = .ok (.iload_n 1, 1) := by decide +kernel
theorem dX12_image_34 : decode cX12_image 34 = .ok (.imul, 1) := by decide +kernel
theorem dX12_image_35 : decode cX12_image 35 = .ok (.invokestatic 128, 3) := by decide +kernel
theorem dX12_image_38 : decode cX12_image 38 = .ok (.aload_n 0, 1) := by decide +kernel
theorem dX12_image_39 : decode cX12_image 39 = .ok (.getfield 40, 3) := by decide +kernel
theorem dX12_image_42 : decode cX12_image 42 = .ok (.iload_n 1, 1) := by decide +kernel
theorem dX12_image_43 : decode cX12_image 43 = .ok (.iconst 1, 1) := by decide +kernel
theorem dX12_image_44 : decode cX12_image 44 = .ok (.bastore, 1) := by decide +kernel
theorem dX12_image_45 : decode cX12_image 45 = .ok (.iconst 1, 1) := by decide +kernel
theorem dX12_image_46 : decode cX12_image 46 = .ok (.ireturn, 1) := by decide +kernel
theorem dX12_restore_0 : decode cX12_restore 0 = .ok (.iload_n 1, 1) := by decide +kernel
theorem dX12_restore_1 : decode cX12_restore 1 = .ok (.iconst 0, 1) := by decide +kernel
theorem dX12_restore_2 : decode cX12_restore 2 = .ok (.iconst 1, 1) := by decide +kernel
theorem dX12_restore_3 : decode cX12_restore 3 = .ok (.invokestatic 53, 3) := by decide +kernel
theorem dX12_restore_6 : decode cX12_restore 6 = .ok (.ifCond .ne 6, 3) := by decide +kernel
theorem dX12_restore_9 : decode cX12_restore 9 = .ok (.ldc 61, 2) := by decide +kernel
theorem dX12_restore_11 : decode cX12_restore 11 = .ok (.ireturn, 1) := by decide +kernel
theorem dX12_restore_12 : decode cX12_restore 12 = .ok (.aload_n 0, 1) := by decide +kernel
theorem dX12_restore_13 : decode cX12_restore 13 = .ok (.getfield 40, 3) := by decide +kernel
theorem dX12_restore_16 : decode cX12_restore 16 = .ok (.iload_n 1, 1) := by decide +kernel
theorem dX12_restore_17 : decode cX12_restore 17 = .ok (.baload, 1) := by decide +kernel
theorem dX12_restore_18 : decode cX12_restore 18 = .ok (.ifCond .ne 6, 3) := by decide +kernel
theorem dX12_restore_21 : decode cX12_restore 21 = .ok (.ldc 170, 2) := by decide +kernel
theorem dX12_restore_23 : decode cX12_restore 23 = .ok (.ireturn, 1) := by decide +kernel
theorem dX12_restore_24 : decode cX12_restore 24 = .ok (.aload_n 0, 1) := by decide +kernel
theorem dX12_restore_25 : decode cX12_restore 25 = .ok (.getfield 37, 3) := by decide +kernel
theorem dX12_restore_28 : decode cX12_restore 28 = .ok (.bipush 34, 2) := by decide +kernel
theorem dX12_restore_30 : decode cX12_restore 30 = .ok (.iload_n 1, 1) := by decide +kernel
theorem dX12_restore_31 : decode cX12_restore 31 = .ok (.imul, 1) := by decide +kernel
theorem dX12_restore_32 : decode cX12_restore 32 = .ok (.aload_n 0, 1) := by decide +kernel
theorem dX12_restore_33 : decode cX12_restore 33 = .ok (.getfield 25, 3) := by decide +kernel
theorem dX12_restore_36 : decode cX12_restore 36 = .ok (.iconst 0, 1) := by decide +kernel
theorem dX12_restore_37 : decode cX12_restore 37 = .ok (.invokestatic 128, 3) := by decide +kernel
theorem dX12_restore_40 : decode cX12_restore 40 = .ok (.aload_n 0, 1) := by decide +kernel
theorem dX12_restore_41 : decode cX12_restore 41 = .ok (.iconst 0, 1) := by decide +kernel
theorem dX12_restore_42 : decode cX12_restore 42 = .ok (.putfield 132, 3) := by decide +kernel
theorem dX12_restore_45 : decode cX12_restore 45 = .ok (.iconst 1, 1) := by decide +kernel
theorem dX12_restore_46 : decode cX12_restore 46 = .ok (.ireturn, 1) := by decide +kernel
theorem dX12_kindIn_0 : decode cX12_kindIn 0 = .ok (.aload_n 0, 1) := by decide +kernel
theorem dX12_kindIn_1 : decode cX12_kindIn 1 = .ok (.getfield 25, 3) := by decide +kernel
theorem dX12_kindIn_4 : decode cX12_kindIn 4 = .ok (.iconst 4, 1) := by decide +kernel
theorem dX12_kindIn_5 : decode cX12_kindIn 5 = .ok (.iconst 5, 1) := by decide +kernel
theorem dX12_kindIn_6 : decode cX12_kindIn 6 = .ok (.iload_n 1, 1) := by decide +kernel
theorem dX12_kindIn_7 : decode cX12_kindIn 7 = .ok (.imul, 1) := by decide +kernel
theorem dX12_kindIn_8 : decode cX12_kindIn 8 = .ok (.iadd, 1) := by decide +kernel
theorem dX12_kindIn_9 : decode cX12_kindIn 9 = .ok (.iaload, 1) := by decide +kernel
theorem dX12_kindIn_10 : decode cX12_kindIn 10 = .ok (.ireturn, 1) := by decide +kernel
theorem dX12_kind_0 : decode cX12_kind 0 = .ok (.aload_n 0, 1) := by decide +kernel
theorem dX12_kind_1 : decode cX12_kind 1 = .ok (.iload_n 1, 1) := by decide +kernel
theorem dX12_kind_2 : decode cX12_kind 2 = .ok (.invokevirtual 178, 3) := by decide +kernel
theorem dX12_kind_5 : decode cX12_kind 5 = .ok (.ifCond .eq 11, 3) := by decide +kernel
theorem dX12_kind_8 : decode cX12_kind 8 = .ok (.aload_n 0, 1) := by decide +kernel
theorem dX12_kind_9 : decode cX12_kind 9 = .ok (.iload_n 1, 1) := by decide +kernel
theorem dX12_kind_10 : decode cX12_kind 10 = .ok (.invokevirtual 211, 3) := by decide +kernel
theorem dX12_kind_13 : decode cX12_kind 13 = .ok (.goto 5, 3) := by decide +kernel
theorem dX12_kind_16 : decode cX12_kind 16 = .ok (.ldc 61, 2) := by decide +kernel
theorem dX12_kind_18 : decode cX12_kind 18 = .ok (.ireturn, 1) := by decide +kernel
theorem dX12_as_0 : decode cX12_as 0 = .ok (.aload_n 0, 1) := by decide +kernel
theorem dX12_as_1 : decode cX12_as 1 = .ok (.iload_n 1, 1) := by decide +kernel
theorem dX12_as_2 : decode cX12_as 2 = .ok (.invokevirtual 178, 3) := by decide +kernel
theorem dX12_as_5 : decode cX12_as 5 = .ok (.ifCond .eq 12, 3) := by decide +kernel
theorem dX12_as_8 : decode cX12_as 8 = .ok (.iload_n 2, 1) := by decide +kernel
theorem dX12_as_9 : decode cX12_as 9 = .ok (.iconst 0, 1) := by decide +kernel
theorem dX12_as_10 : decode cX12_as 10 = .ok (.iconst 5, 1) := by decide +kernel
theorem dX12_as_11 : decode cX12_as 11 = .ok (.invokestatic 53, 3) := by decide +kernel
theorem dX12_as_14 : decode cX12_as 14 = .ok (.ifCond .ne 6, 3) := by decide +kernel
theorem dX12_as_17 : decode cX12_as 17 = .ok (.ldc 61, 2) := by decide +kernel
theorem dX12_as_19 : decode cX12_as 19 = .ok (.ireturn, 1) := by decide +kernel
theorem dX12_as_20 : decode cX12_as 20 = .ok (.aload_n 0, 1) := by decide +kernel
theorem dX12_as_21 : decode cX12_as 21 = .ok (.iload_n 1, 1) := by decide +kernel
theorem dX12_as_22 : decode cX12_as 22 = .ok (.invokevirtual 211, 3) := by decide +kernel
theorem dX12_as_25 : decode cX12_as 25 = .ok (.istore_n 3, 1) := by decide +kernel
theorem dX12_as_26 : decode cX12_as 26 = .ok (.iload_n 2, 1) := by decide +kernel
theorem dX12_as_27 : decode cX12_as 27 = .ok (.ifCond .eq 28, 3) := by decide +kernel
theorem dX12_as_30 : decode cX12_as 30 = .ok (.iload_n 2, 1) := by decide +kernel
theorem dX12_as_31 : decode cX12_as 31 = .ok (.iload_n 3, 1) := by decide +kernel
theorem dX12_as_32 : decode cX12_as 32 = .ok (.if_icmp .eq 23, 3) := by decide +kernel
theorem dX12_as_35 : decode cX12_as 35 = .ok (.iload_n 2, 1) := by decide +kernel
theorem dX12_as_36 : decode cX12_as 36 = .ok (.iconst 1, 1) := by decide +kernel
theorem dX12_as_37 : decode cX12_as 37 = .ok (.if_icmp .ne 8, 3) := by decide +kernel
theorem dX12_as_40 : decode cX12_as 40 = .ok (.iload_n 3, 1) := by decide +kernel
theorem dX12_as_41 : decode cX12_as 41 = .ok (.iconst 4, 1) := by decide +kernel
theorem dX12_as_42 : decode cX12_as 42 = .ok (.if_icmp .lt 13, 3) := by decide +kernel
theorem dX12_as_45 : decode cX12_as 45 = .ok (.iload_n 2, 1) := by decide +kernel
theorem dX12_as_46 : decode cX12_as 46 = .ok (.iconst 4, 1) := by decide +kernel
theorem dX12_as_47 : decode cX12_as 47 = .ok (.if_icmp .ne 12, 3) := by decide +kernel
theorem dX12_as_50 : decode cX12_as 50 = .ok (.iload_n 3, 1) := by decide +kernel
theorem dX12_as_51 : decode cX12_as 51 = .ok (.iconst 5, 1) := by decide +kernel
theorem dX12_as_52 : decode cX12_as 52 = .ok (.if_icmp .ne 7, 3) := by decide +kernel
theorem dX12_as_55 : decode cX12_as 55 = .ok (.iconst 1, 1) := by decide +kernel
theorem dX12_as_56 : decode cX12_as 56 = .ok (.goto 4, 3) := by decide +kernel
theorem dX12_as_59 : decode cX12_as 59 = .ok (.iconst 0, 1) := by decide +kernel
theorem dX12_as_60 : decode cX12_as 60 = .ok (.istore 4, 2) := by decide +kernel
theorem dX12_as_62 : decode cX12_as 62 = .ok (.iload 4, 2) := by decide +kernel
theorem dX12_as_64 : decode cX12_as 64 = .ok (.ifCond .eq 11, 3) := by decide +kernel
theorem dX12_as_67 : decode cX12_as 67 = .ok (.aload_n 0, 1) := by decide +kernel
theorem dX12_as_68 : decode cX12_as 68 = .ok (.iload_n 1, 1) := by decide +kernel
theorem dX12_as_69 : decode cX12_as 69 = .ok (.invokevirtual 66, 3) := by decide +kernel
theorem dX12_as_72 : decode cX12_as 72 = .ok (.goto 8, 3) := by decide +kernel
theorem dX12_as_75 : decode cX12_as 75 = .ok (.aload_n 0, 1) := by decide +kernel
theorem dX12_as_76 : decode cX12_as 76 = .ok (.iconst 3, 1) := by decide +kernel
theorem dX12_as_77 : decode cX12_as 77 = .ok (.invokevirtual 62, 3) := by decide +kernel
theorem dX12_as_80 : decode cX12_as 80 = .ok (.ireturn, 1) := by decide +kernel
theorem dX12_begins_0 : decode cX12_begins 0 = .ok (.aload_n 0, 1) := by decide +kernel
theorem dX12_begins_1 : decode cX12_begins 1 = .ok (.getfield 214, 3) := by decide +kernel
theorem dX12_begins_4 : decode cX12_begins 4 = .ok (.bipush 16, 2) := by decide +kernel
theorem dX12_begins_6 : decode cX12_begins 6 = .ok (.if_icmp .ge 23, 3) := by decide +kernel
theorem dX12_begins_9 : decode cX12_begins 9 = .ok (.aload_n 0, 1) := by decide +kernel
theorem dX12_begins_10 : decode cX12_begins 10 = .ok (.getfield 44, 3) := by decide +kernel
theorem dX12_begins_13 : decode cX12_begins 13 = .ok (.aload_n 0, 1) := by decide +kernel
theorem dX12_begins_14 : decode cX12_begins 14 = .ok (.getfield 214, 3) := by decide +kernel
theorem dX12_begins_17 : decode cX12_begins 17 = .ok (.iload_n 1, 1) := by decide +kernel
theorem dX12_begins_18 : decode cX12_begins 18 = .ok (.iastore, 1) := by decide +kernel
theorem dX12_begins_19 : decode cX12_begins 19 = .ok (.aload_n 0, 1) := by decide +kernel
theorem dX12_begins_20 : decode cX12_begins 20 = .ok (.dup, 1) := by decide +kernel
theorem dX12_begins_21 : decode cX12_begins 21 = .ok (.getfield 214, 3) := by decide +kernel
theorem dX12_begins_24 : decode cX12_begins 24 = .ok (.iconst 1, 1) := by decide +kernel
theorem dX12_begins_25 : decode cX12_begins 25 = .ok (.iadd, 1) := by decide +kernel
theorem dX12_begins_26 : decode cX12_begins 26 = .ok (.putfield 214, 3) := by decide +kernel
theorem dX12_begins_29 : decode cX12_begins 29 = .ok (.return_, 1) := by decide +kernel
theorem dX12_plainMark_0 : decode cX12_plainMark 0 = .ok (.aload_n 0, 1) := by decide +kernel
theorem dX12_plainMark_1 : decode cX12_plainMark 1 = .ok (.iload_n 1, 1) := by decide +kernel
theorem dX12_plainMark_2 : decode cX12_plainMark 2 = .ok (.invokevirtual 211, 3) := by decide +kernel
theorem dX12_plainMark_5 : decode cX12_plainMark 5 = .ok (.istore_n 2, 1) := by decide +kernel
theorem dX12_plainMark_6 : decode cX12_plainMark 6 = .ok (.iload_n 2, 1) := by decide +kernel
theorem dX12_plainMark_7 : decode cX12_plainMark 7 = .ok (.iconst 1, 1) := by decide +kernel
theorem dX12_plainMark_8 : decode cX12_plainMark 8 = .ok (.if_icmp .eq 19, 3) := by decide +kernel
theorem dX12_plainMark_11 : decode cX12_plainMark 11 = .ok (.aload_n 0, 1) := by decide +kernel
theorem dX12_plainMark_12 : decode cX12_plainMark 12 = .ok (.iload_n 2, 1) := by decide +kernel
theorem dX12_plainMark_13 : decode cX12_plainMark 13 = .ok (.iconst 2, 1) := by decide +kernel
theorem dX12_plainMark_14 : decode cX12_plainMark 14 = .ok (.if_icmp .ne 8, 3) := by decide +kernel
theorem dX12_plainMark_17 : decode cX12_plainMark 17 = .ok (.bipush 24, 2) := by decide +kernel
theorem dX12_plainMark_19 : decode cX12_plainMark 19 = .ok (.goto 5, 3) := by decide +kernel
theorem dX12_plainMark_22 : decode cX12_plainMark 22 = .ok (.bipush 22, 2) := by decide +kernel
theorem dX12_plainMark_24 : decode cX12_plainMark 24 = .ok (.invokevirtual 217, 3) := by decide +kernel
theorem dX12_plainMark_27 : decode cX12_plainMark 27 = .ok (.aload_n 0, 1) := by decide +kernel
theorem dX12_plainMark_28 : decode cX12_plainMark 28 = .ok (.bipush 21, 2) := by decide +kernel
theorem dX12_plainMark_30 : decode cX12_plainMark 30 = .ok (.invokevirtual 217, 3) := by decide +kernel
theorem dX12_plainMark_33 : decode cX12_plainMark 33 = .ok (.aload_n 0, 1) := by decide +kernel
theorem dX12_plainMark_34 : decode cX12_plainMark 34 = .ok (.bipush 20, 2) := by decide +kernel
theorem dX12_plainMark_36 : decode cX12_plainMark 36 = .ok (.invokevirtual 217, 3) := by decide +kernel
theorem dX12_plainMark_39 : decode cX12_plainMark 39 = .ok (.iload_n 1, 1) := by decide +kernel
theorem dX12_plainMark_40 : decode cX12_plainMark 40 = .ok (.aload_n 0, 1) := by decide +kernel
theorem dX12_plainMark_41 : decode cX12_plainMark 41 = .ok (.getfield 25, 3) := by decide +kernel
theorem dX12_plainMark_44 : decode cX12_plainMark 44 = .ok (.iconst 4, 1) := by decide +kernel
theorem dX12_plainMark_45 : decode cX12_plainMark 45 = .ok (.iconst 5, 1) := by decide +kernel
theorem dX12_plainMark_46 : decode cX12_plainMark 46 = .ok (.iload_n 1, 1) := by decide +kernel
theorem dX12_plainMark_47 : decode cX12_plainMark 47 = .ok (.imul, 1) := by decide +kernel
theorem dX12_plainMark_48 : decode cX12_plainMark 48 = .ok (.iadd, 1) := by decide +kernel
theorem dX12_plainMark_49 : decode cX12_plainMark 49 = .ok (.iconst 4, 1) := by decide +kernel
theorem dX12_plainMark_50 : decode cX12_plainMark 50 = .ok (.iadd, 1) := by decide +kernel
theorem dX12_plainMark_51 : decode cX12_plainMark 51 = .ok (.iaload, 1) := by decide +kernel
theorem dX12_plainMark_52 : decode cX12_plainMark 52 = .ok (.iadd, 1) := by decide +kernel
theorem dX12_plainMark_53 : decode cX12_plainMark 53 = .ok (.istore_n 3, 1) := by decide +kernel
theorem dX12_plainMark_54 : decode cX12_plainMark 54 = .ok (.iload_n 2, 1) := by decide +kernel
theorem dX12_plainMark_55 : decode cX12_plainMark 55 = .ok (.iconst 2, 1) := by decide +kernel
theorem dX12_plainMark_56 : decode cX12_plainMark 56 = .ok (.if_icmp .ne 9, 3) := by decide +kernel
theorem dX12_plainMark_59 : decode cX12_plainMark 59 = .ok (.iconst 2, 1) := by decide +kernel
theorem dX12_plainMark_60 : decode cX12_plainMark 60 = .ok (.iload_n 3, 1) := by decide +kernel
theorem dX12_plainMark_61 : decode cX12_plainMark 61 = .ok (.imul, 1) := by decide +kernel
theorem dX12_plainMark_62 : decode cX12_plainMark 62 = .ok (.goto 17, 3) := by decide +kernel
theorem dX12_plainMark_65 : decode cX12_plainMark 65 = .ok (.iload_n 2, 1) := by decide +kernel
theorem dX12_plainMark_66 : decode cX12_plainMark 66 = .ok (.iconst 3, 1) := by decide +kernel
theorem dX12_plainMark_67 : decode cX12_plainMark 67 = .ok (.if_icmp .ne 11, 3) := by decide +kernel
theorem dX12_plainMark_70 : decode cX12_plainMark 70 = .ok (.iload_n 3, 1) := by decide +kernel
theorem dX12_plainMark_71 : decode cX12_plainMark 71 = .ok (.sipush 1000, 3) := by decide +kernel
theorem dX12_plainMark_74 : decode cX12_plainMark 74 = .ok (.isub, 1) := by decide +kernel
theorem dX12_plainMark_75 : decode cX12_plainMark 75 = .ok (.goto 4, 3) := by decide +kernel
theorem dX12_plainMark_78 : decode cX12_plainMark 78 = .ok (.iload_n 3, 1) := by decide +kernel
theorem dX12_plainMark_79 : decode cX12_plainMark 79 = .ok (.ireturn, 1) := by decide +kernel
theorem dX12_childSize_0 : decode cX12_childSize 0 = .ok (.aload_n 0, 1) := by decide +kernel
theorem dX12_childSize_1 : decode cX12_childSize 1 = .ok (.iload_n 1, 1) := by decide +kernel
theorem dX12_childSize_2 : decode cX12_childSize 2 = .ok (.invokevirtual 211, 3) := by decide +kernel
theorem dX12_childSize_5 : decode cX12_childSize 5 = .ok (.iconst 5, 1) := by decide +kernel
theorem dX12_childSize_6 : decode cX12_childSize 6 = .ok (.if_icmp .ne 7, 3) := by decide +kernel
theorem dX12_childSize_9 : decode cX12_childSize 9 = .ok (.iconst 1, 1) := by decide +kernel
theorem dX12_childSize_10 : decode cX12_childSize 10 = .ok (.goto 4, 3) := by decide +kernel
theorem dX12_childSize_13 : decode cX12_childSize 13 = .ok (.iconst 0, 1) := by decide +kernel
theorem dX12_childSize_14 : decode cX12_childSize 14 = .ok (.istore_n 2, 1) := by decide +kernel
theorem dX12_childSize_15 : decode cX12_childSize 15 = .ok (.iload_n 2, 1) := by decide +kernel
theorem dX12_childSize_16 : decode cX12_childSize 16 = .ok (.ifCond .eq 9, 3) := by decide +kernel
theorem dX12_childSize_19 : decode cX12_childSize 19 = .ok (.aload_n 0, 1) := by decide +kernel
theorem dX12_childSize_20 : decode cX12_childSize 20 = .ok (.bipush 14, 2) := by decide +kernel
theorem dX12_childSize_22 : decode cX12_childSize 22 = .ok (.invokevirtual 217, 3) := by decide +kernel
theorem dX12_childSize_25 : decode cX12_childSize 25 = .ok (.aload_n 0, 1) := by decide +kernel
theorem dX12_childSize_26 : decode cX12_childSize 26 = .ok (.bipush 13, 2) := by decide +kernel
theorem dX12_childSize_28 : decode cX12_childSize 28 = .ok (.invokevirtual 217, 3) := by decide +kernel
theorem dX12_childSize_31 : decode cX12_childSize 31 = .ok (.aload_n 0, 1) := by decide +kernel
theorem dX12_childSize_32 : decode cX12_childSize 32 = .ok (.bipush 10, 2) := by decide +kernel
theorem dX12_childSize_34 : decode cX12_childSize 34 = .ok (.invokevirtual 217, 3) := by decide +kernel
theorem dX12_childSize_37 : decode cX12_childSize 37 = .ok (.aload_n 0, 1) := by decide +kernel
theorem dX12_childSize_38 : decode cX12_childSize 38 = .ok (.getfield 25, 3) := by decide +kernel
theorem dX12_childSize_41 : decode cX12_childSize 41 = .ok (.iconst 4, 1) := by decide +kernel
theorem dX12_childSize_42 : decode cX12_childSize 42 = .ok (.iconst 5, 1) := by decide +kernel
theorem dX12_childSize_43 : decode cX12_childSize 43 = .ok (.iload_n 1, 1) := by decide +kernel
theorem dX12_childSize_44 : decode cX12_childSize 44 = .ok (.imul, 1) := by decide +kernel
theorem dX12_childSize_45 : decode cX12_childSize 45 = .ok (.iadd, 1) := by decide +kernel
theorem dX12_childSize_46 : decode cX12_childSize 46 = .ok (.iconst 2, 1) := by decide +kernel
theorem dX12_childSize_47 : decode cX12_childSize 47 = .ok (.iadd, 1) := by decide +kernel
theorem dX12_childSize_48 : decode cX12_childSize 48 = .ok (.iaload, 1) := by decide +kernel
theorem dX12_childSize_49 : decode cX12_childSize 49 = .ok (.bipush 100, 2) := by decide +kernel
theorem dX12_childSize_51 : decode cX12_childSize 51 = .ok (.isub, 1) := by decide +kernel
theorem dX12_childSize_52 : decode cX12_childSize 52 = .ok (.istore_n 3, 1) := by decide +kernel
theorem dX12_childSize_53 : decode cX12_childSize 53 = .ok (.iload_n 2, 1) := by decide +kernel
theorem dX12_childSize_54 : decode cX12_childSize 54 = .ok (.ifCond .eq 9, 3) := by decide +kernel
theorem dX12_childSize_57 : decode cX12_childSize 57 = .ok (.iconst 2, 1) := by decide +kernel
theorem dX12_childSize_58 : decode cX12_childSize 58 = .ok (.iload_n 3, 1) := by decide +kernel
theorem dX12_childSize_59 : decode cX12_childSize 59 = .ok (.imul, 1) := by decide +kernel
theorem dX12_childSize_60 : decode cX12_childSize 60 = .ok (.goto 4, 3) := by decide +kernel
theorem dX12_childSize_63 : decode cX12_childSize 63 = .ok (.iload_n 3, 1) := by decide +kernel
theorem dX12_childSize_64 : decode cX12_childSize 64 = .ok (.ireturn, 1) := by decide +kernel
theorem dX12_plainSize_0 : decode cX12_plainSize 0 = .ok (.aload_n 0, 1) := by decide +kernel
theorem dX12_plainSize_1 : decode cX12_plainSize 1 = .ok (.iload_n 1, 1) := by decide +kernel
theorem dX12_plainSize_2 : decode cX12_plainSize 2 = .ok (.invokevirtual 211, 3) := by decide +kernel
theorem dX12_plainSize_5 : decode cX12_plainSize 5 = .ok (.iconst 2, 1) := by decide +kernel
theorem dX12_plainSize_6 : decode cX12_plainSize 6 = .ok (.if_icmp .ne 7, 3) := by decide +kernel
theorem dX12_plainSize_9 : decode cX12_plainSize 9 = .ok (.iconst 1, 1) := by decide +kernel
theorem dX12_plainSize_10 : decode cX12_plainSize 10 = .ok (.goto 4, 3) := by decide +kernel
theorem dX12_plainSize_13 : decode cX12_plainSize 13 = .ok (.iconst 0, 1) := by decide +kernel
theorem dX12_plainSize_14 : decode cX12_plainSize 14 = .ok (.istore_n 2, 1) := by decide +kernel
theorem dX12_plainSize_15 : decode cX12_plainSize 15 = .ok (.iload_n 2, 1) := by decide +kernel
theorem dX12_plainSize_16 : decode cX12_plainSize 16 = .ok (.ifCond .eq 9, 3) := by decide +kernel
theorem dX12_plainSize_19 : decode cX12_plainSize 19 = .ok (.aload_n 0, 1) := by decide +kernel
theorem dX12_plainSize_20 : decode cX12_plainSize 20 = .ok (.bipush 12, 2) := by decide +kernel
theorem dX12_plainSize_22 : decode cX12_plainSize 22 = .ok (.invokevirtual 217, 3) := by decide +kernel
theorem dX12_plainSize_25 : decode cX12_plainSize 25 = .ok (.aload_n 0, 1) := by decide +kernel
theorem dX12_plainSize_26 : decode cX12_plainSize 26 = .ok (.bipush 11, 2) := by decide +kernel
theorem dX12_plainSize_28 : decode cX12_plainSize 28 = .ok (.invokevirtual 217, 3) := by decide +kernel
theorem dX12_plainSize_31 : decode cX12_plainSize 31 = .ok (.aload_n 0, 1) := by decide +kernel
theorem dX12_plainSize_32 : decode cX12_plainSize 32 = .ok (.bipush 10, 2) := by decide +kernel
theorem dX12_plainSize_34 : decode cX12_plainSize 34 = .ok (.invokevirtual 217, 3) := by decide +kernel
theorem dX12_plainSize_37 : decode cX12_plainSize 37 = .ok (.aload_n 0, 1) := by decide +kernel
theorem dX12_plainSize_38 : decode cX12_plainSize 38 = .ok (.getfield 25, 3) := by decide +kernel
theorem dX12_plainSize_41 : decode cX12_plainSize 41 = .ok (.iconst 4, 1) := by decide +kernel
theorem dX12_plainSize_42 : decode cX12_plainSize 42 = .ok (.iconst 5, 1) := by decide +kernel
theorem dX12_plainSize_43 : decode cX12_plainSize 43 = .ok (.iload_n 1, 1) := by decide +kernel
theorem dX12_plainSize_44 : decode cX12_plainSize 44 = .ok (.imul, 1) := by decide +kernel
theorem dX12_plainSize_45 : decode cX12_plainSize 45 = .ok (.iadd, 1) := by decide +kernel
theorem dX12_plainSize_46 : decode cX12_plainSize 46 = .ok (.iconst 2, 1) := by decide +kernel
theorem dX12_plainSize_47 : decode cX12_plainSize 47 = .ok (.iadd, 1) := by decide +kernel
theorem dX12_plainSize_48 : decode cX12_plainSize 48 = .ok (.iaload, 1) := by decide +kernel
theorem dX12_plainSize_49 : decode cX12_plainSize 49 = .ok (.aload_n 0, 1) := by decide +kernel
theorem dX12_plainSize_50 : decode cX12_plainSize 50 = .ok (.iload_n 1, 1) := by decide +kernel
theorem dX12_plainSize_51 : decode cX12_plainSize 51 = .ok (.invokevirtual 220, 3) := by decide +kernel
theorem dX12_plainSize_54 : decode cX12_plainSize 54 = .ok (.iadd, 1) := by decide +kernel
theorem dX12_plainSize_55 : decode cX12_plainSize 55 = .ok (.istore_n 3, 1) := by decide +kernel
theorem dX12_plainSize_56 : decode cX12_plainSize 56 = .ok (.iload_n 2, 1) := by decide +kernel
theorem dX12_plainSize_57 : decode cX12_plainSize 57 = .ok (.ifCond .eq 8, 3) := by decide +kernel
theorem dX12_plainSize_60 : decode cX12_plainSize 60 = .ok (.iload_n 3, 1) := by decide +kernel
theorem dX12_plainSize_61 : decode cX12_plainSize 61 = .ok (.ineg, 1) := by decide +kernel
theorem dX12_plainSize_62 : decode cX12_plainSize 62 = .ok (.goto 4, 3) := by decide +kernel
theorem dX12_plainSize_65 : decode cX12_plainSize 65 = .ok (.iload_n 3, 1) := by decide +kernel
theorem dX12_plainSize_66 : decode cX12_plainSize 66 = .ok (.ireturn, 1) := by decide +kernel
theorem dX12_childMark_0 : decode cX12_childMark 0 = .ok (.aload_n 0, 1) := by decide +kernel
theorem dX12_childMark_1 : decode cX12_childMark 1 = .ok (.bipush 23, 2) := by decide +kernel
theorem dX12_childMark_3 : decode cX12_childMark 3 = .ok (.invokevirtual 217, 3) := by decide +kernel
theorem dX12_childMark_6 : decode cX12_childMark 6 = .ok (.aload_n 0, 1) := by decide +kernel
theorem dX12_childMark_7 : decode cX12_childMark 7 = .ok (.bipush 20, 2) := by decide +kernel
theorem dX12_childMark_9 : decode cX12_childMark 9 = .ok (.invokevirtual 217, 3) := by decide +kernel
theorem dX12_childMark_12 : decode cX12_childMark 12 = .ok (.iload_n 1, 1) := by decide +kernel
theorem dX12_childMark_13 : decode cX12_childMark 13 = .ok (.aload_n 0, 1) := by decide +kernel
theorem dX12_childMark_14 : decode cX12_childMark 14 = .ok (.iload_n 1, 1) := by decide +kernel
theorem dX12_childMark_15 : decode cX12_childMark 15 = .ok (.invokevirtual 223, 3) := by decide +kernel
theorem dX12_childMark_18 : decode cX12_childMark 18 = .ok (.isub, 1) := by decide +kernel
theorem dX12_childMark_19 : decode cX12_childMark 19 = .ok (.ireturn, 1) := by decide +kernel
theorem dX12_ask_0 : decode cX12_ask 0 = .ok (.aload_n 0, 1) := by decide +kernel
theorem dX12_ask_1 : decode cX12_ask 1 = .ok (.iload_n 1, 1) := by decide +kernel
theorem dX12_ask_2 : decode cX12_ask 2 = .ok (.invokevirtual 178, 3) := by decide +kernel
theorem dX12_ask_5 : decode cX12_ask 5 = .ok (.ifCond .eq 12, 3) := by decide +kernel
theorem dX12_ask_8 : decode cX12_ask 8 = .ok (.iload_n 2, 1) := by decide +kernel
theorem dX12_ask_9 : decode cX12_ask 9 = .ok (.iconst 0, 1) := by decide +kernel
theorem dX12_ask_10 : decode cX12_ask 10 = .ok (.iconst 1, 1) := by decide +kernel
theorem dX12_ask_11 : decode cX12_ask 11 = .ok (.invokestatic 53, 3) := by decide +kernel
theorem dX12_ask_14 : decode cX12_ask 14 = .ok (.ifCond .ne 6, 3) := by decide +kernel
theorem dX12_ask_17 : decode cX12_ask 17 = .ok (.ldc 61, 2) := by decide +kernel
theorem dX12_ask_19 : decode cX12_ask 19 = .ok (.ireturn, 1) := by decide +kernel
theorem dX12_ask_20 : decode cX12_ask 20 = .ok (.aload_n 0, 1) := by decide +kernel
theorem dX12_ask_21 : decode cX12_ask 21 = .ok (.iconst 0, 1) := by decide +kernel
theorem dX12_ask_22 : decode cX12_ask 22 = .ok (.putfield 214, 3) := by decide +kernel
theorem dX12_ask_25 : decode cX12_ask 25 = .ok (.aload_n 0, 1) := by decide +kernel
theorem dX12_ask_26 : decode cX12_ask 26 = .ok (.iload_n 1, 1) := by decide +kernel
theorem dX12_ask_27 : decode cX12_ask 27 = .ok (.invokevirtual 211, 3) := by decide +kernel
theorem dX12_ask_30 : decode cX12_ask 30 = .ok (.iconst 4, 1) := by decide +kernel
theorem dX12_ask_31 : decode cX12_ask 31 = .ok (.if_icmp .lt 7, 3) := by decide +kernel
theorem dX12_ask_34 : decode cX12_ask 34 = .ok (.iconst 1, 1) := by decide +kernel
theorem dX12_ask_35 : decode cX12_ask 35 = .ok (.goto 4, 3) := by decide +kernel
theorem dX12_ask_38 : decode cX12_ask 38 = .ok (.iconst 0, 1) := by decide +kernel
theorem dX12_ask_39 : decode cX12_ask 39 = .ok (.istore_n 3, 1) := by decide +kernel
theorem dX12_ask_40 : decode cX12_ask 40 = .ok (.iload_n 2, 1) := by decide +kernel
theorem dX12_ask_41 : decode cX12_ask 41 = .ok (.ifCond .ne 21, 3) := by decide +kernel
theorem dX12_ask_44 : decode cX12_ask 44 = .ok (.iload_n 3, 1) := by decide +kernel
theorem dX12_ask_45 : decode cX12_ask 45 = .ok (.ifCond .eq 11, 3) := by decide +kernel
theorem dX12_ask_48 : decode cX12_ask 48 = .ok (.aload_n 0, 1) := by decide +kernel
theorem dX12_ask_49 : decode cX12_ask 49 = .ok (.iload_n 1, 1) := by decide +kernel
theorem dX12_ask_50 : decode cX12_ask 50 = .ok (.invokevirtual 223, 3) := by decide +kernel
theorem dX12_ask_53 : decode cX12_ask 53 = .ok (.goto 8, 3) := by decide +kernel
theorem dX12_ask_56 : decode cX12_ask 56 = .ok (.aload_n 0, 1) := by decide +kernel
theorem dX12_ask_57 : decode cX12_ask 57 = .ok (.iload_n 1, 1) := by decide +kernel
theorem dX12_ask_58 : decode cX12_ask 58 = .ok (.invokevirtual 226, 3) := by decide +kernel
theorem dX12_ask_61 : decode cX12_ask 61 = .ok (.ireturn, 1) := by decide +kernel
theorem dX12_ask_62 : decode cX12_ask 62 = .ok (.iload_n 3, 1) := by decide +kernel
theorem dX12_ask_63 : decode cX12_ask 63 = .ok (.ifCond .eq 11, 3) := by decide +kernel
theorem dX12_ask_66 : decode cX12_ask 66 = .ok (.aload_n 0, 1) := by decide +kernel
theorem dX12_ask_67 : decode cX12_ask 67 = .ok (.iload_n 1, 1) := by decide +kernel
theorem dX12_ask_68 : decode cX12_ask 68 = .ok (.invokevirtual 229, 3) := by decide +kernel
theorem dX12_ask_71 : decode cX12_ask 71 = .ok (.goto 8, 3) := by decide +kernel
theorem dX12_ask_74 : decode cX12_ask 74 = .ok (.aload_n 0, 1) := by decide +kernel
theorem dX12_ask_75 : decode cX12_ask 75 = .ok (.iload_n 1, 1) := by decide +kernel
theorem dX12_ask_76 : decode cX12_ask 76 = .ok (.invokevirtual 220, 3) := by decide +kernel
theorem dX12_ask_79 : decode cX12_ask 79 = .ok (.ireturn, 1) := by decide +kernel
theorem dX12_trace_0 : decode cX12_trace 0 = .ok (.iload_n 1, 1) := by decide +kernel
theorem dX12_trace_1 : decode cX12_trace 1 = .ok (.iconst 0, 1) := by decide +kernel
theorem dX12_trace_2 : decode cX12_trace 2 = .ok (.aload_n 0, 1) := by decide +kernel
theorem dX12_trace_3 : decode cX12_trace 3 = .ok (.getfield 214, 3) := by decide +kernel
theorem dX12_trace_6 : decode cX12_trace 6 = .ok (.iconst 1, 1) := by decide +kernel
theorem dX12_trace_7 : decode cX12_trace 7 = .ok (.isub, 1) := by decide +kernel
theorem dX12_trace_8 : decode cX12_trace 8 = .ok (.invokestatic 53, 3) := by decide +kernel
theorem dX12_trace_11 : decode cX12_trace 11 = .ok (.ifCond .eq 12, 3) := by decide +kernel
theorem dX12_trace_14 : decode cX12_trace 14 = .ok (.aload_n 0, 1) := by decide +kernel
theorem dX12_trace_15 : decode cX12_trace 15 = .ok (.getfield 44, 3) := by decide +kernel
theorem dX12_trace_18 : decode cX12_trace 18 = .ok (.iload_n 1, 1) := by decide +kernel
theorem dX12_trace_19 : decode cX12_trace 19 = .ok (.iaload, 1) := by decide +kernel
theorem dX12_trace_20 : decode cX12_trace 20 = .ok (.goto 5, 3) := by decide +kernel
theorem dX12_trace_23 : decode cX12_trace 23 = .ok (.ldc 47, 2) := by decide +kernel
theorem dX12_trace_25 : decode cX12_trace 25 = .ok (.ireturn, 1) := by decide +kernel
theorem dX12_count_0 : decode cX12_count 0 = .ok (.iconst 0, 1) := by decide +kernel
theorem dX12_count_1 : decode cX12_count 1 = .ok (.istore_n 2, 1) := by decide +kernel
theorem dX12_count_2 : decode cX12_count 2 = .ok (.iload_n 1, 1) := by decide +kernel
theorem dX12_count_3 : decode cX12_count 3 = .ok (.tableswitch 123 0 7 #[45, 77, 84, 91, 98, 105, 113, 118], 45) := by decide +kernel
theorem dX12_count_48 : decode cX12_count 48 = .ok (.iconst 0, 1) := by decide +kernel
theorem dX12_count_49 : decode cX12_count 49 = .ok (.istore_n 3, 1) := by decide +kernel
theorem dX12_count_50 : decode cX12_count 50 = .ok (.iload_n 3, 1) := by decide +kernel
theorem dX12_count_51 : decode cX12_count 51 = .ok (.bipush 8, 2) := by decide +kernel
theorem dX12_count_53 : decode cX12_count 53 = .ok (.if_icmp .ge 25, 3) := by decide +kernel
theorem dX12_count_56 : decode cX12_count 56 = .ok (.iload_n 2, 1) := by decide +kernel
theorem dX12_count_57 : decode cX12_count 57 = .ok (.aload_n 0, 1) := by decide +kernel
theorem dX12_count_58 : decode cX12_count 58 = .ok (.iload_n 3, 1) := by decide +kernel
theorem dX12_count_59 : decode cX12_count 59 = .ok (.invokevirtual 69, 3) := by decide +kernel
theorem dX12_count_62 : decode cX12_count 62 = .ok (.ifCond .eq 7, 3) := by decide +kernel
theorem dX12_count_65 : decode cX12_count 65 = .ok (.iconst 0, 1) := by decide +kernel
theorem dX12_count_66 : decode cX12_count 66 = .ok (.goto 4, 3) := by decide +kernel
theorem dX12_count_69 : decode cX12_count 69 = .ok (.iconst 1, 1) := by decide +kernel
theorem dX12_count_70 : decode cX12_count 70 = .ok (.iadd, 1) := by decide +kernel
theorem dX12_count_71 : decode cX12_count 71 = .ok (.istore_n 2, 1) := by decide +kernel
theorem dX12_count_72 : decode cX12_count 72 = .ok (.iinc 3 1, 3) := by decide +kernel
theorem dX12_count_75 : decode cX12_count 75 = .ok (.goto (-25), 3) := by decide +kernel
theorem dX12_count_78 : decode cX12_count 78 = .ok (.iload_n 2, 1) := by decide +kernel
theorem dX12_count_79 : decode cX12_count 79 = .ok (.ireturn, 1) := by decide +kernel
theorem dX12_count_80 : decode cX12_count 80 = .ok (.aload_n 0, 1) := by decide +kernel
theorem dX12_count_81 : decode cX12_count 81 = .ok (.getfield 25, 3) := by decide +kernel
theorem dX12_count_84 : decode cX12_count 84 = .ok (.iconst 0, 1) := by decide +kernel
theorem dX12_count_85 : decode cX12_count 85 = .ok (.iaload, 1) := by decide +kernel
theorem dX12_count_86 : decode cX12_count 86 = .ok (.ireturn, 1) := by decide +kernel
theorem dX12_count_87 : decode cX12_count 87 = .ok (.aload_n 0, 1) := by decide +kernel
theorem dX12_count_88 : decode cX12_count 88 = .ok (.getfield 25, 3) := by decide +kernel
theorem dX12_count_91 : decode cX12_count 91 = .ok (.iconst 3, 1) := by decide +kernel
theorem dX12_count_92 : decode cX12_count 92 = .ok (.iaload, 1) := by decide +kernel
theorem dX12_count_93 : decode cX12_count 93 = .ok (.ireturn, 1) := by decide +kernel
theorem dX12_count_94 : decode cX12_count 94 = .ok (.aload_n 0, 1) := by decide +kernel
theorem dX12_count_95 : decode cX12_count 95 = .ok (.getfield 25, 3) := by decide +kernel
theorem dX12_count_98 : decode cX12_count 98 = .ok (.iconst 2, 1) := by decide +kernel
theorem dX12_count_99 : decode cX12_count 99 = .ok (.iaload, 1) := by decide +kernel
theorem dX12_count_100 : decode cX12_count 100 = .ok (.ireturn, 1) := by decide +kernel
theorem dX12_count_101 : decode cX12_count 101 = .ok (.aload_n 0, 1) := by decide +kernel
theorem dX12_count_102 : decode cX12_count 102 = .ok (.getfield 25, 3) := by decide +kernel
theorem dX12_count_105 : decode cX12_count 105 = .ok (.iconst 1, 1) := by decide +kernel
theorem dX12_count_106 : decode cX12_count 106 = .ok (.iaload, 1) := by decide +kernel
theorem dX12_count_107 : decode cX12_count 107 = .ok (.ireturn, 1) := by decide +kernel
theorem dX12_count_108 : decode cX12_count 108 = .ok (.aload_n 0, 1) := by decide +kernel
theorem dX12_count_109 : decode cX12_count 109 = .ok (.getfield 25, 3) := by decide +kernel
theorem dX12_count_112 : decode cX12_count 112 = .ok (.invokestatic 174, 3) := by decide +kernel
theorem dX12_count_115 : decode cX12_count 115 = .ok (.ireturn, 1) := by decide +kernel
theorem dX12_count_116 : decode cX12_count 116 = .ok (.aload_n 0, 1) := by decide +kernel
theorem dX12_count_117 : decode cX12_count 117 = .ok (.getfield 132, 3) := by decide +kernel
theorem dX12_count_120 : decode cX12_count 120 = .ok (.ireturn, 1) := by decide +kernel
theorem dX12_count_121 : decode cX12_count 121 = .ok (.aload_n 0, 1) := by decide +kernel
theorem dX12_count_122 : decode cX12_count 122 = .ok (.getfield 79, 3) := by decide +kernel
theorem dX12_count_125 : decode cX12_count 125 = .ok (.ireturn, 1) := by decide +kernel
theorem dX12_count_126 : decode cX12_count 126 = .ok (.ldc 61, 2) := by decide +kernel
theorem dX12_count_128 : decode cX12_count 128 = .ok (.ireturn, 1) := by decide +kernel
theorem dX12_status_0 : decode cX12_status 0 = .ok (.aload_n 0, 1) := by decide +kernel
theorem dX12_status_1 : decode cX12_status 1 = .ok (.getfield 48, 3) := by decide +kernel
theorem dX12_status_4 : decode cX12_status 4 = .ok (.ireturn, 1) := by decide +kernel
end
section
theorem dL_law_0 : decode cL_law 0 = .ok (.new 7, 3) := by decide +kernel
theorem dL_law_3 : decode cL_law 3 = .ok (.dup, 1) := by decide +kernel
theorem dL_law_4 : decode cL_law 4 = .ok (.invokespecial 9, 3) := by decide +kernel
theorem dL_law_7 : decode cL_law 7 = .ok (.astore_n 1, 1) := by decide +kernel
theorem dL_law_8 : decode cL_law 8 = .ok (.new 10, 3) := by decide +kernel
theorem dL_law_11 : decode cL_law 11 = .ok (.dup, 1) := by decide +kernel
theorem dL_law_12 : decode cL_law 12 = .ok (.invokespecial 12, 3) := by decide +kernel
theorem dL_law_15 : decode cL_law 15 = .ok (.astore_n 2, 1) := by decide +kernel
theorem dL_law_16 : decode cL_law 16 = .ok (.iconst 0, 1) := by decide +kernel
theorem dL_law_17 : decode cL_law 17 = .ok (.istore_n 3, 1) := by decide +kernel
theorem dL_law_18 : decode cL_law 18 = .ok (.iload_n 3, 1) := by decide +kernel
theorem dL_law_19 : decode cL_law 19 = .ok (.aload_n 0, 1) := by decide +kernel
theorem dL_law_20 : decode cL_law 20 = .ok (.arraylength, 1) := by decide +kernel
theorem dL_law_21 : decode cL_law 21 = .ok (.bipush 6, 2) := by decide +kernel
theorem dL_law_23 : decode cL_law 23 = .ok (.isub, 1) := by decide +kernel
theorem dL_law_24 : decode cL_law 24 = .ok (.if_icmp .gt 1222, 3) := by decide +kernel
theorem dL_law_27 : decode cL_law 27 = .ok (.aload_n 0, 1) := by decide +kernel
theorem dL_law_28 : decode cL_law 28 = .ok (.iload_n 3, 1) := by decide +kernel
theorem dL_law_29 : decode cL_law 29 = .ok (.iaload, 1) := by decide +kernel
theorem dL_law_30 : decode cL_law 30 = .ok (.bipush 63, 2) := by decide +kernel
theorem dL_law_32 : decode cL_law 32 = .ok (.iand, 1) := by decide +kernel
theorem dL_law_33 : decode cL_law 33 = .ok (.tableswitch 1207 0 35 #[159, 202, 245, 308, 331, 354, 367, 380, 403, 436, 469, 502, 515, 548, 581, 614, 637, 660, 683, 696, 709, 722, 755, 788, 821, 884, 927, 970, 1013, 1036, 1059, 1082, 1115, 1148, 1171, 1194], 159) := by decide +kernel
theorem dL_law_192 : decode cL_law 192 = .ok (.aload_n 1, 1) := by decide +kernel
theorem dL_law_193 : decode cL_law 193 = .ok (.aload_n 0, 1) := by decide +kernel
theorem dL_law_194 : decode cL_law 194 = .ok (.iload_n 3, 1) := by decide +kernel
theorem dL_law_195 : decode cL_law 195 = .ok (.iconst 1, 1) := by decide +kernel
theorem dL_law_196 : decode cL_law 196 = .ok (.iadd, 1) := by decide +kernel
theorem dL_law_197 : decode cL_law 197 = .ok (.iaload, 1) := by decide +kernel
theorem dL_law_198 : decode cL_law 198 = .ok (.aload_n 0, 1) := by decide +kernel
theorem dL_law_199 : decode cL_law 199 = .ok (.iload_n 3, 1) := by decide +kernel
theorem dL_law_200 : decode cL_law 200 = .ok (.iconst 2, 1) := by decide +kernel
theorem dL_law_201 : decode cL_law 201 = .ok (.iadd, 1) := by decide +kernel
theorem dL_law_202 : decode cL_law 202 = .ok (.iaload, 1) := by decide +kernel
theorem dL_law_203 : decode cL_law 203 = .ok (.aload_n 0, 1) := by decide +kernel
theorem dL_law_204 : decode cL_law 204 = .ok (.iload_n 3, 1) := by decide +kernel
theorem dL_law_205 : decode cL_law 205 = .ok (.iconst 3, 1) := by decide +kernel
theorem dL_law_206 : decode cL_law 206 = .ok (.iadd, 1) := by decide +kernel
theorem dL_law_207 : decode cL_law 207 = .ok (.iaload, 1) := by decide +kernel
theorem dL_law_208 : decode cL_law 208 = .ok (.invokevirtual 13, 3) := by decide +kernel
theorem dL_law_211 : decode cL_law 211 = .ok (.aload_n 2, 1) := by decide +kernel
theorem dL_law_212 : decode cL_law 212 = .ok (.aload_n 0, 1) := by decide +kernel
theorem dL_law_213 : decode cL_law 213 = .ok (.iload_n 3, 1) := by decide +kernel
theorem dL_law_214 : decode cL_law 214 = .ok (.iconst 1, 1) := by decide +kernel
theorem dL_law_215 : decode cL_law 215 = .ok (.iadd, 1) := by decide +kernel
theorem dL_law_216 : decode cL_law 216 = .ok (.iaload, 1) := by decide +kernel
theorem dL_law_217 : decode cL_law 217 = .ok (.aload_n 0, 1) := by decide +kernel
theorem dL_law_218 : decode cL_law 218 = .ok (.iload_n 3, 1) := by decide +kernel
theorem dL_law_219 : decode cL_law 219 = .ok (.iconst 2, 1) := by decide +kernel
theorem dL_law_220 : decode cL_law 220 = .ok (.iadd, 1) := by decide +kernel
theorem dL_law_221 : decode cL_law 221 = .ok (.iaload, 1) := by decide +kernel
theorem dL_law_222 : decode cL_law 222 = .ok (.aload_n 0, 1) := by decide +kernel
theorem dL_law_223 : decode cL_law 223 = .ok (.iload_n 3, 1) := by decide +kernel
theorem dL_law_224 : decode cL_law 224 = .ok (.iconst 3, 1) := by decide +kernel
theorem dL_law_225 : decode cL_law 225 = .ok (.iadd, 1) := by decide +kernel
theorem dL_law_226 : decode cL_law 226 = .ok (.iaload, 1) := by decide +kernel
theorem dL_law_227 : decode cL_law 227 = .ok (.invokevirtual 17, 3) := by decide +kernel
theorem dL_law_230 : decode cL_law 230 = .ok (.if_icmp .eq 1010, 3) := by decide +kernel
theorem dL_law_233 : decode cL_law 233 = .ok (.iconst 0, 1) := by decide +kernel
theorem dL_law_234 : decode cL_law 234 = .ok (.ireturn, 1) := by decide +kernel
theorem dL_law_235 : decode cL_law 235 = .ok (.aload_n 1, 1) := by decide +kernel
theorem dL_law_236 : decode cL_law 236 = .ok (.aload_n 0, 1) := by decide +kernel
theorem dL_law_237 : decode cL_law 237 = .ok (.iload_n 3, 1) := by decide +kernel
theorem dL_law_238 : decode cL_law 238 = .ok (.iconst 1, 1) := by decide +kernel
theorem dL_law_239 : decode cL_law 239 = .ok (.iadd, 1) := by decide +kernel
theorem dL_law_240 : decode cL_law 240 = .ok (.iaload, 1) := by decide +kernel
theorem dL_law_241 : decode cL_law 241 = .ok (.aload_n 0, 1) := by decide +kernel
theorem dL_law_242 : decode cL_law 242 = .ok (.iload_n 3, 1) := by decide +kernel
theorem dL_law_243 : decode cL_law 243 = .ok (.iconst 2, 1) := by decide +kernel
theorem dL_law_244 : decode cL_law 244 = .ok (.iadd, 1) := by decide +kernel
theorem dL_law_245 : decode cL_law 245 = .ok (.iaload, 1) := by decide +kernel
theorem dL_law_246 : decode cL_law 246 = .ok (.aload_n 0, 1) := by decide +kernel
theorem dL_law_247 : decode cL_law 247 = .ok (.iload_n 3, 1) := by decide +kernel
theorem dL_law_248 : decode cL_law 248 = .ok (.iconst 3, 1) := by decide +kernel
theorem dL_law_249 : decode cL_law 249 = .ok (.iadd, 1) := by decide +kernel
theorem dL_law_250 : decode cL_law 250 = .ok (.iaload, 1) := by decide +kernel
theorem dL_law_251 : decode cL_law 251 = .ok (.invokevirtual 18, 3) := by decide +kernel
theorem dL_law_254 : decode cL_law 254 = .ok (.aload_n 2, 1) := by decide +kernel
theorem dL_law_255 : decode cL_law 255 = .ok (.aload_n 0, 1) := by decide +kernel
theorem dL_law_256 : decode cL_law 256 = .ok (.iload_n 3, 1) := by decide +kernel
theorem dL_law_257 : decode cL_law 257 = .ok (.iconst 1, 1) := by decide +kernel
theorem dL_law_258 : decode cL_law 258 = .ok (.iadd, 1) := by decide +kernel
theorem dL_law_259 : decode cL_law 259 = .ok (.iaload, 1) := by decide +kernel
theorem dL_law_260 : decode cL_law 260 = .ok (.aload_n 0, 1) := by decide +kernel
theorem dL_law_261 : decode cL_law 261 = .ok (.iload_n 3, 1) := by decide +kernel
theorem dL_law_262 : decode cL_law 262 = .ok (.iconst 2, 1) := by decide +kernel
theorem dL_law_263 : decode cL_law 263 = .ok (.iadd, 1) := by decide +kernel
theorem dL_law_264 : decode cL_law 264 = .ok (.iaload, 1) := by decide +kernel
theorem dL_law_265 : decode cL_law 265 = .ok (.aload_n 0, 1) := by decide +kernel
theorem dL_law_266 : decode cL_law 266 = .ok (.iload_n 3, 1) := by decide +kernel
theorem dL_law_267 : decode cL_law 267 = .ok (.iconst 3, 1) := by decide +kernel
theorem dL_law_268 : decode cL_law 268 = .ok (.iadd, 1) := by decide +kernel
theorem dL_law_269 : decode cL_law 269 = .ok (.iaload, 1) := by decide +kernel
theorem dL_law_270 : decode cL_law 270 = .ok (.invokevirtual 21, 3) := by decide +kernel
theorem dL_law_273 : decode cL_law 273 = .ok (.if_icmp .eq 967, 3) := by decide +kernel
theorem dL_law_276 : decode cL_law 276 = .ok (.iconst 0, 1) := by decide +kernel
theorem dL_law_277 : decode cL_law 277 = .ok (.ireturn, 1) := by decide +kernel
theorem dL_law_278 : decode cL_law 278 = .ok (.aload_n 1, 1) := by decide +kernel
theorem dL_law_279 : decode cL_law 279 = .ok (.aload_n 0, 1) := by decide +kernel
theorem dL_law_280 : decode cL_law 280 = .ok (.iload_n 3, 1) := by decide +kernel
theorem dL_law_281 : decode cL_law 281 = .ok (.iconst 1, 1) := by decide +kernel
theorem dL_law_282 : decode cL_law 282 = .ok (.iadd, 1) := by decide +kernel
theorem dL_law_283 : decode cL_law 283 = .ok (.iaload, 1) := by decide +kernel
theorem dL_law_284 : decode cL_law 284 = .ok (.aload_n 0, 1) := by decide +kernel
theorem dL_law_285 : decode cL_law 285 = .ok (.iload_n 3, 1) := by decide +kernel
theorem dL_law_286 : decode cL_law 286 = .ok (.iconst 2, 1) := by decide +kernel
theorem dL_law_287 : decode cL_law 287 = .ok (.iadd, 1) := by decide +kernel
theorem dL_law_288 : decode cL_law 288 = .ok (.iaload, 1) := by decide +kernel
theorem dL_law_289 : decode cL_law 289 = .ok (.aload_n 0, 1) := by decide +kernel
theorem dL_law_290 : decode cL_law 290 = .ok (.iload_n 3, 1) := by decide +kernel
theorem dL_law_291 : decode cL_law 291 = .ok (.iconst 3, 1) := by decide +kernel
theorem dL_law_292 : decode cL_law 292 = .ok (.iadd, 1) := by decide +kernel
theorem dL_law_293 : decode cL_law 293 = .ok (.iaload, 1) := by decide +kernel
theorem dL_law_294 : decode cL_law 294 = .ok (.aload_n 0, 1) := by decide +kernel
theorem dL_law_295 : decode cL_law 295 = .ok (.iload_n 3, 1) := by decide +kernel
theorem dL_law_296 : decode cL_law 296 = .ok (.iconst 4, 1) := by decide +kernel
theorem dL_law_297 : decode cL_law 297 = .ok (.iadd, 1) := by decide +kernel
theorem dL_law_298 : decode cL_law 298 = .ok (.iaload, 1) := by decide +kernel
theorem dL_law_299 : decode cL_law 299 = .ok (.aload_n 0, 1) := by decide +kernel
theorem dL_law_300 : decode cL_law 300 = .ok (.iload_n 3, 1) := by decide +kernel
theorem dL_law_301 : decode cL_law 301 = .ok (.iconst 5, 1) := by decide +kernel
theorem dL_law_302 : decode cL_law 302 = .ok (.iadd, 1) := by decide +kernel
theorem dL_law_303 : decode cL_law 303 = .ok (.iaload, 1) := by decide +kernel
theorem dL_law_304 : decode cL_law 304 = .ok (.invokevirtual 22, 3) := by decide +kernel
theorem dL_law_307 : decode cL_law 307 = .ok (.aload_n 2, 1) := by decide +kernel
theorem dL_law_308 : decode cL_law 308 = .ok (.aload_n 0, 1) := by decide +kernel
theorem dL_law_309 : decode cL_law 309 = .ok (.iload_n 3, 1) := by decide +kernel
theorem dL_law_310 : decode cL_law 310 = .ok (.iconst 1, 1) := by decide +kernel
theorem dL_law_311 : decode cL_law 311 = .ok (.iadd, 1) := by decide +kernel
theorem dL_law_312 : decode cL_law 312 = .ok (.iaload, 1) := by decide +kernel
theorem dL_law_313 : decode cL_law 313 = .ok (.aload_n 0, 1) := by decide +kernel
theorem dL_law_314 : decode cL_law 314 = .ok (.iload_n 3, 1) := by decide +kernel
theorem dL_law_315 : decode cL_law 315 = .ok (.iconst 2, 1) := by decide +kernel
theorem dL_law_316 : decode cL_law 316 = .ok (.iadd, 1) := by decide +kernel
theorem dL_law_317 : decode cL_law 317 = .ok (.iaload, 1) := by decide +kernel
theorem dL_law_318 : decode cL_law 318 = .ok (.aload_n 0, 1) := by decide +kernel
theorem dL_law_319 : decode cL_law 319 = .ok (.iload_n 3, 1) := by decide +kernel
theorem dL_law_320 : decode cL_law 320 = .ok (.iconst 3, 1) := by decide +kernel
theorem dL_law_321 : decode cL_law 321 = .ok (.iadd, 1) := by decide +kernel
theorem dL_law_322 : decode cL_law 322 = .ok (.iaload, 1) := by decide +kernel
theorem dL_law_323 : decode cL_law 323 = .ok (.aload_n 0, 1) := by decide +kernel
theorem dL_law_324 : decode cL_law 324 = .ok (.iload_n 3, 1) := by decide +kernel
theorem dL_law_325 : decode cL_law 325 = .ok (.iconst 4, 1) := by decide +kernel
theorem dL_law_326 : decode cL_law 326 = .ok (.iadd, 1) := by decide +kernel
theorem dL_law_327 : decode cL_law 327 = .ok (.iaload, 1) := by decide +kernel
theorem dL_law_328 : decode cL_law 328 = .ok (.aload_n 0, 1) := by decide +kernel
theorem dL_law_329 : decode cL_law 329 = .ok (.iload_n 3, 1) := by decide +kernel
theorem dL_law_330 : decode cL_law 330 = .ok (.iconst 5, 1) := by decide +kernel
theorem dL_law_331 : decode cL_law 331 = .ok (.iadd, 1) := by decide +kernel
theorem dL_law_332 : decode cL_law 332 = .ok (.iaload, 1) := by decide +kernel
theorem dL_law_333 : decode cL_law 333 = .ok (.invokevirtual 26, 3) := by decide +kernel
theorem dL_law_336 : decode cL_law 336 = .ok (.if_icmp .eq 904, 3) := by decide +kernel
theorem dL_law_339 : decode cL_law 339 = .ok (.iconst 0, 1) := by decide +kernel
theorem dL_law_340 : decode cL_law 340 = .ok (.ireturn, 1) := by decide +kernel
theorem dL_law_341 : decode cL_law 341 = .ok (.aload_n 1, 1) := by decide +kernel
theorem dL_law_342 : decode cL_law 342 = .ok (.aload_n 0, 1) := by decide +kernel
theorem dL_law_343 : decode cL_law 343 = .ok (.iload_n 3, 1) := by decide +kernel
theorem dL_law_344 : decode cL_law 344 = .ok (.iconst 1, 1) := by decide +kernel
theorem dL_law_345 : decode cL_law 345 = .ok (.iadd, 1) := by decide +kernel
theorem dL_law_346 : decode cL_law 346 = .ok (.iaload, 1) := by decide +kernel
theorem dL_law_347 : decode cL_law 347 = .ok (.invokevirtual 27, 3) := by decide +kernel
theorem dL_law_350 : decode cL_law 350 = .ok (.aload_n 2, 1) := by decide +kernel
theorem dL_law_351 : decode cL_law 351 = .ok (.aload_n 0, 1) := by decide +kernel
theorem dL_law_352 : decode cL_law 352 = .ok (.iload_n 3, 1) := by decide +kernel
theorem dL_law_353 : decode cL_law 353 = .ok (.iconst 1, 1) := by decide +kernel
theorem dL_law_354 : decode cL_law 354 = .ok (.iadd, 1) := by decide +kernel
theorem dL_law_355 : decode cL_law 355 = .ok (.iaload, 1) := by decide +kernel
theorem dL_law_356 : decode cL_law 356 = .ok (.invokevirtual 31, 3) := by decide +kernel
theorem dL_law_359 : decode cL_law 359 = .ok (.if_icmp .eq 881, 3) := by decide +kernel
theorem dL_law_362 : decode cL_law 362 = .ok (.iconst 0, 1) := by decide +kernel
theorem dL_law_363 : decode cL_law 363 = .ok (.ireturn, 1) := by decide +kernel
theorem dL_law_364 : decode cL_law 364 = .ok (.aload_n 1, 1) := by decide +kernel
theorem dL_law_365 : decode cL_law 365 = .ok (.aload_n 0, 1) := by decide +kernel
theorem dL_law_366 : decode cL_law 366 = .ok (.iload_n 3, 1) := by decide +kernel
theorem dL_law_367 : decode cL_law 367 = .ok (.iconst 1, 1) := by decide +kernel
theorem dL_law_368 : decode cL_law 368 = .ok (.iadd, 1) := by decide +kernel
theorem dL_law_369 : decode cL_law 369 = .ok (.iaload, 1) := by decide +kernel
theorem dL_law_370 : decode cL_law 370 = .ok (.invokevirtual 32, 3) := by decide +kernel
theorem dL_law_373 : decode cL_law 373 = .ok (.aload_n 2, 1) := by decide +kernel
theorem dL_law_374 : decode cL_law 374 = .ok (.aload_n 0, 1) := by decide +kernel
theorem dL_law_375 : decode cL_law 375 = .ok (.iload_n 3, 1) := by decide +kernel
theorem dL_law_376 : decode cL_law 376 = .ok (.iconst 1, 1) := by decide +kernel
theorem dL_law_377 : decode cL_law 377 = .ok (.iadd, 1) := by decide +kernel
theorem dL_law_378 : decode cL_law 378 = .ok (.iaload, 1) := by decide +kernel
theorem dL_law_379 : decode cL_law 379 = .ok (.invokevirtual 35, 3) := by decide +kernel
theorem dL_law_382 : decode cL_law 382 = .ok (.if_icmp .eq 858, 3) := by decide +kernel
theorem dL_law_385 : decode cL_law 385 = .ok (.iconst 0, 1) := by decide +kernel
theorem dL_law_386 : decode cL_law 386 = .ok (.ireturn, 1) := by decide +kernel
theorem dL_law_387 : decode cL_law 387 = .ok (.aload_n 1, 1) := by decide +kernel
theorem dL_law_388 : decode cL_law 388 = .ok (.invokevirtual 36, 3) := by decide +kernel
theorem dL_law_391 : decode cL_law 391 = .ok (.aload_n 2, 1) := by decide +kernel
theorem dL_law_392 : decode cL_law 392 = .ok (.invokevirtual 40, 3) := by decide +kernel
theorem dL_law_395 : decode cL_law 395 = .ok (.if_icmp .eq 845, 3) := by decide +kernel
theorem dL_law_398 : decode cL_law 398 = .ok (.iconst 0, 1) := by decide +kernel
theorem dL_law_399 : decode cL_law 399 = .ok (.ireturn, 1) := by decide +kernel
theorem dL_law_400 : decode cL_law 400 = .ok (.aload_n 1, 1) := by decide +kernel
theorem dL_law_401 : decode cL_law 401 = .ok (.invokevirtual 41, 3) := by decide +kernel
theorem dL_law_404 : decode cL_law 404 = .ok (.aload_n 2, 1) := by decide +kernel
theorem dL_law_405 : decode cL_law 405 = .ok (.invokevirtual 44, 3) := by decide +kernel
theorem dL_law_408 : decode cL_law 408 = .ok (.if_icmp .eq 832, 3) := by decide +kernel
theorem dL_law_411 : decode cL_law 411 = .ok (.iconst 0, 1) := by decide +kernel
theorem dL_law_412 : decode cL_law 412 = .ok (.ireturn, 1) := by decide +kernel
theorem dL_law_413 : decode cL_law 413 = .ok (.aload_n 1, 1) := by decide +kernel
theorem dL_law_414 : decode cL_law 414 = .ok (.aload_n 0, 1) := by decide +kernel
theorem dL_law_415 : decode cL_law 415 = .ok (.iload_n 3, 1) := by decide +kernel
theorem dL_law_416 : decode cL_law 416 = .ok (.iconst 1, 1) := by decide +kernel
theorem dL_law_417 : decode cL_law 417 = .ok (.iadd, 1) := by decide +kernel
theorem dL_law_418 : decode cL_law 418 = .ok (.iaload, 1) := by decide +kernel
theorem dL_law_419 : decode cL_law 419 = .ok (.invokevirtual 45, 3) := by decide +kernel
theorem dL_law_422 : decode cL_law 422 = .ok (.aload_n 2, 1) := by decide +kernel
theorem dL_law_423 : decode cL_law 423 = .ok (.aload_n 0, 1) := by decide +kernel
theorem dL_law_424 : decode cL_law 424 = .ok (.iload_n 3, 1) := by decide +kernel
theorem dL_law_425 : decode cL_law 425 = .ok (.iconst 1, 1) := by decide +kernel
theorem dL_law_426 : decode cL_law 426 = .ok (.iadd, 1) := by decide +kernel
theorem dL_law_427 : decode cL_law 427 = .ok (.iaload, 1) := by decide +kernel
theorem dL_law_428 : decode cL_law 428 = .ok (.invokevirtual 48, 3) := by decide +kernel
theorem dL_law_431 : decode cL_law 431 = .ok (.if_icmp .eq 809, 3) := by decide +kernel
theorem dL_law_434 : decode cL_law 434 = .ok (.iconst 0, 1) := by decide +kernel
theorem dL_law_435 : decode cL_law 435 = .ok (.ireturn, 1) := by decide +kernel
theorem dL_law_436 : decode cL_law 436 = .ok (.aload_n 1, 1) := by decide +kernel
theorem dL_law_437 : decode cL_law 437 = .ok (.aload_n 0, 1) := by decide +kernel
theorem dL_law_438 : decode cL_law 438 = .ok (.iload_n 3, 1) := by decide +kernel
theorem dL_law_439 : decode cL_law 439 = .ok (.iconst 1, 1) := by decide +kernel
theorem dL_law_440 : decode cL_law 440 = .ok (.iadd, 1) := by decide +kernel
theorem dL_law_441 : decode cL_law 441 = .ok (.iaload, 1) := by decide +kernel
theorem dL_law_442 : decode cL_law 442 = .ok (.aload_n 0, 1) := by decide +kernel
theorem dL_law_443 : decode cL_law 443 = .ok (.iload_n 3, 1) := by decide +kernel
theorem dL_law_444 : decode cL_law 444 = .ok (.iconst 2, 1) := by decide +kernel
theorem dL_law_445 : decode cL_law 445 = .ok (.iadd, 1) := by decide +kernel
theorem dL_law_446 : decode cL_law 446 = .ok (.iaload, 1) := by decide +kernel
theorem dL_law_447 : decode cL_law 447 = .ok (.invokevirtual 49, 3) := by decide +kernel
theorem dL_law_450 : decode cL_law 450 = .ok (.aload_n 2, 1) := by decide +kernel
theorem dL_law_451 : decode cL_law 451 = .ok (.aload_n 0, 1) := by decide +kernel
theorem dL_law_452 : decode cL_law 452 = .ok (.iload_n 3, 1) := by decide +kernel
theorem dL_law_453 : decode cL_law 453 = .ok (.iconst 1, 1) := by decide +kernel
theorem dL_law_454 : decode cL_law 454 = .ok (.iadd, 1) := by decide +kernel
theorem dL_law_455 : decode cL_law 455 = .ok (.iaload, 1) := by decide +kernel
theorem dL_law_456 : decode cL_law 456 = .ok (.aload_n 0, 1) := by decide +kernel
theorem dL_law_457 : decode cL_law 457 = .ok (.iload_n 3, 1) := by decide +kernel
theorem dL_law_458 : decode cL_law 458 = .ok (.iconst 2, 1) := by decide +kernel
theorem dL_law_459 : decode cL_law 459 = .ok (.iadd, 1) := by decide +kernel
theorem dL_law_460 : decode cL_law 460 = .ok (.iaload, 1) := by decide +kernel
theorem dL_law_461 : decode cL_law 461 = .ok (.invokevirtual 53, 3) := by decide +kernel
theorem dL_law_464 : decode cL_law 464 = .ok (.if_icmp .eq 776, 3) := by decide +kernel
theorem dL_law_467 : decode cL_law 467 = .ok (.iconst 0, 1) := by decide +kernel
theorem dL_law_468 : decode cL_law 468 = .ok (.ireturn, 1) := by decide +kernel
theorem dL_law_469 : decode cL_law 469 = .ok (.aload_n 1, 1) := by decide +kernel
theorem dL_law_470 : decode cL_law 470 = .ok (.aload_n 0, 1) := by decide +kernel
theorem dL_law_471 : decode cL_law 471 = .ok (.iload_n 3, 1) := by decide +kernel
theorem dL_law_472 : decode cL_law 472 = .ok (.iconst 1, 1) := by decide +kernel
theorem dL_law_473 : decode cL_law 473 = .ok (.iadd, 1) := by decide +kernel
theorem dL_law_474 : decode cL_law 474 = .ok (.iaload, 1) := by decide +kernel
theorem dL_law_475 : decode cL_law 475 = .ok (.aload_n 0, 1) := by decide +kernel
theorem dL_law_476 : decode cL_law 476 = .ok (.iload_n 3, 1) := by decide +kernel
theorem dL_law_477 : decode cL_law 477 = .ok (.iconst 2, 1) := by decide +kernel
theorem dL_law_478 : decode cL_law 478 = .ok (.iadd, 1) := by decide +kernel
theorem dL_law_479 : decode cL_law 479 = .ok (.iaload, 1) := by decide +kernel
theorem dL_law_480 : decode cL_law 480 = .ok (.invokevirtual 54, 3) := by decide +kernel
theorem dL_law_483 : decode cL_law 483 = .ok (.aload_n 2, 1) := by decide +kernel
theorem dL_law_484 : decode cL_law 484 = .ok (.aload_n 0, 1) := by decide +kernel
theorem dL_law_485 : decode cL_law 485 = .ok (.iload_n 3, 1) := by decide +kernel
theorem dL_law_486 : decode cL_law 486 = .ok (.iconst 1, 1) := by decide +kernel
theorem dL_law_487 : decode cL_law 487 = .ok (.iadd, 1) := by decide +kernel
theorem dL_law_488 : decode cL_law 488 = .ok (.iaload, 1) := by decide +kernel
theorem dL_law_489 : decode cL_law 489 = .ok (.aload_n 0, 1) := by decide +kernel
theorem dL_law_490 : decode cL_law 490 = .ok (.iload_n 3, 1) := by decide +kernel
theorem dL_law_491 : decode cL_law 491 = .ok (.iconst 2, 1) := by decide +kernel
theorem dL_law_492 : decode cL_law 492 = .ok (.iadd, 1) := by decide +kernel
theorem dL_law_493 : decode cL_law 493 = .ok (.iaload, 1) := by decide +kernel
theorem dL_law_494 : decode cL_law 494 = .ok (.invokevirtual 57, 3) := by decide +kernel
theorem dL_law_497 : decode cL_law 497 = .ok (.if_icmp .eq 743, 3) := by decide +kernel
theorem dL_law_500 : decode cL_law 500 = .ok (.iconst 0, 1) := by decide +kernel
theorem dL_law_501 : decode cL_law 501 = .ok (.ireturn, 1) := by decide +kernel
theorem dL_law_502 : decode cL_law 502 = .ok (.aload_n 1, 1) := by decide +kernel
theorem dL_law_503 : decode cL_law 503 = .ok (.aload_n 0, 1) := by decide +kernel
theorem dL_law_504 : decode cL_law 504 = .ok (.iload_n 3, 1) := by decide +kernel
theorem dL_law_505 : decode cL_law 505 = .ok (.iconst 1, 1) := by decide +kernel
theorem dL_law_506 : decode cL_law 506 = .ok (.iadd, 1) := by decide +kernel
theorem dL_law_507 : decode cL_law 507 = .ok (.iaload, 1) := by decide +kernel
theorem dL_law_508 : decode cL_law 508 = .ok (.aload_n 0, 1) := by decide +kernel
theorem dL_law_509 : decode cL_law 509 = .ok (.iload_n 3, 1) := by decide +kernel
theorem dL_law_510 : decode cL_law 510 = .ok (.iconst 2, 1) := by decide +kernel
theorem dL_law_511 : decode cL_law 511 = .ok (.iadd, 1) := by decide +kernel
theorem dL_law_512 : decode cL_law 512 = .ok (.iaload, 1) := by decide +kernel
theorem dL_law_513 : decode cL_law 513 = .ok (.invokevirtual 58, 3) := by decide +kernel
theorem dL_law_516 : decode cL_law 516 = .ok (.aload_n 2, 1) := by decide +kernel
theorem dL_law_517 : decode cL_law 517 = .ok (.aload_n 0, 1) := by decide +kernel
theorem dL_law_518 : decode cL_law 518 = .ok (.iload_n 3, 1) := by decide +kernel
theorem dL_law_519 : decode cL_law 519 = .ok (.iconst 1, 1) := by decide +kernel
theorem dL_law_520 : decode cL_law 520 = .ok (.iadd, 1) := by decide +kernel
theorem dL_law_521 : decode cL_law 521 = .ok (.iaload, 1) := by decide +kernel
theorem dL_law_522 : decode cL_law 522 = .ok (.aload_n 0, 1) := by decide +kernel
theorem dL_law_523 : decode cL_law 523 = .ok (.iload_n 3, 1) := by decide +kernel
theorem dL_law_524 : decode cL_law 524 = .ok (.iconst 2, 1) := by decide +kernel
theorem dL_law_525 : decode cL_law 525 = .ok (.iadd, 1) := by decide +kernel
theorem dL_law_526 : decode cL_law 526 = .ok (.iaload, 1) := by decide +kernel
theorem dL_law_527 : decode cL_law 527 = .ok (.invokevirtual 61, 3) := by decide +kernel
theorem dL_law_530 : decode cL_law 530 = .ok (.if_icmp .eq 710, 3) := by decide +kernel
theorem dL_law_533 : decode cL_law 533 = .ok (.iconst 0, 1) := by decide +kernel
theorem dL_law_534 : decode cL_law 534 = .ok (.ireturn, 1) := by decide +kernel
theorem dL_law_535 : decode cL_law 535 = .ok (.aload_n 1, 1) := by decide +kernel
theorem dL_law_536 : decode cL_law 536 = .ok (.invokevirtual 62, 3) := by decide +kernel
theorem dL_law_539 : decode cL_law 539 = .ok (.aload_n 2, 1) := by decide +kernel
theorem dL_law_540 : decode cL_law 540 = .ok (.invokevirtual 65, 3) := by decide +kernel
theorem dL_law_543 : decode cL_law 543 = .ok (.if_icmp .eq 697, 3) := by decide +kernel
theorem dL_law_546 : decode cL_law 546 = .ok (.iconst 0, 1) := by decide +kernel
theorem dL_law_547 : decode cL_law 547 = .ok (.ireturn, 1) := by decide +kernel
theorem dL_law_548 : decode cL_law 548 = .ok (.aload_n 1, 1) := by decide +kernel
theorem dL_law_549 : decode cL_law 549 = .ok (.aload_n 0, 1) := by decide +kernel
theorem dL_law_550 : decode cL_law 550 = .ok (.iload_n 3, 1) := by decide +kernel
theorem dL_law_551 : decode cL_law 551 = .ok (.iconst 1, 1) := by decide +kernel
theorem dL_law_552 : decode cL_law 552 = .ok (.iadd, 1) := by decide +kernel
theorem dL_law_553 : decode cL_law 553 = .ok (.iaload, 1) := by decide +kernel
theorem dL_law_554 : decode cL_law 554 = .ok (.aload_n 0, 1) := by decide +kernel
theorem dL_law_555 : decode cL_law 555 = .ok (.iload_n 3, 1) := by decide +kernel
theorem dL_law_556 : decode cL_law 556 = .ok (.iconst 2, 1) := by decide +kernel
theorem dL_law_557 : decode cL_law 557 = .ok (.iadd, 1) := by decide +kernel
theorem dL_law_558 : decode cL_law 558 = .ok (.iaload, 1) := by decide +kernel
theorem dL_law_559 : decode cL_law 559 = .ok (.invokevirtual 66, 3) := by decide +kernel
theorem dL_law_562 : decode cL_law 562 = .ok (.aload_n 2, 1) := by decide +kernel
theorem dL_law_563 : decode cL_law 563 = .ok (.aload_n 0, 1) := by decide +kernel
theorem dL_law_564 : decode cL_law 564 = .ok (.iload_n 3, 1) := by decide +kernel
theorem dL_law_565 : decode cL_law 565 = .ok (.iconst 1, 1) := by decide +kernel
theorem dL_law_566 : decode cL_law 566 = .ok (.iadd, 1) := by decide +kernel
theorem dL_law_567 : decode cL_law 567 = .ok (.iaload, 1) := by decide +kernel
theorem dL_law_568 : decode cL_law 568 = .ok (.aload_n 0, 1) := by decide +kernel
theorem dL_law_569 : decode cL_law 569 = .ok (.iload_n 3, 1) := by decide +kernel
theorem dL_law_570 : decode cL_law 570 = .ok (.iconst 2, 1) := by decide +kernel
theorem dL_law_571 : decode cL_law 571 = .ok (.iadd, 1) := by decide +kernel
theorem dL_law_572 : decode cL_law 572 = .ok (.iaload, 1) := by decide +kernel
theorem dL_law_573 : decode cL_law 573 = .ok (.invokevirtual 69, 3) := by decide +kernel
theorem dL_law_576 : decode cL_law 576 = .ok (.if_icmp .eq 664, 3) := by decide +kernel
theorem dL_law_579 : decode cL_law 579 = .ok (.iconst 0, 1) := by decide +kernel
theorem dL_law_580 : decode cL_law 580 = .ok (.ireturn, 1) := by decide +kernel
theorem dL_law_581 : decode cL_law 581 = .ok (.aload_n 1, 1) := by decide +kernel
theorem dL_law_582 : decode cL_law 582 = .ok (.aload_n 0, 1) := by decide +kernel
theorem dL_law_583 : decode cL_law 583 = .ok (.iload_n 3, 1) := by decide +kernel
theorem dL_law_584 : decode cL_law 584 = .ok (.iconst 1, 1) := by decide +kernel
theorem dL_law_585 : decode cL_law 585 = .ok (.iadd, 1) := by decide +kernel
theorem dL_law_586 : decode cL_law 586 = .ok (.iaload, 1) := by decide +kernel
theorem dL_law_587 : decode cL_law 587 = .ok (.aload_n 0, 1) := by decide +kernel
theorem dL_law_588 : decode cL_law 588 = .ok (.iload_n 3, 1) := by decide +kernel
theorem dL_law_589 : decode cL_law 589 = .ok (.iconst 2, 1) := by decide +kernel
theorem dL_law_590 : decode cL_law 590 = .ok (.iadd, 1) := by decide +kernel
theorem dL_law_591 : decode cL_law 591 = .ok (.iaload, 1) := by decide +kernel
theorem dL_law_592 : decode cL_law 592 = .ok (.invokevirtual 70, 3) := by decide +kernel
theorem dL_law_595 : decode cL_law 595 = .ok (.aload_n 2, 1) := by decide +kernel
theorem dL_law_596 : decode cL_law 596 = .ok (.aload_n 0, 1) := by decide +kernel
theorem dL_law_597 : decode cL_law 597 = .ok (.iload_n 3, 1) := by decide +kernel
theorem dL_law_598 : decode cL_law 598 = .ok (.iconst 1, 1) := by decide +kernel
theorem dL_law_599 : decode cL_law 599 = .ok (.iadd, 1) := by decide +kernel
theorem dL_law_600 : decode cL_law 600 = .ok (.iaload, 1) := by decide +kernel
theorem dL_law_601 : decode cL_law 601 = .ok (.aload_n 0, 1) := by decide +kernel
theorem dL_law_602 : decode cL_law 602 = .ok (.iload_n 3, 1) := by decide +kernel
theorem dL_law_603 : decode cL_law 603 = .ok (.iconst 2, 1) := by decide +kernel
theorem dL_law_604 : decode cL_law 604 = .ok (.iadd, 1) := by decide +kernel
theorem dL_law_605 : decode cL_law 605 = .ok (.iaload, 1) := by decide +kernel
theorem dL_law_606 : decode cL_law 606 = .ok (.invokevirtual 73, 3) := by decide +kernel
theorem dL_law_609 : decode cL_law 609 = .ok (.if_icmp .eq 631, 3) := by decide +kernel
theorem dL_law_612 : decode cL_law 612 = .ok (.iconst 0, 1) := by decide +kernel
theorem dL_law_613 : decode cL_law 613 = .ok (.ireturn, 1) := by decide +kernel
theorem dL_law_614 : decode cL_law 614 = .ok (.aload_n 1, 1) := by decide +kernel
theorem dL_law_615 : decode cL_law 615 = .ok (.aload_n 0, 1) := by decide +kernel
theorem dL_law_616 : decode cL_law 616 = .ok (.iload_n 3, 1) := by decide +kernel
theorem dL_law_617 : decode cL_law 617 = .ok (.iconst 1, 1) := by decide +kernel
theorem dL_law_618 : decode cL_law 618 = .ok (.iadd, 1) := by decide +kernel
theorem dL_law_619 : decode cL_law 619 = .ok (.iaload, 1) := by decide +kernel
theorem dL_law_620 : decode cL_law 620 = .ok (.aload_n 0, 1) := by decide +kernel
theorem dL_law_621 : decode cL_law 621 = .ok (.iload_n 3, 1) := by decide +kernel
theorem dL_law_622 : decode cL_law 622 = .ok (.iconst 2, 1) := by decide +kernel
theorem dL_law_623 : decode cL_law 623 = .ok (.iadd, 1) := by decide +kernel
theorem dL_law_624 : decode cL_law 624 = .ok (.iaload, 1) := by decide +kernel
theorem dL_law_625 : decode cL_law 625 = .ok (.invokevirtual 74, 3) := by decide +kernel
theorem dL_law_628 : decode cL_law 628 = .ok (.aload_n 2, 1) := by decide +kernel
theorem dL_law_629 : decode cL_law 629 = .ok (.aload_n 0, 1) := by decide +kernel
theorem dL_law_630 : decode cL_law 630 = .ok (.iload_n 3, 1) := by decide +kernel
theorem dL_law_631 : decode cL_law 631 = .ok (.iconst 1, 1) := by decide +kernel
theorem dL_law_632 : decode cL_law 632 = .ok (.iadd, 1) := by decide +kernel
theorem dL_law_633 : decode cL_law 633 = .ok (.iaload, 1) := by decide +kernel
theorem dL_law_634 : decode cL_law 634 = .ok (.aload_n 0, 1) := by decide +kernel
theorem dL_law_635 : decode cL_law 635 = .ok (.iload_n 3, 1) := by decide +kernel
theorem dL_law_636 : decode cL_law 636 = .ok (.iconst 2, 1) := by decide +kernel
theorem dL_law_637 : decode cL_law 637 = .ok (.iadd, 1) := by decide +kernel
theorem dL_law_638 : decode cL_law 638 = .ok (.iaload, 1) := by decide +kernel
theorem dL_law_639 : decode cL_law 639 = .ok (.invokevirtual 77, 3) := by decide +kernel
theorem dL_law_642 : decode cL_law 642 = .ok (.if_icmp .eq 598, 3) := by decide +kernel
theorem dL_law_645 : decode cL_law 645 = .ok (.iconst 0, 1) := by decide +kernel
theorem dL_law_646 : decode cL_law 646 = .ok (.ireturn, 1) := by decide +kernel
theorem dL_law_647 : decode cL_law 647 = .ok (.aload_n 1, 1) := by decide +kernel
theorem dL_law_648 : decode cL_law 648 = .ok (.aload_n 0, 1) := by decide +kernel
theorem dL_law_649 : decode cL_law 649 = .ok (.iload_n 3, 1) := by decide +kernel
theorem dL_law_650 : decode cL_law 650 = .ok (.iconst 1, 1) := by decide +kernel
theorem dL_law_651 : decode cL_law 651 = .ok (.iadd, 1) := by decide +kernel
theorem dL_law_652 : decode cL_law 652 = .ok (.iaload, 1) := by decide +kernel
theorem dL_law_653 : decode cL_law 653 = .ok (.invokevirtual 78, 3) := by decide +kernel
theorem dL_law_656 : decode cL_law 656 = .ok (.aload_n 2, 1) := by decide +kernel
theorem dL_law_657 : decode cL_law 657 = .ok (.aload_n 0, 1) := by decide +kernel
theorem dL_law_658 : decode cL_law 658 = .ok (.iload_n 3, 1) := by decide +kernel
theorem dL_law_659 : decode cL_law 659 = .ok (.iconst 1, 1) := by decide +kernel
theorem dL_law_660 : decode cL_law 660 = .ok (.iadd, 1) := by decide +kernel
theorem dL_law_661 : decode cL_law 661 = .ok (.iaload, 1) := by decide +kernel
theorem dL_law_662 : decode cL_law 662 = .ok (.invokevirtual 81, 3) := by decide +kernel
theorem dL_law_665 : decode cL_law 665 = .ok (.if_icmp .eq 575, 3) := by decide +kernel
theorem dL_law_668 : decode cL_law 668 = .ok (.iconst 0, 1) := by decide +kernel
theorem dL_law_669 : decode cL_law 669 = .ok (.ireturn, 1) := by decide +kernel
theorem dL_law_670 : decode cL_law 670 = .ok (.aload_n 1, 1) := by decide +kernel
theorem dL_law_671 : decode cL_law 671 = .ok (.aload_n 0, 1) := by decide +kernel
theorem dL_law_672 : decode cL_law 672 = .ok (.iload_n 3, 1) := by decide +kernel
theorem dL_law_673 : decode cL_law 673 = .ok (.iconst 1, 1) := by decide +kernel
theorem dL_law_674 : decode cL_law 674 = .ok (.iadd, 1) := by decide +kernel
theorem dL_law_675 : decode cL_law 675 = .ok (.iaload, 1) := by decide +kernel
theorem dL_law_676 : decode cL_law 676 = .ok (.invokevirtual 82, 3) := by decide +kernel
theorem dL_law_679 : decode cL_law 679 = .ok (.aload_n 2, 1) := by decide +kernel
theorem dL_law_680 : decode cL_law 680 = .ok (.aload_n 0, 1) := by decide +kernel
theorem dL_law_681 : decode cL_law 681 = .ok (.iload_n 3, 1) := by decide +kernel
theorem dL_law_682 : decode cL_law 682 = .ok (.iconst 1, 1) := by decide +kernel
theorem dL_law_683 : decode cL_law 683 = .ok (.iadd, 1) := by decide +kernel
theorem dL_law_684 : decode cL_law 684 = .ok (.iaload, 1) := by decide +kernel
theorem dL_law_685 : decode cL_law 685 = .ok (.invokevirtual 85, 3) := by decide +kernel
theorem dL_law_688 : decode cL_law 688 = .ok (.if_icmp .eq 552, 3) := by decide +kernel
theorem dL_law_691 : decode cL_law 691 = .ok (.iconst 0, 1) := by decide +kernel
theorem dL_law_692 : decode cL_law 692 = .ok (.ireturn, 1) := by decide +kernel
theorem dL_law_693 : decode cL_law 693 = .ok (.aload_n 1, 1) := by decide +kernel
theorem dL_law_694 : decode cL_law 694 = .ok (.aload_n 0, 1) := by decide +kernel
theorem dL_law_695 : decode cL_law 695 = .ok (.iload_n 3, 1) := by decide +kernel
theorem dL_law_696 : decode cL_law 696 = .ok (.iconst 1, 1) := by decide +kernel
theorem dL_law_697 : decode cL_law 697 = .ok (.iadd, 1) := by decide +kernel
theorem dL_law_698 : decode cL_law 698 = .ok (.iaload, 1) := by decide +kernel
theorem dL_law_699 : decode cL_law 699 = .ok (.invokevirtual 86, 3) := by decide +kernel
theorem dL_law_702 : decode cL_law 702 = .ok (.aload_n 2, 1) := by decide +kernel
theorem dL_law_703 : decode cL_law 703 = .ok (.aload_n 0, 1) := by decide +kernel
theorem dL_law_704 : decode cL_law 704 = .ok (.iload_n 3, 1) := by decide +kernel
theorem dL_law_705 : decode cL_law 705 = .ok (.iconst 1, 1) := by decide +kernel
theorem dL_law_706 : decode cL_law 706 = .ok (.iadd, 1) := by decide +kernel
theorem dL_law_707 : decode cL_law 707 = .ok (.iaload, 1) := by decide +kernel
theorem dL_law_708 : decode cL_law 708 = .ok (.invokevirtual 89, 3) := by decide +kernel
theorem dL_law_711 : decode cL_law 711 = .ok (.if_icmp .eq 529, 3) := by decide +kernel
theorem dL_law_714 : decode cL_law 714 = .ok (.iconst 0, 1) := by decide +kernel
theorem dL_law_715 : decode cL_law 715 = .ok (.ireturn, 1) := by decide +kernel
theorem dL_law_716 : decode cL_law 716 = .ok (.aload_n 1, 1) := by decide +kernel
theorem dL_law_717 : decode cL_law 717 = .ok (.invokevirtual 90, 3) := by decide +kernel
theorem dL_law_720 : decode cL_law 720 = .ok (.aload_n 2, 1) := by decide +kernel
theorem dL_law_721 : decode cL_law 721 = .ok (.invokevirtual 93, 3) := by decide +kernel
theorem dL_law_724 : decode cL_law 724 = .ok (.if_icmp .eq 516, 3) := by decide +kernel
theorem dL_law_727 : decode cL_law 727 = .ok (.iconst 0, 1) := by decide +kernel
theorem dL_law_728 : decode cL_law 728 = .ok (.ireturn, 1) := by decide +kernel
theorem dL_law_729 : decode cL_law 729 = .ok (.aload_n 1, 1) := by decide +kernel
theorem dL_law_730 : decode cL_law 730 = .ok (.invokevirtual 94, 3) := by decide +kernel
theorem dL_law_733 : decode cL_law 733 = .ok (.aload_n 2, 1) := by decide +kernel
theorem dL_law_734 : decode cL_law 734 = .ok (.invokevirtual 97, 3) := by decide +kernel
theorem dL_law_737 : decode cL_law 737 = .ok (.if_icmp .eq 503, 3) := by decide +kernel
theorem dL_law_740 : decode cL_law 740 = .ok (.iconst 0, 1) := by decide +kernel
theorem dL_law_741 : decode cL_law 741 = .ok (.ireturn, 1) := by decide +kernel
theorem dL_law_742 : decode cL_law 742 = .ok (.aload_n 1, 1) := by decide +kernel
theorem dL_law_743 : decode cL_law 743 = .ok (.invokevirtual 98, 3) := by decide +kernel
theorem dL_law_746 : decode cL_law 746 = .ok (.aload_n 2, 1) := by decide +kernel
theorem dL_law_747 : decode cL_law 747 = .ok (.invokevirtual 101, 3) := by decide +kernel
theorem dL_law_750 : decode cL_law 750 = .ok (.if_icmp .eq 490, 3) := by decide +kernel
theorem dL_law_753 : decode cL_law 753 = .ok (.iconst 0, 1) := by decide +kernel
theorem dL_law_754 : decode cL_law 754 = .ok (.ireturn, 1) := by decide +kernel
theorem dL_law_755 : decode cL_law 755 = .ok (.aload_n 1, 1) := by decide +kernel
theorem dL_law_756 : decode cL_law 756 = .ok (.aload_n 0, 1) := by decide +kernel
theorem dL_law_757 : decode cL_law 757 = .ok (.iload_n 3, 1) := by decide +kernel
theorem dL_law_758 : decode cL_law 758 = .ok (.iconst 1, 1) := by decide +kernel
theorem dL_law_759 : decode cL_law 759 = .ok (.iadd, 1) := by decide +kernel
theorem dL_law_760 : decode cL_law 760 = .ok (.iaload, 1) := by decide +kernel
theorem dL_law_761 : decode cL_law 761 = .ok (.aload_n 0, 1) := by decide +kernel
theorem dL_law_762 : decode cL_law 762 = .ok (.iload_n 3, 1) := by decide +kernel
theorem dL_law_763 : decode cL_law 763 = .ok (.iconst 2, 1) := by decide +kernel
theorem dL_law_764 : decode cL_law 764 = .ok (.iadd, 1) := by decide +kernel
theorem dL_law_765 : decode cL_law 765 = .ok (.iaload, 1) := by decide +kernel
theorem dL_law_766 : decode cL_law 766 = .ok (.invokevirtual 102, 3) := by decide +kernel
theorem dL_law_769 : decode cL_law 769 = .ok (.aload_n 2, 1) := by decide +kernel
theorem dL_law_770 : decode cL_law 770 = .ok (.aload_n 0, 1) := by decide +kernel
theorem dL_law_771 : decode cL_law 771 = .ok (.iload_n 3, 1) := by decide +kernel
theorem dL_law_772 : decode cL_law 772 = .ok (.iconst 1, 1) := by decide +kernel
theorem dL_law_773 : decode cL_law 773 = .ok (.iadd, 1) := by decide +kernel
theorem dL_law_774 : decode cL_law 774 = .ok (.iaload, 1) := by decide +kernel
theorem dL_law_775 : decode cL_law 775 = .ok (.aload_n 0, 1) := by decide +kernel
theorem dL_law_776 : decode cL_law 776 = .ok (.iload_n 3, 1) := by decide +kernel
theorem dL_law_777 : decode cL_law 777 = .ok (.iconst 2, 1) := by decide +kernel
theorem dL_law_778 : decode cL_law 778 = .ok (.iadd, 1) := by decide +kernel
theorem dL_law_779 : decode cL_law 779 = .ok (.iaload, 1) := by decide +kernel
theorem dL_law_780 : decode cL_law 780 = .ok (.invokevirtual 105, 3) := by decide +kernel
theorem dL_law_783 : decode cL_law 783 = .ok (.if_icmp .eq 457, 3) := by decide +kernel
theorem dL_law_786 : decode cL_law 786 = .ok (.iconst 0, 1) := by decide +kernel
theorem dL_law_787 : decode cL_law 787 = .ok (.ireturn, 1) := by decide +kernel
theorem dL_law_788 : decode cL_law 788 = .ok (.aload_n 1, 1) := by decide +kernel
theorem dL_law_789 : decode cL_law 789 = .ok (.aload_n 0, 1) := by decide +kernel
theorem dL_law_790 : decode cL_law 790 = .ok (.iload_n 3, 1) := by decide +kernel
theorem dL_law_791 : decode cL_law 791 = .ok (.iconst 1, 1) := by decide +kernel
theorem dL_law_792 : decode cL_law 792 = .ok (.iadd, 1) := by decide +kernel
theorem dL_law_793 : decode cL_law 793 = .ok (.iaload, 1) := by decide +kernel
theorem dL_law_794 : decode cL_law 794 = .ok (.aload_n 0, 1) := by decide +kernel
theorem dL_law_795 : decode cL_law 795 = .ok (.iload_n 3, 1) := by decide +kernel
theorem dL_law_796 : decode cL_law 796 = .ok (.iconst 2, 1) := by decide +kernel
theorem dL_law_797 : decode cL_law 797 = .ok (.iadd, 1) := by decide +kernel
theorem dL_law_798 : decode cL_law 798 = .ok (.iaload, 1) := by decide +kernel
theorem dL_law_799 : decode cL_law 799 = .ok (.invokevirtual 106, 3) := by decide +kernel
theorem dL_law_802 : decode cL_law 802 = .ok (.aload_n 2, 1) := by decide +kernel
theorem dL_law_803 : decode cL_law 803 = .ok (.aload_n 0, 1) := by decide +kernel
theorem dL_law_804 : decode cL_law 804 = .ok (.iload_n 3, 1) := by decide +kernel
theorem dL_law_805 : decode cL_law 805 = .ok (.iconst 1, 1) := by decide +kernel
theorem dL_law_806 : decode cL_law 806 = .ok (.iadd, 1) := by decide +kernel
theorem dL_law_807 : decode cL_law 807 = .ok (.iaload, 1) := by decide +kernel
theorem dL_law_808 : decode cL_law 808 = .ok (.aload_n 0, 1) := by decide +kernel
theorem dL_law_809 : decode cL_law 809 = .ok (.iload_n 3, 1) := by decide +kernel
theorem dL_law_810 : decode cL_law 810 = .ok (.iconst 2, 1) := by decide +kernel
theorem dL_law_811 : decode cL_law 811 = .ok (.iadd, 1) := by decide +kernel
theorem dL_law_812 : decode cL_law 812 = .ok (.iaload, 1) := by decide +kernel
theorem dL_law_813 : decode cL_law 813 = .ok (.invokevirtual 109, 3) := by decide +kernel
theorem dL_law_816 : decode cL_law 816 = .ok (.if_icmp .eq 424, 3) := by decide +kernel
theorem dL_law_819 : decode cL_law 819 = .ok (.iconst 0, 1) := by decide +kernel
theorem dL_law_820 : decode cL_law 820 = .ok (.ireturn, 1) := by decide +kernel
theorem dL_law_821 : decode cL_law 821 = .ok (.aload_n 1, 1) := by decide +kernel
theorem dL_law_822 : decode cL_law 822 = .ok (.aload_n 0, 1) := by decide +kernel
theorem dL_law_823 : decode cL_law 823 = .ok (.iload_n 3, 1) := by decide +kernel
theorem dL_law_824 : decode cL_law 824 = .ok (.iconst 1, 1) := by decide +kernel
theorem dL_law_825 : decode cL_law 825 = .ok (.iadd, 1) := by decide +kernel
theorem dL_law_826 : decode cL_law 826 = .ok (.iaload, 1) := by decide +kernel
theorem dL_law_827 : decode cL_law 827 = .ok (.aload_n 0, 1) := by decide +kernel
theorem dL_law_828 : decode cL_law 828 = .ok (.iload_n 3, 1) := by decide +kernel
theorem dL_law_829 : decode cL_law 829 = .ok (.iconst 2, 1) := by decide +kernel
theorem dL_law_830 : decode cL_law 830 = .ok (.iadd, 1) := by decide +kernel
theorem dL_law_831 : decode cL_law 831 = .ok (.iaload, 1) := by decide +kernel
theorem dL_law_832 : decode cL_law 832 = .ok (.invokevirtual 110, 3) := by decide +kernel
theorem dL_law_835 : decode cL_law 835 = .ok (.aload_n 2, 1) := by decide +kernel
theorem dL_law_836 : decode cL_law 836 = .ok (.aload_n 0, 1) := by decide +kernel
theorem dL_law_837 : decode cL_law 837 = .ok (.iload_n 3, 1) := by decide +kernel
theorem dL_law_838 : decode cL_law 838 = .ok (.iconst 1, 1) := by decide +kernel
theorem dL_law_839 : decode cL_law 839 = .ok (.iadd, 1) := by decide +kernel
theorem dL_law_840 : decode cL_law 840 = .ok (.iaload, 1) := by decide +kernel
theorem dL_law_841 : decode cL_law 841 = .ok (.aload_n 0, 1) := by decide +kernel
theorem dL_law_842 : decode cL_law 842 = .ok (.iload_n 3, 1) := by decide +kernel
theorem dL_law_843 : decode cL_law 843 = .ok (.iconst 2, 1) := by decide +kernel
theorem dL_law_844 : decode cL_law 844 = .ok (.iadd, 1) := by decide +kernel
theorem dL_law_845 : decode cL_law 845 = .ok (.iaload, 1) := by decide +kernel
theorem dL_law_846 : decode cL_law 846 = .ok (.invokevirtual 113, 3) := by decide +kernel
theorem dL_law_849 : decode cL_law 849 = .ok (.if_icmp .eq 391, 3) := by decide +kernel
theorem dL_law_852 : decode cL_law 852 = .ok (.iconst 0, 1) := by decide +kernel
theorem dL_law_853 : decode cL_law 853 = .ok (.ireturn, 1) := by decide +kernel
theorem dL_law_854 : decode cL_law 854 = .ok (.aload_n 1, 1) := by decide +kernel
theorem dL_law_855 : decode cL_law 855 = .ok (.aload_n 0, 1) := by decide +kernel
theorem dL_law_856 : decode cL_law 856 = .ok (.iload_n 3, 1) := by decide +kernel
theorem dL_law_857 : decode cL_law 857 = .ok (.iconst 1, 1) := by decide +kernel
theorem dL_law_858 : decode cL_law 858 = .ok (.iadd, 1) := by decide +kernel
theorem dL_law_859 : decode cL_law 859 = .ok (.iaload, 1) := by decide +kernel
theorem dL_law_860 : decode cL_law 860 = .ok (.aload_n 0, 1) := by decide +kernel
theorem dL_law_861 : decode cL_law 861 = .ok (.iload_n 3, 1) := by decide +kernel
theorem dL_law_862 : decode cL_law 862 = .ok (.iconst 2, 1) := by decide +kernel
theorem dL_law_863 : decode cL_law 863 = .ok (.iadd, 1) := by decide +kernel
theorem dL_law_864 : decode cL_law 864 = .ok (.iaload, 1) := by decide +kernel
theorem dL_law_865 : decode cL_law 865 = .ok (.aload_n 0, 1) := by decide +kernel
theorem dL_law_866 : decode cL_law 866 = .ok (.iload_n 3, 1) := by decide +kernel
theorem dL_law_867 : decode cL_law 867 = .ok (.iconst 3, 1) := by decide +kernel
theorem dL_law_868 : decode cL_law 868 = .ok (.iadd, 1) := by decide +kernel
theorem dL_law_869 : decode cL_law 869 = .ok (.iaload, 1) := by decide +kernel
theorem dL_law_870 : decode cL_law 870 = .ok (.aload_n 0, 1) := by decide +kernel
theorem dL_law_871 : decode cL_law 871 = .ok (.iload_n 3, 1) := by decide +kernel
theorem dL_law_872 : decode cL_law 872 = .ok (.iconst 4, 1) := by decide +kernel
theorem dL_law_873 : decode cL_law 873 = .ok (.iadd, 1) := by decide +kernel
theorem dL_law_874 : decode cL_law 874 = .ok (.iaload, 1) := by decide +kernel
theorem dL_law_875 : decode cL_law 875 = .ok (.aload_n 0, 1) := by decide +kernel
theorem dL_law_876 : decode cL_law 876 = .ok (.iload_n 3, 1) := by decide +kernel
theorem dL_law_877 : decode cL_law 877 = .ok (.iconst 5, 1) := by decide +kernel
theorem dL_law_878 : decode cL_law 878 = .ok (.iadd, 1) := by decide +kernel
theorem dL_law_879 : decode cL_law 879 = .ok (.iaload, 1) := by decide +kernel
theorem dL_law_880 : decode cL_law 880 = .ok (.invokevirtual 114, 3) := by decide +kernel
theorem dL_law_883 : decode cL_law 883 = .ok (.aload_n 2, 1) := by decide +kernel
theorem dL_law_884 : decode cL_law 884 = .ok (.aload_n 0, 1) := by decide +kernel
theorem dL_law_885 : decode cL_law 885 = .ok (.iload_n 3, 1) := by decide +kernel
theorem dL_law_886 : decode cL_law 886 = .ok (.iconst 1, 1) := by decide +kernel
theorem dL_law_887 : decode cL_law 887 = .ok (.iadd, 1) := by decide +kernel
theorem dL_law_888 : decode cL_law 888 = .ok (.iaload, 1) := by decide +kernel
theorem dL_law_889 : decode cL_law 889 = .ok (.aload_n 0, 1) := by decide +kernel
theorem dL_law_890 : decode cL_law 890 = .ok (.iload_n 3, 1) := by decide +kernel
theorem dL_law_891 : decode cL_law 891 = .ok (.iconst 2, 1) := by decide +kernel
theorem dL_law_892 : decode cL_law 892 = .ok (.iadd, 1) := by decide +kernel
theorem dL_law_893 : decode cL_law 893 = .ok (.iaload, 1) := by decide +kernel
theorem dL_law_894 : decode cL_law 894 = .ok (.aload_n 0, 1) := by decide +kernel
theorem dL_law_895 : decode cL_law 895 = .ok (.iload_n 3, 1) := by decide +kernel
theorem dL_law_896 : decode cL_law 896 = .ok (.iconst 3, 1) := by decide +kernel
theorem dL_law_897 : decode cL_law 897 = .ok (.iadd, 1) := by decide +kernel
theorem dL_law_898 : decode cL_law 898 = .ok (.iaload, 1) := by decide +kernel
theorem dL_law_899 : decode cL_law 899 = .ok (.aload_n 0, 1) := by decide +kernel
theorem dL_law_900 : decode cL_law 900 = .ok (.iload_n 3, 1) := by decide +kernel
theorem dL_law_901 : decode cL_law 901 = .ok (.iconst 4, 1) := by decide +kernel
theorem dL_law_902 : decode cL_law 902 = .ok (.iadd, 1) := by decide +kernel
theorem dL_law_903 : decode cL_law 903 = .ok (.iaload, 1) := by decide +kernel
theorem dL_law_904 : decode cL_law 904 = .ok (.aload_n 0, 1) := by decide +kernel
theorem dL_law_905 : decode cL_law 905 = .ok (.iload_n 3, 1) := by decide +kernel
theorem dL_law_906 : decode cL_law 906 = .ok (.iconst 5, 1) := by decide +kernel
theorem dL_law_907 : decode cL_law 907 = .ok (.iadd, 1) := by decide +kernel
theorem dL_law_908 : decode cL_law 908 = .ok (.iaload, 1) := by decide +kernel
theorem dL_law_909 : decode cL_law 909 = .ok (.invokevirtual 117, 3) := by decide +kernel
theorem dL_law_912 : decode cL_law 912 = .ok (.if_icmp .eq 328, 3) := by decide +kernel
theorem dL_law_915 : decode cL_law 915 = .ok (.iconst 0, 1) := by decide +kernel
theorem dL_law_916 : decode cL_law 916 = .ok (.ireturn, 1) := by decide +kernel
theorem dL_law_917 : decode cL_law 917 = .ok (.aload_n 1, 1) := by decide +kernel
theorem dL_law_918 : decode cL_law 918 = .ok (.aload_n 0, 1) := by decide +kernel
theorem dL_law_919 : decode cL_law 919 = .ok (.iload_n 3, 1) := by decide +kernel
theorem dL_law_920 : decode cL_law 920 = .ok (.iconst 1, 1) := by decide +kernel
theorem dL_law_921 : decode cL_law 921 = .ok (.iadd, 1) := by decide +kernel
theorem dL_law_922 : decode cL_law 922 = .ok (.iaload, 1) := by decide +kernel
theorem dL_law_923 : decode cL_law 923 = .ok (.aload_n 0, 1) := by decide +kernel
theorem dL_law_924 : decode cL_law 924 = .ok (.iload_n 3, 1) := by decide +kernel
theorem dL_law_925 : decode cL_law 925 = .ok (.iconst 2, 1) := by decide +kernel
theorem dL_law_926 : decode cL_law 926 = .ok (.iadd, 1) := by decide +kernel
theorem dL_law_927 : decode cL_law 927 = .ok (.iaload, 1) := by decide +kernel
theorem dL_law_928 : decode cL_law 928 = .ok (.aload_n 0, 1) := by decide +kernel
theorem dL_law_929 : decode cL_law 929 = .ok (.iload_n 3, 1) := by decide +kernel
theorem dL_law_930 : decode cL_law 930 = .ok (.iconst 3, 1) := by decide +kernel
theorem dL_law_931 : decode cL_law 931 = .ok (.iadd, 1) := by decide +kernel
theorem dL_law_932 : decode cL_law 932 = .ok (.iaload, 1) := by decide +kernel
theorem dL_law_933 : decode cL_law 933 = .ok (.invokevirtual 118, 3) := by decide +kernel
theorem dL_law_936 : decode cL_law 936 = .ok (.aload_n 2, 1) := by decide +kernel
theorem dL_law_937 : decode cL_law 937 = .ok (.aload_n 0, 1) := by decide +kernel
theorem dL_law_938 : decode cL_law 938 = .ok (.iload_n 3, 1) := by decide +kernel
theorem dL_law_939 : decode cL_law 939 = .ok (.iconst 1, 1) := by decide +kernel
theorem dL_law_940 : decode cL_law 940 = .ok (.iadd, 1) := by decide +kernel
theorem dL_law_941 : decode cL_law 941 = .ok (.iaload, 1) := by decide +kernel
theorem dL_law_942 : decode cL_law 942 = .ok (.aload_n 0, 1) := by decide +kernel
theorem dL_law_943 : decode cL_law 943 = .ok (.iload_n 3, 1) := by decide +kernel
theorem dL_law_944 : decode cL_law 944 = .ok (.iconst 2, 1) := by decide +kernel
theorem dL_law_945 : decode cL_law 945 = .ok (.iadd, 1) := by decide +kernel
theorem dL_law_946 : decode cL_law 946 = .ok (.iaload, 1) := by decide +kernel
theorem dL_law_947 : decode cL_law 947 = .ok (.aload_n 0, 1) := by decide +kernel
theorem dL_law_948 : decode cL_law 948 = .ok (.iload_n 3, 1) := by decide +kernel
theorem dL_law_949 : decode cL_law 949 = .ok (.iconst 3, 1) := by decide +kernel
theorem dL_law_950 : decode cL_law 950 = .ok (.iadd, 1) := by decide +kernel
theorem dL_law_951 : decode cL_law 951 = .ok (.iaload, 1) := by decide +kernel
theorem dL_law_952 : decode cL_law 952 = .ok (.invokevirtual 121, 3) := by decide +kernel
theorem dL_law_955 : decode cL_law 955 = .ok (.if_icmp .eq 285, 3) := by decide +kernel
theorem dL_law_958 : decode cL_law 958 = .ok (.iconst 0, 1) := by decide +kernel
theorem dL_law_959 : decode cL_law 959 = .ok (.ireturn, 1) := by decide +kernel
theorem dL_law_960 : decode cL_law 960 = .ok (.aload_n 1, 1) := by decide +kernel
theorem dL_law_961 : decode cL_law 961 = .ok (.aload_n 0, 1) := by decide +kernel
theorem dL_law_962 : decode cL_law 962 = .ok (.iload_n 3, 1) := by decide +kernel
theorem dL_law_963 : decode cL_law 963 = .ok (.iconst 1, 1) := by decide +kernel
theorem dL_law_964 : decode cL_law 964 = .ok (.iadd, 1) := by decide +kernel
theorem dL_law_965 : decode cL_law 965 = .ok (.iaload, 1) := by decide +kernel
theorem dL_law_966 : decode cL_law 966 = .ok (.aload_n 0, 1) := by decide +kernel
theorem dL_law_967 : decode cL_law 967 = .ok (.iload_n 3, 1) := by decide +kernel
theorem dL_law_968 : decode cL_law 968 = .ok (.iconst 2, 1) := by decide +kernel
theorem dL_law_969 : decode cL_law 969 = .ok (.iadd, 1) := by decide +kernel
theorem dL_law_970 : decode cL_law 970 = .ok (.iaload, 1) := by decide +kernel
theorem dL_law_971 : decode cL_law 971 = .ok (.aload_n 0, 1) := by decide +kernel
theorem dL_law_972 : decode cL_law 972 = .ok (.iload_n 3, 1) := by decide +kernel
theorem dL_law_973 : decode cL_law 973 = .ok (.iconst 3, 1) := by decide +kernel
theorem dL_law_974 : decode cL_law 974 = .ok (.iadd, 1) := by decide +kernel
theorem dL_law_975 : decode cL_law 975 = .ok (.iaload, 1) := by decide +kernel
theorem dL_law_976 : decode cL_law 976 = .ok (.invokevirtual 122, 3) := by decide +kernel
theorem dL_law_979 : decode cL_law 979 = .ok (.aload_n 2, 1) := by decide +kernel
theorem dL_law_980 : decode cL_law 980 = .ok (.aload_n 0, 1) := by decide +kernel
theorem dL_law_981 : decode cL_law 981 = .ok (.iload_n 3, 1) := by decide +kernel
theorem dL_law_982 : decode cL_law 982 = .ok (.iconst 1, 1) := by decide +kernel
theorem dL_law_983 : decode cL_law 983 = .ok (.iadd, 1) := by decide +kernel
theorem dL_law_984 : decode cL_law 984 = .ok (.iaload, 1) := by decide +kernel
theorem dL_law_985 : decode cL_law 985 = .ok (.aload_n 0, 1) := by decide +kernel
theorem dL_law_986 : decode cL_law 986 = .ok (.iload_n 3, 1) := by decide +kernel
theorem dL_law_987 : decode cL_law 987 = .ok (.iconst 2, 1) := by decide +kernel
theorem dL_law_988 : decode cL_law 988 = .ok (.iadd, 1) := by decide +kernel
theorem dL_law_989 : decode cL_law 989 = .ok (.iaload, 1) := by decide +kernel
theorem dL_law_990 : decode cL_law 990 = .ok (.aload_n 0, 1) := by decide +kernel
theorem dL_law_991 : decode cL_law 991 = .ok (.iload_n 3, 1) := by decide +kernel
theorem dL_law_992 : decode cL_law 992 = .ok (.iconst 3, 1) := by decide +kernel
theorem dL_law_993 : decode cL_law 993 = .ok (.iadd, 1) := by decide +kernel
theorem dL_law_994 : decode cL_law 994 = .ok (.iaload, 1) := by decide +kernel
theorem dL_law_995 : decode cL_law 995 = .ok (.invokevirtual 125, 3) := by decide +kernel
theorem dL_law_998 : decode cL_law 998 = .ok (.if_icmp .eq 242, 3) := by decide +kernel
theorem dL_law_1001 : decode cL_law 1001 = .ok (.iconst 0, 1) := by decide +kernel
theorem dL_law_1002 : decode cL_law 1002 = .ok (.ireturn, 1) := by decide +kernel
theorem dL_law_1003 : decode cL_law 1003 = .ok (.aload_n 1, 1) := by decide +kernel
theorem dL_law_1004 : decode cL_law 1004 = .ok (.aload_n 0, 1) := by decide +kernel
theorem dL_law_1005 : decode cL_law 1005 = .ok (.iload_n 3, 1) := by decide +kernel
theorem dL_law_1006 : decode cL_law 1006 = .ok (.iconst 1, 1) := by decide +kernel
theorem dL_law_1007 : decode cL_law 1007 = .ok (.iadd, 1) := by decide +kernel
theorem dL_law_1008 : decode cL_law 1008 = .ok (.iaload, 1) := by decide +kernel
theorem dL_law_1009 : decode cL_law 1009 = .ok (.aload_n 0, 1) := by decide +kernel
theorem dL_law_1010 : decode cL_law 1010 = .ok (.iload_n 3, 1) := by decide +kernel
theorem dL_law_1011 : decode cL_law 1011 = .ok (.iconst 2, 1) := by decide +kernel
theorem dL_law_1012 : decode cL_law 1012 = .ok (.iadd, 1) := by decide +kernel
theorem dL_law_1013 : decode cL_law 1013 = .ok (.iaload, 1) := by decide +kernel
theorem dL_law_1014 : decode cL_law 1014 = .ok (.aload_n 0, 1) := by decide +kernel
theorem dL_law_1015 : decode cL_law 1015 = .ok (.iload_n 3, 1) := by decide +kernel
theorem dL_law_1016 : decode cL_law 1016 = .ok (.iconst 3, 1) := by decide +kernel
theorem dL_law_1017 : decode cL_law 1017 = .ok (.iadd, 1) := by decide +kernel
theorem dL_law_1018 : decode cL_law 1018 = .ok (.iaload, 1) := by decide +kernel
theorem dL_law_1019 : decode cL_law 1019 = .ok (.invokevirtual 126, 3) := by decide +kernel
theorem dL_law_1022 : decode cL_law 1022 = .ok (.aload_n 2, 1) := by decide +kernel
theorem dL_law_1023 : decode cL_law 1023 = .ok (.aload_n 0, 1) := by decide +kernel
theorem dL_law_1024 : decode cL_law 1024 = .ok (.iload_n 3, 1) := by decide +kernel
theorem dL_law_1025 : decode cL_law 1025 = .ok (.iconst 1, 1) := by decide +kernel
theorem dL_law_1026 : decode cL_law 1026 = .ok (.iadd, 1) := by decide +kernel
theorem dL_law_1027 : decode cL_law 1027 = .ok (.iaload, 1) := by decide +kernel
theorem dL_law_1028 : decode cL_law 1028 = .ok (.aload_n 0, 1) := by decide +kernel
theorem dL_law_1029 : decode cL_law 1029 = .ok (.iload_n 3, 1) := by decide +kernel
theorem dL_law_1030 : decode cL_law 1030 = .ok (.iconst 2, 1) := by decide +kernel
theorem dL_law_1031 : decode cL_law 1031 = .ok (.iadd, 1) := by decide +kernel
theorem dL_law_1032 : decode cL_law 1032 = .ok (.iaload, 1) := by decide +kernel
theorem dL_law_1033 : decode cL_law 1033 = .ok (.aload_n 0, 1) := by decide +kernel
theorem dL_law_1034 : decode cL_law 1034 = .ok (.iload_n 3, 1) := by decide +kernel
theorem dL_law_1035 : decode cL_law 1035 = .ok (.iconst 3, 1) := by decide +kernel
theorem dL_law_1036 : decode cL_law 1036 = .ok (.iadd, 1) := by decide +kernel
theorem dL_law_1037 : decode cL_law 1037 = .ok (.iaload, 1) := by decide +kernel
theorem dL_law_1038 : decode cL_law 1038 = .ok (.invokevirtual 129, 3) := by decide +kernel
theorem dL_law_1041 : decode cL_law 1041 = .ok (.if_icmp .eq 199, 3) := by decide +kernel
theorem dL_law_1044 : decode cL_law 1044 = .ok (.iconst 0, 1) := by decide +kernel
theorem dL_law_1045 : decode cL_law 1045 = .ok (.ireturn, 1) := by decide +kernel
theorem dL_law_1046 : decode cL_law 1046 = .ok (.aload_n 1, 1) := by decide +kernel
theorem dL_law_1047 : decode cL_law 1047 = .ok (.aload_n 0, 1) := by decide +kernel
theorem dL_law_1048 : decode cL_law 1048 = .ok (.iload_n 3, 1) := by decide +kernel
theorem dL_law_1049 : decode cL_law 1049 = .ok (.iconst 1, 1) := by decide +kernel
theorem dL_law_1050 : decode cL_law 1050 = .ok (.iadd, 1) := by decide +kernel
theorem dL_law_1051 : decode cL_law 1051 = .ok (.iaload, 1) := by decide +kernel
theorem dL_law_1052 : decode cL_law 1052 = .ok (.invokevirtual 130, 3) := by decide +kernel
theorem dL_law_1055 : decode cL_law 1055 = .ok (.aload_n 2, 1) := by decide +kernel
theorem dL_law_1056 : decode cL_law 1056 = .ok (.aload_n 0, 1) := by decide +kernel
theorem dL_law_1057 : decode cL_law 1057 = .ok (.iload_n 3, 1) := by decide +kernel
theorem dL_law_1058 : decode cL_law 1058 = .ok (.iconst 1, 1) := by decide +kernel
theorem dL_law_1059 : decode cL_law 1059 = .ok (.iadd, 1) := by decide +kernel
theorem dL_law_1060 : decode cL_law 1060 = .ok (.iaload, 1) := by decide +kernel
theorem dL_law_1061 : decode cL_law 1061 = .ok (.invokevirtual 133, 3) := by decide +kernel
theorem dL_law_1064 : decode cL_law 1064 = .ok (.if_icmp .eq 176, 3) := by decide +kernel
theorem dL_law_1067 : decode cL_law 1067 = .ok (.iconst 0, 1) := by decide +kernel
theorem dL_law_1068 : decode cL_law 1068 = .ok (.ireturn, 1) := by decide +kernel
theorem dL_law_1069 : decode cL_law 1069 = .ok (.aload_n 1, 1) := by decide +kernel
theorem dL_law_1070 : decode cL_law 1070 = .ok (.aload_n 0, 1) := by decide +kernel
theorem dL_law_1071 : decode cL_law 1071 = .ok (.iload_n 3, 1) := by decide +kernel
theorem dL_law_1072 : decode cL_law 1072 = .ok (.iconst 1, 1) := by decide +kernel
theorem dL_law_1073 : decode cL_law 1073 = .ok (.iadd, 1) := by decide +kernel
theorem dL_law_1074 : decode cL_law 1074 = .ok (.iaload, 1) := by decide +kernel
theorem dL_law_1075 : decode cL_law 1075 = .ok (.invokevirtual 134, 3) := by decide +kernel
theorem dL_law_1078 : decode cL_law 1078 = .ok (.aload_n 2, 1) := by decide +kernel
theorem dL_law_1079 : decode cL_law 1079 = .ok (.aload_n 0, 1) := by decide +kernel
theorem dL_law_1080 : decode cL_law 1080 = .ok (.iload_n 3, 1) := by decide +kernel
theorem dL_law_1081 : decode cL_law 1081 = .ok (.iconst 1, 1) := by decide +kernel
theorem dL_law_1082 : decode cL_law 1082 = .ok (.iadd, 1) := by decide +kernel
theorem dL_law_1083 : decode cL_law 1083 = .ok (.iaload, 1) := by decide +kernel
theorem dL_law_1084 : decode cL_law 1084 = .ok (.invokevirtual 137, 3) := by decide +kernel
theorem dL_law_1087 : decode cL_law 1087 = .ok (.if_icmp .eq 153, 3) := by decide +kernel
theorem dL_law_1090 : decode cL_law 1090 = .ok (.iconst 0, 1) := by decide +kernel
theorem dL_law_1091 : decode cL_law 1091 = .ok (.ireturn, 1) := by decide +kernel
theorem dL_law_1092 : decode cL_law 1092 = .ok (.aload_n 1, 1) := by decide +kernel
theorem dL_law_1093 : decode cL_law 1093 = .ok (.aload_n 0, 1) := by decide +kernel
theorem dL_law_1094 : decode cL_law 1094 = .ok (.iload_n 3, 1) := by decide +kernel
theorem dL_law_1095 : decode cL_law 1095 = .ok (.iconst 1, 1) := by decide +kernel
theorem dL_law_1096 : decode cL_law 1096 = .ok (.iadd, 1) := by decide +kernel
theorem dL_law_1097 : decode cL_law 1097 = .ok (.iaload, 1) := by decide +kernel
theorem dL_law_1098 : decode cL_law 1098 = .ok (.invokevirtual 138, 3) := by decide +kernel
theorem dL_law_1101 : decode cL_law 1101 = .ok (.aload_n 2, 1) := by decide +kernel
theorem dL_law_1102 : decode cL_law 1102 = .ok (.aload_n 0, 1) := by decide +kernel
theorem dL_law_1103 : decode cL_law 1103 = .ok (.iload_n 3, 1) := by decide +kernel
theorem dL_law_1104 : decode cL_law 1104 = .ok (.iconst 1, 1) := by decide +kernel
theorem dL_law_1105 : decode cL_law 1105 = .ok (.iadd, 1) := by decide +kernel
theorem dL_law_1106 : decode cL_law 1106 = .ok (.iaload, 1) := by decide +kernel
theorem dL_law_1107 : decode cL_law 1107 = .ok (.invokevirtual 141, 3) := by decide +kernel
theorem dL_law_1110 : decode cL_law 1110 = .ok (.if_icmp .eq 130, 3) := by decide +kernel
theorem dL_law_1113 : decode cL_law 1113 = .ok (.iconst 0, 1) := by decide +kernel
theorem dL_law_1114 : decode cL_law 1114 = .ok (.ireturn, 1) := by decide +kernel
theorem dL_law_1115 : decode cL_law 1115 = .ok (.aload_n 1, 1) := by decide +kernel
theorem dL_law_1116 : decode cL_law 1116 = .ok (.aload_n 0, 1) := by decide +kernel
theorem dL_law_1117 : decode cL_law 1117 = .ok (.iload_n 3, 1) := by decide +kernel
theorem dL_law_1118 : decode cL_law 1118 = .ok (.iconst 1, 1) := by decide +kernel
theorem dL_law_1119 : decode cL_law 1119 = .ok (.iadd, 1) := by decide +kernel
theorem dL_law_1120 : decode cL_law 1120 = .ok (.iaload, 1) := by decide +kernel
theorem dL_law_1121 : decode cL_law 1121 = .ok (.aload_n 0, 1) := by decide +kernel
theorem dL_law_1122 : decode cL_law 1122 = .ok (.iload_n 3, 1) := by decide +kernel
theorem dL_law_1123 : decode cL_law 1123 = .ok (.iconst 2, 1) := by decide +kernel
theorem dL_law_1124 : decode cL_law 1124 = .ok (.iadd, 1) := by decide +kernel
theorem dL_law_1125 : decode cL_law 1125 = .ok (.iaload, 1) := by decide +kernel
theorem dL_law_1126 : decode cL_law 1126 = .ok (.invokevirtual 142, 3) := by decide +kernel
theorem dL_law_1129 : decode cL_law 1129 = .ok (.aload_n 2, 1) := by decide +kernel
theorem dL_law_1130 : decode cL_law 1130 = .ok (.aload_n 0, 1) := by decide +kernel
theorem dL_law_1131 : decode cL_law 1131 = .ok (.iload_n 3, 1) := by decide +kernel
theorem dL_law_1132 : decode cL_law 1132 = .ok (.iconst 1, 1) := by decide +kernel
theorem dL_law_1133 : decode cL_law 1133 = .ok (.iadd, 1) := by decide +kernel
theorem dL_law_1134 : decode cL_law 1134 = .ok (.iaload, 1) := by decide +kernel
theorem dL_law_1135 : decode cL_law 1135 = .ok (.aload_n 0, 1) := by decide +kernel
theorem dL_law_1136 : decode cL_law 1136 = .ok (.iload_n 3, 1) := by decide +kernel
theorem dL_law_1137 : decode cL_law 1137 = .ok (.iconst 2, 1) := by decide +kernel
theorem dL_law_1138 : decode cL_law 1138 = .ok (.iadd, 1) := by decide +kernel
theorem dL_law_1139 : decode cL_law 1139 = .ok (.iaload, 1) := by decide +kernel
theorem dL_law_1140 : decode cL_law 1140 = .ok (.invokevirtual 145, 3) := by decide +kernel
theorem dL_law_1143 : decode cL_law 1143 = .ok (.if_icmp .eq 97, 3) := by decide +kernel
theorem dL_law_1146 : decode cL_law 1146 = .ok (.iconst 0, 1) := by decide +kernel
theorem dL_law_1147 : decode cL_law 1147 = .ok (.ireturn, 1) := by decide +kernel
theorem dL_law_1148 : decode cL_law 1148 = .ok (.aload_n 1, 1) := by decide +kernel
theorem dL_law_1149 : decode cL_law 1149 = .ok (.aload_n 0, 1) := by decide +kernel
theorem dL_law_1150 : decode cL_law 1150 = .ok (.iload_n 3, 1) := by decide +kernel
theorem dL_law_1151 : decode cL_law 1151 = .ok (.iconst 1, 1) := by decide +kernel
theorem dL_law_1152 : decode cL_law 1152 = .ok (.iadd, 1) := by decide +kernel
theorem dL_law_1153 : decode cL_law 1153 = .ok (.iaload, 1) := by decide +kernel
theorem dL_law_1154 : decode cL_law 1154 = .ok (.aload_n 0, 1) := by decide +kernel
theorem dL_law_1155 : decode cL_law 1155 = .ok (.iload_n 3, 1) := by decide +kernel
theorem dL_law_1156 : decode cL_law 1156 = .ok (.iconst 2, 1) := by decide +kernel
theorem dL_law_1157 : decode cL_law 1157 = .ok (.iadd, 1) := by decide +kernel
theorem dL_law_1158 : decode cL_law 1158 = .ok (.iaload, 1) := by decide +kernel
theorem dL_law_1159 : decode cL_law 1159 = .ok (.invokevirtual 146, 3) := by decide +kernel
theorem dL_law_1162 : decode cL_law 1162 = .ok (.aload_n 2, 1) := by decide +kernel
theorem dL_law_1163 : decode cL_law 1163 = .ok (.aload_n 0, 1) := by decide +kernel
theorem dL_law_1164 : decode cL_law 1164 = .ok (.iload_n 3, 1) := by decide +kernel
theorem dL_law_1165 : decode cL_law 1165 = .ok (.iconst 1, 1) := by decide +kernel
theorem dL_law_1166 : decode cL_law 1166 = .ok (.iadd, 1) := by decide +kernel
theorem dL_law_1167 : decode cL_law 1167 = .ok (.iaload, 1) := by decide +kernel
theorem dL_law_1168 : decode cL_law 1168 = .ok (.aload_n 0, 1) := by decide +kernel
theorem dL_law_1169 : decode cL_law 1169 = .ok (.iload_n 3, 1) := by decide +kernel
theorem dL_law_1170 : decode cL_law 1170 = .ok (.iconst 2, 1) := by decide +kernel
theorem dL_law_1171 : decode cL_law 1171 = .ok (.iadd, 1) := by decide +kernel
theorem dL_law_1172 : decode cL_law 1172 = .ok (.iaload, 1) := by decide +kernel
theorem dL_law_1173 : decode cL_law 1173 = .ok (.invokevirtual 149, 3) := by decide +kernel
theorem dL_law_1176 : decode cL_law 1176 = .ok (.if_icmp .eq 64, 3) := by decide +kernel
theorem dL_law_1179 : decode cL_law 1179 = .ok (.iconst 0, 1) := by decide +kernel
theorem dL_law_1180 : decode cL_law 1180 = .ok (.ireturn, 1) := by decide +kernel
theorem dL_law_1181 : decode cL_law 1181 = .ok (.aload_n 1, 1) := by decide +kernel
theorem dL_law_1182 : decode cL_law 1182 = .ok (.aload_n 0, 1) := by decide +kernel
theorem dL_law_1183 : decode cL_law 1183 = .ok (.iload_n 3, 1) := by decide +kernel
theorem dL_law_1184 : decode cL_law 1184 = .ok (.iconst 1, 1) := by decide +kernel
theorem dL_law_1185 : decode cL_law 1185 = .ok (.iadd, 1) := by decide +kernel
theorem dL_law_1186 : decode cL_law 1186 = .ok (.iaload, 1) := by decide +kernel
theorem dL_law_1187 : decode cL_law 1187 = .ok (.invokevirtual 150, 3) := by decide +kernel
theorem dL_law_1190 : decode cL_law 1190 = .ok (.aload_n 2, 1) := by decide +kernel
theorem dL_law_1191 : decode cL_law 1191 = .ok (.aload_n 0, 1) := by decide +kernel
theorem dL_law_1192 : decode cL_law 1192 = .ok (.iload_n 3, 1) := by decide +kernel
theorem dL_law_1193 : decode cL_law 1193 = .ok (.iconst 1, 1) := by decide +kernel
theorem dL_law_1194 : decode cL_law 1194 = .ok (.iadd, 1) := by decide +kernel
theorem dL_law_1195 : decode cL_law 1195 = .ok (.iaload, 1) := by decide +kernel
theorem dL_law_1196 : decode cL_law 1196 = .ok (.invokevirtual 153, 3) := by decide +kernel
theorem dL_law_1199 : decode cL_law 1199 = .ok (.if_icmp .eq 41, 3) := by decide +kernel
theorem dL_law_1202 : decode cL_law 1202 = .ok (.iconst 0, 1) := by decide +kernel
theorem dL_law_1203 : decode cL_law 1203 = .ok (.ireturn, 1) := by decide +kernel
theorem dL_law_1204 : decode cL_law 1204 = .ok (.aload_n 1, 1) := by decide +kernel
theorem dL_law_1205 : decode cL_law 1205 = .ok (.aload_n 0, 1) := by decide +kernel
theorem dL_law_1206 : decode cL_law 1206 = .ok (.iload_n 3, 1) := by decide +kernel
theorem dL_law_1207 : decode cL_law 1207 = .ok (.iconst 1, 1) := by decide +kernel
theorem dL_law_1208 : decode cL_law 1208 = .ok (.iadd, 1) := by decide +kernel
theorem dL_law_1209 : decode cL_law 1209 = .ok (.iaload, 1) := by decide +kernel
theorem dL_law_1210 : decode cL_law 1210 = .ok (.invokevirtual 154, 3) := by decide +kernel
theorem dL_law_1213 : decode cL_law 1213 = .ok (.aload_n 2, 1) := by decide +kernel
theorem dL_law_1214 : decode cL_law 1214 = .ok (.aload_n 0, 1) := by decide +kernel
theorem dL_law_1215 : decode cL_law 1215 = .ok (.iload_n 3, 1) := by decide +kernel
theorem dL_law_1216 : decode cL_law 1216 = .ok (.iconst 1, 1) := by decide +kernel
theorem dL_law_1217 : decode cL_law 1217 = .ok (.iadd, 1) := by decide +kernel
theorem dL_law_1218 : decode cL_law 1218 = .ok (.iaload, 1) := by decide +kernel
theorem dL_law_1219 : decode cL_law 1219 = .ok (.invokevirtual 157, 3) := by decide +kernel
theorem dL_law_1222 : decode cL_law 1222 = .ok (.if_icmp .eq 18, 3) := by decide +kernel
theorem dL_law_1225 : decode cL_law 1225 = .ok (.iconst 0, 1) := by decide +kernel
theorem dL_law_1226 : decode cL_law 1226 = .ok (.ireturn, 1) := by decide +kernel
theorem dL_law_1227 : decode cL_law 1227 = .ok (.aload_n 1, 1) := by decide +kernel
theorem dL_law_1228 : decode cL_law 1228 = .ok (.invokevirtual 158, 3) := by decide +kernel
theorem dL_law_1231 : decode cL_law 1231 = .ok (.aload_n 2, 1) := by decide +kernel
theorem dL_law_1232 : decode cL_law 1232 = .ok (.invokevirtual 161, 3) := by decide +kernel
theorem dL_law_1235 : decode cL_law 1235 = .ok (.if_icmp .eq 5, 3) := by decide +kernel
theorem dL_law_1238 : decode cL_law 1238 = .ok (.iconst 0, 1) := by decide +kernel
theorem dL_law_1239 : decode cL_law 1239 = .ok (.ireturn, 1) := by decide +kernel
theorem dL_law_1240 : decode cL_law 1240 = .ok (.iinc 3 6, 3) := by decide +kernel
theorem dL_law_1243 : decode cL_law 1243 = .ok (.goto (-1225), 3) := by decide +kernel
theorem dL_law_1246 : decode cL_law 1246 = .ok (.iconst 1, 1) := by decide +kernel
theorem dL_law_1247 : decode cL_law 1247 = .ok (.ireturn, 1) := by decide +kernel
end
section
/-! THE PURE LAYER: cells by their places in a list; a reference is a place; 'zV x pc lv st h': the machine of the context x, at pc, with locals lv, stack st, cells h, comes to its end. -/
def zcv (ad : Nat → Nat) : Value → Value
  | .ref k => .ref (ad k)
  | .int v => .int v
  | .long v => .long v
  | .float v => .float v
  | .double v => .double v
  | .null => .null
  | .retAddr v => .retAddr v
theorem zcv_cat (ad : Nat → Nat) (v : Value) : (zcv ad v).category = v.category := by cases v <;> rfl
theorem zcv_cv (ad g : Nat → Nat) (v : Value) : zcv ad (zcv g v) = zcv (fun k => ad (g k)) v := by cases v <;> rfl
/-- a cell: an array of numbers, an object, or an array of references (its kind, its places) -/
abbrev zE : Type := va_E ⊕ (Nat × List Value)
def zrf (ad : Nat → Nat) : Option Value → Option Nat
  | some (.ref k) => some (ad k)
  | _ => none
def zce (ad ca : Nat → Nat) : zE → va_E
  | .inl (.inl (c, x)) => .inl (ca c, x)
  | .inl (.inr (ci, fs)) => .inr (ci, fs.map (zcv ad))
  | .inr (t, fs) => .inl (ca t, fs.length, .inr (.inr (.inr (.inr (fun i => zrf ad fs[i]?)))))
def zrn (g : Nat → Nat) : zE → zE
  | .inl (.inl a) => .inl (.inl a)
  | .inl (.inr (ci, fs)) => .inl (.inr (ci, fs.map (zcv g)))
  | .inr (t, fs) => .inr (t, fs.map (zcv g))
theorem zce_rn (ad ca g : Nat → Nat) (e : zE) : zce ad ca (zrn g e) = zce (fun k => ad (g k)) ca e := by
  rcases e with (⟨c, x⟩ | ⟨ci, fs⟩) | ⟨t, fs⟩
  · rfl
  · simp only [zrn, zce, List.map_map]
    congr 3
    funext v
    exact zcv_cv ad g v
  · simp only [zrn, zce, List.length_map]
    congr 7
    funext i
    rw [List.getElem?_map]
    cases fs[i]? with
    | none => rfl
    | some v => cases v <;> rfl
/-- an int[] of small numbers, an int[], a boolean[], an array of references, an object -/
abbrev zN (N : Nat) (f : Nat → Nat) : zE := .inl (.inl (0, N, .inl (fun j => nI (f j))))
abbrev zI (N : Nat) (f : Nat → Int32) : zE := .inl (.inl (0, N, .inl f))
abbrev zZ (N : Nat) (f : Nat → Int32) : zE := .inl (.inl (1, N, .inl f))
abbrev zR (t : Nat) (fs : List Value) : zE := .inr (t, fs)
abbrev zO (ci : Nat) (fs : List Value) : zE := .inl (.inr (ci, fs))
def zcw (ad ca : Nat → Nat) (h : List zE) : va_W := h.mapIdx (fun k e => (ad k, zce ad ca e))
theorem zcw_get {ad ca : Nat → Nat} {h : List zE} {k : Nat} {e : zE} (hk : h[k]? = some e) : (zcw ad ca h)[k]? = some (ad k, zce ad ca e) := by simp [zcw, hk]
theorem zcw_of {ad ca : Nat → Nat} {h : List zE} {k : Nat} {q : Nat × va_E} (hq : (zcw ad ca h)[k]? = some q) : ∃ e, h[k]? = some e ∧ q = (ad k, zce ad ca e) := by
  simp only [zcw, List.getElem?_mapIdx] at hq
  cases hh : h[k]? with
  | none => rw [hh] at hq; cases hq
  | some e => rw [hh] at hq; cases hq; exact ⟨e, rfl, rfl⟩
theorem zcw_set {ad ca : Nat → Nat} {h : List zE} (k : Nat) (e : zE) : (zcw ad ca h).set k (ad k, zce ad ca e) = zcw ad ca (h.set k e) := by
  apply List.ext_getElem?
  intro i
  simp only [zcw, List.getElem?_set, List.getElem?_mapIdx, List.length_mapIdx]
  by_cases hi : k = i
  · subst hi
    by_cases hl : k < h.length <;> simp [hl]
  · simp [hi]
/-- the locals that are known -/
def zpr (ad : Nat → Nat) : Nat → List (Option Value) → List (Nat × Value)
  | _, [] => []
  | i, none :: l => zpr ad (i + 1) l
  | i, some v :: l => (i, zcv ad v) :: zpr ad (i + 1) l
theorem zpr_mem (ad : Nat → Nat) : ∀ (l : List (Option Value)) (i : Nat) (q : Nat × Value), q ∈ zpr ad i l ↔ ∃ k v, l[k]? = some (some v) ∧ q = (i + k, zcv ad v)
  | [], i, q => by simp [zpr]
  | none :: l, i, q => by
    rw [zpr, zpr_mem ad l (i + 1) q]
    constructor
    · rintro ⟨k, v, h1, h2⟩
      exact ⟨k + 1, v, by simpa using h1, by rw [h2]; congr 1; omega⟩
    · rintro ⟨k, v, h1, h2⟩
      cases k with
      | zero => simp at h1
      | succ k => exact ⟨k, v, by simpa using h1, by rw [h2]; congr 1; omega⟩
  | some w :: l, i, q => by
    rw [zpr, List.mem_cons, zpr_mem ad l (i + 1) q]
    constructor
    · rintro (h | ⟨k, v, h1, h2⟩)
      · exact ⟨0, w, rfl, by rw [h]; rfl⟩
      · exact ⟨k + 1, v, by simpa using h1, by rw [h2]; congr 1; omega⟩
    · rintro ⟨k, v, h1, h2⟩
      cases k with
      | zero => left; simp at h1; rw [h2, h1]; rfl
      | succ k => right; exact ⟨k, v, by simpa using h1, by rw [h2]; congr 1; omega⟩
theorem zpr_at {ad : Nat → Nat} {lv : List (Option Value)} {ls : Array Slot} {nL : Nat} (hl : lv_has ls nL (zpr ad 0 lv)) {i : Nat} {v : Value} (h : lv[i]? = some (some v)) : ls[i]? = some (.val (zcv ad v)) :=
  hl.2.2 (i, zcv ad v) ((zpr_mem ad lv 0 _).mpr ⟨i, v, h, by simp⟩)
/-- no long stands just below -/
def zns (lv : List (Option Value)) : Nat → Bool
  | 0 => true
  | i + 1 => match lv[i]? with
    | some (some (.long _)) => false
    | some (some (.double _)) => false
    | _ => true
theorem zns_ok {lv : List (Option Value)} {i k : Nat} {v : Value} (h : zns lv i = true) (hk : lv[k]? = some (some v)) (e : k + 1 = i) : ¬ v.category = 2 := by
  subst e
  simp only [zns, hk] at h
  cases v <;> first | (simp at h; done) | (simp [Value.category]; done)
theorem zst {ad : Nat → Nat} {lv : List (Option Value)} {ls : Array Slot} {i : Nat} {v : Value} (hn : zns lv i = true)
    (h : lv_has ls lv.length ((i, zcv ad v) :: (zpr ad 0 lv).filter (fun q => !(q.1 == i) && !(q.1 + 1 == i && q.2.category == 2)))) : lv_has ls (lv.set i (some v)).length (zpr ad 0 (lv.set i (some v))) := by
  refine ⟨by rw [List.length_set]; exact h.1, h.2.1, fun q hq => ?_⟩
  obtain ⟨k, w, h1, h2⟩ := (zpr_mem ad _ 0 q).mp hq
  subst h2
  rw [List.getElem?_set] at h1
  refine h.2.2 _ ?_
  by_cases hk : i = k
  · subst hk
    rw [if_pos rfl] at h1
    split at h1
    · cases h1
      simp
    · cases h1
  · rw [if_neg hk] at h1
    refine List.mem_cons_of_mem _ (List.mem_filter.mpr ⟨(zpr_mem ad lv 0 _).mpr ⟨k, w, h1, rfl⟩, ?_⟩)
    have h3 : ¬ k = i := fun q => hk q.symm
    have h4 : k + 1 = i → ¬ w.category = 2 := fun e => zns_ok hn h1 e
    simp only [Nat.zero_add, zcv_cat]
    by_cases h5 : k + 1 = i
    · simp [h3, h5, h4 h5]
    · simp [h3, h5]
theorem zstl {ad : Nat → Nat} {lv : List (Option Value)} {ls : Array Slot} {i : Nat} {v : Value} (hn : zns lv i = true)
    (h : lv_has ls lv.length ((i, zcv ad v) :: (zpr ad 0 lv).filter (fun q => !(q.1 == i) && (!(q.1 == i + 1) && !(q.1 + 1 == i && q.2.category == 2))))) : lv_has ls ((lv.set i (some v)).set (i + 1) none).length (zpr ad 0 ((lv.set i (some v)).set (i + 1) none)) := by
  refine ⟨by rw [List.length_set, List.length_set]; exact h.1, h.2.1, fun q hq => ?_⟩
  obtain ⟨k, w, h1, h2⟩ := (zpr_mem ad _ 0 q).mp hq
  subst h2
  rw [List.getElem?_set, List.getElem?_set] at h1
  refine h.2.2 _ ?_
  by_cases hk1 : i + 1 = k
  · subst hk1
    rw [if_pos rfl] at h1
    split at h1 <;> cases h1
  rw [if_neg hk1] at h1
  by_cases hk : i = k
  · subst hk
    rw [if_pos rfl] at h1
    split at h1
    · cases h1
      simp
    · cases h1
  · rw [if_neg hk] at h1
    refine List.mem_cons_of_mem _ (List.mem_filter.mpr ⟨(zpr_mem ad lv 0 _).mpr ⟨k, w, h1, rfl⟩, ?_⟩)
    have h3 : ¬ k = i := fun q => hk q.symm
    have h6 : ¬ k = i + 1 := fun q => hk1 q.symm
    have h4 : k + 1 = i → ¬ w.category = 2 := fun e => zns_ok hn h1 e
    simp only [Nat.zero_add, zcv_cat]
    by_cases h5 : k + 1 = i
    · simp [h3, h5, h4 h5, h6]
    · simp [h3, h5, h6]
theorem zkl {ad : Nat → Nat} {lv : List (Option Value)} {ls : Array Slot} (i : Nat) (h : lv_has ls lv.length (zpr ad 0 lv)) : lv_has ls (lv.set i none).length (zpr ad 0 (lv.set i none)) := by
  refine ⟨by rw [List.length_set]; exact h.1, h.2.1, fun q hq => ?_⟩
  obtain ⟨k, w, h1, h2⟩ := (zpr_mem ad _ 0 q).mp hq
  subst h2
  rw [List.getElem?_set] at h1
  refine h.2.2 _ ?_
  by_cases hk : i = k
  · subst hk
    rw [if_pos rfl] at h1
    split at h1 <;> cases h1
  · rw [if_neg hk] at h1
    exact (zpr_mem ad lv 0 _).mpr ⟨k, w, h1, rfl⟩
/-- the locals at a method's start -/
def zlo : List Value → List (Option Value)
  | [] => []
  | v :: vs => if v.category = 2 then some v :: none :: zlo vs else some v :: zlo vs
def zloc (av : List Value) (nL : Nat) : List (Option Value) := zlo av ++ List.replicate (nL - (zlo av).length) none
theorem zpr_lo (ad : Nat → Nat) : ∀ (av : List Value) (i : Nat), zpr ad i (zlo av) = lv_args i (av.map (zcv ad))
  | [], i => rfl
  | v :: vs, i => by
    rw [zlo, List.map_cons, lv_args, zcv_cat]
    by_cases hc : v.category = 2
    · rw [if_pos hc, if_pos hc, zpr, zpr, zpr_lo ad vs (i + 2)]
    · rw [if_neg hc, if_neg hc, zpr, zpr_lo ad vs (i + 1)]
theorem zpr_app (ad : Nat → Nat) (n : Nat) : ∀ (l : List (Option Value)) (i : Nat), zpr ad i (l ++ List.replicate n none) = zpr ad i l
  | [], i => by
    induction n generalizing i with
    | zero => rfl
    | succ n ih => exact ih (i + 1)
  | none :: l, i => zpr_app ad n l (i + 1)
  | some v :: l, i => congrArg (fun t => (i, zcv ad v) :: t) (zpr_app ad n l (i + 1))
theorem zlo_len (ad : Nat → Nat) : ∀ av : List Value, (lg_sl (av.map (zcv ad))).length = (zlo av).length
  | [] => rfl
  | v :: vs => by
    have ih := zlo_len ad vs
    rw [zlo, List.map_cons]
    by_cases hc : v.category = 2
    · have hc2 : (zcv ad v).category = 2 := by rw [zcv_cat]; exact hc
      rw [if_pos hc]
      simp only [lg_sl, List.flatMap_cons, hc2, List.length_append, List.length_cons] at ih ⊢
      simp at ih ⊢
      omega
    · have hc2 : ¬ (zcv ad v).category = 2 := by rw [zcv_cat]; exact hc
      rw [if_neg hc]
      simp only [lg_sl, List.flatMap_cons, hc2, List.length_append, List.length_cons] at ih ⊢
      simp at ih ⊢
      omega
end
section
/-- the array classes, by their kinds: 0 int[], 1 boolean[], 2 Line[], 3 Waiter[], 4 int[][] -/
def ztys (ca : Nat → Nat) : List (ClassId × FieldType) := [(ca 0, .int), (ca 1, .boolean), (ca 2, .object "TramFaith$Line"), (ca 3, .object "TramFaith$Waiter"), (ca 4, .array .int)]
def zNM : List (String × Nat × MethodName × String) := [(RX9, 69, yX11_isWithin, RX11), (RX4, 86, yX11_isIn, RX11), (RX0, 28, yX11_isWithin, RX11)]
def zNC : List (String × String) := [(RX2, RX6), (RX3, RX6), (RX7, RX1)]
def zNN : List (String × String) := [(RX1, RX6), (RX7, RX6), (RX6, RX2), (RX3, RX2), (RX1, RX2), (RX7, RX2), (RX6, RX3), (RX2, RX3), (RX1, RX3), (RX7, RX3), (RX6, RX1), (RX2, RX1), (RX3, RX1), (RX6, RX7), (RX2, RX7), (RX3, RX7), (RX1, RX7)]
abbrev zyH : MethodName := ⟨"TramFaith$Waiter", "hopesBy", "(III)I"⟩
/-- what holds of the machine's tables and of the constants outside -/
def zKK (D : va_G) (ca ad : Nat → Nat) (A : Nat → Prop) (U : State) (H : Heap) : Prop :=
  va_K D vwCl (ztys ca) U ∧ (∀ q ∈ zNM, va_Nw (.methodLinkNest q.1 q.2.1 q.2.2.1 q.2.2.2) U) ∧ (∀ q ∈ zNC, va_Nw (.castable q.1 q.2) U) ∧ va_Nw (.declares zyH) U ∧ (∀ q ∈ zNN, va_Nc q.1 q.2 U) ∧ vk_R RX9 46 "pcdks" (ad 1000) U ∧
  vk_S 1 [5] [[112, 99, 100, 107, 115]] (fun _ => ad 1000) (fun _ => ad 1001) A U H ∧ va_Z "java/lang/String" "COMPACT_STRINGS" "Z" (.int 1) A U H
theorem zKK.blind {D : va_G} {ca ad : Nat → Nat} {A : Nat → Prop} {U : State} {H : Heap} (g : JFrame) (mk : MethodId) (a : Array Value) (h : zKK D ca ad A U H) : zKK D ca ad A (U.calling g mk a) H := by
  obtain ⟨h1, h2, h3, h4, h5, h6, h7, h8⟩ := h
  exact ⟨va_K.moved (u := U) (U := U.calling g mk a) (Vm.Alike.refl U.vm) h1, fun q hq => va_Nw.same (u := U) rfl rfl (h2 q hq), fun q hq => va_Nw.same (u := U) rfl rfl (h3 q hq), va_Nw.same (u := U) rfl rfl h4, fun q hq => va_Nc.moved (u := U) (U := U.calling g mk a) (Vm.Alike.refl U.vm) (h5 q hq), vk_R.same (u := U) rfl h6, vk_S.moved (u := U) (U := U.calling g mk a) (Vm.Alike.refl U.vm) h7, va_Z.moved (u := U) (U := U.calling g mk a) (Vm.Alike.refl U.vm) h8⟩
theorem zKK.warm {D : va_G} {ca ad ad' : Nat → Nat} {A A' : Nat → Prop} {s U : State} {H0 H : Heap} {locs : List Loc} (hW : s.WarmedH U.vm) (hS : va_S A H0 H locs) (hA : ∀ q, A' q → A q) (e0 : ad' 1000 = ad 1000) (e1 : ad' 1001 = ad 1001) (h : zKK D ca ad A s H0) : zKK D ca ad' A' U H := by
  obtain ⟨h1, h2, h3, h4, h5, h6, h7, h8⟩ := h
  refine ⟨va_K.moved hW.alike h1, fun q hq => va_Nw.warmM hW (h2 q hq), fun q hq => va_Nw.warmC hW (h3 q hq), va_Nw.warmD hW h4, fun q hq => va_Nc.moved hW.alike (h5 q hq), ?_, ?_, ?_⟩
  · rw [e0]; exact vk_R.warm hW h6
  · rw [e0, e1]; exact vk_S.moved hW.alike ((h7.kept hS.2.1).narrow hA)
  · exact va_Z.moved hW.alike ((h8.kept hS.2.1).narrow hA)
/-- a method: its name, code, locals, result -/
abbrev zM : Type := MethodName × ByteArray × Nat × Option FieldType
def zG : List Cond := lw_tbl.filter goodWord
def zws (M : zM) : List Cond := Cond.code M.1 M.2.1 M.2.2.1 M.2.2.2 :: zG
def zrm (n : Nat) : Room := { frames := n, cells := 0, slots := 0, locals := 40 * n }
/-- the context of a method's run -/
abbrev zC : Type := Program × Launch × Env × Room × State × MethodId × Array Value × List Frame × Method × Code × va_G × (Nat → Nat) × (Nat → Nat) × (Nat → Prop) × (State → Prop)
def zV (x : zC) (pc : Nat) (lv : List (Option Value)) (st : List Value) (h : List zE) : Prop :=
  match x with
  | (p, l, e, R, s, m, args, below, meth, c, D, ca, ad, A, Q) => ∀ (H : Heap) (locs : List Loc) (ls : Array Slot), lv_has ls lv.length (zpr ad 0 lv) → va_P D vwCl (zcw ad ca h) H → va_D A (zcw ad ca h) → va_S A s.heap H locs → W p l e R s m args below meth c H locs 0 0 Q (F0 m pc ls (st.map (zcv ad)))
def zOk (x : zC) (M : zM) (n : Nat) : Prop :=
  match x with
  | (p, _, _, R, s, m, args, _, meth, c, D, ca, ad, A, _) => p.tables.exec = Jvm.exec ∧ c.code = M.2.1 ∧ c.maxLocals = M.2.2.1 ∧ s.vm.findClass M.1.cls = some m.cls ∧ (∀ w ∈ zws M, w.before args s = true) ∧ zKK D ca ad A s s.heap ∧ (∀ q, s.heap.size ≤ q → A q) ∧ R = zrm n ∧ meth.sig.returnType = M.2.2.2 ∧ meth.locks = false
/-- the cells behind a method -/
def zB (D : va_G) (ca ad : Nat → Nat) (A : Nat → Prop) (u : List zE) (t : State) : Prop := va_P D vwCl (zcw ad ca u) t.heap ∧ va_D A (zcw ad ca u)
def zFi (x : zC) (N : Nat) (Qr : Int32 → List zE → Prop) : Prop :=
  match x with
  | (_, _, _, _, s, _, args, below, _, _, D, ca, ad, A, Q) => Q = MQ below (va_Qi (fun r u => u.length = N ∧ Qr r u) (zB D ca ad A) A) args s 0 0 A
def zFv (x : zC) (N : Nat) (Qr : List zE → Prop) : Prop :=
  match x with
  | (_, _, _, _, s, _, args, below, _, _, D, ca, ad, A, Q) => Q = MQ below (va_Qv (fun u => u.length = N ∧ Qr u) (zB D ca ad A) A) args s 0 0 A
def zFr (x : zC) (N : Nat) (Qr : Nat → List zE → Prop) : Prop :=
  match x with
  | (_, _, _, _, s, _, args, below, _, _, D, ca, ad, A, Q) => Q = MQ below (va_Qr (fun u : Nat × List zE => u.2.length = N ∧ Qr u.1 u.2) (fun u a t => a = ad u.1 ∧ zB D ca ad A u.2 t) A) args s 0 0 A
def zPre (D : va_G) (ca ad : Nat → Nat) (h : List zE) (sz : Nat) (U : State) : Prop := U.heap.size = sz ∧ va_P D vwCl (zcw ad ca h) U.heap ∧ va_D (fun _ => True) (zcw ad ca h) ∧ zKK D ca ad (va_A (zcw ad ca h) sz) U U.heap
/-- contracts: a method with an int (a boolean), with nothing, with a reference -/
def zMi (M : zM) (n : Nat) (av : List Value) (h : List zE) (Qr : Int32 → List zE → Prop) : Prop := ∀ (l : Launch) (D : va_G) (ca ad : Nat → Nat) (sz : Nat),
  Met l M.1 (zws M) (zrm n) (va_Pc (av.map (zcv ad)) (zPre D ca ad h sz)) (va_Qi (fun r u => u.length = h.length ∧ Qr r u) (zB D ca ad (va_A (zcw ad ca h) sz)) (va_A (zcw ad ca h) sz)) 0 0 (va_A (zcw ad ca h) sz)
def zMv (M : zM) (n : Nat) (av : List Value) (h : List zE) (Qr : List zE → Prop) : Prop := ∀ (l : Launch) (D : va_G) (ca ad : Nat → Nat) (sz : Nat),
  Met l M.1 (zws M) (zrm n) (va_Pc (av.map (zcv ad)) (zPre D ca ad h sz)) (va_Qv (fun u => u.length = h.length ∧ Qr u) (zB D ca ad (va_A (zcw ad ca h) sz)) (va_A (zcw ad ca h) sz)) 0 0 (va_A (zcw ad ca h) sz)
def zMr (M : zM) (n : Nat) (av : List Value) (h : List zE) (Qr : Nat → List zE → Prop) : Prop := ∀ (l : Launch) (D : va_G) (ca ad : Nat → Nat) (sz : Nat),
  Met l M.1 (zws M) (zrm n) (va_Pc (av.map (zcv ad)) (zPre D ca ad h sz)) (va_Qr (fun u : Nat × List zE => u.2.length = h.length ∧ Qr u.1 u.2) (fun u a t => a = ad u.1 ∧ zB D ca ad (va_A (zcw ad ca h) sz) u.2 t) (va_A (zcw ad ca h) sz)) 0 0 (va_A (zcw ad ca h) sz)
section ZOF
variable {M : zM} {n : Nat} {av : List Value} {h : List zE}
theorem zM_of (hy : plainName M.1.cls = true) (hlen : (zlo av).length ≤ M.2.2.1) {l : Launch} {D : va_G} {ca ad : Nat → Nat} {sz : Nat} {Qc : Array Value → State → Outcome → State → Prop}
    (k : ∀ (p : Program) (e : Env) (s : State) (m : MethodId) (args : Array Value) (below : List Frame) (meth : Method) (c : Code), s.heap.size = sz →
      zOk (p, l, e, zrm n, s, m, args, below, meth, c, D, ca, ad, va_A (zcw ad ca h) sz, MQ below Qc args s 0 0 (va_A (zcw ad ca h) sz)) M n →
      zV (p, l, e, zrm n, s, m, args, below, meth, c, D, ca, ad, va_A (zcw ad ca h) sz, MQ below Qc args s 0 0 (va_A (zcw ad ca h) sz)) 0 (zloc av M.2.2.1) [] h) :
    Met l M.1 (zws M) (zrm n) (va_Pc (av.map (zcv ad)) (zPre D ca ad h sz)) Qc 0 0 (va_A (zcw ad ca h) sz) := by
  refine Met.ofW (cc := M.2.1) (maxL := M.2.2.1) (ret := M.2.2.2) hy rfl ?_
  intro p e s m args below meth c s₁ B hml hv
  obtain ⟨rfl, hsz, hP, hD0, hKK⟩ := hv
  have hD := hD0.self (sz := sz)
  have hok : zOk (p, l, e, zrm n, s, m, (av.map (zcv ad)).toArray, below, meth, c, D, ca, ad, va_A (zcw ad ca h) sz, MQ below Qc (av.map (zcv ad)).toArray s 0 0 (va_A (zcw ad ca h) sz)) M n :=
    ⟨B.exec, B.bytes, hml, findClass_of_methodNamed B.named, atoms_spec (ws := zws M) B.pre, hKK, fun q hq => Or.inr (by rw [← hsz]; exact hq), rfl, B.returns, B.notSynchronized⟩
  have hlen2 : (lg_sl (av.map (zcv ad))).length ≤ M.2.2.1 := by rw [zlo_len]; exact hlen
  have hl := lv_entry (av.map (zcv ad)) (n := M.2.2.1) hlen2
  rw [lg_entry_eq]
  refine k p e s m _ below meth c hsz hok s.heap [] _ ?_ hP hD va_S.rf
  have h1 : (zloc av M.2.2.1).length = M.2.2.1 := by
    unfold zloc
    rw [List.length_append, List.length_replicate]
    omega
  rw [h1]
  unfold zloc
  rw [zpr_app, zpr_lo]
  exact hl
theorem zMi.of {Qr : Int32 → List zE → Prop} (hy : plainName M.1.cls = true) (hlen : (zlo av).length ≤ M.2.2.1) (k : ∀ x : zC, zOk x M n → zFi x h.length Qr → zV x 0 (zloc av M.2.2.1) [] h) : zMi M n av h Qr :=
  fun l D ca ad sz => zM_of hy hlen (fun p e s m args below meth c hsz hok => k _ hok rfl)
theorem zMv.of {Qr : List zE → Prop} (hy : plainName M.1.cls = true) (hlen : (zlo av).length ≤ M.2.2.1) (k : ∀ x : zC, zOk x M n → zFv x h.length Qr → zV x 0 (zloc av M.2.2.1) [] h) : zMv M n av h Qr :=
  fun l D ca ad sz => zM_of hy hlen (fun p e s m args below meth c hsz hok => k _ hok rfl)
theorem zMr.of {Qr : Nat → List zE → Prop} (hy : plainName M.1.cls = true) (hlen : (zlo av).length ≤ M.2.2.1) (k : ∀ x : zC, zOk x M n → zFr x h.length Qr → zV x 0 (zloc av M.2.2.1) [] h) : zMr M n av h Qr :=
  fun l D ca ad sz => zM_of hy hlen (fun p e s m args below meth c hsz hok => k _ hok rfl)
end ZOF
end
section
/-- the field link of the class own at the pool's place idx is field k of class ci (C, its table T of N fields) -/
def zFd (own : String) (idx ci k : Nat) (C : String) (T : u_T) (N : Nat) : Prop := vwCl[ci]? = some (C, T, N) ∧ k < N ∧ Cond.fieldLink own idx C (T k).2.1 (T k).2.2.1 ∈ zG ∧ (∀ w ∈ u_ws C T N, w ∈ zG) ∧ (T k).1 = C ∧ ∃ (ty0 : Nat → FieldType) (_ : ∀ k, k < N → parseFieldDescriptor (T k).2.2.1 = some (ty0 k)), ∀ a, a < N → ∀ b, b < N → a ≠ b → (T a).2.1 ≠ (T b).2.1
section ZST
variable {x : zC} {M : zM} {n pc : Nat} {lv : List (Option Value)} {st : List Value} {h : List zE}
theorem z_iadd (hx : zOk x M n) {a b : Int32} (d : decode M.2.1 pc = .ok (.iadd, 1)) (k : zV x (pc + 1) lv (.int (a + b) :: st) h) : zV x pc lv (.int b :: .int a :: st) h := by
  obtain ⟨p, l, e, R, s, m, args, below, meth, c, D, ca, ad, A, Q⟩ := x
  obtain ⟨hx, hb, hml, hown, hts, hKK, hA, hR, hr, hlk⟩ := hx
  intro H locs ls hl hP hD hS
  exact lv_iadd (x := a) (y := b) hx hb d (k H locs ls hl hP hD hS)
theorem z_isub (hx : zOk x M n) {a b : Int32} (d : decode M.2.1 pc = .ok (.isub, 1)) (k : zV x (pc + 1) lv (.int (a - b) :: st) h) : zV x pc lv (.int b :: .int a :: st) h := by
  obtain ⟨p, l, e, R, s, m, args, below, meth, c, D, ca, ad, A, Q⟩ := x
  obtain ⟨hx, hb, hml, hown, hts, hKK, hA, hR, hr, hlk⟩ := hx
  intro H locs ls hl hP hD hS
  exact lv_isub (x := a) (y := b) hx hb d (k H locs ls hl hP hD hS)
theorem z_imul (hx : zOk x M n) {a b : Int32} (d : decode M.2.1 pc = .ok (.imul, 1)) (k : zV x (pc + 1) lv (.int (a * b) :: st) h) : zV x pc lv (.int b :: .int a :: st) h := by
  obtain ⟨p, l, e, R, s, m, args, below, meth, c, D, ca, ad, A, Q⟩ := x
  obtain ⟨hx, hb, hml, hown, hts, hKK, hA, hR, hr, hlk⟩ := hx
  intro H locs ls hl hP hD hS
  exact lv_imul (x := a) (y := b) hx hb d (k H locs ls hl hP hD hS)
theorem z_ishl (hx : zOk x M n) {a b : Int32} (d : decode M.2.1 pc = .ok (.ishl, 1)) (k : zV x (pc + 1) lv (.int (a <<< (b &&& 31)) :: st) h) : zV x pc lv (.int b :: .int a :: st) h := by
  obtain ⟨p, l, e, R, s, m, args, below, meth, c, D, ca, ad, A, Q⟩ := x
  obtain ⟨hx, hb, hml, hown, hts, hKK, hA, hR, hr, hlk⟩ := hx
  intro H locs ls hl hP hD hS
  exact lv_ishl (x := a) (y := b) hx hb d (k H locs ls hl hP hD hS)
theorem z_ishr (hx : zOk x M n) {a b : Int32} (d : decode M.2.1 pc = .ok (.ishr, 1)) (k : zV x (pc + 1) lv (.int (a >>> (b &&& 31)) :: st) h) : zV x pc lv (.int b :: .int a :: st) h := by
  obtain ⟨p, l, e, R, s, m, args, below, meth, c, D, ca, ad, A, Q⟩ := x
  obtain ⟨hx, hb, hml, hown, hts, hKK, hA, hR, hr, hlk⟩ := hx
  intro H locs ls hl hP hD hS
  exact lv_ishr (x := a) (y := b) hx hb d (k H locs ls hl hP hD hS)
theorem z_iand (hx : zOk x M n) {a b : Int32} (d : decode M.2.1 pc = .ok (.iand, 1)) (k : zV x (pc + 1) lv (.int (a &&& b) :: st) h) : zV x pc lv (.int b :: .int a :: st) h := by
  obtain ⟨p, l, e, R, s, m, args, below, meth, c, D, ca, ad, A, Q⟩ := x
  obtain ⟨hx, hb, hml, hown, hts, hKK, hA, hR, hr, hlk⟩ := hx
  intro H locs ls hl hP hD hS
  exact lv_iand (x := a) (y := b) hx hb d (k H locs ls hl hP hD hS)
theorem z_ior (hx : zOk x M n) {a b : Int32} (d : decode M.2.1 pc = .ok (.ior, 1)) (k : zV x (pc + 1) lv (.int (a ||| b) :: st) h) : zV x pc lv (.int b :: .int a :: st) h := by
  obtain ⟨p, l, e, R, s, m, args, below, meth, c, D, ca, ad, A, Q⟩ := x
  obtain ⟨hx, hb, hml, hown, hts, hKK, hA, hR, hr, hlk⟩ := hx
  intro H locs ls hl hP hD hS
  exact lv_ior (x := a) (y := b) hx hb d (k H locs ls hl hP hD hS)
theorem z_ixor (hx : zOk x M n) {a b : Int32} (d : decode M.2.1 pc = .ok (.ixor, 1)) (k : zV x (pc + 1) lv (.int (a ^^^ b) :: st) h) : zV x pc lv (.int b :: .int a :: st) h := by
  obtain ⟨p, l, e, R, s, m, args, below, meth, c, D, ca, ad, A, Q⟩ := x
  obtain ⟨hx, hb, hml, hown, hts, hKK, hA, hR, hr, hlk⟩ := hx
  intro H locs ls hl hP hD hS
  exact lv_ixor (x := a) (y := b) hx hb d (k H locs ls hl hP hD hS)
theorem z_idiv (hx : zOk x M n) {a b : Int32} (d : decode M.2.1 pc = .ok (.idiv, 1)) (hne : ¬ b = 0) (k : zV x (pc + 1) lv (.int (a / b) :: st) h) : zV x pc lv (.int b :: .int a :: st) h := by
  obtain ⟨p, l, e, R, s, m, args, below, meth, c, D, ca, ad, A, Q⟩ := x
  obtain ⟨hx, hb, hml, hown, hts, hKK, hA, hR, hr, hlk⟩ := hx
  intro H locs ls hl hP hD hS
  exact lv_idiv (x := a) (y := b) hx hb d hne (k H locs ls hl hP hD hS)
theorem z_irem (hx : zOk x M n) {a b : Int32} (d : decode M.2.1 pc = .ok (.irem, 1)) (hne : ¬ b = 0) (k : zV x (pc + 1) lv (.int (a - a / b * b) :: st) h) : zV x pc lv (.int b :: .int a :: st) h := by
  obtain ⟨p, l, e, R, s, m, args, below, meth, c, D, ca, ad, A, Q⟩ := x
  obtain ⟨hx, hb, hml, hown, hts, hKK, hA, hR, hr, hlk⟩ := hx
  intro H locs ls hl hP hD hS
  exact lv_irem (x := a) (y := b) hx hb d hne (k H locs ls hl hP hD hS)
theorem z_ineg (hx : zOk x M n) {a : Int32} (d : decode M.2.1 pc = .ok (.ineg, 1)) (k : zV x (pc + 1) lv (.int (-a) :: st) h) : zV x pc lv (.int a :: st) h := by
  obtain ⟨p, l, e, R, s, m, args, below, meth, c, D, ca, ad, A, Q⟩ := x
  obtain ⟨hx, hb, hml, hown, hts, hKK, hA, hR, hr, hlk⟩ := hx
  intro H locs ls hl hP hD hS
  exact lv_ineg (x := a) hx hb d (k H locs ls hl hP hD hS)
theorem z_i2b (hx : zOk x M n) {a : Int32} (d : decode M.2.1 pc = .ok (.i2b, 1)) (k : zV x (pc + 1) lv (.int (a.toInt8.toInt32) :: st) h) : zV x pc lv (.int a :: st) h := by
  obtain ⟨p, l, e, R, s, m, args, below, meth, c, D, ca, ad, A, Q⟩ := x
  obtain ⟨hx, hb, hml, hown, hts, hKK, hA, hR, hr, hlk⟩ := hx
  intro H locs ls hl hP hD hS
  exact lv_i2b (x := a) hx hb d rfl (k H locs ls hl hP hD hS)
theorem z_i2s (hx : zOk x M n) {a : Int32} (d : decode M.2.1 pc = .ok (.i2s, 1)) (k : zV x (pc + 1) lv (.int (a.toInt16.toInt32) :: st) h) : zV x pc lv (.int a :: st) h := by
  obtain ⟨p, l, e, R, s, m, args, below, meth, c, D, ca, ad, A, Q⟩ := x
  obtain ⟨hx, hb, hml, hown, hts, hKK, hA, hR, hr, hlk⟩ := hx
  intro H locs ls hl hP hD hS
  exact lv_i2s (x := a) hx hb d rfl (k H locs ls hl hP hD hS)
theorem z_i2c (hx : zOk x M n) {a : Int32} (d : decode M.2.1 pc = .ok (.i2c, 1)) (k : zV x (pc + 1) lv (.int ((a.toUInt32 % 65536).toInt32) :: st) h) : zV x pc lv (.int a :: st) h := by
  obtain ⟨p, l, e, R, s, m, args, below, meth, c, D, ca, ad, A, Q⟩ := x
  obtain ⟨hx, hb, hml, hown, hts, hKK, hA, hR, hr, hlk⟩ := hx
  intro H locs ls hl hP hD hS
  exact lv_i2c (x := a) hx hb d rfl (k H locs ls hl hP hD hS)
theorem z_i2l (hx : zOk x M n) {a : Int32} (d : decode M.2.1 pc = .ok (.i2l, 1)) (k : zV x (pc + 1) lv (.long a.toInt64 :: st) h) : zV x pc lv (.int a :: st) h := by
  obtain ⟨p, l, e, R, s, m, args, below, meth, c, D, ca, ad, A, Q⟩ := x
  obtain ⟨hx, hb, hml, hown, hts, hKK, hA, hR, hr, hlk⟩ := hx
  intro H locs ls hl hP hD hS
  exact lv_i2l (x := a) hx hb d rfl (k H locs ls hl hP hD hS)
theorem z_l2i (hx : zOk x M n) {a : Int64} (d : decode M.2.1 pc = .ok (.l2i, 1)) (k : zV x (pc + 1) lv (.int a.toInt32 :: st) h) : zV x pc lv (.long a :: st) h := by
  obtain ⟨p, l, e, R, s, m, args, below, meth, c, D, ca, ad, A, Q⟩ := x
  obtain ⟨hx, hb, hml, hown, hts, hKK, hA, hR, hr, hlk⟩ := hx
  intro H locs ls hl hP hD hS
  exact lv_l2i (x := a) hx hb d rfl (k H locs ls hl hP hD hS)
theorem z_lmul (hx : zOk x M n) {a b : Int64} (d : decode M.2.1 pc = .ok (.lmul, 1)) (k : zV x (pc + 1) lv (.long (a * b) :: st) h) : zV x pc lv (.long b :: .long a :: st) h := by
  obtain ⟨p, l, e, R, s, m, args, below, meth, c, D, ca, ad, A, Q⟩ := x
  obtain ⟨hx, hb, hml, hown, hts, hKK, hA, hR, hr, hlk⟩ := hx
  intro H locs ls hl hP hD hS
  exact lv_lmul (x := a) (y := b) hx hb d (k H locs ls hl hP hD hS)
theorem z_lrem (hx : zOk x M n) {a b : Int64} (d : decode M.2.1 pc = .ok (.lrem, 1)) (hne : ¬ b = 0) (k : zV x (pc + 1) lv (.long (a - a / b * b) :: st) h) : zV x pc lv (.long b :: .long a :: st) h := by
  obtain ⟨p, l, e, R, s, m, args, below, meth, c, D, ca, ad, A, Q⟩ := x
  obtain ⟨hx, hb, hml, hown, hts, hKK, hA, hR, hr, hlk⟩ := hx
  intro H locs ls hl hP hD hS
  exact lv_lrem (x := a) (y := b) hx hb d hne (k H locs ls hl hP hD hS)
theorem z_iconst (hx : zOk x M n) {i : Int} {v : Int32} (d : decode M.2.1 pc = .ok (.iconst i, 1)) (hv : Int32.ofInt i = v) (k : zV x (pc + 1) lv (.int v :: st) h) : zV x pc lv (st) h := by
  obtain ⟨p, l, e, R, s, m, args, below, meth, c, D, ca, ad, A, Q⟩ := x
  obtain ⟨hx, hb, hml, hown, hts, hKK, hA, hR, hr, hlk⟩ := hx
  intro H locs ls hl hP hD hS
  exact lv_iconst hx hb d hv (k H locs ls hl hP hD hS)
theorem z_bipush (hx : zOk x M n) {i : Int} {v : Int32} (d : decode M.2.1 pc = .ok (.bipush i, 2)) (hv : (Int8.ofInt i).toInt32 = v) (k : zV x (pc + 2) lv (.int v :: st) h) : zV x pc lv (st) h := by
  obtain ⟨p, l, e, R, s, m, args, below, meth, c, D, ca, ad, A, Q⟩ := x
  obtain ⟨hx, hb, hml, hown, hts, hKK, hA, hR, hr, hlk⟩ := hx
  intro H locs ls hl hP hD hS
  exact lv_bipush hx hb d hv (k H locs ls hl hP hD hS)
theorem z_sipush (hx : zOk x M n) {i : Int} {v : Int32} (d : decode M.2.1 pc = .ok (.sipush i, 3)) (hv : (Int16.ofInt i).toInt32 = v) (k : zV x (pc + 3) lv (.int v :: st) h) : zV x pc lv (st) h := by
  obtain ⟨p, l, e, R, s, m, args, below, meth, c, D, ca, ad, A, Q⟩ := x
  obtain ⟨hx, hb, hml, hown, hts, hKK, hA, hR, hr, hlk⟩ := hx
  intro H locs ls hl hP hD hS
  exact lv_sipush hx hb d hv (k H locs ls hl hP hD hS)
theorem z_ldc (hx : zOk x M n) {i : Nat} {v : Int32} (d : decode M.2.1 pc = .ok (.ldc i, 2)) (hv : Cond.constant M.1.cls i v ∈ zG) (k : zV x (pc + 2) lv (.int v :: st) h) : zV x pc lv (st) h := by
  obtain ⟨p, l, e, R, s, m, args, below, meth, c, D, ca, ad, A, Q⟩ := x
  obtain ⟨hx, hb, hml, hown, hts, hKK, hA, hR, hr, hlk⟩ := hx
  intro H locs ls hl hP hD hS
  exact lv_ldc hx hb hown (hts _ (List.mem_cons_of_mem _ hv)) d (k H locs ls hl hP hD hS)
theorem z_ldcw (hx : zOk x M n) {i : Nat} {v : Int32} (d : decode M.2.1 pc = .ok (.ldc_w i, 3)) (hv : Cond.constant M.1.cls i v ∈ zG) (k : zV x (pc + 3) lv (.int v :: st) h) : zV x pc lv (st) h := by
  obtain ⟨p, l, e, R, s, m, args, below, meth, c, D, ca, ad, A, Q⟩ := x
  obtain ⟨hx, hb, hml, hown, hts, hKK, hA, hR, hr, hlk⟩ := hx
  intro H locs ls hl hP hD hS
  exact lv_ldcw hx hb hown (hts _ (List.mem_cons_of_mem _ hv)) d (k H locs ls hl hP hD hS)
theorem z_ldc2 (hx : zOk x M n) {i : Nat} {v : Int64} (d : decode M.2.1 pc = .ok (.ldc2_w i, 3)) (hv : Cond.constantLong M.1.cls i v ∈ zG) (k : zV x (pc + 3) lv (.long v :: st) h) : zV x pc lv (st) h := by
  obtain ⟨p, l, e, R, s, m, args, below, meth, c, D, ca, ad, A, Q⟩ := x
  obtain ⟨hx, hb, hml, hown, hts, hKK, hA, hR, hr, hlk⟩ := hx
  intro H locs ls hl hP hD hS
  exact lv_ldc2 hx hb hown (hts _ (List.mem_cons_of_mem _ hv)) d (k H locs ls hl hP hD hS)
theorem z_iload (hx : zOk x M n) {i : Nat} {a : Int32} (d : decode M.2.1 pc = .ok (.iload i, 2)) (hv : lv[i]? = some (some (.int a))) (k : zV x (pc + 2) lv (.int a :: st) h) : zV x pc lv (st) h := by
  obtain ⟨p, l, e, R, s, m, args, below, meth, c, D, ca, ad, A, Q⟩ := x
  obtain ⟨hx, hb, hml, hown, hts, hKK, hA, hR, hr, hlk⟩ := hx
  intro H locs ls hl hP hD hS
  exact lv_iload hx hb d (zpr_at hl hv) (k H locs ls hl hP hD hS)
theorem z_iload_n (hx : zOk x M n) {j : Fin 4} {a : Int32} (d : decode M.2.1 pc = .ok (.iload_n j, 1)) (hv : lv[j.val]? = some (some (.int a))) (k : zV x (pc + 1) lv (.int a :: st) h) : zV x pc lv (st) h := by
  obtain ⟨p, l, e, R, s, m, args, below, meth, c, D, ca, ad, A, Q⟩ := x
  obtain ⟨hx, hb, hml, hown, hts, hKK, hA, hR, hr, hlk⟩ := hx
  intro H locs ls hl hP hD hS
  exact lv_iload_n hx hb d rfl (zpr_at hl hv) (k H locs ls hl hP hD hS)
theorem z_aload (hx : zOk x M n) {i : Nat} {a : Nat} (d : decode M.2.1 pc = .ok (.aload i, 2)) (hv : lv[i]? = some (some (.ref a))) (k : zV x (pc + 2) lv (.ref a :: st) h) : zV x pc lv (st) h := by
  obtain ⟨p, l, e, R, s, m, args, below, meth, c, D, ca, ad, A, Q⟩ := x
  obtain ⟨hx, hb, hml, hown, hts, hKK, hA, hR, hr, hlk⟩ := hx
  intro H locs ls hl hP hD hS
  exact lv_aload hx hb d (zpr_at hl hv) (k H locs ls hl hP hD hS)
theorem z_aload_n (hx : zOk x M n) {j : Fin 4} {a : Nat} (d : decode M.2.1 pc = .ok (.aload_n j, 1)) (hv : lv[j.val]? = some (some (.ref a))) (k : zV x (pc + 1) lv (.ref a :: st) h) : zV x pc lv (st) h := by
  obtain ⟨p, l, e, R, s, m, args, below, meth, c, D, ca, ad, A, Q⟩ := x
  obtain ⟨hx, hb, hml, hown, hts, hKK, hA, hR, hr, hlk⟩ := hx
  intro H locs ls hl hP hD hS
  exact lv_aload_n hx hb d rfl (zpr_at hl hv) (k H locs ls hl hP hD hS)
theorem z_lload (hx : zOk x M n) {i : Nat} {a : Int64} (d : decode M.2.1 pc = .ok (.lload i, 2)) (hv : lv[i]? = some (some (.long a))) (k : zV x (pc + 2) lv (.long a :: st) h) : zV x pc lv (st) h := by
  obtain ⟨p, l, e, R, s, m, args, below, meth, c, D, ca, ad, A, Q⟩ := x
  obtain ⟨hx, hb, hml, hown, hts, hKK, hA, hR, hr, hlk⟩ := hx
  intro H locs ls hl hP hD hS
  exact lv_lload hx hb d (zpr_at hl hv) (k H locs ls hl hP hD hS)
theorem z_lload_n (hx : zOk x M n) {j : Fin 4} {a : Int64} (d : decode M.2.1 pc = .ok (.lload_n j, 1)) (hv : lv[j.val]? = some (some (.long a))) (k : zV x (pc + 1) lv (.long a :: st) h) : zV x pc lv (st) h := by
  obtain ⟨p, l, e, R, s, m, args, below, meth, c, D, ca, ad, A, Q⟩ := x
  obtain ⟨hx, hb, hml, hown, hts, hKK, hA, hR, hr, hlk⟩ := hx
  intro H locs ls hl hP hD hS
  exact lv_lload_n hx hb d rfl (zpr_at hl hv) (k H locs ls hl hP hD hS)
theorem z_istore (hx : zOk x M n) {i : Nat} {a : Int32} (d : decode M.2.1 pc = .ok (.istore i, 2)) (hi : i < lv.length) (hn : zns lv i = true) (k : zV x (pc + 2) (lv.set i (some (.int a))) st h) : zV x pc lv (.int a :: st) h := by
  obtain ⟨p, l, e, R, s, m, args, below, meth, c, D, ca, ad, A, Q⟩ := x
  obtain ⟨hx, hb, hml, hown, hts, hKK, hA, hR, hr, hlk⟩ := hx
  intro H locs ls hl hP hD hS
  exact lv_istore hx hb d hl hi rfl (fun ls2 hl2 => k H locs ls2 (zst (v := .int a) hn hl2) hP hD hS)
theorem z_istore_n (hx : zOk x M n) {j : Fin 4} {a : Int32} (d : decode M.2.1 pc = .ok (.istore_n j, 1)) (hi : j.val < lv.length) (hn : zns lv j.val = true) (k : zV x (pc + 1) (lv.set j.val (some (.int a))) st h) : zV x pc lv (.int a :: st) h := by
  obtain ⟨p, l, e, R, s, m, args, below, meth, c, D, ca, ad, A, Q⟩ := x
  obtain ⟨hx, hb, hml, hown, hts, hKK, hA, hR, hr, hlk⟩ := hx
  intro H locs ls hl hP hD hS
  exact lv_istore_n hx hb d rfl hl hi rfl (fun ls2 hl2 => k H locs ls2 (zst (v := .int a) hn hl2) hP hD hS)
theorem z_astore (hx : zOk x M n) {i : Nat} {a : Nat} (d : decode M.2.1 pc = .ok (.astore i, 2)) (hi : i < lv.length) (hn : zns lv i = true) (k : zV x (pc + 2) (lv.set i (some (.ref a))) st h) : zV x pc lv (.ref a :: st) h := by
  obtain ⟨p, l, e, R, s, m, args, below, meth, c, D, ca, ad, A, Q⟩ := x
  obtain ⟨hx, hb, hml, hown, hts, hKK, hA, hR, hr, hlk⟩ := hx
  intro H locs ls hl hP hD hS
  exact lv_astore hx hb d hl hi rfl (fun ls2 hl2 => k H locs ls2 (zst (v := .ref a) hn hl2) hP hD hS)
theorem z_astore_n (hx : zOk x M n) {j : Fin 4} {a : Nat} (d : decode M.2.1 pc = .ok (.astore_n j, 1)) (hi : j.val < lv.length) (hn : zns lv j.val = true) (k : zV x (pc + 1) (lv.set j.val (some (.ref a))) st h) : zV x pc lv (.ref a :: st) h := by
  obtain ⟨p, l, e, R, s, m, args, below, meth, c, D, ca, ad, A, Q⟩ := x
  obtain ⟨hx, hb, hml, hown, hts, hKK, hA, hR, hr, hlk⟩ := hx
  intro H locs ls hl hP hD hS
  exact lv_astore_n hx hb d rfl hl hi rfl (fun ls2 hl2 => k H locs ls2 (zst (v := .ref a) hn hl2) hP hD hS)
theorem z_lstore (hx : zOk x M n) {i : Nat} {a : Int64} (d : decode M.2.1 pc = .ok (.lstore i, 2)) (hi : i + 1 < lv.length) (hn : zns lv i = true) (k : zV x (pc + 2) ((lv.set i (some (.long a))).set (i + 1) none) st h) : zV x pc lv (.long a :: st) h := by
  obtain ⟨p, l, e, R, s, m, args, below, meth, c, D, ca, ad, A, Q⟩ := x
  obtain ⟨hx, hb, hml, hown, hts, hKK, hA, hR, hr, hlk⟩ := hx
  intro H locs ls hl hP hD hS
  exact lv_lstore hx hb d hl hi rfl (fun ls2 hl2 => k H locs ls2 (zstl (v := .long a) hn hl2) hP hD hS)
theorem z_lstore_n (hx : zOk x M n) {j : Fin 4} {a : Int64} (d : decode M.2.1 pc = .ok (.lstore_n j, 1)) (hi : j.val + 1 < lv.length) (hn : zns lv j.val = true) (k : zV x (pc + 1) ((lv.set j.val (some (.long a))).set (j.val + 1) none) st h) : zV x pc lv (.long a :: st) h := by
  obtain ⟨p, l, e, R, s, m, args, below, meth, c, D, ca, ad, A, Q⟩ := x
  obtain ⟨hx, hb, hml, hown, hts, hKK, hA, hR, hr, hlk⟩ := hx
  intro H locs ls hl hP hD hS
  exact lv_lstore_n hx hb d rfl hl hi rfl (fun ls2 hl2 => k H locs ls2 (zstl (v := .long a) hn hl2) hP hD hS)
theorem z_iinc (hx : zOk x M n) {i : Nat} {z : Int} {a v : Int32} (d : decode M.2.1 pc = .ok (.iinc i z, 3)) (hv : lv[i]? = some (some (.int a))) (he : a + Int32.ofInt z = v) (hn : zns lv i = true) (k : zV x (pc + 3) (lv.set i (some (.int v))) st h) : zV x pc lv st h := by
  obtain ⟨p, l, e, R, s, m, args, below, meth, c, D, ca, ad, A, Q⟩ := x
  obtain ⟨hx, hb, hml, hown, hts, hKK, hA, hR, hr, hlk⟩ := hx
  intro H locs ls hl hP hD hS
  have hi : i < lv.length := (List.getElem?_eq_some_iff.mp hv).1
  have hm : (i, Value.int a) ∈ zpr ad 0 lv := (zpr_mem ad lv 0 _).mpr ⟨i, .int a, hv, by simp [zcv]⟩
  obtain ⟨j, hj, hj2⟩ := List.mem_iff_getElem.mp hm
  exact lv_iinc hx hb d hl (k := j) (by rw [List.getElem?_eq_getElem hj, hj2]) he hi rfl (fun ls2 hl2 => k H locs ls2 (zst (v := .int v) hn hl2) hP hD hS)
theorem z_kill (i : Nat) (k : zV x pc (lv.set i none) st h) : zV x pc lv st h := by
  obtain ⟨p, l, e, R, s, m, args, below, meth, c, D, ca, ad, A, Q⟩ := x
  intro H locs ls hl hP hD hS
  exact k H locs ls (zkl i hl) hP hD hS
theorem z_dup (hx : zOk x M n) {v : Value} (d : decode M.2.1 pc = .ok (.dup, 1)) (hc : v.category = 1) (k : zV x (pc + 1) lv (v :: v :: st) h) : zV x pc lv (v :: st) h := by
  obtain ⟨p, l, e, R, s, m, args, below, meth, c, D, ca, ad, A, Q⟩ := x
  obtain ⟨hx, hb, hml, hown, hts, hKK, hA, hR, hr, hlk⟩ := hx
  intro H locs ls hl hP hD hS
  exact lv_dup hx hb d (by rw [zcv_cat]; exact hc) (k H locs ls hl hP hD hS)
theorem z_pop (hx : zOk x M n) {v : Value} (d : decode M.2.1 pc = .ok (.pop, 1)) (hc : v.category = 1) (k : zV x (pc + 1) lv st h) : zV x pc lv (v :: st) h := by
  obtain ⟨p, l, e, R, s, m, args, below, meth, c, D, ca, ad, A, Q⟩ := x
  obtain ⟨hx, hb, hml, hown, hts, hKK, hA, hR, hr, hlk⟩ := hx
  intro H locs ls hl hP hD hS
  exact lv_pop hx hb d (by rw [zcv_cat]; exact hc) (k H locs ls hl hP hD hS)
theorem z_dup2 (hx : zOk x M n) {v w : Value} (d : decode M.2.1 pc = .ok (.dup2, 1)) (hc : v.category = 1) (hw : w.category = 1) (k : zV x (pc + 1) lv (v :: w :: v :: w :: st) h) : zV x pc lv (v :: w :: st) h := by
  obtain ⟨p, l, e, R, s, m, args, below, meth, c, D, ca, ad, A, Q⟩ := x
  obtain ⟨hx, hb, hml, hown, hts, hKK, hA, hR, hr, hlk⟩ := hx
  intro H locs ls hl hP hD hS
  exact lv_dup2_11 hx hb d (by rw [zcv_cat]; exact hc) (by rw [zcv_cat]; exact hw) (k H locs ls hl hP hD hS)
theorem z_goto (hx : zOk x M n) {off : Int} {tgt : Nat} (d : decode M.2.1 pc = .ok (.goto off, 3)) (ht : (pc : Int) + off = (tgt : Int)) (k : zV x tgt lv st h) : zV x pc lv (st) h := by
  obtain ⟨p, l, e, R, s, m, args, below, meth, c, D, ca, ad, A, Q⟩ := x
  obtain ⟨hx, hb, hml, hown, hts, hKK, hA, hR, hr, hlk⟩ := hx
  intro H locs ls hl hP hD hS
  exact lv_goto hx hb d ht (k H locs ls hl hP hD hS)
theorem z_icmp_eq (hx : zOk x M n) {a b : Int32} {off : Int} {tgt : Nat} (d : decode M.2.1 pc = .ok (.if_icmp .eq off, 3)) (ht : (pc : Int) + off = (tgt : Int)) (kt : a = b → zV x tgt lv st h) (kf : ¬ a = b → zV x (pc + 3) lv st h) : zV x pc lv (.int b :: .int a :: st) h := by
  obtain ⟨p, l, e, R, s, m, args, below, meth, c, D, ca, ad, A, Q⟩ := x
  obtain ⟨hx, hb, hml, hown, hts, hKK, hA, hR, hr, hlk⟩ := hx
  intro H locs ls hl hP hD hS
  exact lv_icmp_eq (x := a) (y := b) hx hb d ht (fun q => kt q H locs ls hl hP hD hS) (fun q => kf q H locs ls hl hP hD hS)
theorem z_icmp_ne (hx : zOk x M n) {a b : Int32} {off : Int} {tgt : Nat} (d : decode M.2.1 pc = .ok (.if_icmp .ne off, 3)) (ht : (pc : Int) + off = (tgt : Int)) (kt : ¬ a = b → zV x tgt lv st h) (kf : a = b → zV x (pc + 3) lv st h) : zV x pc lv (.int b :: .int a :: st) h := by
  obtain ⟨p, l, e, R, s, m, args, below, meth, c, D, ca, ad, A, Q⟩ := x
  obtain ⟨hx, hb, hml, hown, hts, hKK, hA, hR, hr, hlk⟩ := hx
  intro H locs ls hl hP hD hS
  exact lv_icmp_ne (x := a) (y := b) hx hb d ht (fun q => kt q H locs ls hl hP hD hS) (fun q => kf q H locs ls hl hP hD hS)
theorem z_icmp_lt (hx : zOk x M n) {a b : Int32} {off : Int} {tgt : Nat} (d : decode M.2.1 pc = .ok (.if_icmp .lt off, 3)) (ht : (pc : Int) + off = (tgt : Int)) (kt : a < b → zV x tgt lv st h) (kf : ¬ a < b → zV x (pc + 3) lv st h) : zV x pc lv (.int b :: .int a :: st) h := by
  obtain ⟨p, l, e, R, s, m, args, below, meth, c, D, ca, ad, A, Q⟩ := x
  obtain ⟨hx, hb, hml, hown, hts, hKK, hA, hR, hr, hlk⟩ := hx
  intro H locs ls hl hP hD hS
  exact lv_icmp_lt (x := a) (y := b) hx hb d ht (fun q => kt q H locs ls hl hP hD hS) (fun q => kf q H locs ls hl hP hD hS)
theorem z_icmp_ge (hx : zOk x M n) {a b : Int32} {off : Int} {tgt : Nat} (d : decode M.2.1 pc = .ok (.if_icmp .ge off, 3)) (ht : (pc : Int) + off = (tgt : Int)) (kt : b ≤ a → zV x tgt lv st h) (kf : ¬ b ≤ a → zV x (pc + 3) lv st h) : zV x pc lv (.int b :: .int a :: st) h := by
  obtain ⟨p, l, e, R, s, m, args, below, meth, c, D, ca, ad, A, Q⟩ := x
  obtain ⟨hx, hb, hml, hown, hts, hKK, hA, hR, hr, hlk⟩ := hx
  intro H locs ls hl hP hD hS
  exact lv_icmp_ge (x := a) (y := b) hx hb d ht (fun q => kt q H locs ls hl hP hD hS) (fun q => kf q H locs ls hl hP hD hS)
theorem z_icmp_gt (hx : zOk x M n) {a b : Int32} {off : Int} {tgt : Nat} (d : decode M.2.1 pc = .ok (.if_icmp .gt off, 3)) (ht : (pc : Int) + off = (tgt : Int)) (kt : b < a → zV x tgt lv st h) (kf : ¬ b < a → zV x (pc + 3) lv st h) : zV x pc lv (.int b :: .int a :: st) h := by
  obtain ⟨p, l, e, R, s, m, args, below, meth, c, D, ca, ad, A, Q⟩ := x
  obtain ⟨hx, hb, hml, hown, hts, hKK, hA, hR, hr, hlk⟩ := hx
  intro H locs ls hl hP hD hS
  exact lv_icmp_gt (x := a) (y := b) hx hb d ht (fun q => kt q H locs ls hl hP hD hS) (fun q => kf q H locs ls hl hP hD hS)
theorem z_icmp_le (hx : zOk x M n) {a b : Int32} {off : Int} {tgt : Nat} (d : decode M.2.1 pc = .ok (.if_icmp .le off, 3)) (ht : (pc : Int) + off = (tgt : Int)) (kt : a ≤ b → zV x tgt lv st h) (kf : ¬ a ≤ b → zV x (pc + 3) lv st h) : zV x pc lv (.int b :: .int a :: st) h := by
  obtain ⟨p, l, e, R, s, m, args, below, meth, c, D, ca, ad, A, Q⟩ := x
  obtain ⟨hx, hb, hml, hown, hts, hKK, hA, hR, hr, hlk⟩ := hx
  intro H locs ls hl hP hD hS
  exact lv_icmp_le (x := a) (y := b) hx hb d ht (fun q => kt q H locs ls hl hP hD hS) (fun q => kf q H locs ls hl hP hD hS)
theorem z_if_eq (hx : zOk x M n) {a : Int32} {off : Int} {tgt : Nat} (d : decode M.2.1 pc = .ok (.ifCond .eq off, 3)) (ht : (pc : Int) + off = (tgt : Int)) (kt : a = 0 → zV x tgt lv st h) (kf : ¬ a = 0 → zV x (pc + 3) lv st h) : zV x pc lv (.int a :: st) h := by
  obtain ⟨p, l, e, R, s, m, args, below, meth, c, D, ca, ad, A, Q⟩ := x
  obtain ⟨hx, hb, hml, hown, hts, hKK, hA, hR, hr, hlk⟩ := hx
  intro H locs ls hl hP hD hS
  exact lv_if_eq (x := a) hx hb d ht (fun q => kt q H locs ls hl hP hD hS) (fun q => kf q H locs ls hl hP hD hS)
theorem z_if_ne (hx : zOk x M n) {a : Int32} {off : Int} {tgt : Nat} (d : decode M.2.1 pc = .ok (.ifCond .ne off, 3)) (ht : (pc : Int) + off = (tgt : Int)) (kt : ¬ a = 0 → zV x tgt lv st h) (kf : a = 0 → zV x (pc + 3) lv st h) : zV x pc lv (.int a :: st) h := by
  obtain ⟨p, l, e, R, s, m, args, below, meth, c, D, ca, ad, A, Q⟩ := x
  obtain ⟨hx, hb, hml, hown, hts, hKK, hA, hR, hr, hlk⟩ := hx
  intro H locs ls hl hP hD hS
  exact lv_if_ne (x := a) hx hb d ht (fun q => kt q H locs ls hl hP hD hS) (fun q => kf q H locs ls hl hP hD hS)
theorem z_if_lt (hx : zOk x M n) {a : Int32} {off : Int} {tgt : Nat} (d : decode M.2.1 pc = .ok (.ifCond .lt off, 3)) (ht : (pc : Int) + off = (tgt : Int)) (kt : a < 0 → zV x tgt lv st h) (kf : ¬ a < 0 → zV x (pc + 3) lv st h) : zV x pc lv (.int a :: st) h := by
  obtain ⟨p, l, e, R, s, m, args, below, meth, c, D, ca, ad, A, Q⟩ := x
  obtain ⟨hx, hb, hml, hown, hts, hKK, hA, hR, hr, hlk⟩ := hx
  intro H locs ls hl hP hD hS
  exact lv_if_lt (x := a) hx hb d ht (fun q => kt q H locs ls hl hP hD hS) (fun q => kf q H locs ls hl hP hD hS)
theorem z_if_ge (hx : zOk x M n) {a : Int32} {off : Int} {tgt : Nat} (d : decode M.2.1 pc = .ok (.ifCond .ge off, 3)) (ht : (pc : Int) + off = (tgt : Int)) (kt : 0 ≤ a → zV x tgt lv st h) (kf : ¬ 0 ≤ a → zV x (pc + 3) lv st h) : zV x pc lv (.int a :: st) h := by
  obtain ⟨p, l, e, R, s, m, args, below, meth, c, D, ca, ad, A, Q⟩ := x
  obtain ⟨hx, hb, hml, hown, hts, hKK, hA, hR, hr, hlk⟩ := hx
  intro H locs ls hl hP hD hS
  exact lv_if_ge (x := a) hx hb d ht (fun q => kt q H locs ls hl hP hD hS) (fun q => kf q H locs ls hl hP hD hS)
theorem z_if_gt (hx : zOk x M n) {a : Int32} {off : Int} {tgt : Nat} (d : decode M.2.1 pc = .ok (.ifCond .gt off, 3)) (ht : (pc : Int) + off = (tgt : Int)) (kt : 0 < a → zV x tgt lv st h) (kf : ¬ 0 < a → zV x (pc + 3) lv st h) : zV x pc lv (.int a :: st) h := by
  obtain ⟨p, l, e, R, s, m, args, below, meth, c, D, ca, ad, A, Q⟩ := x
  obtain ⟨hx, hb, hml, hown, hts, hKK, hA, hR, hr, hlk⟩ := hx
  intro H locs ls hl hP hD hS
  exact lv_if_gt (x := a) hx hb d ht (fun q => kt q H locs ls hl hP hD hS) (fun q => kf q H locs ls hl hP hD hS)
theorem z_if_le (hx : zOk x M n) {a : Int32} {off : Int} {tgt : Nat} (d : decode M.2.1 pc = .ok (.ifCond .le off, 3)) (ht : (pc : Int) + off = (tgt : Int)) (kt : a ≤ 0 → zV x tgt lv st h) (kf : ¬ a ≤ 0 → zV x (pc + 3) lv st h) : zV x pc lv (.int a :: st) h := by
  obtain ⟨p, l, e, R, s, m, args, below, meth, c, D, ca, ad, A, Q⟩ := x
  obtain ⟨hx, hb, hml, hown, hts, hKK, hA, hR, hr, hlk⟩ := hx
  intro H locs ls hl hP hD hS
  exact lv_if_le (x := a) hx hb d ht (fun q => kt q H locs ls hl hP hD hS) (fun q => kf q H locs ls hl hP hD hS)
theorem z_tableIn (hx : zOk x M n) {dflt lo hi : Int} {offs : Array Int} {len : Nat} {a : Int32} {off : Int} {tgt : Nat} (d : decode M.2.1 pc = .ok (.tableswitch dflt lo hi offs, len)) (h1 : ¬ a.toInt < lo) (h2 : ¬ hi < a.toInt) (ho : offs[(a.toInt - lo).toNat]? = some off) (ht : (pc : Int) + off = (tgt : Int)) (k : zV x tgt lv st h) : zV x pc lv (.int a :: st) h := by
  obtain ⟨p, l, e, R, s, m, args, below, meth, c, D, ca, ad, A, Q⟩ := x
  obtain ⟨hx, hb, hml, hown, hts, hKK, hA, hR, hr, hlk⟩ := hx
  intro H locs ls hl hP hD hS
  exact lv_tableIn (x := a) hx hb d h1 h2 ho ht (k H locs ls hl hP hD hS)
theorem z_tableOut (hx : zOk x M n) {dflt lo hi : Int} {offs : Array Int} {len : Nat} {a : Int32} {tgt : Nat} (d : decode M.2.1 pc = .ok (.tableswitch dflt lo hi offs, len)) (h1 : a.toInt < lo ∨ hi < a.toInt) (ht : (pc : Int) + dflt = (tgt : Int)) (k : zV x tgt lv st h) : zV x pc lv (.int a :: st) h := by
  obtain ⟨p, l, e, R, s, m, args, below, meth, c, D, ca, ad, A, Q⟩ := x
  obtain ⟨hx, hb, hml, hown, hts, hKK, hA, hR, hr, hlk⟩ := hx
  intro H locs ls hl hP hD hS
  exact lv_tableOut (x := a) hx hb d h1 ht (k H locs ls hl hP hD hS)
theorem z_get (hx : zOk x M n) {idx q ci : Nat} {C : String} {T : u_T} {N : Nat} {fs : List Value} {v : Value} {kf : Nat} (d : decode M.2.1 pc = .ok (.getfield idx, 3)) (f : zFd M.1.cls idx ci kf C T N) (hq : h[q]? = some (zO ci fs)) (hv : fs[kf]? = some v) (k : zV x (pc + 3) lv (v :: st) h) : zV x pc lv (.ref q :: st) h := by
  obtain ⟨p, l, e, R, s, m, args, below, meth, c, D, ca, ad, A, Q⟩ := x
  obtain ⟨hx, hb, hml, hown, hts, hKK, hA, hR, hr, hlk⟩ := hx
  intro H locs ls hl hP hD hS
  obtain ⟨f1, f2, f3, f4, f5, f6, f7, f8⟩ := f
  exact va_get (D := D) (ci := ci) (v := zcv ad v) (C := C) (T := T) (N := N) hx hb hts (fun w hw => List.mem_cons_of_mem _ (f4 w hw)) hown hKK.1 hP q (zcw_get hq) f1 kf f2 (hts _ (List.mem_cons_of_mem _ f3)) (fun x9 h9 => by rw [f5] at h9; exact h9) (by rw [List.getElem?_map, hv]; rfl) d (k H locs ls hl hP hD hS)
theorem z_put (hx : zOk x M n) {idx q ci kf : Nat} {C : String} {T : u_T} {N : Nat} {fs : List Value} {v : Value} {ty : FieldType} (d : decode M.2.1 pc = .ok (.putfield idx, 3)) (f : zFd M.1.cls idx ci kf C T N) (hq : h[q]? = some (zO ci fs)) (hfin : (T kf).2.2.2 = false) (hty : parseFieldDescriptor (T kf).2.2.1 = some ty) (hn : ∀ g : Nat → Nat, narrow ty (zcv g v) = zcv g v) (hfit : ∀ g : Nat → Nat, fits ty (zcv g v) = true) (hl0 : kf < fs.length) (k : zV x (pc + 3) lv st (h.set q (zO ci (fs.set kf v)))) : zV x pc lv (v :: .ref q :: st) h := by
  obtain ⟨p, l, e, R, s, m, args, below, meth, c, D, ca, ad, A, Q⟩ := x
  obtain ⟨hx, hb, hml, hown, hts, hKK, hA, hR, hr, hlk⟩ := hx
  intro H locs ls hl hP hD hS
  obtain ⟨f1, f2, f3, f4, f5, f6, f7, f8⟩ := f
  refine va_put (D := D) (ci := ci) (v := zcv ad v) (ty := ty) (C := C) (T := T) (N := N) hx hb hts (fun w hw => List.mem_cons_of_mem _ (f4 w hw)) f6 f7 f8 hown hKK.1 hP hD hS q (zcw_get hq) f1 kf f2 (hts _ (List.mem_cons_of_mem _ f3)) (fun x9 h9 => by rw [f5] at h9; exact h9) hfin hty (hn ad) (hfit ad) (by rw [List.length_map]; exact hl0) d (fun H1 locs1 hP1 hD1 hS1 => ?_)
  have e : (zcw ad ca h).set q (ad q, .inr (ci, (fs.map (zcv ad)).set kf (zcv ad v))) = zcw ad ca (h.set q (zO ci (fs.set kf v))) := by
    rw [← zcw_set q (zO ci (fs.set kf v)), zce, List.map_set]
  rw [e] at hP1 hD1
  exact k H1 locs1 ls hl hP1 hD1 hS1
theorem z_iald (hx : zOk x M n) {q N : Nat} {f : Nat → Int32} {i : Int32} (d : decode M.2.1 pc = .ok (.iaload, 1)) (hq : h[q]? = some (zI N f)) (hi : vp_in i N) (k : zV x (pc + 1) lv (.int (f i.toNatClampNeg) :: st) h) : zV x pc lv (.int i :: .ref q :: st) h := by
  obtain ⟨p, l, e, R, s, m, args, below, meth, c, D, ca, ad, A, Q⟩ := x
  obtain ⟨hx, hb, hml, hown, hts, hKK, hA, hR, hr, hlk⟩ := hx
  intro H locs ls hl hP hD hS
  exact va_iald (f := f) (i := i) hx hb hKK.1 hP q 0 (zcw_get hq) rfl hi d (k H locs ls hl hP hD hS)
theorem z_iast (hx : zOk x M n) {q N : Nat} {f : Nat → Int32} {i a : Int32} (d : decode M.2.1 pc = .ok (.iastore, 1)) (hq : h[q]? = some (zI N f)) (hi : vp_in i N) (k : zV x (pc + 1) lv st (h.set q (zI N (upd f i.toNatClampNeg a)))) : zV x pc lv (.int a :: .int i :: .ref q :: st) h := by
  obtain ⟨p, l, e, R, s, m, args, below, meth, c, D, ca, ad, A, Q⟩ := x
  obtain ⟨hx, hb, hml, hown, hts, hKK, hA, hR, hr, hlk⟩ := hx
  intro H locs ls hl hP hD hS
  refine va_iast (f := f) (i := i) (x := a) hx hb hKK.1 hP hD hS q 0 (zcw_get hq) rfl hi d (fun H1 locs1 hP1 hD1 hS1 => ?_)
  have e := zcw_set (ad := ad) (ca := ca) (h := h) q (zI N (upd f i.toNatClampNeg a))
  rw [zce] at e
  rw [e] at hP1 hD1
  exact k H1 locs1 ls hl hP1 hD1 hS1
theorem z_zald (hx : zOk x M n) {q N : Nat} {f : Nat → Int32} {i : Int32} (d : decode M.2.1 pc = .ok (.baload, 1)) (hq : h[q]? = some (zZ N f)) (hi : vp_in i N) (k : zV x (pc + 1) lv (.int (f i.toNatClampNeg) :: st) h) : zV x pc lv (.int i :: .ref q :: st) h := by
  obtain ⟨p, l, e, R, s, m, args, below, meth, c, D, ca, ad, A, Q⟩ := x
  obtain ⟨hx, hb, hml, hown, hts, hKK, hA, hR, hr, hlk⟩ := hx
  intro H locs ls hl hP hD hS
  exact va_zald (f := f) (i := i) hx hb hKK.1 hP q 1 (zcw_get hq) rfl hi d (k H locs ls hl hP hD hS)
theorem z_zast (hx : zOk x M n) {q N : Nat} {f : Nat → Int32} {i a : Int32} (d : decode M.2.1 pc = .ok (.bastore, 1)) (hq : h[q]? = some (zZ N f)) (hi : vp_in i N) (k : zV x (pc + 1) lv st (h.set q (zZ N (upd f i.toNatClampNeg (vp_nar .boolean a))))) : zV x pc lv (.int a :: .int i :: .ref q :: st) h := by
  obtain ⟨p, l, e, R, s, m, args, below, meth, c, D, ca, ad, A, Q⟩ := x
  obtain ⟨hx, hb, hml, hown, hts, hKK, hA, hR, hr, hlk⟩ := hx
  intro H locs ls hl hP hD hS
  refine va_zast (f := f) (i := i) (x := a) hx hb hKK.1 hP hD hS q 1 (zcw_get hq) rfl hi d (fun H1 locs1 hP1 hD1 hS1 => ?_)
  have e := zcw_set (ad := ad) (ca := ca) (h := h) q (zZ N (upd f i.toNatClampNeg (vp_nar .boolean a)))
  rw [zce] at e
  rw [e] at hP1 hD1
  exact k H1 locs1 ls hl hP1 hD1 hS1
theorem z_alen (hx : zOk x M n) {q N : Nat} {f : Nat → Int32} {v : Int32} (d : decode M.2.1 pc = .ok (.arraylength, 1)) (hq : h[q]? = some (zI N f)) (hv : Int32.ofNat N = v) (k : zV x (pc + 1) lv (.int v :: st) h) : zV x pc lv (.ref q :: st) h := by
  obtain ⟨p, l, e, R, s, m, args, below, meth, c, D, ca, ad, A, Q⟩ := x
  obtain ⟨hx, hb, hml, hown, hts, hKK, hA, hR, hr, hlk⟩ := hx
  intro H locs ls hl hP hD hS
  exact va_alen (x := (N, .inl f)) hx hb hKK.1 hP q 0 (zcw_get hq) (ty := .int) rfl hv d (k H locs ls hl hP hD hS)
theorem z_aald (hx : zOk x M n) {q t r j : Nat} {C : String} {fs : List Value} (d : decode M.2.1 pc = .ok (.aaload, 1)) (hq : h[q]? = some (zR t fs)) (ht : ∀ g : Nat → Nat, (ztys g)[t]? = some (g t, .object C)) (hj : j < fs.length) (hL : fs.length < 2147483648) (hfr : fs[j]? = some (.ref r)) (k : zV x (pc + 1) lv (.ref r :: st) h) : zV x pc lv (.int (nI j) :: .ref q :: st) h := by
  obtain ⟨p, l, e, R, s, m, args, below, meth, c, D, ca, ad, A, Q⟩ := x
  obtain ⟨hx, hb, hml, hown, hts, hKK, hA, hR, hr, hlk⟩ := hx
  intro H locs ls hl hP hD hS
  refine va_aldq (f := fun i => zrf ad fs[i]?) (i := nI j) hx hb hKK.1 hP q t (zcw_get hq) (ht ca) (vp_in_nI hj (by omega)) d ?_
  rw [nI_clamp (by omega), hfr]
  exact (k H locs ls hl hP hD hS)
theorem z_iret (hx : zOk x M n) {N : Nat} {Qr : Int32 → List zE → Prop} (hF : zFi x N Qr) {a : Int32} (d : decode M.2.1 pc = .ok (.ireturn, 1)) (ht : M.2.2.2 = some .int) (hN : h.length = N) (hq : Qr a h) : zV x pc lv [.int a] h := by
  obtain ⟨p, l, e, R, s, m, args, below, meth, c, D, ca, ad, A, Q⟩ := x
  obtain ⟨hx, hb, hml, hown, hts, hKK, hA, hR, hr, hlk⟩ := hx
  intro H locs ls hl hP hD hS
  have hF : Q = _ := hF
  rw [hF]
  exact W.iret (v := a) hx hb (by rw [hr, ht]) (fun t ht hW => ⟨⟨a, h, rfl, ⟨hN, hq⟩, by rw [ht]; exact hP, hD⟩, hS.F ht⟩) hS.2.2 d hlk
theorem z_zret (hx : zOk x M n) {N : Nat} {Qr : Int32 → List zE → Prop} (hF : zFi x N Qr) {a : Int32} (d : decode M.2.1 pc = .ok (.ireturn, 1)) (ht : M.2.2.2 = some .boolean) (ha : narrow .boolean (.int a) = .int a) (hN : h.length = N) (hq : Qr a h) : zV x pc lv [.int a] h := by
  obtain ⟨p, l, e, R, s, m, args, below, meth, c, D, ca, ad, A, Q⟩ := x
  obtain ⟨hx, hb, hml, hown, hts, hKK, hA, hR, hr, hlk⟩ := hx
  intro H locs ls hl hP hD hS
  have hF : Q = _ := hF
  rw [hF]
  exact W.zret (v := a) (ty := .boolean) hx hb (by rw [hr, ht]) ha (fun t ht hW => ⟨⟨a, h, rfl, ⟨hN, hq⟩, by rw [ht]; exact hP, hD⟩, hS.F ht⟩) hS.2.2 d hlk
theorem z_vret (hx : zOk x M n) {N : Nat} {Qr : List zE → Prop} (hF : zFv x N Qr) (d : decode M.2.1 pc = .ok (.return_, 1)) (ht : M.2.2.2 = none) (hN : h.length = N) (hq : Qr h) : zV x pc lv [] h := by
  obtain ⟨p, l, e, R, s, m, args, below, meth, c, D, ca, ad, A, Q⟩ := x
  obtain ⟨hx, hb, hml, hown, hts, hKK, hA, hR, hr, hlk⟩ := hx
  intro H locs ls hl hP hD hS
  have hF : Q = _ := hF
  rw [hF]
  exact W.vret hx hb (by rw [hr, ht]) (fun t ht hW => ⟨⟨h, rfl, ⟨hN, hq⟩, by rw [ht]; exact hP, hD⟩, hS.F ht⟩) hS.2.2 d hlk
theorem z_aret (hx : zOk x M n) {N : Nat} {Qr : Nat → List zE → Prop} (hF : zFr x N Qr) {q : Nat} {rt : FieldType} (d : decode M.2.1 pc = .ok (.areturn, 1)) (ht : M.2.2.2 = some rt) (hrt : (∃ n, rt = .object n) ∨ ∃ t, rt = .array t) (hN : h.length = N) (hq : Qr q h) : zV x pc lv [.ref q] h := by
  obtain ⟨p, l, e, R, s, m, args, below, meth, c, D, ca, ad, A, Q⟩ := x
  obtain ⟨hx, hb, hml, hown, hts, hKK, hA, hR, hr, hlk⟩ := hx
  intro H locs ls hl hP hD hS
  have hF : Q = _ := hF
  rw [hF]
  exact W.aret (v := .ref (ad q)) hx hb (by rw [hr, ht]) hrt (Or.inr ⟨_, rfl⟩) (fun t ht hW => ⟨⟨(q, h), ad q, rfl, ⟨hN, hq⟩, rfl, by rw [ht]; exact hP, hD⟩, hS.F ht⟩) hS.2.2 d hlk
end ZST
end
section
/-! CALLS, with the frame: the callee's cells are those at the caller's places g -/
def zpi (g : List Nat) (k : Nat) : Nat := g.getD k k
def zpt0 : List zE → List Nat → List zE → List zE
  | h, i :: g, e :: u => zpt0 (h.set i e) g u
  | h, [], _ => h
  | h, _ :: _, [] => h
def zpt (h : List zE) (g : List Nat) (u : List zE) : List zE := zpt0 h g (u.map (zrn (zpi g)))
def zsub (h : List zE) (g : List Nat) (hc : List zE) : Prop := g.map (fun i => h[i]?) = hc.map (fun e => some (zrn (zpi g) e))
theorem zsub_at {h hc : List zE} {g : List Nat} (hs : zsub h g hc) {k : Nat} {e : zE} (hk : hc[k]? = some e) : ∃ i, g[k]? = some i ∧ h[i]? = some (zrn (zpi g) e) ∧ zpi g k = i := by
  have h1 : (g.map (fun i => h[i]?))[k]? = some (some (zrn (zpi g) e)) := by rw [hs, List.getElem?_map, hk]; rfl
  rw [List.getElem?_map] at h1
  cases hg : g[k]? with
  | none => rw [hg] at h1; cases h1
  | some i =>
    rw [hg] at h1
    exact ⟨i, rfl, Option.some.inj h1, by unfold zpi; rw [List.getD_eq_getElem?_getD, hg]; rfl⟩
theorem zsub_len {h hc : List zE} {g : List Nat} (hs : zsub h g hc) : g.length = hc.length := by
  have := congrArg List.length hs
  simpa using this
theorem zsub_w {ad ca : Nat → Nat} {h hc : List zE} {g : List Nat} (hs : zsub h g hc) {k : Nat} {q : Nat × va_E} (hq : (zcw (fun j => ad (zpi g j)) ca hc)[k]? = some q) : ∃ i, g[k]? = some i ∧ (zcw ad ca h)[i]? = some q := by
  obtain ⟨e, h1, h2⟩ := zcw_of hq
  obtain ⟨i, h3, h4, h5⟩ := zsub_at hs h1
  refine ⟨i, h3, ?_⟩
  rw [zcw_get h4, zce_rn, h2, h5]
theorem zpt0_len : ∀ (g : List Nat) (h us : List zE), (zpt0 h g us).length = h.length
  | [], h, us => by cases us <;> rfl
  | i :: g, h, [] => rfl
  | i :: g, h, e :: us => by rw [zpt0, zpt0_len g]; exact List.length_set
theorem zpt0_out : ∀ (g : List Nat) (h us : List zE) (k : Nat), k ∉ g → (zpt0 h g us)[k]? = h[k]?
  | [], h, us, k, _ => by cases us <;> rfl
  | i :: g, h, [], k, _ => rfl
  | i :: g, h, e :: us, k, hk => by
    rw [zpt0, zpt0_out g _ us k (fun q => hk (List.mem_cons_of_mem _ q)), List.getElem?_set_ne (fun q => hk (by rw [q]; exact List.mem_cons_self))]
theorem zpt0_in : ∀ (g : List Nat) (h us : List zE) (j k : Nat) (e : zE), g.Nodup → g[j]? = some k → us[j]? = some e → k < h.length → (zpt0 h g us)[k]? = some e
  | [], h, us, j, k, e, _, hg, _, _ => by simp at hg
  | i :: g, h, [], j, k, e, _, _, hu, _ => by simp at hu
  | i :: g, h, e0 :: us, j, k, e, hn, hg, hu, hl => by
    rw [zpt0]
    cases j with
    | zero =>
      simp at hg hu
      subst hg
      subst hu
      rw [zpt0_out g _ us i (List.nodup_cons.mp hn).1, List.getElem?_set_self hl]
    | succ j => exact zpt0_in g _ us j k e (List.nodup_cons.mp hn).2 (by simpa using hg) (by simpa using hu) (by rw [List.length_set]; exact hl)
theorem zD_len {ad ca : Nat → Nat} {A : Nat → Prop} {h h2 : List zE} (hD : va_D A (zcw ad ca h)) (hl : h2.length = h.length) : va_D A (zcw ad ca h2) := by
  have up : ∀ (k : Nat) (q : Nat × va_E), (zcw ad ca h2)[k]? = some q → ∃ e, (zcw ad ca h)[k]? = some (q.1, e) := fun k q hq => by
    obtain ⟨e, h1, h2⟩ := zcw_of hq
    have hk := (List.getElem?_eq_some_iff.mp h1).1
    rw [hl] at hk
    exact ⟨_, by rw [zcw_get (List.getElem?_eq_getElem hk), h2]⟩
  refine ⟨fun i j p q hp hq e => ?_, fun k q hq => ?_⟩
  · obtain ⟨e1, h1⟩ := up i p hp
    obtain ⟨e2, h2⟩ := up j q hq
    exact hD.1 i j _ _ h1 h2 e
  · obtain ⟨e1, h1⟩ := up k q hq
    exact hD.2 k (q.1, e1) h1
theorem zsub_P {D : va_G} {ad ca : Nat → Nat} {h hc : List zE} {g : List Nat} {H : Heap} (hs : zsub h g hc) (hP : va_P D vwCl (zcw ad ca h) H) : va_P D vwCl (zcw (fun j => ad (zpi g j)) ca hc) H := fun k q hq => by
  obtain ⟨i, -, h2⟩ := zsub_w hs hq
  exact hP i q h2
theorem zsub_D {ad ca : Nat → Nat} {A : Nat → Prop} {h hc : List zE} {g : List Nat} (hs : zsub h g hc) (hn : g.Nodup) (hD : va_D A (zcw ad ca h)) : va_D (fun _ => True) (zcw (fun j => ad (zpi g j)) ca hc) := by
  refine ⟨fun i j p q hp hq e => ?_, fun _ _ _ => trivial⟩
  obtain ⟨i1, g1, h1⟩ := zsub_w hs hp
  obtain ⟨i2, g2, h2⟩ := zsub_w hs hq
  have := hD.1 i1 i2 p q h1 h2 e
  subst this
  have hi := (List.getElem?_eq_some_iff.mp g1).1
  exact (List.getElem?_inj hi hn).mp (g1.trans g2.symm)
theorem zsub_A {ad ca : Nat → Nat} {A : Nat → Prop} {h hc : List zE} {g : List Nat} {H0 H : Heap} {locs : List Loc} (hs : zsub h g hc) (hD : va_D A (zcw ad ca h)) (hA : ∀ q, H0.size ≤ q → A q) (hS : va_S A H0 H locs) : ∀ q, va_A (zcw (fun j => ad (zpi g j)) ca hc) H.size q → A q := by
  rintro q (⟨k, e, hk⟩ | hk)
  · obtain ⟨i, -, h2⟩ := zsub_w hs hk
    exact hD.2 i _ h2
  · exact hA q (Nat.le_trans hS.1 hk)
theorem zjoin {D : va_G} {ad ca : Nat → Nat} {A : Nat → Prop} {h hc u : List zE} {g : List Nat} {H H1 : Heap} (hs : zsub h g hc) (hn : g.Nodup) (hP : va_P D vwCl (zcw ad ca h) H) (hD : va_D A (zcw ad ca h))
    (hk : ∀ q : Nat, q < H.size → ¬ va_A (zcw (fun j => ad (zpi g j)) ca hc) H.size q → H1[q]? = H[q]?) (hu : u.length = hc.length) (hP1 : va_P D vwCl (zcw (fun j => ad (zpi g j)) ca u) H1) : va_P D vwCl (zcw ad ca (zpt h g u)) H1 := by
  intro k q hq
  obtain ⟨e, h1, rfl⟩ := zcw_of hq
  have hkl : k < h.length := by
    have := (List.getElem?_eq_some_iff.mp h1).1
    rw [zpt, zpt0_len] at this
    exact this
  by_cases hm : k ∈ g
  · obtain ⟨j, hj, hj2⟩ := List.mem_iff_getElem.mp hm
    have hgj : g[j]? = some k := by rw [List.getElem?_eq_getElem hj, hj2]
    have hju : j < u.length := by rw [hu, ← zsub_len hs]; exact hj
    have h3 : (zpt h g u)[k]? = some (zrn (zpi g) u[j]) := zpt0_in g h _ j k _ hn hgj (by rw [List.getElem?_map, List.getElem?_eq_getElem hju]; rfl) hkl
    cases Option.some.inj (h1.symm.trans h3)
    have h4 := zcw_get (ad := fun j => ad (zpi g j)) (ca := ca) (List.getElem?_eq_getElem hju)
    have h5 : zpi g j = k := by unfold zpi; rw [List.getD_eq_getElem?_getD, hgj]; rfl
    have h6 := hP1 j _ h4
    rw [h5] at h6
    rw [zce_rn]
    exact h6
  · have h3 : (zpt h g u)[k]? = h[k]? := zpt0_out g h _ k hm
    have h4 := zcw_get (ad := ad) (ca := ca) (h3.symm.trans h1)
    have h5 := hP k _ h4
    refine h5.kept (hk _ h5.lt ?_)
    rintro (⟨j, e2, hj⟩ | hj)
    · obtain ⟨i, g1, g2⟩ := zsub_w hs hj
      have := hD.1 i k _ _ g2 h4 rfl
      subst this
      exact hm (List.mem_of_getElem? g1)
    · have := h5.lt
      exact absurd hj (Nat.not_le.mpr this)
theorem zgood {M : zM} {l : List Cond} (h : ∀ w ∈ l, w ∈ zG) : GoodIn (zws M) l := fun w hw => ⟨List.mem_cons_of_mem _ (h w hw), good_of_word (List.mem_filter.mp (h w hw)).2⟩
def zCd (M : zM) : Cond := Cond.code M.1 M.2.1 M.2.2.1 M.2.2.2
theorem zws_G {M : zM} (hc : zCd M ∈ zG) : ∀ w ∈ zws M, w ∈ zG := fun w hw => (List.mem_cons.mp hw).elim (fun e => by rw [e]; exact hc) id
/-- a call's place: its callee's words -/
def zLc (M : zM) (np : Nat) : Prop := zCd M ∈ zG ∧ Cond.initialized M.1.cls ∈ zG ∧ M.1.cls ≠ "java/lang/invoke/MethodHandle" ∧ M.1.cls ≠ "java/lang/invoke/VarHandle" ∧ (parseMethodDescriptor M.1.desc).map (fun d => d.parameters.length) = some np ∧ M.2.2.1 ≤ 21
def zLs (own : String) (idx : Nat) (M : zM) (np : Nat) : Prop := zLc M np ∧ Cond.methodLink own idx M.1 ∈ zG ∧ Cond.static M.1 ∈ zG
def zLn (own : String) (idx : Nat) (M : zM) (host : String) (np : Nat) : Prop := zLc M np ∧ (own, idx, M.1, host) ∈ zNM ∧ Cond.static M.1 ∈ zG
def zLv (own : String) (idx : Nat) (M : zM) (np : Nat) : Prop := zLc M np ∧ Cond.methodLink own idx M.1 ∈ zG ∧ Cond.instanceMethod M.1 ∈ zG ∧ Cond.selects M.1.cls M.1 M.1 ∈ zG
/-- above: the class own calls its superclass's method -/
def zLu (own : String) (idx : Nat) (M : zM) (np : Nat) : Prop := zLc M np ∧ Cond.methodLink own idx M.1 ∈ zG ∧ Cond.sameMethod M.1.cls M.1.cls M.1.name M.1.desc ∈ zG ∧ Cond.superclass own M.1.cls ∈ zG ∧ Cond.instanceMethod M.1 ∈ zG ∧ M.1.name ≠ "<init>"
/-- the named method y0 (declared at its class), taken by a receiver of class C to be M -/
def zLo (own : String) (idx : Nat) (C : String) (y0 : MethodName) (M : zM) (np : Nat) : Prop := zLc M np ∧ Cond.methodLink own idx y0 ∈ zG ∧ Cond.sameMethod y0.cls y0.cls y0.name y0.desc ∈ zG ∧ Cond.selects C y0 M.1 ∈ zG ∧ Cond.instanceMethod M.1 ∈ zG ∧ y0.cls ≠ "java/lang/invoke/MethodHandle" ∧ y0.cls ≠ "java/lang/invoke/VarHandle" ∧ (parseMethodDescriptor y0.desc).map (fun d => d.parameters.length) = some np ∧ (y0 = zyH ∨ (Cond.instanceMethod y0 ∈ zG ∧ ∃ b0 m0 r0, Cond.code y0 b0 m0 r0 ∈ zG))
theorem zblind {D : va_G} {ca ad : Nat → Nat} {h : List zE} {sz : Nat} {av : List Value} : FrameBlind (va_Pc av (zPre D ca ad h sz)) := fun a U g mk q => by
  obtain ⟨q0, q1, q2, q3, q4⟩ := q
  exact ⟨q0, q1, q2, q3, q4.blind g mk a⟩
theorem zpre {D : va_G} {ca ad : Nat → Nat} {A : Nat → Prop} {s : State} {h hc : List zE} {g : List Nat} {H : Heap} {locs : List Loc} {av : List Value} (hs : zsub h g hc) (hn : g.Nodup) (hg : g.length ≤ 1000) (hP : va_P D vwCl (zcw ad ca h) H) (hD : va_D A (zcw ad ca h)) (hKK : zKK D ca ad A s s.heap) (hA : ∀ q, s.heap.size ≤ q → A q) (hS : va_S A s.heap H locs) :
    ∀ U : State, U.heap = H → s.WarmedH U.vm → va_Pc (av.map (zcv (fun j => ad (zpi g j)))) (zPre D ca (fun j => ad (zpi g j)) hc H.size) (av.map (zcv (fun j => ad (zpi g j)))).toArray U := fun U hU hW => by
  have e : ∀ k, 1000 ≤ k → zpi g k = k := fun k hk => by unfold zpi; rw [List.getD_eq_getElem?_getD, List.getElem?_eq_none (by omega)]; rfl
  refine ⟨rfl, by rw [hU], by rw [hU]; exact zsub_P hs hP, zsub_D hs hn hD, ?_⟩
  rw [hU]
  exact hKK.warm hW hS (zsub_A hs hD hA hS) (by show ad (zpi g 1000) = _; rw [e 1000 (by omega)]) (by show ad (zpi g 1001) = _; rw [e 1001 (by omega)])
theorem z_aald2 {x : zC} {M : zM} {n pc : Nat} {lv : List (Option Value)} {st : List Value} {h : List zE} (hx : zOk x M n) {q r j : Nat} {fs : List Value} (d : decode M.2.1 pc = .ok (.aaload, 1)) (hq : h[q]? = some (zR 4 fs)) (hj : j < fs.length) (hL : fs.length < 2147483648) (hfr : fs[j]? = some (.ref r)) (k : zV x (pc + 1) lv (.ref r :: st) h) : zV x pc lv (.int (nI j) :: .ref q :: st) h := by
  obtain ⟨p, l, e, R, s, m, args, below, meth, c, D, ca, ad, A, Q⟩ := x
  obtain ⟨hx, hb, hml, hown, hts, hKK, hA, hR, hr, hlk⟩ := hx
  intro H locs ls hl hP hD hS
  have hi : vp_in (nI j) fs.length := vp_in_nI hj (by omega)
  have hcl : (nI j).toNatClampNeg = j := nI_clamp (by omega)
  have ha := hP q _ (zcw_get hq)
  refine W.aald (v := .ref (ad r)) (ty := .array .int) hx hb ha ((hKK.1.2 4 _ rfl).1 fs.length (fun j => va_rf (zrf ad fs[j]?))) rfl (fun q => by cases q) (by show ¬ (nI j < 0 ∨ (arrV _ _ _).slots.size ≤ _); rw [arrV_size]; exact hi) (by show (arrV _ _ _).slots[_]? = _; rw [hcl, arrV_read _ _ hj]; show some (va_rf (zrf ad fs[j]?)) = _; rw [hfr]; rfl) rfl rfl d (k H locs ls hl hP hD hS)
section ZCL
variable {x : zC} {M M' : zM} {n n' pc idx np : Nat} {lv : List (Option Value)} {st rest : List Value} {h hc : List zE} {av : List Value}
theorem z_callis (hx : zOk x M n) {Qr : Int32 → List zE → Prop} (g : List Nat) (hM : zMi M' n' (av) hc Qr) (d : decode M.2.1 pc = .ok (.invokestatic idx, 3)) (site : zLs M.1.cls idx M' np) (hs : zsub h g hc) (hst : st = ((av).map (zcv (zpi g))).reverse ++ rest) (hlv : lv.length = M.2.2.1) (hnd : g.Nodup) (hg : g.length ≤ 1000) (hap : (av).length = np) (hcat : (rest.map fun v => v.category).sum ≤ 8) (hn : n' + 1 ≤ n) (k : ∀ r u, u.length = hc.length → Qr r u → zV x (pc + 3) lv (.int r :: rest) (zpt h g u)) : zV x pc lv st h := by
  subst hst
  obtain ⟨p, l, e, R, s, m, args, below, meth, c, D, ca, ad, A, Q⟩ := x
  obtain ⟨hx, hb, hml, hown, hts, hKK, hA, hR, hr, hlk⟩ := hx
  subst hR
  intro H locs ls hl hP hD hS
  have hstk : (((av).map (zcv (zpi g))).reverse ++ rest).map (zcv ad) = ((av).map (zcv (fun j => ad (zpi g j)))).reverse ++ rest.map (zcv ad) := by
    rw [List.map_append, List.map_reverse]
    congr 2
    rw [List.map_map]
    apply List.map_congr_left
    intro v _
    exact zcv_cv ad (zpi g) v
  have hcat : ((rest.map (zcv ad)).map fun v => v.category).sum ≤ 8 := by
    rw [List.map_map]
    have : ((fun v : Value => v.category) ∘ zcv ad) = fun v => v.category := funext fun v => zcv_cat ad v
    rw [this]
    exact hcat
  have hAA := zsub_A hs hD hA hS
  obtain ⟨⟨hcd, hin, hc1, hc2, hc3, hc4⟩, hsite⟩ := site
  have hrun := va_runS (p := p) (e := e) (below := below) (meth := meth) (R := zrm n) (locs := locs) (cells := 0) (slots := 0) (As := av.map (zcv (fun j => ad (zpi g j)))) (rest := rest.map (zcv ad)) (g := F0 m pc ls _) ⟨hx, hb, hml, hown, hts⟩ (hM l D ca (fun j => ad (zpi g j)) H.size) ⟨callB_of np hts (zgood (zws_G hcd)) rfl rfl rfl (hts _ (List.mem_cons_of_mem _ hin)) (hts _ (List.mem_cons_of_mem _ hsite.1)) ⟨hc1, hc2, hc3⟩ ⟨hn, by show 8 + (M'.2.2.1 + 11) + 40 * n' ≤ 40 * n; omega⟩, hts _ (List.mem_cons_of_mem _ hsite.2)⟩ ⟨zblind, (zpre (av := av) hs hnd hg hP hD hKK hA hS)⟩ rfl (by rw [List.length_map]; exact hap) (hl.1.trans hlv) hstk (lv_room hcat) d ⟨Nat.le_refl _, Nat.le_refl _⟩
  refine va_calli hrun hS (fun q _ hq => hAA q hq) hAA (fun r u t H1 locs1 ht hvm hw hB hz1 hk1 hS1 => ?_)
  have hP1 := hB.1
  rw [ht] at hP1
  exact k r u hw.1 hw.2 H1 locs1 ls hl (zjoin hs hnd hP hD hk1 hw.1 hP1) (zD_len hD (zpt0_len _ _ _)) hS1
theorem z_callvs (hx : zOk x M n) {Qr : List zE → Prop} (g : List Nat) (hM : zMv M' n' (av) hc Qr) (d : decode M.2.1 pc = .ok (.invokestatic idx, 3)) (site : zLs M.1.cls idx M' np) (hs : zsub h g hc) (hst : st = ((av).map (zcv (zpi g))).reverse ++ rest) (hlv : lv.length = M.2.2.1) (hnd : g.Nodup) (hg : g.length ≤ 1000) (hap : (av).length = np) (hcat : (rest.map fun v => v.category).sum ≤ 8) (hn : n' + 1 ≤ n) (k : ∀ u, u.length = hc.length → Qr u → zV x (pc + 3) lv rest (zpt h g u)) : zV x pc lv st h := by
  subst hst
  obtain ⟨p, l, e, R, s, m, args, below, meth, c, D, ca, ad, A, Q⟩ := x
  obtain ⟨hx, hb, hml, hown, hts, hKK, hA, hR, hr, hlk⟩ := hx
  subst hR
  intro H locs ls hl hP hD hS
  have hstk : (((av).map (zcv (zpi g))).reverse ++ rest).map (zcv ad) = ((av).map (zcv (fun j => ad (zpi g j)))).reverse ++ rest.map (zcv ad) := by
    rw [List.map_append, List.map_reverse]
    congr 2
    rw [List.map_map]
    apply List.map_congr_left
    intro v _
    exact zcv_cv ad (zpi g) v
  have hcat : ((rest.map (zcv ad)).map fun v => v.category).sum ≤ 8 := by
    rw [List.map_map]
    have : ((fun v : Value => v.category) ∘ zcv ad) = fun v => v.category := funext fun v => zcv_cat ad v
    rw [this]
    exact hcat
  have hAA := zsub_A hs hD hA hS
  obtain ⟨⟨hcd, hin, hc1, hc2, hc3, hc4⟩, hsite⟩ := site
  have hrun := va_runS (p := p) (e := e) (below := below) (meth := meth) (R := zrm n) (locs := locs) (cells := 0) (slots := 0) (As := av.map (zcv (fun j => ad (zpi g j)))) (rest := rest.map (zcv ad)) (g := F0 m pc ls _) ⟨hx, hb, hml, hown, hts⟩ (hM l D ca (fun j => ad (zpi g j)) H.size) ⟨callB_of np hts (zgood (zws_G hcd)) rfl rfl rfl (hts _ (List.mem_cons_of_mem _ hin)) (hts _ (List.mem_cons_of_mem _ hsite.1)) ⟨hc1, hc2, hc3⟩ ⟨hn, by show 8 + (M'.2.2.1 + 11) + 40 * n' ≤ 40 * n; omega⟩, hts _ (List.mem_cons_of_mem _ hsite.2)⟩ ⟨zblind, (zpre (av := av) hs hnd hg hP hD hKK hA hS)⟩ rfl (by rw [List.length_map]; exact hap) (hl.1.trans hlv) hstk (lv_room hcat) d ⟨Nat.le_refl _, Nat.le_refl _⟩
  refine va_callv hrun hS (fun q _ hq => hAA q hq) hAA (fun u t H1 locs1 ht hvm hw hB hz1 hk1 hS1 => ?_)
  have hP1 := hB.1
  rw [ht] at hP1
  exact k u hw.1 hw.2 H1 locs1 ls hl (zjoin hs hnd hP hD hk1 hw.1 hP1) (zD_len hD (zpt0_len _ _ _)) hS1
theorem z_callin (hx : zOk x M n) {host : String} {Qr : Int32 → List zE → Prop} (g : List Nat) (hM : zMi M' n' (av) hc Qr) (d : decode M.2.1 pc = .ok (.invokestatic idx, 3)) (site : zLn M.1.cls idx M' host np) (hs : zsub h g hc) (hst : st = ((av).map (zcv (zpi g))).reverse ++ rest) (hlv : lv.length = M.2.2.1) (hnd : g.Nodup) (hg : g.length ≤ 1000) (hap : (av).length = np) (hcat : (rest.map fun v => v.category).sum ≤ 8) (hn : n' + 1 ≤ n) (k : ∀ r u, u.length = hc.length → Qr r u → zV x (pc + 3) lv (.int r :: rest) (zpt h g u)) : zV x pc lv st h := by
  subst hst
  obtain ⟨p, l, e, R, s, m, args, below, meth, c, D, ca, ad, A, Q⟩ := x
  obtain ⟨hx, hb, hml, hown, hts, hKK, hA, hR, hr, hlk⟩ := hx
  subst hR
  intro H locs ls hl hP hD hS
  have hstk : (((av).map (zcv (zpi g))).reverse ++ rest).map (zcv ad) = ((av).map (zcv (fun j => ad (zpi g j)))).reverse ++ rest.map (zcv ad) := by
    rw [List.map_append, List.map_reverse]
    congr 2
    rw [List.map_map]
    apply List.map_congr_left
    intro v _
    exact zcv_cv ad (zpi g) v
  have hcat : ((rest.map (zcv ad)).map fun v => v.category).sum ≤ 8 := by
    rw [List.map_map]
    have : ((fun v : Value => v.category) ∘ zcv ad) = fun v => v.category := funext fun v => zcv_cat ad v
    rw [this]
    exact hcat
  have hAA := zsub_A hs hD hA hS
  obtain ⟨⟨hcd, hin, hc1, hc2, hc3, hc4⟩, hsite⟩ := site
  have hrun := va_runSN (p := p) (e := e) (below := below) (meth := meth) (R := zrm n) (locs := locs) (cells := 0) (slots := 0) (As := av.map (zcv (fun j => ad (zpi g j)))) (rest := rest.map (zcv ad)) (g := F0 m pc ls _) ⟨hx, hb, hml, hown, hts⟩ (hM l D ca (fun j => ad (zpi g j)) H.size) ⟨va_cnB np hts (zgood (zws_G hcd)) rfl rfl rfl (hKK.2.1 _ hsite.1) (hts _ (List.mem_cons_of_mem _ hin)) ⟨hc1, hc2, hc3⟩ ⟨hn, by show 8 + (M'.2.2.1 + 11) + 40 * n' ≤ 40 * n; omega⟩, hts _ (List.mem_cons_of_mem _ hsite.2), trivial⟩ ⟨zblind, (zpre (av := av) hs hnd hg hP hD hKK hA hS)⟩ rfl (by rw [List.length_map]; exact hap) (hl.1.trans hlv) hstk (lv_room hcat) d ⟨Nat.le_refl _, Nat.le_refl _⟩
  refine va_calli hrun hS (fun q _ hq => hAA q hq) hAA (fun r u t H1 locs1 ht hvm hw hB hz1 hk1 hS1 => ?_)
  have hP1 := hB.1
  rw [ht] at hP1
  exact k r u hw.1 hw.2 H1 locs1 ls hl (zjoin hs hnd hP hD hk1 hw.1 hP1) (zD_len hD (zpt0_len _ _ _)) hS1
theorem z_calliv (hx : zOk x M n) {r0 ci : Nat} {fs : List Value} {T : u_T} {N : Nat} {Qr : Int32 → List zE → Prop} (g : List Nat) (hM : zMi M' n' (.ref r0 :: av) hc Qr) (d : decode M.2.1 pc = .ok (.invokevirtual idx, 3)) (site : zLv M.1.cls idx M' np) (hrc : hc[r0]? = some (zO ci fs)) (hci : vwCl[ci]? = some (M'.1.cls, T, N)) (hs : zsub h g hc) (hst : st = ((.ref r0 :: av).map (zcv (zpi g))).reverse ++ rest) (hlv : lv.length = M.2.2.1) (hnd : g.Nodup) (hg : g.length ≤ 1000) (hap : (av).length = np) (hcat : (rest.map fun v => v.category).sum ≤ 8) (hn : n' + 1 ≤ n) (k : ∀ r u, u.length = hc.length → Qr r u → zV x (pc + 3) lv (.int r :: rest) (zpt h g u)) : zV x pc lv st h := by
  subst hst
  obtain ⟨p, l, e, R, s, m, args, below, meth, c, D, ca, ad, A, Q⟩ := x
  obtain ⟨hx, hb, hml, hown, hts, hKK, hA, hR, hr, hlk⟩ := hx
  subst hR
  intro H locs ls hl hP hD hS
  have hstk : (((.ref r0 :: av).map (zcv (zpi g))).reverse ++ rest).map (zcv ad) = ((.ref r0 :: av).map (zcv (fun j => ad (zpi g j)))).reverse ++ rest.map (zcv ad) := by
    rw [List.map_append, List.map_reverse]
    congr 2
    rw [List.map_map]
    apply List.map_congr_left
    intro v _
    exact zcv_cv ad (zpi g) v
  have hcat : ((rest.map (zcv ad)).map fun v => v.category).sum ≤ 8 := by
    rw [List.map_map]
    have : ((fun v : Value => v.category) ∘ zcv ad) = fun v => v.category := funext fun v => zcv_cat ad v
    rw [this]
    exact hcat
  have hAA := zsub_A hs hD hA hS
  obtain ⟨⟨hcd, hin, hc1, hc2, hc3, hc4⟩, hsite⟩ := site
  have hrv := va_recv hKK.1 (zsub_P hs hP) hci (zcw_get (ad := fun j => ad (zpi g j)) (ca := ca) hrc)
  have hst2 : (F0 m pc ls ((((.ref r0 :: av).map (zcv (zpi g))).reverse ++ rest).map (zcv ad))).stack = (av.map (zcv (fun j => ad (zpi g j)))).reverse ++ .ref ((fun j => ad (zpi g j)) r0) :: rest.map (zcv ad) := by
    show _ = _
    rw [hstk, List.map_cons, List.reverse_cons, List.append_assoc]
    rfl
  have hrun := va_runV (p := p) (e := e) (below := below) (meth := meth) (R := zrm n) (locs := locs) (cells := 0) (slots := 0) (As := av.map (zcv (fun j => ad (zpi g j)))) (rest := rest.map (zcv ad)) (g := F0 m pc ls _) ⟨hx, hb, hml, hown, hts⟩ (hM l D ca (fun j => ad (zpi g j)) H.size) (cwV np hts (zgood (fun w hw => by
    rcases List.mem_append.mp hw with hw | hw
    · simp only [List.mem_cons, List.not_mem_nil, or_false] at hw
      rcases hw with rfl | rfl | rfl | rfl
      · exact hsite.1
      · exact hsite.2.1
      · exact hsite.2.2
      · exact hin
    · exact zws_G hcd w hw)) rfl rfl rfl ⟨rfl, hc1, hc2, hc3⟩ ⟨hn, by show 8 + (M'.2.2.1 + 11) + 40 * n' ≤ 40 * n; omega⟩) ⟨zblind, hrv, (zpre (av := .ref r0 :: av) hs hnd hg hP hD hKK hA hS)⟩ rfl (by rw [List.length_map]; exact hap) (hl.1.trans hlv) hst2 (lv_room hcat) d ⟨Nat.le_refl _, Nat.le_refl _⟩
  refine va_calli hrun hS (fun q _ hq => hAA q hq) hAA (fun r u t H1 locs1 ht hvm hw hB hz1 hk1 hS1 => ?_)
  have hP1 := hB.1
  rw [ht] at hP1
  exact k r u hw.1 hw.2 H1 locs1 ls hl (zjoin hs hnd hP hD hk1 hw.1 hP1) (zD_len hD (zpt0_len _ _ _)) hS1
theorem z_callvv (hx : zOk x M n) {r0 ci : Nat} {fs : List Value} {T : u_T} {N : Nat} {Qr : List zE → Prop} (g : List Nat) (hM : zMv M' n' (.ref r0 :: av) hc Qr) (d : decode M.2.1 pc = .ok (.invokevirtual idx, 3)) (site : zLv M.1.cls idx M' np) (hrc : hc[r0]? = some (zO ci fs)) (hci : vwCl[ci]? = some (M'.1.cls, T, N)) (hs : zsub h g hc) (hst : st = ((.ref r0 :: av).map (zcv (zpi g))).reverse ++ rest) (hlv : lv.length = M.2.2.1) (hnd : g.Nodup) (hg : g.length ≤ 1000) (hap : (av).length = np) (hcat : (rest.map fun v => v.category).sum ≤ 8) (hn : n' + 1 ≤ n) (k : ∀ u, u.length = hc.length → Qr u → zV x (pc + 3) lv rest (zpt h g u)) : zV x pc lv st h := by
  subst hst
  obtain ⟨p, l, e, R, s, m, args, below, meth, c, D, ca, ad, A, Q⟩ := x
  obtain ⟨hx, hb, hml, hown, hts, hKK, hA, hR, hr, hlk⟩ := hx
  subst hR
  intro H locs ls hl hP hD hS
  have hstk : (((.ref r0 :: av).map (zcv (zpi g))).reverse ++ rest).map (zcv ad) = ((.ref r0 :: av).map (zcv (fun j => ad (zpi g j)))).reverse ++ rest.map (zcv ad) := by
    rw [List.map_append, List.map_reverse]
    congr 2
    rw [List.map_map]
    apply List.map_congr_left
    intro v _
    exact zcv_cv ad (zpi g) v
  have hcat : ((rest.map (zcv ad)).map fun v => v.category).sum ≤ 8 := by
    rw [List.map_map]
    have : ((fun v : Value => v.category) ∘ zcv ad) = fun v => v.category := funext fun v => zcv_cat ad v
    rw [this]
    exact hcat
  have hAA := zsub_A hs hD hA hS
  obtain ⟨⟨hcd, hin, hc1, hc2, hc3, hc4⟩, hsite⟩ := site
  have hrv := va_recv hKK.1 (zsub_P hs hP) hci (zcw_get (ad := fun j => ad (zpi g j)) (ca := ca) hrc)
  have hst2 : (F0 m pc ls ((((.ref r0 :: av).map (zcv (zpi g))).reverse ++ rest).map (zcv ad))).stack = (av.map (zcv (fun j => ad (zpi g j)))).reverse ++ .ref ((fun j => ad (zpi g j)) r0) :: rest.map (zcv ad) := by
    show _ = _
    rw [hstk, List.map_cons, List.reverse_cons, List.append_assoc]
    rfl
  have hrun := va_runV (p := p) (e := e) (below := below) (meth := meth) (R := zrm n) (locs := locs) (cells := 0) (slots := 0) (As := av.map (zcv (fun j => ad (zpi g j)))) (rest := rest.map (zcv ad)) (g := F0 m pc ls _) ⟨hx, hb, hml, hown, hts⟩ (hM l D ca (fun j => ad (zpi g j)) H.size) (cwV np hts (zgood (fun w hw => by
    rcases List.mem_append.mp hw with hw | hw
    · simp only [List.mem_cons, List.not_mem_nil, or_false] at hw
      rcases hw with rfl | rfl | rfl | rfl
      · exact hsite.1
      · exact hsite.2.1
      · exact hsite.2.2
      · exact hin
    · exact zws_G hcd w hw)) rfl rfl rfl ⟨rfl, hc1, hc2, hc3⟩ ⟨hn, by show 8 + (M'.2.2.1 + 11) + 40 * n' ≤ 40 * n; omega⟩) ⟨zblind, hrv, (zpre (av := .ref r0 :: av) hs hnd hg hP hD hKK hA hS)⟩ rfl (by rw [List.length_map]; exact hap) (hl.1.trans hlv) hst2 (lv_room hcat) d ⟨Nat.le_refl _, Nat.le_refl _⟩
  refine va_callv hrun hS (fun q _ hq => hAA q hq) hAA (fun u t H1 locs1 ht hvm hw hB hz1 hk1 hS1 => ?_)
  have hP1 := hB.1
  rw [ht] at hP1
  exact k u hw.1 hw.2 H1 locs1 ls hl (zjoin hs hnd hP hD hk1 hw.1 hP1) (zD_len hD (zpt0_len _ _ _)) hS1
theorem z_callrv (hx : zOk x M n) {r0 ci : Nat} {fs : List Value} {T : u_T} {N : Nat} {Qr : Nat → List zE → Prop} (g : List Nat) (hM : zMr M' n' (.ref r0 :: av) hc Qr) (d : decode M.2.1 pc = .ok (.invokevirtual idx, 3)) (site : zLv M.1.cls idx M' np) (hrc : hc[r0]? = some (zO ci fs)) (hci : vwCl[ci]? = some (M'.1.cls, T, N)) (hs : zsub h g hc) (hst : st = ((.ref r0 :: av).map (zcv (zpi g))).reverse ++ rest) (hlv : lv.length = M.2.2.1) (hnd : g.Nodup) (hg : g.length ≤ 1000) (hap : (av).length = np) (hcat : (rest.map fun v => v.category).sum ≤ 8) (hn : n' + 1 ≤ n) (k : ∀ r u, u.length = hc.length → Qr r u → zV x (pc + 3) lv (.ref (zpi g r) :: rest) (zpt h g u)) : zV x pc lv st h := by
  subst hst
  obtain ⟨p, l, e, R, s, m, args, below, meth, c, D, ca, ad, A, Q⟩ := x
  obtain ⟨hx, hb, hml, hown, hts, hKK, hA, hR, hr, hlk⟩ := hx
  subst hR
  intro H locs ls hl hP hD hS
  have hstk : (((.ref r0 :: av).map (zcv (zpi g))).reverse ++ rest).map (zcv ad) = ((.ref r0 :: av).map (zcv (fun j => ad (zpi g j)))).reverse ++ rest.map (zcv ad) := by
    rw [List.map_append, List.map_reverse]
    congr 2
    rw [List.map_map]
    apply List.map_congr_left
    intro v _
    exact zcv_cv ad (zpi g) v
  have hcat : ((rest.map (zcv ad)).map fun v => v.category).sum ≤ 8 := by
    rw [List.map_map]
    have : ((fun v : Value => v.category) ∘ zcv ad) = fun v => v.category := funext fun v => zcv_cat ad v
    rw [this]
    exact hcat
  have hAA := zsub_A hs hD hA hS
  obtain ⟨⟨hcd, hin, hc1, hc2, hc3, hc4⟩, hsite⟩ := site
  have hrv := va_recv hKK.1 (zsub_P hs hP) hci (zcw_get (ad := fun j => ad (zpi g j)) (ca := ca) hrc)
  have hst2 : (F0 m pc ls ((((.ref r0 :: av).map (zcv (zpi g))).reverse ++ rest).map (zcv ad))).stack = (av.map (zcv (fun j => ad (zpi g j)))).reverse ++ .ref ((fun j => ad (zpi g j)) r0) :: rest.map (zcv ad) := by
    show _ = _
    rw [hstk, List.map_cons, List.reverse_cons, List.append_assoc]
    rfl
  have hrun := va_runV (p := p) (e := e) (below := below) (meth := meth) (R := zrm n) (locs := locs) (cells := 0) (slots := 0) (As := av.map (zcv (fun j => ad (zpi g j)))) (rest := rest.map (zcv ad)) (g := F0 m pc ls _) ⟨hx, hb, hml, hown, hts⟩ (hM l D ca (fun j => ad (zpi g j)) H.size) (cwV np hts (zgood (fun w hw => by
    rcases List.mem_append.mp hw with hw | hw
    · simp only [List.mem_cons, List.not_mem_nil, or_false] at hw
      rcases hw with rfl | rfl | rfl | rfl
      · exact hsite.1
      · exact hsite.2.1
      · exact hsite.2.2
      · exact hin
    · exact zws_G hcd w hw)) rfl rfl rfl ⟨rfl, hc1, hc2, hc3⟩ ⟨hn, by show 8 + (M'.2.2.1 + 11) + 40 * n' ≤ 40 * n; omega⟩) ⟨zblind, hrv, (zpre (av := .ref r0 :: av) hs hnd hg hP hD hKK hA hS)⟩ rfl (by rw [List.length_map]; exact hap) (hl.1.trans hlv) hst2 (lv_room hcat) d ⟨Nat.le_refl _, Nat.le_refl _⟩
  refine va_callr hrun hS (fun q _ hq => hAA q hq) hAA (fun u ra t H1 locs1 ht hvm hw hB hz1 hk1 hS1 => ?_)
  obtain ⟨hra, hB⟩ := hB
  subst hra
  have hP1 := hB.1
  rw [ht] at hP1
  exact k u.1 u.2 hw.1 hw.2 H1 locs1 ls hl (zjoin hs hnd hP hD hk1 hw.1 hP1) (zD_len hD (zpt0_len _ _ _)) hS1
theorem z_calliu (hx : zOk x M n) {C : String} {r0 ci : Nat} {fs : List Value} {T : u_T} {N : Nat} {Qr : Int32 → List zE → Prop} (g : List Nat) (hM : zMi M' n' (.ref r0 :: av) hc Qr) (d : decode M.2.1 pc = .ok (.invokespecial idx, 3)) (site : zLu M.1.cls idx M' np) (hrc : hc[r0]? = some (zO ci fs)) (hci : vwCl[ci]? = some (C, T, N)) (hs : zsub h g hc) (hst : st = ((.ref r0 :: av).map (zcv (zpi g))).reverse ++ rest) (hlv : lv.length = M.2.2.1) (hnd : g.Nodup) (hg : g.length ≤ 1000) (hap : (av).length = np) (hcat : (rest.map fun v => v.category).sum ≤ 8) (hn : n' + 1 ≤ n) (k : ∀ r u, u.length = hc.length → Qr r u → zV x (pc + 3) lv (.int r :: rest) (zpt h g u)) : zV x pc lv st h := by
  subst hst
  obtain ⟨p, l, e, R, s, m, args, below, meth, c, D, ca, ad, A, Q⟩ := x
  obtain ⟨hx, hb, hml, hown, hts, hKK, hA, hR, hr, hlk⟩ := hx
  subst hR
  intro H locs ls hl hP hD hS
  have hstk : (((.ref r0 :: av).map (zcv (zpi g))).reverse ++ rest).map (zcv ad) = ((.ref r0 :: av).map (zcv (fun j => ad (zpi g j)))).reverse ++ rest.map (zcv ad) := by
    rw [List.map_append, List.map_reverse]
    congr 2
    rw [List.map_map]
    apply List.map_congr_left
    intro v _
    exact zcv_cv ad (zpi g) v
  have hcat : ((rest.map (zcv ad)).map fun v => v.category).sum ≤ 8 := by
    rw [List.map_map]
    have : ((fun v : Value => v.category) ∘ zcv ad) = fun v => v.category := funext fun v => zcv_cat ad v
    rw [this]
    exact hcat
  have hAA := zsub_A hs hD hA hS
  obtain ⟨⟨hcd, hin, hc1, hc2, hc3, hc4⟩, hsite⟩ := site
  have hrv := va_recv hKK.1 (zsub_P hs hP) hci (zcw_get (ad := fun j => ad (zpi g j)) (ca := ca) hrc)
  have hst2 : (F0 m pc ls ((((.ref r0 :: av).map (zcv (zpi g))).reverse ++ rest).map (zcv ad))).stack = (av.map (zcv (fun j => ad (zpi g j)))).reverse ++ .ref ((fun j => ad (zpi g j)) r0) :: rest.map (zcv ad) := by
    show _ = _
    rw [hstk, List.map_cons, List.reverse_cons, List.append_assoc]
    rfl
  have hrun := va_runSU (p := p) (e := e) (below := below) (meth := meth) (R := zrm n) (locs := locs) (cells := 0) (slots := 0) (As := av.map (zcv (fun j => ad (zpi g j)))) (rest := rest.map (zcv ad)) (g := F0 m pc ls _) (hKK.1.1 _ _ hci).2 ⟨hx, hb, hml, hown, hts⟩ (hM l D ca (fun j => ad (zpi g j)) H.size) (va_cwSU np hts (zgood (fun w hw => by
    rcases List.mem_append.mp hw with hw | hw
    · simp only [List.mem_cons, List.not_mem_nil, or_false] at hw
      rcases hw with rfl | rfl | rfl | rfl | rfl
      · exact hsite.1
      · exact hsite.2.1
      · exact hsite.2.2.1
      · exact hsite.2.2.2.1
      · exact hin
    · exact zws_G hcd w hw)) rfl rfl rfl ⟨hsite.2.2.2.2, hc3⟩ ⟨hn, by show 8 + (M'.2.2.1 + 11) + 40 * n' ≤ 40 * n; omega⟩) ⟨zblind, hrv, (zpre (av := .ref r0 :: av) hs hnd hg hP hD hKK hA hS)⟩ rfl (by rw [List.length_map]; exact hap) (hl.1.trans hlv) hst2 (lv_room hcat) d ⟨Nat.le_refl _, Nat.le_refl _⟩
  refine va_calli hrun hS (fun q _ hq => hAA q hq) hAA (fun r u t H1 locs1 ht hvm hw hB hz1 hk1 hS1 => ?_)
  have hP1 := hB.1
  rw [ht] at hP1
  exact k r u hw.1 hw.2 H1 locs1 ls hl (zjoin hs hnd hP hD hk1 hw.1 hP1) (zD_len hD (zpt0_len _ _ _)) hS1
theorem z_callio (hx : zOk x M n) {C : String} {y0 : MethodName} {r0 ci : Nat} {fs : List Value} {T : u_T} {N : Nat} {Qr : Int32 → List zE → Prop} (g : List Nat) (hM : zMi M' n' (.ref r0 :: av) hc Qr) (d : decode M.2.1 pc = .ok (.invokevirtual idx, 3)) (site : zLo M.1.cls idx C y0 M' np) (hrc : hc[r0]? = some (zO ci fs)) (hci : vwCl[ci]? = some (C, T, N)) (hs : zsub h g hc) (hst : st = ((.ref r0 :: av).map (zcv (zpi g))).reverse ++ rest) (hlv : lv.length = M.2.2.1) (hnd : g.Nodup) (hg : g.length ≤ 1000) (hap : (av).length = np) (hcat : (rest.map fun v => v.category).sum ≤ 8) (hn : n' + 1 ≤ n) (k : ∀ r u, u.length = hc.length → Qr r u → zV x (pc + 3) lv (.int r :: rest) (zpt h g u)) : zV x pc lv st h := by
  subst hst
  obtain ⟨p, l, e, R, s, m, args, below, meth, c, D, ca, ad, A, Q⟩ := x
  obtain ⟨hx, hb, hml, hown, hts, hKK, hA, hR, hr, hlk⟩ := hx
  subst hR
  intro H locs ls hl hP hD hS
  have hstk : (((.ref r0 :: av).map (zcv (zpi g))).reverse ++ rest).map (zcv ad) = ((.ref r0 :: av).map (zcv (fun j => ad (zpi g j)))).reverse ++ rest.map (zcv ad) := by
    rw [List.map_append, List.map_reverse]
    congr 2
    rw [List.map_map]
    apply List.map_congr_left
    intro v _
    exact zcv_cv ad (zpi g) v
  have hcat : ((rest.map (zcv ad)).map fun v => v.category).sum ≤ 8 := by
    rw [List.map_map]
    have : ((fun v : Value => v.category) ∘ zcv ad) = fun v => v.category := funext fun v => zcv_cat ad v
    rw [this]
    exact hcat
  have hAA := zsub_A hs hD hA hS
  obtain ⟨⟨hcd, hin, hc1, hc2, hc3, hc4⟩, hsite⟩ := site
  have hrv := va_recv hKK.1 (zsub_P hs hP) hci (zcw_get (ad := fun j => ad (zpi g j)) (ca := ca) hrc)
  have hst2 : (F0 m pc ls ((((.ref r0 :: av).map (zcv (zpi g))).reverse ++ rest).map (zcv ad))).stack = (av.map (zcv (fun j => ad (zpi g j)))).reverse ++ .ref ((fun j => ad (zpi g j)) r0) :: rest.map (zcv ad) := by
    show _ = _
    rw [hstk, List.map_cons, List.reverse_cons, List.append_assoc]
    rfl
  obtain ⟨g1, g2, g3, g4, g5, g6, g7, g8⟩ := hsite
  have hdc : va_Decl s ⟨y0.cls, y0.name, y0.desc⟩ := by
    rcases g8 with g8 | ⟨g8, b0, m0, r9, g9⟩
    · rw [g8]; exact va_Decl.abs hKK.2.2.2.1
    · exact va_Decl.of (hts _ (List.mem_cons_of_mem _ g8)) (hts _ (List.mem_cons_of_mem _ g9))
  have hrun := va_runU (p := p) (e := e) (below := below) (meth := meth) (R := zrm n) (locs := locs) (cells := 0) (slots := 0) (owner := y0.cls) (As := av.map (zcv (fun j => ad (zpi g j)))) (rest := rest.map (zcv ad)) (g := F0 m pc ls _) ⟨hx, hb, hml, hown, hts⟩ (hM l D ca (fun j => ad (zpi g j)) H.size) ⟨⟨rfl, rfl, hn, by show 8 + (M'.2.2.1 + 11) + 40 * n' ≤ 40 * n; omega, pay_in hts (zgood (zws_G hcd)), List.mem_cons_self⟩, hts _ (List.mem_cons_of_mem _ hcd), hts _ (List.mem_cons_of_mem _ hin), ⟨g5, g6⟩, (fun sig h9 => by have h8 := g7; rw [h9] at h8; exact (Option.some.inj h8).symm), hts _ (List.mem_cons_of_mem _ g1), hts _ (List.mem_cons_of_mem _ g2), hdc, hts _ (List.mem_cons_of_mem _ g3), hts _ (List.mem_cons_of_mem _ g4)⟩ ⟨zblind, hrv, (zpre (av := .ref r0 :: av) hs hnd hg hP hD hKK hA hS)⟩ rfl (by rw [List.length_map]; exact hap) (hl.1.trans hlv) hst2 (lv_room hcat) d ⟨Nat.le_refl _, Nat.le_refl _⟩
  refine va_calli hrun hS (fun q _ hq => hAA q hq) hAA (fun r u t H1 locs1 ht hvm hw hB hz1 hk1 hS1 => ?_)
  have hP1 := hB.1
  rw [ht] at hP1
  exact k r u hw.1 hw.2 H1 locs1 ls hl (zjoin hs hnd hP hD hk1 hw.1 hP1) (zD_len hD (zpt0_len _ _ _)) hS1
end ZCL
end
section
/-- a field that holds an int and may be written -/
def zFp (own : String) (idx ci k : Nat) (C : String) (T : u_T) (N : Nat) : Prop := zFd own idx ci k C T N ∧ (T k).2.2.2 = false ∧ parseFieldDescriptor (T k).2.2.1 = some .int
theorem z_puti {x : zC} {M : zM} {n pc : Nat} {lv : List (Option Value)} {st : List Value} {h : List zE} (hx : zOk x M n) {idx q ci kf : Nat} {C : String} {T : u_T} {N : Nat} {fs : List Value} {a : Int32} (d : decode M.2.1 pc = .ok (.putfield idx, 3)) (f : zFp M.1.cls idx ci kf C T N) (hq : h[q]? = some (zO ci fs)) (hl0 : kf < fs.length) (k : zV x (pc + 3) lv st (h.set q (zO ci (fs.set kf (.int a))))) : zV x pc lv (.int a :: .ref q :: st) h :=
  z_put hx d f.1 hq f.2.1 f.2.2 (fun _ => rfl) (fun _ => rfl) hl0 k
theorem zin {w : Cond} (i : Nat) (h : lw_tbl[i]? = some w) (g : goodWord w = true) : w ∈ zG := List.mem_filter.mpr ⟨List.mem_of_getElem? h, g⟩
abbrev mX0_beginAbout : zM := (yX0_beginAbout, cX0_beginAbout, 4, none)
theorem lX0_beginAbout : zLc mX0_beginAbout 3 := ⟨zin 803 (by decide +kernel) (by decide +kernel), zin 65 (by decide +kernel) (by decide +kernel), by decide +kernel, by decide +kernel, by decide +kernel, by decide +kernel⟩
abbrev mX0_leave : zM := (yX0_leave, cX0_leave, 2, none)
theorem lX0_leave : zLc mX0_leave 1 := ⟨zin 813 (by decide +kernel) (by decide +kernel), zin 65 (by decide +kernel) (by decide +kernel), by decide +kernel, by decide +kernel, by decide +kernel, by decide +kernel⟩
abbrev mX0_bodyAt : zM := (yX0_bodyAt, cX0_bodyAt, 2, some .int)
theorem lX0_bodyAt : zLc mX0_bodyAt 1 := ⟨zin 862 (by decide +kernel) (by decide +kernel), zin 65 (by decide +kernel) (by decide +kernel), by decide +kernel, by decide +kernel, by decide +kernel, by decide +kernel⟩
abbrev mX1_hopesBy : zM := (yX1_hopesBy, cX1_hopesBy, 4, some .int)
theorem lX1_hopesBy : zLc mX1_hopesBy 3 := ⟨zin 569 (by decide +kernel) (by decide +kernel), zin 58 (by decide +kernel) (by decide +kernel), by decide +kernel, by decide +kernel, by decide +kernel, by decide +kernel⟩
abbrev mX1_askSize : zM := (yX1_askSize, cX1_askSize, 2, some .int)
theorem lX1_askSize : zLc mX1_askSize 1 := ⟨zin 809 (by decide +kernel) (by decide +kernel), zin 58 (by decide +kernel) (by decide +kernel), by decide +kernel, by decide +kernel, by decide +kernel, by decide +kernel⟩
abbrev mX1_askMark : zM := (yX1_askMark, cX1_askMark, 2, some .int)
theorem lX1_askMark : zLc mX1_askMark 1 := ⟨zin 852 (by decide +kernel) (by decide +kernel), zin 58 (by decide +kernel) (by decide +kernel), by decide +kernel, by decide +kernel, by decide +kernel, by decide +kernel⟩
abbrev mX2_hopesBy : zM := (yX2_hopesBy, cX2_hopesBy, 4, some .int)
theorem lX2_hopesBy : zLc mX2_hopesBy 3 := ⟨zin 572 (by decide +kernel) (by decide +kernel), zin 56 (by decide +kernel) (by decide +kernel), by decide +kernel, by decide +kernel, by decide +kernel, by decide +kernel⟩
abbrev mX2_askSize : zM := (yX2_askSize, cX2_askSize, 2, some .int)
theorem lX2_askSize : zLc mX2_askSize 1 := ⟨zin 817 (by decide +kernel) (by decide +kernel), zin 56 (by decide +kernel) (by decide +kernel), by decide +kernel, by decide +kernel, by decide +kernel, by decide +kernel⟩
abbrev mX2_askMark : zM := (yX2_askMark, cX2_askMark, 2, some .int)
theorem lX2_askMark : zLc mX2_askMark 1 := ⟨zin 830 (by decide +kernel) (by decide +kernel), zin 56 (by decide +kernel) (by decide +kernel), by decide +kernel, by decide +kernel, by decide +kernel, by decide +kernel⟩
abbrev mX3_hopesBy : zM := (yX3_hopesBy, cX3_hopesBy, 4, some .int)
theorem lX3_hopesBy : zLc mX3_hopesBy 3 := ⟨zin 575 (by decide +kernel) (by decide +kernel), zin 57 (by decide +kernel) (by decide +kernel), by decide +kernel, by decide +kernel, by decide +kernel, by decide +kernel⟩
abbrev mX3_askMark : zM := (yX3_askMark, cX3_askMark, 2, some .int)
theorem lX3_askMark : zLc mX3_askMark 1 := ⟨zin 834 (by decide +kernel) (by decide +kernel), zin 57 (by decide +kernel) (by decide +kernel), by decide +kernel, by decide +kernel, by decide +kernel, by decide +kernel⟩
abbrev mX4_begin : zM := (yX4_begin, cX4_begin, 3, none)
theorem lX4_begin : zLc mX4_begin 2 := ⟨zin 407 (by decide +kernel) (by decide +kernel), zin 63 (by decide +kernel) (by decide +kernel), by decide +kernel, by decide +kernel, by decide +kernel, by decide +kernel⟩
abbrev mX4_add : zM := (yX4_add, cX4_add, 5, none)
theorem lX4_add : zLc mX4_add 4 := ⟨zin 506 (by decide +kernel) (by decide +kernel), zin 63 (by decide +kernel) (by decide +kernel), by decide +kernel, by decide +kernel, by decide +kernel, by decide +kernel⟩
abbrev mX4_become : zM := (yX4_become, cX4_become, 2, none)
theorem lX4_become : zLc mX4_become 1 := ⟨zin 511 (by decide +kernel) (by decide +kernel), zin 63 (by decide +kernel) (by decide +kernel), by decide +kernel, by decide +kernel, by decide +kernel, by decide +kernel⟩
abbrev mX4_waiter : zM := (yX4_waiter, cX4_waiter, 2, some (.object "TramFaith$Waiter"))
theorem lX4_waiter : zLc mX4_waiter 1 := ⟨zin 563 (by decide +kernel) (by decide +kernel), zin 63 (by decide +kernel) (by decide +kernel), by decide +kernel, by decide +kernel, by decide +kernel, by decide +kernel⟩
abbrev mX4_everybody : zM := (yX4_everybody, cX4_everybody, 1, some .int)
theorem lX4_everybody : zLc mX4_everybody 0 := ⟨zin 685 (by decide +kernel) (by decide +kernel), zin 63 (by decide +kernel) (by decide +kernel), by decide +kernel, by decide +kernel, by decide +kernel, by decide +kernel⟩
abbrev mX4_thereBits : zM := (yX4_thereBits, cX4_thereBits, 3, some .int)
theorem lX4_thereBits : zLc mX4_thereBits 0 := ⟨zin 595 (by decide +kernel) (by decide +kernel), zin 63 (by decide +kernel) (by decide +kernel), by decide +kernel, by decide +kernel, by decide +kernel, by decide +kernel⟩
abbrev mX4_whoIsAt : zM := (yX4_whoIsAt, cX4_whoIsAt, 4, some .int)
theorem lX4_whoIsAt : zLc mX4_whoIsAt 1 := ⟨zin 636 (by decide +kernel) (by decide +kernel), zin 63 (by decide +kernel) (by decide +kernel), by decide +kernel, by decide +kernel, by decide +kernel, by decide +kernel⟩
abbrev mX4_hopeOf : zM := (yX4_hopeOf, cX4_hopeOf, 3, some .int)
theorem lX4_hopeOf : zLc mX4_hopeOf 1 := ⟨zin 632 (by decide +kernel) (by decide +kernel), zin 63 (by decide +kernel) (by decide +kernel), by decide +kernel, by decide +kernel, by decide +kernel, by decide +kernel⟩
abbrev mX4_hopeAt : zM := (yX4_hopeAt, cX4_hopeAt, 2, some .int)
theorem lX4_hopeAt : zLc mX4_hopeAt 1 := ⟨zin 650 (by decide +kernel) (by decide +kernel), zin 63 (by decide +kernel) (by decide +kernel), by decide +kernel, by decide +kernel, by decide +kernel, by decide +kernel⟩
abbrev mX4_holdingBits : zM := (yX4_holdingBits, cX4_holdingBits, 3, some .int)
theorem lX4_holdingBits : zLc mX4_holdingBits 0 := ⟨zin 697 (by decide +kernel) (by decide +kernel), zin 63 (by decide +kernel) (by decide +kernel), by decide +kernel, by decide +kernel, by decide +kernel, by decide +kernel⟩
abbrev mX4_tramWithout : zM := (yX4_tramWithout, cX4_tramWithout, 5, some .int)
theorem lX4_tramWithout : zLc mX4_tramWithout 1 := ⟨zin 547 (by decide +kernel) (by decide +kernel), zin 63 (by decide +kernel) (by decide +kernel), by decide +kernel, by decide +kernel, by decide +kernel, by decide +kernel⟩
abbrev mX4_pass : zM := (yX4_pass, cX4_pass, 4, some .int)
theorem lX4_pass : zLc mX4_pass 1 := ⟨zin 543 (by decide +kernel) (by decide +kernel), zin 63 (by decide +kernel) (by decide +kernel), by decide +kernel, by decide +kernel, by decide +kernel, by decide +kernel⟩
abbrev mX4_moveTo : zM := (yX4_moveTo, cX4_moveTo, 3, none)
theorem lX4_moveTo : zLc mX4_moveTo 2 := ⟨zin 590 (by decide +kernel) (by decide +kernel), zin 63 (by decide +kernel) (by decide +kernel), by decide +kernel, by decide +kernel, by decide +kernel, by decide +kernel⟩
abbrev mX4_leastHope : zM := (yX4_leastHope, cX4_leastHope, 1, some .int)
theorem lX4_leastHope : zLc mX4_leastHope 0 := ⟨zin 585 (by decide +kernel) (by decide +kernel), zin 63 (by decide +kernel) (by decide +kernel), by decide +kernel, by decide +kernel, by decide +kernel, by decide +kernel⟩
abbrev mX4_tellHopes : zM := (yX4_tellHopes, cX4_tellHopes, 3, none)
theorem lX4_tellHopes : zLc mX4_tellHopes 1 := ⟨zin 551 (by decide +kernel) (by decide +kernel), zin 63 (by decide +kernel) (by decide +kernel), by decide +kernel, by decide +kernel, by decide +kernel, by decide +kernel⟩
abbrev mX4_tellCrowds : zM := (yX4_tellCrowds, cX4_tellCrowds, 2, none)
theorem lX4_tellCrowds : zLc mX4_tellCrowds 0 := ⟨zin 555 (by decide +kernel) (by decide +kernel), zin 63 (by decide +kernel) (by decide +kernel), by decide +kernel, by decide +kernel, by decide +kernel, by decide +kernel⟩
abbrev mX5_forget : zM := (yX5_forget, cX5_forget, 1, none)
theorem lX5_forget : zLc mX5_forget 0 := ⟨zin 516 (by decide +kernel) (by decide +kernel), zin 64 (by decide +kernel) (by decide +kernel), by decide +kernel, by decide +kernel, by decide +kernel, by decide +kernel⟩
abbrev mX5_keep : zM := (yX5_keep, cX5_keep, 3, none)
theorem lX5_keep : zLc mX5_keep 1 := ⟨zin 534 (by decide +kernel) (by decide +kernel), zin 64 (by decide +kernel) (by decide +kernel), by decide +kernel, by decide +kernel, by decide +kernel, by decide +kernel⟩
abbrev mX5_takeBack : zM := (yX5_takeBack, cX5_takeBack, 3, none)
theorem lX5_takeBack : zLc mX5_takeBack 1 := ⟨zin 624 (by decide +kernel) (by decide +kernel), zin 64 (by decide +kernel) (by decide +kernel), by decide +kernel, by decide +kernel, by decide +kernel, by decide +kernel⟩
abbrev mX5_pageOf : zM := (yX5_pageOf, cX5_pageOf, 2, some .int)
theorem lX5_pageOf : zLc mX5_pageOf 1 := ⟨zin 538 (by decide +kernel) (by decide +kernel), zin 64 (by decide +kernel) (by decide +kernel), by decide +kernel, by decide +kernel, by decide +kernel, by decide +kernel⟩
abbrev mX6_hopesBy : zM := (yX6_hopesBy, cX6_hopesBy, 4, some .int)
theorem lX6_hopesBy : zLc mX6_hopesBy 3 := ⟨zin 578 (by decide +kernel) (by decide +kernel), zin 55 (by decide +kernel) (by decide +kernel), by decide +kernel, by decide +kernel, by decide +kernel, by decide +kernel⟩
abbrev mX6_askSize : zM := (yX6_askSize, cX6_askSize, 2, some .int)
theorem lX6_askSize : zLc mX6_askSize 1 := ⟨zin 821 (by decide +kernel) (by decide +kernel), zin 55 (by decide +kernel) (by decide +kernel), by decide +kernel, by decide +kernel, by decide +kernel, by decide +kernel⟩
abbrev mX6_askMark : zM := (yX6_askMark, cX6_askMark, 2, some .int)
theorem lX6_askMark : zLc mX6_askMark 1 := ⟨zin 837 (by decide +kernel) (by decide +kernel), zin 55 (by decide +kernel) (by decide +kernel), by decide +kernel, by decide +kernel, by decide +kernel, by decide +kernel⟩
abbrev mX7_hopesBy : zM := (yX7_hopesBy, cX7_hopesBy, 4, some .int)
theorem lX7_hopesBy : zLc mX7_hopesBy 3 := ⟨zin 581 (by decide +kernel) (by decide +kernel), zin 59 (by decide +kernel) (by decide +kernel), by decide +kernel, by decide +kernel, by decide +kernel, by decide +kernel⟩
abbrev mX7_askSize : zM := (yX7_askSize, cX7_askSize, 2, some .int)
theorem lX7_askSize : zLc mX7_askSize 1 := ⟨zin 846 (by decide +kernel) (by decide +kernel), zin 59 (by decide +kernel) (by decide +kernel), by decide +kernel, by decide +kernel, by decide +kernel, by decide +kernel⟩
abbrev mX8_isMissing : zM := (yX8_isMissing, cX8_isMissing, 2, some .boolean)
theorem lX8_isMissing : zLc mX8_isMissing 1 := ⟨zin 337 (by decide +kernel) (by decide +kernel), zin 60 (by decide +kernel) (by decide +kernel), by decide +kernel, by decide +kernel, by decide +kernel, by decide +kernel⟩
abbrev mX8_howMany : zM := (yX8_howMany, cX8_howMany, 3, some .int)
theorem lX8_howMany : zLc mX8_howMany 0 := ⟨zin 872 (by decide +kernel) (by decide +kernel), zin 60 (by decide +kernel) (by decide +kernel), by decide +kernel, by decide +kernel, by decide +kernel, by decide +kernel⟩
abbrev mX8_make : zM := (yX8_make, cX8_make, 4, none)
theorem lX8_make : zLc mX8_make 3 := ⟨zin 321 (by decide +kernel) (by decide +kernel), zin 60 (by decide +kernel) (by decide +kernel), by decide +kernel, by decide +kernel, by decide +kernel, by decide +kernel⟩
abbrev mX8_remove : zM := (yX8_remove, cX8_remove, 3, some .int)
theorem lX8_remove : zLc mX8_remove 1 := ⟨zin 369 (by decide +kernel) (by decide +kernel), zin 60 (by decide +kernel) (by decide +kernel), by decide +kernel, by decide +kernel, by decide +kernel, by decide +kernel⟩
abbrev mX8_itemAt : zM := (yX8_itemAt, cX8_itemAt, 3, some .int)
theorem lX8_itemAt : zLc mX8_itemAt 2 := ⟨zin 738 (by decide +kernel) (by decide +kernel), zin 60 (by decide +kernel) (by decide +kernel), by decide +kernel, by decide +kernel, by decide +kernel, by decide +kernel⟩
abbrev mX8_put : zM := (yX8_put, cX8_put, 5, some .int)
theorem lX8_put : zLc mX8_put 3 := ⟨zin 345 (by decide +kernel) (by decide +kernel), zin 60 (by decide +kernel) (by decide +kernel), by decide +kernel, by decide +kernel, by decide +kernel, by decide +kernel⟩
abbrev mX8_move : zM := (yX8_move, cX8_move, 6, none)
theorem lX8_move : zLc mX8_move 5 := ⟨zin 357 (by decide +kernel) (by decide +kernel), zin 60 (by decide +kernel) (by decide +kernel), by decide +kernel, by decide +kernel, by decide +kernel, by decide +kernel⟩
abbrev mX8_findingOf : zM := (yX8_findingOf, cX8_findingOf, 4, some .int)
theorem lX8_findingOf : zLc mX8_findingOf 3 := ⟨zin 333 (by decide +kernel) (by decide +kernel), zin 60 (by decide +kernel) (by decide +kernel), by decide +kernel, by decide +kernel, by decide +kernel, by decide +kernel⟩
abbrev mX8_findingOfMove : zM := (yX8_findingOfMove, cX8_findingOfMove, 6, some .int)
theorem lX8_findingOfMove : zLc mX8_findingOfMove 5 := ⟨zin 353 (by decide +kernel) (by decide +kernel), zin 60 (by decide +kernel) (by decide +kernel), by decide +kernel, by decide +kernel, by decide +kernel, by decide +kernel⟩
abbrev mX8_hasSpan : zM := (yX8_hasSpan, cX8_hasSpan, 4, some .boolean)
theorem lX8_hasSpan : zLc mX8_hasSpan 3 := ⟨zin 341 (by decide +kernel) (by decide +kernel), zin 60 (by decide +kernel) (by decide +kernel), by decide +kernel, by decide +kernel, by decide +kernel, by decide +kernel⟩
abbrev mX9_put : zM := (yX9_put, cX9_put, 2, none)
theorem lX9_put : zLc mX9_put 1 := ⟨zin 378 (by decide +kernel) (by decide +kernel), zin 62 (by decide +kernel) (by decide +kernel), by decide +kernel, by decide +kernel, by decide +kernel, by decide +kernel⟩
abbrev mX9_readInto : zM := (yX9_readInto, cX9_readInto, 2, some .boolean)
theorem lX9_readInto : zLc mX9_readInto 1 := ⟨zin 386 (by decide +kernel) (by decide +kernel), zin 62 (by decide +kernel) (by decide +kernel), by decide +kernel, by decide +kernel, by decide +kernel, by decide +kernel⟩
abbrev mX9_readLaw : zM := (yX9_readLaw, cX9_readLaw, 3, some .boolean)
theorem lX9_readLaw : zLc mX9_readLaw 1 := ⟨zin 390 (by decide +kernel) (by decide +kernel), zin 62 (by decide +kernel) (by decide +kernel), by decide +kernel, by decide +kernel, by decide +kernel, by decide +kernel⟩
abbrev mX9_readPeople : zM := (yX9_readPeople, cX9_readPeople, 4, some .boolean)
theorem lX9_readPeople : zLc mX9_readPeople 1 := ⟨zin 411 (by decide +kernel) (by decide +kernel), zin 62 (by decide +kernel) (by decide +kernel), by decide +kernel, by decide +kernel, by decide +kernel, by decide +kernel⟩
abbrev mX9_readPerson : zM := (yX9_readPerson, cX9_readPerson, 6, some .boolean)
theorem lX9_readPerson : zLc mX9_readPerson 2 := ⟨zin 502 (by decide +kernel) (by decide +kernel), zin 62 (by decide +kernel) (by decide +kernel), by decide +kernel, by decide +kernel, by decide +kernel, by decide +kernel⟩
abbrev mX9_takeSign : zM := (yX9_takeSign, cX9_takeSign, 2, some .boolean)
theorem lX9_takeSign : zLc mX9_takeSign 1 := ⟨zin 394 (by decide +kernel) (by decide +kernel), zin 62 (by decide +kernel) (by decide +kernel), by decide +kernel, by decide +kernel, by decide +kernel, by decide +kernel⟩
abbrev mX9_takeNumber : zM := (yX9_takeNumber, cX9_takeNumber, 5, some .boolean)
theorem lX9_takeNumber : zLc mX9_takeNumber 2 := ⟨zin 402 (by decide +kernel) (by decide +kernel), zin 62 (by decide +kernel) (by decide +kernel), by decide +kernel, by decide +kernel, by decide +kernel, by decide +kernel⟩
abbrev mX9_fails : zM := (yX9_fails, cX9_fails, 2, some .boolean)
theorem lX9_fails : zLc mX9_fails 1 := ⟨zin 398 (by decide +kernel) (by decide +kernel), zin 62 (by decide +kernel) (by decide +kernel), by decide +kernel, by decide +kernel, by decide +kernel, by decide +kernel⟩
abbrev mX10_askSize : zM := (yX10_askSize, cX10_askSize, 2, some .int)
theorem lX10_askSize : zLc mX10_askSize 1 := ⟨zin 849 (by decide +kernel) (by decide +kernel), zin 54 (by decide +kernel) (by decide +kernel), by decide +kernel, by decide +kernel, by decide +kernel, by decide +kernel⟩
abbrev mX10_askMark : zM := (yX10_askMark, cX10_askMark, 2, some .int)
theorem lX10_askMark : zLc mX10_askMark 1 := ⟨zin 840 (by decide +kernel) (by decide +kernel), zin 54 (by decide +kernel) (by decide +kernel), by decide +kernel, by decide +kernel, by decide +kernel, by decide +kernel⟩
abbrev mX11_row : zM := (yX11_row, cX11_row, 4, some .int)
theorem lX11_row : zLc mX11_row 3 := ⟨zin 305 (by decide +kernel) (by decide +kernel), zin 53 (by decide +kernel) (by decide +kernel), by decide +kernel, by decide +kernel, by decide +kernel, by decide +kernel⟩
abbrev mX11_set : zM := (yX11_set, cX11_set, 5, some .int)
theorem lX11_set : zLc mX11_set 3 := ⟨zin 329 (by decide +kernel) (by decide +kernel), zin 53 (by decide +kernel) (by decide +kernel), by decide +kernel, by decide +kernel, by decide +kernel, by decide +kernel⟩
abbrev mX11_copy : zM := (yX11_copy, cX11_copy, 7, some .int)
theorem lX11_copy : zLc mX11_copy 5 := ⟨zin 349 (by decide +kernel) (by decide +kernel), zin 53 (by decide +kernel) (by decide +kernel), by decide +kernel, by decide +kernel, by decide +kernel, by decide +kernel⟩
abbrev mX11_drop : zM := (yX11_drop, cX11_drop, 2, some .int)
theorem lX11_drop : zLc mX11_drop 1 := ⟨zin 364 (by decide +kernel) (by decide +kernel), zin 53 (by decide +kernel) (by decide +kernel), by decide +kernel, by decide +kernel, by decide +kernel, by decide +kernel⟩
abbrev mX11_feed : zM := (yX11_feed, cX11_feed, 2, some .int)
theorem lX11_feed : zLc mX11_feed 1 := ⟨zin 373 (by decide +kernel) (by decide +kernel), zin 53 (by decide +kernel) (by decide +kernel), by decide +kernel, by decide +kernel, by decide +kernel, by decide +kernel⟩
abbrev mX11_line : zM := (yX11_line, cX11_line, 2, some .int)
theorem lX11_line : zLc mX11_line 0 := ⟨zin 382 (by decide +kernel) (by decide +kernel), zin 53 (by decide +kernel) (by decide +kernel), by decide +kernel, by decide +kernel, by decide +kernel, by decide +kernel⟩
abbrev mX11_fault : zM := (yX11_fault, cX11_fault, 1, some .int)
theorem lX11_fault : zLc mX11_fault 0 := ⟨zin 521 (by decide +kernel) (by decide +kernel), zin 53 (by decide +kernel) (by decide +kernel), by decide +kernel, by decide +kernel, by decide +kernel, by decide +kernel⟩
abbrev mX11_minutes : zM := (yX11_minutes, cX11_minutes, 3, some .int)
theorem lX11_minutes : zLc mX11_minutes 1 := ⟨zin 525 (by decide +kernel) (by decide +kernel), zin 53 (by decide +kernel) (by decide +kernel), by decide +kernel, by decide +kernel, by decide +kernel, by decide +kernel⟩
abbrev mX11_walk : zM := (yX11_walk, cX11_walk, 4, some .int)
theorem lX11_walk : zLc mX11_walk 2 := ⟨zin 599 (by decide +kernel) (by decide +kernel), zin 53 (by decide +kernel) (by decide +kernel), by decide +kernel, by decide +kernel, by decide +kernel, by decide +kernel⟩
abbrev mX11_preach : zM := (yX11_preach, cX11_preach, 4, some .int)
theorem lX11_preach : zLc mX11_preach 2 := ⟨zin 612 (by decide +kernel) (by decide +kernel), zin 53 (by decide +kernel) (by decide +kernel), by decide +kernel, by decide +kernel, by decide +kernel, by decide +kernel⟩
abbrev mX11_wish : zM := (yX11_wish, cX11_wish, 4, some .int)
theorem lX11_wish : zLc mX11_wish 2 := ⟨zin 616 (by decide +kernel) (by decide +kernel), zin 53 (by decide +kernel) (by decide +kernel), by decide +kernel, by decide +kernel, by decide +kernel, by decide +kernel⟩
abbrev mX11_undo : zM := (yX11_undo, cX11_undo, 1, some .int)
theorem lX11_undo : zLc mX11_undo 0 := ⟨zin 620 (by decide +kernel) (by decide +kernel), zin 53 (by decide +kernel) (by decide +kernel), by decide +kernel, by decide +kernel, by decide +kernel, by decide +kernel⟩
abbrev mX11_person : zM := (yX11_person, cX11_person, 3, some .int)
theorem lX11_person : zLc mX11_person 2 := ⟨zin 628 (by decide +kernel) (by decide +kernel), zin 53 (by decide +kernel) (by decide +kernel), by decide +kernel, by decide +kernel, by decide +kernel, by decide +kernel⟩
abbrev mX11_stop : zM := (yX11_stop, cX11_stop, 3, some .int)
theorem lX11_stop : zLc mX11_stop 2 := ⟨zin 646 (by decide +kernel) (by decide +kernel), zin 53 (by decide +kernel) (by decide +kernel), by decide +kernel, by decide +kernel, by decide +kernel, by decide +kernel⟩
abbrev mX11_where : zM := (yX11_where, cX11_where, 3, some .int)
theorem lX11_where : zLc mX11_where 2 := ⟨zin 655 (by decide +kernel) (by decide +kernel), zin 53 (by decide +kernel) (by decide +kernel), by decide +kernel, by decide +kernel, by decide +kernel, by decide +kernel⟩
abbrev mX11_tram : zM := (yX11_tram, cX11_tram, 3, some .int)
theorem lX11_tram : zLc mX11_tram 1 := ⟨zin 663 (by decide +kernel) (by decide +kernel), zin 53 (by decide +kernel) (by decide +kernel), by decide +kernel, by decide +kernel, by decide +kernel, by decide +kernel⟩
abbrev mX11_there : zM := (yX11_there, cX11_there, 2, some .int)
theorem lX11_there : zLc mX11_there 1 := ⟨zin 669 (by decide +kernel) (by decide +kernel), zin 53 (by decide +kernel) (by decide +kernel), by decide +kernel, by decide +kernel, by decide +kernel, by decide +kernel⟩
abbrev mX11_when : zM := (yX11_when, cX11_when, 2, some .int)
theorem lX11_when : zLc mX11_when 1 := ⟨zin 673 (by decide +kernel) (by decide +kernel), zin 53 (by decide +kernel) (by decide +kernel), by decide +kernel, by decide +kernel, by decide +kernel, by decide +kernel⟩
abbrev mX11_all : zM := (yX11_all, cX11_all, 1, some .int)
theorem lX11_all : zLc mX11_all 0 := ⟨zin 681 (by decide +kernel) (by decide +kernel), zin 53 (by decide +kernel) (by decide +kernel), by decide +kernel, by decide +kernel, by decide +kernel, by decide +kernel⟩
abbrev mX11_never : zM := (yX11_never, cX11_never, 1, some .int)
theorem lX11_never : zLc mX11_never 0 := ⟨zin 689 (by decide +kernel) (by decide +kernel), zin 53 (by decide +kernel) (by decide +kernel), by decide +kernel, by decide +kernel, by decide +kernel, by decide +kernel⟩
abbrev mX11_holding : zM := (yX11_holding, cX11_holding, 1, some .int)
theorem lX11_holding : zLc mX11_holding 0 := ⟨zin 693 (by decide +kernel) (by decide +kernel), zin 53 (by decide +kernel) (by decide +kernel), by decide +kernel, by decide +kernel, by decide +kernel, by decide +kernel⟩
abbrev mX11_call : zM := (yX11_call, cX11_call, 5, some .int)
theorem lX11_call : zLc mX11_call 2 := ⟨zin 701 (by decide +kernel) (by decide +kernel), zin 53 (by decide +kernel) (by decide +kernel), by decide +kernel, by decide +kernel, by decide +kernel, by decide +kernel⟩
abbrev mX11_go : zM := (yX11_go, cX11_go, 7, some .int)
theorem lX11_go : zLc mX11_go 2 := ⟨zin 709 (by decide +kernel) (by decide +kernel), zin 53 (by decide +kernel) (by decide +kernel), by decide +kernel, by decide +kernel, by decide +kernel, by decide +kernel⟩
abbrev mX11_walkers : zM := (yX11_walkers, cX11_walkers, 5, some .int)
theorem lX11_walkers : zLc mX11_walkers 2 := ⟨zin 717 (by decide +kernel) (by decide +kernel), zin 53 (by decide +kernel) (by decide +kernel), by decide +kernel, by decide +kernel, by decide +kernel, by decide +kernel⟩
abbrev mX11_fits : zM := (yX11_fits, cX11_fits, 7, some .int)
theorem lX11_fits : zLc mX11_fits 5 := ⟨zin 726 (by decide +kernel) (by decide +kernel), zin 53 (by decide +kernel) (by decide +kernel), by decide +kernel, by decide +kernel, by decide +kernel, by decide +kernel⟩
abbrev mX11_bounds : zM := (yX11_bounds, cX11_bounds, 5, some .int)
theorem lX11_bounds : zLc mX11_bounds 3 := ⟨zin 746 (by decide +kernel) (by decide +kernel), zin 53 (by decide +kernel) (by decide +kernel), by decide +kernel, by decide +kernel, by decide +kernel, by decide +kernel⟩
abbrev mX11_rain : zM := (yX11_rain, cX11_rain, 8, some .int)
theorem lX11_rain : zLc mX11_rain 3 := ⟨zin 754 (by decide +kernel) (by decide +kernel), zin 53 (by decide +kernel) (by decide +kernel), by decide +kernel, by decide +kernel, by decide +kernel, by decide +kernel⟩
abbrev mX11_drawn : zM := (yX11_drawn, cX11_drawn, 8, some .int)
theorem lX11_drawn : zLc mX11_drawn 3 := ⟨zin 767 (by decide +kernel) (by decide +kernel), zin 53 (by decide +kernel) (by decide +kernel), by decide +kernel, by decide +kernel, by decide +kernel, by decide +kernel⟩
abbrev mX11_image : zM := (yX11_image, cX11_image, 2, some .int)
theorem lX11_image : zLc mX11_image 1 := ⟨zin 779 (by decide +kernel) (by decide +kernel), zin 53 (by decide +kernel) (by decide +kernel), by decide +kernel, by decide +kernel, by decide +kernel, by decide +kernel⟩
abbrev mX11_restore : zM := (yX11_restore, cX11_restore, 2, some .int)
theorem lX11_restore : zLc mX11_restore 1 := ⟨zin 783 (by decide +kernel) (by decide +kernel), zin 53 (by decide +kernel) (by decide +kernel), by decide +kernel, by decide +kernel, by decide +kernel, by decide +kernel⟩
abbrev mX11_kind : zM := (yX11_kind, cX11_kind, 2, some .int)
theorem lX11_kind : zLc mX11_kind 1 := ⟨zin 787 (by decide +kernel) (by decide +kernel), zin 53 (by decide +kernel) (by decide +kernel), by decide +kernel, by decide +kernel, by decide +kernel, by decide +kernel⟩
abbrev mX11_as : zM := (yX11_as, cX11_as, 3, some .int)
theorem lX11_as : zLc mX11_as 2 := ⟨zin 791 (by decide +kernel) (by decide +kernel), zin 53 (by decide +kernel) (by decide +kernel), by decide +kernel, by decide +kernel, by decide +kernel, by decide +kernel⟩
abbrev mX11_ask : zM := (yX11_ask, cX11_ask, 4, some .int)
theorem lX11_ask : zLc mX11_ask 2 := ⟨zin 799 (by decide +kernel) (by decide +kernel), zin 53 (by decide +kernel) (by decide +kernel), by decide +kernel, by decide +kernel, by decide +kernel, by decide +kernel⟩
abbrev mX11_trace : zM := (yX11_trace, cX11_trace, 2, some .int)
theorem lX11_trace : zLc mX11_trace 1 := ⟨zin 858 (by decide +kernel) (by decide +kernel), zin 53 (by decide +kernel) (by decide +kernel), by decide +kernel, by decide +kernel, by decide +kernel, by decide +kernel⟩
abbrev mX11_count : zM := (yX11_count, cX11_count, 2, some .int)
theorem lX11_count : zLc mX11_count 1 := ⟨zin 868 (by decide +kernel) (by decide +kernel), zin 53 (by decide +kernel) (by decide +kernel), by decide +kernel, by decide +kernel, by decide +kernel, by decide +kernel⟩
abbrev mX11_status : zM := (yX11_status, cX11_status, 1, some .int)
theorem lX11_status : zLc mX11_status 0 := ⟨zin 876 (by decide +kernel) (by decide +kernel), zin 53 (by decide +kernel) (by decide +kernel), by decide +kernel, by decide +kernel, by decide +kernel, by decide +kernel⟩
abbrev mX11_isWithin : zM := (yX11_isWithin, cX11_isWithin, 3, some .boolean)
theorem lX11_isWithin : zLc mX11_isWithin 3 := ⟨zin 311 (by decide +kernel) (by decide +kernel), zin 53 (by decide +kernel) (by decide +kernel), by decide +kernel, by decide +kernel, by decide +kernel, by decide +kernel⟩
abbrev mX11_isIn : zM := (yX11_isIn, cX11_isIn, 2, some .boolean)
theorem lX11_isIn : zLc mX11_isIn 2 := ⟨zin 559 (by decide +kernel) (by decide +kernel), zin 53 (by decide +kernel) (by decide +kernel), by decide +kernel, by decide +kernel, by decide +kernel, by decide +kernel⟩
abbrev mX11_isRow : zM := (yX11_isRow, cX11_isRow, 1, some .boolean)
theorem lX11_isRow : zLc mX11_isRow 1 := ⟨zin 308 (by decide +kernel) (by decide +kernel), zin 53 (by decide +kernel) (by decide +kernel), by decide +kernel, by decide +kernel, by decide +kernel, by decide +kernel⟩
abbrev mX11_hasLine : zM := (yX11_hasLine, cX11_hasLine, 1, some .boolean)
theorem lX11_hasLine : zLc mX11_hasLine 0 := ⟨zin 529 (by decide +kernel) (by decide +kernel), zin 53 (by decide +kernel) (by decide +kernel), by decide +kernel, by decide +kernel, by decide +kernel, by decide +kernel⟩
abbrev mX11_isPerson : zM := (yX11_isPerson, cX11_isPerson, 2, some .boolean)
theorem lX11_isPerson : zLc mX11_isPerson 1 := ⟨zin 603 (by decide +kernel) (by decide +kernel), zin 53 (by decide +kernel) (by decide +kernel), by decide +kernel, by decide +kernel, by decide +kernel, by decide +kernel⟩
abbrev mX11_isStop : zM := (yX11_isStop, cX11_isStop, 2, some .boolean)
theorem lX11_isStop : zLc mX11_isStop 1 := ⟨zin 607 (by decide +kernel) (by decide +kernel), zin 53 (by decide +kernel) (by decide +kernel), by decide +kernel, by decide +kernel, by decide +kernel, by decide +kernel⟩
abbrev mX11_found : zM := (yX11_found, cX11_found, 2, some .int)
theorem lX11_found : zLc mX11_found 1 := ⟨zin 316 (by decide +kernel) (by decide +kernel), zin 53 (by decide +kernel) (by decide +kernel), by decide +kernel, by decide +kernel, by decide +kernel, by decide +kernel⟩
abbrev mX11_foundNothing : zM := (yX11_foundNothing, cX11_foundNothing, 2, some .int)
theorem lX11_foundNothing : zLc mX11_foundNothing 1 := ⟨zin 325 (by decide +kernel) (by decide +kernel), zin 53 (by decide +kernel) (by decide +kernel), by decide +kernel, by decide +kernel, by decide +kernel, by decide +kernel⟩
abbrev mX11_isOne : zM := (yX11_isOne, cX11_isOne, 2, some .boolean)
theorem lX11_isOne : zLc mX11_isOne 2 := ⟨zin 795 (by decide +kernel) (by decide +kernel), zin 53 (by decide +kernel) (by decide +kernel), by decide +kernel, by decide +kernel, by decide +kernel, by decide +kernel⟩
abbrev mX11_playFor : zM := (yX11_playFor, cX11_playFor, 3, none)
theorem lX11_playFor : zLc mX11_playFor 1 := ⟨zin 659 (by decide +kernel) (by decide +kernel), zin 53 (by decide +kernel) (by decide +kernel), by decide +kernel, by decide +kernel, by decide +kernel, by decide +kernel⟩
abbrev mX11_playTill : zM := (yX11_playTill, cX11_playTill, 5, some .int)
theorem lX11_playTill : zLc mX11_playTill 3 := ⟨zin 677 (by decide +kernel) (by decide +kernel), zin 53 (by decide +kernel) (by decide +kernel), by decide +kernel, by decide +kernel, by decide +kernel, by decide +kernel⟩
abbrev mX11_callerBy : zM := (yX11_callerBy, cX11_callerBy, 5, some .int)
theorem lX11_callerBy : zLc mX11_callerBy 2 := ⟨zin 705 (by decide +kernel) (by decide +kernel), zin 53 (by decide +kernel) (by decide +kernel), by decide +kernel, by decide +kernel, by decide +kernel, by decide +kernel⟩
abbrev mX11_soonFrom : zM := (yX11_soonFrom, cX11_soonFrom, 3, some .int)
theorem lX11_soonFrom : zLc mX11_soonFrom 2 := ⟨zin 713 (by decide +kernel) (by decide +kernel), zin 53 (by decide +kernel) (by decide +kernel), by decide +kernel, by decide +kernel, by decide +kernel, by decide +kernel⟩
abbrev mX11_leastWalkers : zM := (yX11_leastWalkers, cX11_leastWalkers, 4, some .int)
theorem lX11_leastWalkers : zLc mX11_leastWalkers 2 := ⟨zin 721 (by decide +kernel) (by decide +kernel), zin 53 (by decide +kernel) (by decide +kernel), by decide +kernel, by decide +kernel, by decide +kernel, by decide +kernel⟩
abbrev mX11_faithsBy : zM := (yX11_faithsBy, cX11_faithsBy, 7, some .int)
theorem lX11_faithsBy : zLc mX11_faithsBy 4 := ⟨zin 730 (by decide +kernel) (by decide +kernel), zin 53 (by decide +kernel) (by decide +kernel), by decide +kernel, by decide +kernel, by decide +kernel, by decide +kernel⟩
abbrev mX11_sortsBy : zM := (yX11_sortsBy, cX11_sortsBy, 7, some .int)
theorem lX11_sortsBy : zLc mX11_sortsBy 4 := ⟨zin 742 (by decide +kernel) (by decide +kernel), zin 53 (by decide +kernel) (by decide +kernel), by decide +kernel, by decide +kernel, by decide +kernel, by decide +kernel⟩
abbrev mX11_boundsBy : zM := (yX11_boundsBy, cX11_boundsBy, 6, some .int)
theorem lX11_boundsBy : zLc mX11_boundsBy 3 := ⟨zin 750 (by decide +kernel) (by decide +kernel), zin 53 (by decide +kernel) (by decide +kernel), by decide +kernel, by decide +kernel, by decide +kernel, by decide +kernel⟩
abbrev mX11_playIsAsTold : zM := (yX11_playIsAsTold, cX11_playIsAsTold, 5, some .boolean)
theorem lX11_playIsAsTold : zLc mX11_playIsAsTold 3 := ⟨zin 734 (by decide +kernel) (by decide +kernel), zin 53 (by decide +kernel) (by decide +kernel), by decide +kernel, by decide +kernel, by decide +kernel, by decide +kernel⟩
abbrev mX11_waysOf : zM := (yX11_waysOf, cX11_waysOf, 5, some .int)
theorem lX11_waysOf : zLc mX11_waysOf 2 := ⟨zin 758 (by decide +kernel) (by decide +kernel), zin 53 (by decide +kernel) (by decide +kernel), by decide +kernel, by decide +kernel, by decide +kernel, by decide +kernel⟩
abbrev mX11_sharedBy : zM := (yX11_sharedBy, cX11_sharedBy, 6, some .int)
theorem lX11_sharedBy : zLc mX11_sharedBy 2 := ⟨zin 762 (by decide +kernel) (by decide +kernel), zin 53 (by decide +kernel) (by decide +kernel), by decide +kernel, by decide +kernel, by decide +kernel, by decide +kernel⟩
abbrev mX11_preachByDraw : zM := (yX11_preachByDraw, cX11_preachByDraw, 3, none)
theorem lX11_preachByDraw : zLc mX11_preachByDraw 1 := ⟨zin 774 (by decide +kernel) (by decide +kernel), zin 53 (by decide +kernel) (by decide +kernel), by decide +kernel, by decide +kernel, by decide +kernel, by decide +kernel⟩
abbrev mX12_in : zM := (yX12_in, cX12_in, 3, some .boolean)
theorem lX12_in : zLc mX12_in 3 := ⟨zin 961 (by decide +kernel) (by decide +kernel), zin 66 (by decide +kernel) (by decide +kernel), by decide +kernel, by decide +kernel, by decide +kernel, by decide +kernel⟩
abbrev mX12_has : zM := (yX12_has, cX12_has, 2, some .boolean)
theorem lX12_has : zLc mX12_has 2 := ⟨zin 1067 (by decide +kernel) (by decide +kernel), zin 66 (by decide +kernel) (by decide +kernel), by decide +kernel, by decide +kernel, by decide +kernel, by decide +kernel⟩
abbrev mX12_ones : zM := (yX12_ones, cX12_ones, 3, some .int)
theorem lX12_ones : zLc mX12_ones 1 := ⟨zin 1076 (by decide +kernel) (by decide +kernel), zin 66 (by decide +kernel) (by decide +kernel), by decide +kernel, by decide +kernel, by decide +kernel, by decide +kernel⟩
abbrev mX12_found : zM := (yX12_found, cX12_found, 2, some .int)
theorem lX12_found : zLc mX12_found 1 := ⟨zin 966 (by decide +kernel) (by decide +kernel), zin 66 (by decide +kernel) (by decide +kernel), by decide +kernel, by decide +kernel, by decide +kernel, by decide +kernel⟩
abbrev mX12_well : zM := (yX12_well, cX12_well, 2, some .int)
theorem lX12_well : zLc mX12_well 1 := ⟨zin 971 (by decide +kernel) (by decide +kernel), zin 66 (by decide +kernel) (by decide +kernel), by decide +kernel, by decide +kernel, by decide +kernel, by decide +kernel⟩
abbrev mX12_copies : zM := (yX12_copies, cX12_copies, 5, none)
theorem lX12_copies : zLc mX12_copies 4 := ⟨zin 1038 (by decide +kernel) (by decide +kernel), zin 66 (by decide +kernel) (by decide +kernel), by decide +kernel, by decide +kernel, by decide +kernel, by decide +kernel⟩
abbrev mX12_isRow : zM := (yX12_isRow, cX12_isRow, 1, some .boolean)
theorem lX12_isRow : zLc mX12_isRow 1 := ⟨zin 958 (by decide +kernel) (by decide +kernel), zin 66 (by decide +kernel) (by decide +kernel), by decide +kernel, by decide +kernel, by decide +kernel, by decide +kernel⟩
abbrev mX12_isMissing : zM := (yX12_isMissing, cX12_isMissing, 2, some .boolean)
theorem lX12_isMissing : zLc mX12_isMissing 1 := ⟨zin 979 (by decide +kernel) (by decide +kernel), zin 66 (by decide +kernel) (by decide +kernel), by decide +kernel, by decide +kernel, by decide +kernel, by decide +kernel⟩
abbrev mX12_cut : zM := (yX12_cut, cX12_cut, 2, some .int)
theorem lX12_cut : zLc mX12_cut 2 := ⟨zin 982 (by decide +kernel) (by decide +kernel), zin 66 (by decide +kernel) (by decide +kernel), by decide +kernel, by decide +kernel, by decide +kernel, by decide +kernel⟩
abbrev mX12_row : zM := (yX12_row, cX12_row, 5, some .int)
theorem lX12_row : zLc mX12_row 3 := ⟨zin 955 (by decide +kernel) (by decide +kernel), zin 66 (by decide +kernel) (by decide +kernel), by decide +kernel, by decide +kernel, by decide +kernel, by decide +kernel⟩
abbrev mX12_set : zM := (yX12_set, cX12_set, 4, some .int)
theorem lX12_set : zLc mX12_set 3 := ⟨zin 975 (by decide +kernel) (by decide +kernel), zin 66 (by decide +kernel) (by decide +kernel), by decide +kernel, by decide +kernel, by decide +kernel, by decide +kernel⟩
abbrev mX12_isPart : zM := (yX12_isPart, cX12_isPart, 4, some .boolean)
theorem lX12_isPart : zLc mX12_isPart 3 := ⟨zin 990 (by decide +kernel) (by decide +kernel), zin 66 (by decide +kernel) (by decide +kernel), by decide +kernel, by decide +kernel, by decide +kernel, by decide +kernel⟩
abbrev mX12_copy : zM := (yX12_copy, cX12_copy, 7, some .int)
theorem lX12_copy : zLc mX12_copy 5 := ⟨zin 986 (by decide +kernel) (by decide +kernel), zin 66 (by decide +kernel) (by decide +kernel), by decide +kernel, by decide +kernel, by decide +kernel, by decide +kernel⟩
abbrev mX12_drop : zM := (yX12_drop, cX12_drop, 2, some .int)
theorem lX12_drop : zLc mX12_drop 1 := ⟨zin 994 (by decide +kernel) (by decide +kernel), zin 66 (by decide +kernel) (by decide +kernel), by decide +kernel, by decide +kernel, by decide +kernel, by decide +kernel⟩
abbrev mX12_feed : zM := (yX12_feed, cX12_feed, 2, some .int)
theorem lX12_feed : zLc mX12_feed 1 := ⟨zin 998 (by decide +kernel) (by decide +kernel), zin 66 (by decide +kernel) (by decide +kernel), by decide +kernel, by decide +kernel, by decide +kernel, by decide +kernel⟩
abbrev mX12_byteAt : zM := (yX12_byteAt, cX12_byteAt, 2, some .int)
theorem lX12_byteAt : zLc mX12_byteAt 1 := ⟨zin 1011 (by decide +kernel) (by decide +kernel), zin 66 (by decide +kernel) (by decide +kernel), by decide +kernel, by decide +kernel, by decide +kernel, by decide +kernel⟩
abbrev mX12_advances : zM := (yX12_advances, cX12_advances, 2, none)
theorem lX12_advances : zLc mX12_advances 0 := ⟨zin 1007 (by decide +kernel) (by decide +kernel), zin 66 (by decide +kernel) (by decide +kernel), by decide +kernel, by decide +kernel, by decide +kernel, by decide +kernel⟩
abbrev mX12_isWell : zM := (yX12_isWell, cX12_isWell, 1, some .boolean)
theorem lX12_isWell : zLc mX12_isWell 0 := ⟨zin 1019 (by decide +kernel) (by decide +kernel), zin 66 (by decide +kernel) (by decide +kernel), by decide +kernel, by decide +kernel, by decide +kernel, by decide +kernel⟩
abbrev mX12_takes : zM := (yX12_takes, cX12_takes, 4, some .int)
theorem lX12_takes : zLc mX12_takes 2 := ⟨zin 1015 (by decide +kernel) (by decide +kernel), zin 66 (by decide +kernel) (by decide +kernel), by decide +kernel, by decide +kernel, by decide +kernel, by decide +kernel⟩
abbrev mX12_figure : zM := (yX12_figure, cX12_figure, 3, some .int)
theorem lX12_figure : zLc mX12_figure 2 := ⟨zin 1023 (by decide +kernel) (by decide +kernel), zin 66 (by decide +kernel) (by decide +kernel), by decide +kernel, by decide +kernel, by decide +kernel, by decide +kernel⟩
abbrev mX12_kindOf : zM := (yX12_kindOf, cX12_kindOf, 1, some .int)
theorem lX12_kindOf : zLc mX12_kindOf 1 := ⟨zin 1030 (by decide +kernel) (by decide +kernel), zin 66 (by decide +kernel) (by decide +kernel), by decide +kernel, by decide +kernel, by decide +kernel, by decide +kernel⟩
abbrev mX12_next : zM := (yX12_next, cX12_next, 3, some .int)
theorem lX12_next : zLc mX12_next 2 := ⟨zin 1027 (by decide +kernel) (by decide +kernel), zin 66 (by decide +kernel) (by decide +kernel), by decide +kernel, by decide +kernel, by decide +kernel, by decide +kernel⟩
abbrev mX12_readsPerson : zM := (yX12_readsPerson, cX12_readsPerson, 6, none)
theorem lX12_readsPerson : zLc mX12_readsPerson 0 := ⟨zin 1034 (by decide +kernel) (by decide +kernel), zin 66 (by decide +kernel) (by decide +kernel), by decide +kernel, by decide +kernel, by decide +kernel, by decide +kernel⟩
abbrev mX12_line : zM := (yX12_line, cX12_line, 2, some .int)
theorem lX12_line : zLc mX12_line 0 := ⟨zin 1003 (by decide +kernel) (by decide +kernel), zin 66 (by decide +kernel) (by decide +kernel), by decide +kernel, by decide +kernel, by decide +kernel, by decide +kernel⟩
abbrev mX12_fault : zM := (yX12_fault, cX12_fault, 1, some .int)
theorem lX12_fault : zLc mX12_fault 0 := ⟨zin 1042 (by decide +kernel) (by decide +kernel), zin 66 (by decide +kernel) (by decide +kernel), by decide +kernel, by decide +kernel, by decide +kernel, by decide +kernel⟩
abbrev mX12_isLine : zM := (yX12_isLine, cX12_isLine, 1, some .boolean)
theorem lX12_isLine : zLc mX12_isLine 0 := ⟨zin 1050 (by decide +kernel) (by decide +kernel), zin 66 (by decide +kernel) (by decide +kernel), by decide +kernel, by decide +kernel, by decide +kernel, by decide +kernel⟩
abbrev mX12_isPerson : zM := (yX12_isPerson, cX12_isPerson, 2, some .boolean)
theorem lX12_isPerson : zLc mX12_isPerson 1 := ⟨zin 1093 (by decide +kernel) (by decide +kernel), zin 66 (by decide +kernel) (by decide +kernel), by decide +kernel, by decide +kernel, by decide +kernel, by decide +kernel⟩
abbrev mX12_isStop : zM := (yX12_isStop, cX12_isStop, 2, some .boolean)
theorem lX12_isStop : zLc mX12_isStop 1 := ⟨zin 1097 (by decide +kernel) (by decide +kernel), zin 66 (by decide +kernel) (by decide +kernel), by decide +kernel, by decide +kernel, by decide +kernel, by decide +kernel⟩
abbrev mX12_isFar : zM := (yX12_isFar, cX12_isFar, 1, some .boolean)
theorem lX12_isFar : zLc mX12_isFar 1 := ⟨zin 1128 (by decide +kernel) (by decide +kernel), zin 66 (by decide +kernel) (by decide +kernel), by decide +kernel, by decide +kernel, by decide +kernel, by decide +kernel⟩
abbrev mX12_atStop : zM := (yX12_atStop, cX12_atStop, 4, some .int)
theorem lX12_atStop : zLc mX12_atStop 2 := ⟨zin 1073 (by decide +kernel) (by decide +kernel), zin 66 (by decide +kernel) (by decide +kernel), by decide +kernel, by decide +kernel, by decide +kernel, by decide +kernel⟩
abbrev mX12_hopes : zM := (yX12_hopes, cX12_hopes, 5, some .int)
theorem lX12_hopes : zLc mX12_hopes 2 := ⟨zin 1070 (by decide +kernel) (by decide +kernel), zin 66 (by decide +kernel) (by decide +kernel), by decide +kernel, by decide +kernel, by decide +kernel, by decide +kernel⟩
abbrev mX12_hope : zM := (yX12_hope, cX12_hope, 5, some .int)
theorem lX12_hope : zLc mX12_hope 3 := ⟨zin 1064 (by decide +kernel) (by decide +kernel), zin 66 (by decide +kernel) (by decide +kernel), by decide +kernel, by decide +kernel, by decide +kernel, by decide +kernel⟩
abbrev mX12_holds : zM := (yX12_holds, cX12_holds, 2, some .boolean)
theorem lX12_holds : zLc mX12_holds 2 := ⟨zin 1079 (by decide +kernel) (by decide +kernel), zin 66 (by decide +kernel) (by decide +kernel), by decide +kernel, by decide +kernel, by decide +kernel, by decide +kernel⟩
abbrev mX12_tramBy : zM := (yX12_tramBy, cX12_tramBy, 6, some .int)
theorem lX12_tramBy : zLc mX12_tramBy 2 := ⟨zin 1061 (by decide +kernel) (by decide +kernel), zin 66 (by decide +kernel) (by decide +kernel), by decide +kernel, by decide +kernel, by decide +kernel, by decide +kernel⟩
abbrev mX12_isThere : zM := (yX12_isThere, cX12_isThere, 2, some .boolean)
theorem lX12_isThere : zLc mX12_isThere 2 := ⟨zin 1082 (by decide +kernel) (by decide +kernel), zin 66 (by decide +kernel) (by decide +kernel), by decide +kernel, by decide +kernel, by decide +kernel, by decide +kernel⟩
abbrev mX12_thereIn : zM := (yX12_thereIn, cX12_thereIn, 3, some .int)
theorem lX12_thereIn : zLc mX12_thereIn 1 := ⟨zin 1085 (by decide +kernel) (by decide +kernel), zin 66 (by decide +kernel) (by decide +kernel), by decide +kernel, by decide +kernel, by decide +kernel, by decide +kernel⟩
abbrev mX12_everybody : zM := (yX12_everybody, cX12_everybody, 1, some .int)
theorem lX12_everybody : zLc mX12_everybody 1 := ⟨zin 1155 (by decide +kernel) (by decide +kernel), zin 66 (by decide +kernel) (by decide +kernel), by decide +kernel, by decide +kernel, by decide +kernel, by decide +kernel⟩
abbrev mX12_passes : zM := (yX12_passes, cX12_passes, 5, none)
theorem lX12_passes : zLc mX12_passes 2 := ⟨zin 1058 (by decide +kernel) (by decide +kernel), zin 66 (by decide +kernel) (by decide +kernel), by decide +kernel, by decide +kernel, by decide +kernel, by decide +kernel⟩
abbrev mX12_tries : zM := (yX12_tries, cX12_tries, 3, none)
theorem lX12_tries : zLc mX12_tries 1 := ⟨zin 1132 (by decide +kernel) (by decide +kernel), zin 66 (by decide +kernel) (by decide +kernel), by decide +kernel, by decide +kernel, by decide +kernel, by decide +kernel⟩
abbrev mX12_notes : zM := (yX12_notes, cX12_notes, 2, none)
theorem lX12_notes : zLc mX12_notes 0 := ⟨zin 1055 (by decide +kernel) (by decide +kernel), zin 66 (by decide +kernel) (by decide +kernel), by decide +kernel, by decide +kernel, by decide +kernel, by decide +kernel⟩
abbrev mX12_minutes : zM := (yX12_minutes, cX12_minutes, 3, some .int)
theorem lX12_minutes : zLc mX12_minutes 1 := ⟨zin 1046 (by decide +kernel) (by decide +kernel), zin 66 (by decide +kernel) (by decide +kernel), by decide +kernel, by decide +kernel, by decide +kernel, by decide +kernel⟩
abbrev mX12_walk : zM := (yX12_walk, cX12_walk, 5, some .int)
theorem lX12_walk : zLc mX12_walk 2 := ⟨zin 1089 (by decide +kernel) (by decide +kernel), zin 66 (by decide +kernel) (by decide +kernel), by decide +kernel, by decide +kernel, by decide +kernel, by decide +kernel⟩
abbrev mX12_puts : zM := (yX12_puts, cX12_puts, 4, some .int)
theorem lX12_puts : zLc mX12_puts 2 := ⟨zin 1105 (by decide +kernel) (by decide +kernel), zin 66 (by decide +kernel) (by decide +kernel), by decide +kernel, by decide +kernel, by decide +kernel, by decide +kernel⟩
abbrev mX12_preach : zM := (yX12_preach, cX12_preach, 3, some .int)
theorem lX12_preach : zLc mX12_preach 2 := ⟨zin 1101 (by decide +kernel) (by decide +kernel), zin 66 (by decide +kernel) (by decide +kernel), by decide +kernel, by decide +kernel, by decide +kernel, by decide +kernel⟩
abbrev mX12_wish : zM := (yX12_wish, cX12_wish, 3, some .int)
theorem lX12_wish : zLc mX12_wish 2 := ⟨zin 1109 (by decide +kernel) (by decide +kernel), zin 66 (by decide +kernel) (by decide +kernel), by decide +kernel, by decide +kernel, by decide +kernel, by decide +kernel⟩
abbrev mX12_undo : zM := (yX12_undo, cX12_undo, 1, some .int)
theorem lX12_undo : zLc mX12_undo 0 := ⟨zin 1113 (by decide +kernel) (by decide +kernel), zin 66 (by decide +kernel) (by decide +kernel), by decide +kernel, by decide +kernel, by decide +kernel, by decide +kernel⟩
abbrev mX12_person : zM := (yX12_person, cX12_person, 3, some .int)
theorem lX12_person : zLc mX12_person 2 := ⟨zin 1117 (by decide +kernel) (by decide +kernel), zin 66 (by decide +kernel) (by decide +kernel), by decide +kernel, by decide +kernel, by decide +kernel, by decide +kernel⟩
abbrev mX12_stop : zM := (yX12_stop, cX12_stop, 3, some .int)
theorem lX12_stop : zLc mX12_stop 2 := ⟨zin 1121 (by decide +kernel) (by decide +kernel), zin 66 (by decide +kernel) (by decide +kernel), by decide +kernel, by decide +kernel, by decide +kernel, by decide +kernel⟩
abbrev mX12_where : zM := (yX12_where, cX12_where, 3, some .int)
theorem lX12_where : zLc mX12_where 2 := ⟨zin 1125 (by decide +kernel) (by decide +kernel), zin 66 (by decide +kernel) (by decide +kernel), by decide +kernel, by decide +kernel, by decide +kernel, by decide +kernel⟩
abbrev mX12_tram : zM := (yX12_tram, cX12_tram, 2, some .int)
theorem lX12_tram : zLc mX12_tram 1 := ⟨zin 1136 (by decide +kernel) (by decide +kernel), zin 66 (by decide +kernel) (by decide +kernel), by decide +kernel, by decide +kernel, by decide +kernel, by decide +kernel⟩
abbrev mX12_there : zM := (yX12_there, cX12_there, 2, some .int)
theorem lX12_there : zLc mX12_there 1 := ⟨zin 1140 (by decide +kernel) (by decide +kernel), zin 66 (by decide +kernel) (by decide +kernel), by decide +kernel, by decide +kernel, by decide +kernel, by decide +kernel⟩
abbrev mX12_behind : zM := (yX12_behind, cX12_behind, 5, some .int)
theorem lX12_behind : zLc mX12_behind 3 := ⟨zin 1148 (by decide +kernel) (by decide +kernel), zin 66 (by decide +kernel) (by decide +kernel), by decide +kernel, by decide +kernel, by decide +kernel, by decide +kernel⟩
abbrev mX12_when : zM := (yX12_when, cX12_when, 2, some .int)
theorem lX12_when : zLc mX12_when 1 := ⟨zin 1144 (by decide +kernel) (by decide +kernel), zin 66 (by decide +kernel) (by decide +kernel), by decide +kernel, by decide +kernel, by decide +kernel, by decide +kernel⟩
abbrev mX12_all : zM := (yX12_all, cX12_all, 1, some .int)
theorem lX12_all : zLc mX12_all 0 := ⟨zin 1152 (by decide +kernel) (by decide +kernel), zin 66 (by decide +kernel) (by decide +kernel), by decide +kernel, by decide +kernel, by decide +kernel, by decide +kernel⟩
abbrev mX12_never : zM := (yX12_never, cX12_never, 3, some .int)
theorem lX12_never : zLc mX12_never 0 := ⟨zin 1159 (by decide +kernel) (by decide +kernel), zin 66 (by decide +kernel) (by decide +kernel), by decide +kernel, by decide +kernel, by decide +kernel, by decide +kernel⟩
abbrev mX12_holding : zM := (yX12_holding, cX12_holding, 3, some .int)
theorem lX12_holding : zLc mX12_holding 0 := ⟨zin 1163 (by decide +kernel) (by decide +kernel), zin 66 (by decide +kernel) (by decide +kernel), by decide +kernel, by decide +kernel, by decide +kernel, by decide +kernel⟩
abbrev mX12_call : zM := (yX12_call, cX12_call, 5, some .int)
theorem lX12_call : zLc mX12_call 2 := ⟨zin 1167 (by decide +kernel) (by decide +kernel), zin 66 (by decide +kernel) (by decide +kernel), by decide +kernel, by decide +kernel, by decide +kernel, by decide +kernel⟩
abbrev mX12_go : zM := (yX12_go, cX12_go, 9, some .int)
theorem lX12_go : zLc mX12_go 2 := ⟨zin 1171 (by decide +kernel) (by decide +kernel), zin 66 (by decide +kernel) (by decide +kernel), by decide +kernel, by decide +kernel, by decide +kernel, by decide +kernel⟩
abbrev mX12_walkers : zM := (yX12_walkers, cX12_walkers, 5, some .int)
theorem lX12_walkers : zLc mX12_walkers 2 := ⟨zin 1175 (by decide +kernel) (by decide +kernel), zin 66 (by decide +kernel) (by decide +kernel), by decide +kernel, by decide +kernel, by decide +kernel, by decide +kernel⟩
abbrev mX12_goesSo : zM := (yX12_goesSo, cX12_goesSo, 6, some .boolean)
theorem lX12_goesSo : zLc mX12_goesSo 2 := ⟨zin 1183 (by decide +kernel) (by decide +kernel), zin 66 (by decide +kernel) (by decide +kernel), by decide +kernel, by decide +kernel, by decide +kernel, by decide +kernel⟩
abbrev mX12_fits : zM := (yX12_fits, cX12_fits, 9, some .int)
theorem lX12_fits : zLc mX12_fits 5 := ⟨zin 1179 (by decide +kernel) (by decide +kernel), zin 66 (by decide +kernel) (by decide +kernel), by decide +kernel, by decide +kernel, by decide +kernel, by decide +kernel⟩
abbrev mX12_bounds : zM := (yX12_bounds, cX12_bounds, 6, some .int)
theorem lX12_bounds : zLc mX12_bounds 3 := ⟨zin 1187 (by decide +kernel) (by decide +kernel), zin 66 (by decide +kernel) (by decide +kernel), by decide +kernel, by decide +kernel, by decide +kernel, by decide +kernel⟩
abbrev mX12_rain : zM := (yX12_rain, cX12_rain, 9, some .int)
theorem lX12_rain : zLc mX12_rain 3 := ⟨zin 1191 (by decide +kernel) (by decide +kernel), zin 66 (by decide +kernel) (by decide +kernel), by decide +kernel, by decide +kernel, by decide +kernel, by decide +kernel⟩
abbrev mX12_drawn : zM := (yX12_drawn, cX12_drawn, 8, some .int)
theorem lX12_drawn : zLc mX12_drawn 3 := ⟨zin 1195 (by decide +kernel) (by decide +kernel), zin 66 (by decide +kernel) (by decide +kernel), by decide +kernel, by decide +kernel, by decide +kernel, by decide +kernel⟩
abbrev mX12_image : zM := (yX12_image, cX12_image, 2, some .int)
theorem lX12_image : zLc mX12_image 1 := ⟨zin 1203 (by decide +kernel) (by decide +kernel), zin 66 (by decide +kernel) (by decide +kernel), by decide +kernel, by decide +kernel, by decide +kernel, by decide +kernel⟩
abbrev mX12_restore : zM := (yX12_restore, cX12_restore, 2, some .int)
theorem lX12_restore : zLc mX12_restore 1 := ⟨zin 1207 (by decide +kernel) (by decide +kernel), zin 66 (by decide +kernel) (by decide +kernel), by decide +kernel, by decide +kernel, by decide +kernel, by decide +kernel⟩
abbrev mX12_kindIn : zM := (yX12_kindIn, cX12_kindIn, 2, some .int)
theorem lX12_kindIn : zLc mX12_kindIn 1 := ⟨zin 1215 (by decide +kernel) (by decide +kernel), zin 66 (by decide +kernel) (by decide +kernel), by decide +kernel, by decide +kernel, by decide +kernel, by decide +kernel⟩
abbrev mX12_kind : zM := (yX12_kind, cX12_kind, 2, some .int)
theorem lX12_kind : zLc mX12_kind 1 := ⟨zin 1211 (by decide +kernel) (by decide +kernel), zin 66 (by decide +kernel) (by decide +kernel), by decide +kernel, by decide +kernel, by decide +kernel, by decide +kernel⟩
abbrev mX12_as : zM := (yX12_as, cX12_as, 5, some .int)
theorem lX12_as : zLc mX12_as 2 := ⟨zin 1219 (by decide +kernel) (by decide +kernel), zin 66 (by decide +kernel) (by decide +kernel), by decide +kernel, by decide +kernel, by decide +kernel, by decide +kernel⟩
abbrev mX12_begins : zM := (yX12_begins, cX12_begins, 2, none)
theorem lX12_begins : zLc mX12_begins 1 := ⟨zin 1231 (by decide +kernel) (by decide +kernel), zin 66 (by decide +kernel) (by decide +kernel), by decide +kernel, by decide +kernel, by decide +kernel, by decide +kernel⟩
abbrev mX12_plainMark : zM := (yX12_plainMark, cX12_plainMark, 4, some .int)
theorem lX12_plainMark : zLc mX12_plainMark 1 := ⟨zin 1239 (by decide +kernel) (by decide +kernel), zin 66 (by decide +kernel) (by decide +kernel), by decide +kernel, by decide +kernel, by decide +kernel, by decide +kernel⟩
abbrev mX12_childSize : zM := (yX12_childSize, cX12_childSize, 4, some .int)
theorem lX12_childSize : zLc mX12_childSize 1 := ⟨zin 1227 (by decide +kernel) (by decide +kernel), zin 66 (by decide +kernel) (by decide +kernel), by decide +kernel, by decide +kernel, by decide +kernel, by decide +kernel⟩
abbrev mX12_plainSize : zM := (yX12_plainSize, cX12_plainSize, 4, some .int)
theorem lX12_plainSize : zLc mX12_plainSize 1 := ⟨zin 1235 (by decide +kernel) (by decide +kernel), zin 66 (by decide +kernel) (by decide +kernel), by decide +kernel, by decide +kernel, by decide +kernel, by decide +kernel⟩
abbrev mX12_childMark : zM := (yX12_childMark, cX12_childMark, 2, some .int)
theorem lX12_childMark : zLc mX12_childMark 1 := ⟨zin 1243 (by decide +kernel) (by decide +kernel), zin 66 (by decide +kernel) (by decide +kernel), by decide +kernel, by decide +kernel, by decide +kernel, by decide +kernel⟩
abbrev mX12_ask : zM := (yX12_ask, cX12_ask, 4, some .int)
theorem lX12_ask : zLc mX12_ask 2 := ⟨zin 1223 (by decide +kernel) (by decide +kernel), zin 66 (by decide +kernel) (by decide +kernel), by decide +kernel, by decide +kernel, by decide +kernel, by decide +kernel⟩
abbrev mX12_trace : zM := (yX12_trace, cX12_trace, 2, some .int)
theorem lX12_trace : zLc mX12_trace 1 := ⟨zin 1247 (by decide +kernel) (by decide +kernel), zin 66 (by decide +kernel) (by decide +kernel), by decide +kernel, by decide +kernel, by decide +kernel, by decide +kernel⟩
abbrev mX12_count : zM := (yX12_count, cX12_count, 4, some .int)
theorem lX12_count : zLc mX12_count 1 := ⟨zin 1251 (by decide +kernel) (by decide +kernel), zin 66 (by decide +kernel) (by decide +kernel), by decide +kernel, by decide +kernel, by decide +kernel, by decide +kernel⟩
abbrev mX12_status : zM := (yX12_status, cX12_status, 1, some .int)
theorem lX12_status : zLc mX12_status 0 := ⟨zin 1255 (by decide +kernel) (by decide +kernel), zin 66 (by decide +kernel) (by decide +kernel), by decide +kernel, by decide +kernel, by decide +kernel, by decide +kernel⟩
abbrev mJ11_isValidCodePoint_9a6ad : zM := (yJ11_isValidCodePoint_9a6ad, cJ11_isValidCodePoint_9a6ad, 2, some .boolean)
theorem lJ11_isValidCodePoint_9a6ad : zLc mJ11_isValidCodePoint_9a6ad 1 := ⟨zin 490 (by decide +kernel) (by decide +kernel), zin 73 (by decide +kernel) (by decide +kernel), by decide +kernel, by decide +kernel, by decide +kernel, by decide +kernel⟩
abbrev mJ11_highSurrogate_5068e : zM := (yJ11_highSurrogate_5068e, cJ11_highSurrogate_5068e, 1, some .char)
theorem lJ11_highSurrogate_5068e : zLc mJ11_highSurrogate_5068e 1 := ⟨zin 493 (by decide +kernel) (by decide +kernel), zin 73 (by decide +kernel) (by decide +kernel), by decide +kernel, by decide +kernel, by decide +kernel, by decide +kernel⟩
abbrev mJ11_lowSurrogate_5068e : zM := (yJ11_lowSurrogate_5068e, cJ11_lowSurrogate_5068e, 1, some .char)
theorem lJ11_lowSurrogate_5068e : zLc mJ11_lowSurrogate_5068e 1 := ⟨zin 497 (by decide +kernel) (by decide +kernel), zin 73 (by decide +kernel) (by decide +kernel), by decide +kernel, by decide +kernel, by decide +kernel, by decide +kernel⟩
abbrev mJ6_bitCount_0f7a4 : zM := (yJ6_bitCount_0f7a4, cJ6_bitCount_0f7a4, 1, some .int)
theorem lJ6_bitCount_0f7a4 : zLc mJ6_bitCount_0f7a4 1 := ⟨zin 639 (by decide +kernel) (by decide +kernel), zin 74 (by decide +kernel) (by decide +kernel), by decide +kernel, by decide +kernel, by decide +kernel, by decide +kernel⟩
abbrev mJ9_max_7cf53 : zM := (yJ9_max_7cf53, cJ9_max_7cf53, 2, some .int)
theorem lJ9_max_7cf53 : zLc mJ9_max_7cf53 2 := ⟨zin 443 (by decide +kernel) (by decide +kernel), zin 70 (by decide +kernel) (by decide +kernel), by decide +kernel, by decide +kernel, by decide +kernel, by decide +kernel⟩
abbrev mJ9_min_7cf53 : zM := (yJ9_min_7cf53, cJ9_min_7cf53, 2, some .int)
theorem lJ9_min_7cf53 : zLc mJ9_min_7cf53 2 := ⟨zin 446 (by decide +kernel) (by decide +kernel), zin 70 (by decide +kernel) (by decide +kernel), by decide +kernel, by decide +kernel, by decide +kernel, by decide +kernel⟩
abbrev mJ0_length_8abf5 : zM := (yJ0_length_8abf5, cJ0_length_8abf5, 1, some .int)
theorem lJ0_length_8abf5 : zLc mJ0_length_8abf5 0 := ⟨zin 430 (by decide +kernel) (by decide +kernel), zin 68 (by decide +kernel) (by decide +kernel), by decide +kernel, by decide +kernel, by decide +kernel, by decide +kernel⟩
abbrev mJ0_indexOf_0f7a4 : zM := (yJ0_indexOf_0f7a4, cJ0_indexOf_0f7a4, 2, some .int)
theorem lJ0_indexOf_0f7a4 : zLc mJ0_indexOf_0f7a4 1 := ⟨zin 416 (by decide +kernel) (by decide +kernel), zin 68 (by decide +kernel) (by decide +kernel), by decide +kernel, by decide +kernel, by decide +kernel, by decide +kernel⟩
abbrev mJ0_indexOf_7cf53 : zM := (yJ0_indexOf_7cf53, cJ0_indexOf_7cf53, 3, some .int)
theorem lJ0_indexOf_7cf53 : zLc mJ0_indexOf_7cf53 2 := ⟨zin 420 (by decide +kernel) (by decide +kernel), zin 68 (by decide +kernel) (by decide +kernel), by decide +kernel, by decide +kernel, by decide +kernel, by decide +kernel⟩
abbrev mJ0_coder_7d493 : zM := (yJ0_coder_7d493, cJ0_coder_7d493, 1, some .byte)
theorem lJ0_coder_7d493 : zLc mJ0_coder_7d493 0 := ⟨zin 434 (by decide +kernel) (by decide +kernel), zin 68 (by decide +kernel) (by decide +kernel), by decide +kernel, by decide +kernel, by decide +kernel, by decide +kernel⟩
abbrev mJ0_isLatin1_aae02 : zM := (yJ0_isLatin1_aae02, cJ0_isLatin1_aae02, 1, some .boolean)
theorem lJ0_isLatin1_aae02 : zLc mJ0_isLatin1_aae02 0 := ⟨zin 424 (by decide +kernel) (by decide +kernel), zin 68 (by decide +kernel) (by decide +kernel), by decide +kernel, by decide +kernel, by decide +kernel, by decide +kernel⟩
abbrev mJ0_checkBoundsBeginEnd_23922 : zM := (yJ0_checkBoundsBeginEnd_23922, cJ0_checkBoundsBeginEnd_23922, 3, none)
theorem lJ0_checkBoundsBeginEnd_23922 : zLc mJ0_checkBoundsBeginEnd_23922 3 := ⟨zin 467 (by decide +kernel) (by decide +kernel), zin 68 (by decide +kernel) (by decide +kernel), by decide +kernel, by decide +kernel, by decide +kernel, by decide +kernel⟩
abbrev mJ1_canEncode_9a6ad : zM := (yJ1_canEncode_9a6ad, cJ1_canEncode_9a6ad, 1, some .boolean)
theorem lJ1_canEncode_9a6ad : zLc mJ1_canEncode_9a6ad 1 := ⟨zin 440 (by decide +kernel) (by decide +kernel), zin 69 (by decide +kernel) (by decide +kernel), by decide +kernel, by decide +kernel, by decide +kernel, by decide +kernel⟩
abbrev mJ1_indexOf_4cfef : zM := (yJ1_indexOf_4cfef, cJ1_indexOf_4cfef, 4, some .int)
theorem lJ1_indexOf_4cfef : zLc mJ1_indexOf_4cfef 4 := ⟨zin 437 (by decide +kernel) (by decide +kernel), zin 69 (by decide +kernel) (by decide +kernel), by decide +kernel, by decide +kernel, by decide +kernel, by decide +kernel⟩
abbrev mJ1_indexOfChar_4cfef : zM := (yJ1_indexOfChar_4cfef, cJ1_indexOfChar_4cfef, 6, some .int)
theorem lJ1_indexOfChar_4cfef : zLc mJ1_indexOfChar_4cfef 4 := ⟨zin 449 (by decide +kernel) (by decide +kernel), zin 69 (by decide +kernel) (by decide +kernel), by decide +kernel, by decide +kernel, by decide +kernel, by decide +kernel⟩
abbrev mJ2_getChar_3b067 : zM := (yJ2_getChar_3b067, cJ2_getChar_3b067, 2, some .char)
theorem lJ2_getChar_3b067 : zLc mJ2_getChar_3b067 2 := ⟨zin 478 (by decide +kernel) (by decide +kernel), zin 71 (by decide +kernel) (by decide +kernel), by decide +kernel, by decide +kernel, by decide +kernel, by decide +kernel⟩
abbrev mJ2_length_9d52b : zM := (yJ2_length_9d52b, cJ2_length_9d52b, 1, some .int)
theorem lJ2_length_9d52b : zLc mJ2_length_9d52b 1 := ⟨zin 464 (by decide +kernel) (by decide +kernel), zin 71 (by decide +kernel) (by decide +kernel), by decide +kernel, by decide +kernel, by decide +kernel, by decide +kernel⟩
abbrev mJ2_indexOf_4cfef : zM := (yJ2_indexOf_4cfef, cJ2_indexOf_4cfef, 4, some .int)
theorem lJ2_indexOf_4cfef : zLc mJ2_indexOf_4cfef 4 := ⟨zin 452 (by decide +kernel) (by decide +kernel), zin 71 (by decide +kernel) (by decide +kernel), by decide +kernel, by decide +kernel, by decide +kernel, by decide +kernel⟩
abbrev mJ2_indexOfChar_4cfef : zM := (yJ2_indexOfChar_4cfef, cJ2_indexOfChar_4cfef, 4, some .int)
theorem lJ2_indexOfChar_4cfef : zLc mJ2_indexOfChar_4cfef 4 := ⟨zin 458 (by decide +kernel) (by decide +kernel), zin 71 (by decide +kernel) (by decide +kernel), by decide +kernel, by decide +kernel, by decide +kernel, by decide +kernel⟩
abbrev mJ2_indexOfCharUnsafe_4cfef : zM := (yJ2_indexOfCharUnsafe_4cfef, cJ2_indexOfCharUnsafe_4cfef, 5, some .int)
theorem lJ2_indexOfCharUnsafe_4cfef : zLc mJ2_indexOfCharUnsafe_4cfef 4 := ⟨zin 475 (by decide +kernel) (by decide +kernel), zin 71 (by decide +kernel) (by decide +kernel), by decide +kernel, by decide +kernel, by decide +kernel, by decide +kernel⟩
abbrev mJ2_indexOfSupplementary_4cfef : zM := (yJ2_indexOfSupplementary_4cfef, cJ2_indexOfSupplementary_4cfef, 7, some .int)
theorem lJ2_indexOfSupplementary_4cfef : zLc mJ2_indexOfSupplementary_4cfef 4 := ⟨zin 487 (by decide +kernel) (by decide +kernel), zin 71 (by decide +kernel) (by decide +kernel), by decide +kernel, by decide +kernel, by decide +kernel, by decide +kernel⟩
abbrev mJ2_checkBoundsBeginEnd_d044e : zM := (yJ2_checkBoundsBeginEnd_d044e, cJ2_checkBoundsBeginEnd_d044e, 3, none)
theorem lJ2_checkBoundsBeginEnd_d044e : zLc mJ2_checkBoundsBeginEnd_d044e 3 := ⟨zin 461 (by decide +kernel) (by decide +kernel), zin 71 (by decide +kernel) (by decide +kernel), by decide +kernel, by decide +kernel, by decide +kernel, by decide +kernel⟩
abbrev mJ7_fill_53178 : zM := (yJ7_fill_53178, cJ7_fill_53178, 4, none)
theorem lJ7_fill_53178 : zLc mJ7_fill_53178 2 := ⟨zin 133 (by decide +kernel) (by decide +kernel), zin 61 (by decide +kernel) (by decide +kernel), by decide +kernel, by decide +kernel, by decide +kernel, by decide +kernel⟩
abbrev mJ3_checkFromToIndex_8c36e : zM := (yJ3_checkFromToIndex_8c36e, cJ3_checkFromToIndex_8c36e, 4, some .int)
theorem lJ3_checkFromToIndex_8c36e : zLc mJ3_checkFromToIndex_8c36e 4 := ⟨zin 472 (by decide +kernel) (by decide +kernel), zin 72 (by decide +kernel) (by decide +kernel), by decide +kernel, by decide +kernel, by decide +kernel, by decide +kernel⟩
theorem sX8_23 : zLs RX8 23 mJ7_fill_53178 2 := ⟨lJ7_fill_53178, zin 131 (by decide +kernel) (by decide +kernel), zin 132 (by decide +kernel) (by decide +kernel)⟩
theorem sL_13 : zLv RL 13 mX11_row 3 := ⟨lX11_row, zin 302 (by decide +kernel) (by decide +kernel), zin 303 (by decide +kernel) (by decide +kernel), zin 304 (by decide +kernel) (by decide +kernel)⟩
theorem sX11_70 : zLs RX11 70 mX11_isRow 1 := ⟨lX11_isRow, zin 306 (by decide +kernel) (by decide +kernel), zin 307 (by decide +kernel) (by decide +kernel)⟩
theorem sX11_74 : zLs RX11 74 mX11_isWithin 3 := ⟨lX11_isWithin, zin 309 (by decide +kernel) (by decide +kernel), zin 310 (by decide +kernel) (by decide +kernel)⟩
theorem sX11_79 : zLv RX11 79 mX11_found 1 := ⟨lX11_found, zin 313 (by decide +kernel) (by decide +kernel), zin 315 (by decide +kernel) (by decide +kernel), zin 0 (by decide +kernel) (by decide +kernel)⟩
theorem sX11_83 : zLv RX11 83 mX8_make 3 := ⟨lX8_make, zin 318 (by decide +kernel) (by decide +kernel), zin 319 (by decide +kernel) (by decide +kernel), zin 320 (by decide +kernel) (by decide +kernel)⟩
theorem sX11_87 : zLv RX11 87 mX11_foundNothing 1 := ⟨lX11_foundNothing, zin 322 (by decide +kernel) (by decide +kernel), zin 324 (by decide +kernel) (by decide +kernel), zin 1 (by decide +kernel) (by decide +kernel)⟩
theorem sL_18 : zLv RL 18 mX11_set 3 := ⟨lX11_set, zin 326 (by decide +kernel) (by decide +kernel), zin 327 (by decide +kernel) (by decide +kernel), zin 328 (by decide +kernel) (by decide +kernel)⟩
theorem sX11_90 : zLv RX11 90 mX8_findingOf 3 := ⟨lX8_findingOf, zin 330 (by decide +kernel) (by decide +kernel), zin 331 (by decide +kernel) (by decide +kernel), zin 332 (by decide +kernel) (by decide +kernel)⟩
theorem sX8_29 : zLv RX8 29 mX8_isMissing 1 := ⟨lX8_isMissing, zin 334 (by decide +kernel) (by decide +kernel), zin 335 (by decide +kernel) (by decide +kernel), zin 336 (by decide +kernel) (by decide +kernel)⟩
theorem sX8_39 : zLv RX8 39 mX8_hasSpan 3 := ⟨lX8_hasSpan, zin 338 (by decide +kernel) (by decide +kernel), zin 340 (by decide +kernel) (by decide +kernel), zin 2 (by decide +kernel) (by decide +kernel)⟩
theorem sX11_94 : zLv RX11 94 mX8_put 3 := ⟨lX8_put, zin 342 (by decide +kernel) (by decide +kernel), zin 343 (by decide +kernel) (by decide +kernel), zin 344 (by decide +kernel) (by decide +kernel)⟩
theorem sL_22 : zLv RL 22 mX11_copy 5 := ⟨lX11_copy, zin 346 (by decide +kernel) (by decide +kernel), zin 347 (by decide +kernel) (by decide +kernel), zin 348 (by decide +kernel) (by decide +kernel)⟩
theorem sX11_97 : zLv RX11 97 mX8_findingOfMove 5 := ⟨lX8_findingOfMove, zin 350 (by decide +kernel) (by decide +kernel), zin 351 (by decide +kernel) (by decide +kernel), zin 352 (by decide +kernel) (by decide +kernel)⟩
theorem sX11_101 : zLv RX11 101 mX8_move 5 := ⟨lX8_move, zin 354 (by decide +kernel) (by decide +kernel), zin 355 (by decide +kernel) (by decide +kernel), zin 356 (by decide +kernel) (by decide +kernel)⟩
theorem sL_27 : zLv RL 27 mX11_drop 1 := ⟨lX11_drop, zin 361 (by decide +kernel) (by decide +kernel), zin 362 (by decide +kernel) (by decide +kernel), zin 363 (by decide +kernel) (by decide +kernel)⟩
theorem sX11_105 : zLv RX11 105 mX8_isMissing 1 := ⟨lX8_isMissing, zin 365 (by decide +kernel) (by decide +kernel), zin 335 (by decide +kernel) (by decide +kernel), zin 336 (by decide +kernel) (by decide +kernel)⟩
theorem sX11_108 : zLv RX11 108 mX8_remove 1 := ⟨lX8_remove, zin 366 (by decide +kernel) (by decide +kernel), zin 367 (by decide +kernel) (by decide +kernel), zin 368 (by decide +kernel) (by decide +kernel)⟩
theorem sL_32 : zLv RL 32 mX11_feed 1 := ⟨lX11_feed, zin 370 (by decide +kernel) (by decide +kernel), zin 371 (by decide +kernel) (by decide +kernel), zin 372 (by decide +kernel) (by decide +kernel)⟩
theorem sX11_116 : zLv RX11 116 mX9_put 1 := ⟨lX9_put, zin 375 (by decide +kernel) (by decide +kernel), zin 376 (by decide +kernel) (by decide +kernel), zin 377 (by decide +kernel) (by decide +kernel)⟩
theorem sL_36 : zLv RL 36 mX11_line 0 := ⟨lX11_line, zin 379 (by decide +kernel) (by decide +kernel), zin 380 (by decide +kernel) (by decide +kernel), zin 381 (by decide +kernel) (by decide +kernel)⟩
theorem sX11_119 : zLv RX11 119 mX9_readInto 1 := ⟨lX9_readInto, zin 383 (by decide +kernel) (by decide +kernel), zin 384 (by decide +kernel) (by decide +kernel), zin 385 (by decide +kernel) (by decide +kernel)⟩
theorem sX9_22 : zLv RX9 22 mX9_readLaw 1 := ⟨lX9_readLaw, zin 387 (by decide +kernel) (by decide +kernel), zin 389 (by decide +kernel) (by decide +kernel), zin 3 (by decide +kernel) (by decide +kernel)⟩
theorem sX9_29 : zLv RX9 29 mX9_takeSign 1 := ⟨lX9_takeSign, zin 391 (by decide +kernel) (by decide +kernel), zin 393 (by decide +kernel) (by decide +kernel), zin 4 (by decide +kernel) (by decide +kernel)⟩
theorem sX9_54 : zLv RX9 54 mX9_fails 1 := ⟨lX9_fails, zin 395 (by decide +kernel) (by decide +kernel), zin 397 (by decide +kernel) (by decide +kernel), zin 5 (by decide +kernel) (by decide +kernel)⟩
theorem sX9_33 : zLv RX9 33 mX9_takeNumber 2 := ⟨lX9_takeNumber, zin 399 (by decide +kernel) (by decide +kernel), zin 401 (by decide +kernel) (by decide +kernel), zin 6 (by decide +kernel) (by decide +kernel)⟩
theorem sX9_40 : zLv RX9 40 mX4_begin 2 := ⟨lX4_begin, zin 404 (by decide +kernel) (by decide +kernel), zin 405 (by decide +kernel) (by decide +kernel), zin 406 (by decide +kernel) (by decide +kernel)⟩
theorem sX9_26 : zLv RX9 26 mX9_readPeople 1 := ⟨lX9_readPeople, zin 408 (by decide +kernel) (by decide +kernel), zin 410 (by decide +kernel) (by decide +kernel), zin 7 (by decide +kernel) (by decide +kernel)⟩
theorem sX9_48 : zLv RX9 48 mJ0_indexOf_0f7a4 1 := ⟨lJ0_indexOf_0f7a4, zin 413 (by decide +kernel) (by decide +kernel), zin 414 (by decide +kernel) (by decide +kernel), zin 415 (by decide +kernel) (by decide +kernel)⟩
theorem sJ0_633 : zLv RJ0 633 mJ0_indexOf_7cf53 2 := ⟨lJ0_indexOf_7cf53, zin 417 (by decide +kernel) (by decide +kernel), zin 418 (by decide +kernel) (by decide +kernel), zin 419 (by decide +kernel) (by decide +kernel)⟩
theorem sJ0_492 : zLv RJ0 492 mJ0_isLatin1_aae02 0 := ⟨lJ0_isLatin1_aae02, zin 421 (by decide +kernel) (by decide +kernel), zin 422 (by decide +kernel) (by decide +kernel), zin 423 (by decide +kernel) (by decide +kernel)⟩
theorem sJ0_505 : zLv RJ0 505 mJ0_length_8abf5 0 := ⟨lJ0_length_8abf5, zin 427 (by decide +kernel) (by decide +kernel), zin 428 (by decide +kernel) (by decide +kernel), zin 429 (by decide +kernel) (by decide +kernel)⟩
theorem sJ0_335 : zLv RJ0 335 mJ0_coder_7d493 0 := ⟨lJ0_coder_7d493, zin 431 (by decide +kernel) (by decide +kernel), zin 432 (by decide +kernel) (by decide +kernel), zin 433 (by decide +kernel) (by decide +kernel)⟩
theorem sJ0_637 : zLs RJ0 637 mJ1_indexOf_4cfef 4 := ⟨lJ1_indexOf_4cfef, zin 435 (by decide +kernel) (by decide +kernel), zin 436 (by decide +kernel) (by decide +kernel)⟩
theorem sJ1_88 : zLs RJ1 88 mJ1_canEncode_9a6ad 1 := ⟨lJ1_canEncode_9a6ad, zin 438 (by decide +kernel) (by decide +kernel), zin 439 (by decide +kernel) (by decide +kernel)⟩
theorem sJ1_92 : zLs RJ1 92 mJ9_max_7cf53 2 := ⟨lJ9_max_7cf53, zin 441 (by decide +kernel) (by decide +kernel), zin 442 (by decide +kernel) (by decide +kernel)⟩
theorem sJ1_38 : zLs RJ1 38 mJ9_min_7cf53 2 := ⟨lJ9_min_7cf53, zin 444 (by decide +kernel) (by decide +kernel), zin 445 (by decide +kernel) (by decide +kernel)⟩
theorem sJ1_95 : zLs RJ1 95 mJ1_indexOfChar_4cfef 4 := ⟨lJ1_indexOfChar_4cfef, zin 447 (by decide +kernel) (by decide +kernel), zin 448 (by decide +kernel) (by decide +kernel)⟩
theorem sJ0_640 : zLs RJ0 640 mJ2_indexOf_4cfef 4 := ⟨lJ2_indexOf_4cfef, zin 450 (by decide +kernel) (by decide +kernel), zin 451 (by decide +kernel) (by decide +kernel)⟩
theorem sJ2_224 : zLs RJ2 224 mJ9_max_7cf53 2 := ⟨lJ9_max_7cf53, zin 453 (by decide +kernel) (by decide +kernel), zin 442 (by decide +kernel) (by decide +kernel)⟩
theorem sJ2_183 : zLs RJ2 183 mJ9_min_7cf53 2 := ⟨lJ9_min_7cf53, zin 454 (by decide +kernel) (by decide +kernel), zin 445 (by decide +kernel) (by decide +kernel)⟩
theorem sJ2_228 : zLs RJ2 228 mJ2_indexOfChar_4cfef 4 := ⟨lJ2_indexOfChar_4cfef, zin 456 (by decide +kernel) (by decide +kernel), zin 457 (by decide +kernel) (by decide +kernel)⟩
theorem sJ2_96 : zLs RJ2 96 mJ2_checkBoundsBeginEnd_d044e 3 := ⟨lJ2_checkBoundsBeginEnd_d044e, zin 459 (by decide +kernel) (by decide +kernel), zin 460 (by decide +kernel) (by decide +kernel)⟩
theorem sJ2_48 : zLs RJ2 48 mJ2_length_9d52b 1 := ⟨lJ2_length_9d52b, zin 462 (by decide +kernel) (by decide +kernel), zin 463 (by decide +kernel) (by decide +kernel)⟩
theorem sJ2_241 : zLs RJ2 241 mJ0_checkBoundsBeginEnd_23922 3 := ⟨lJ0_checkBoundsBeginEnd_23922, zin 465 (by decide +kernel) (by decide +kernel), zin 466 (by decide +kernel) (by decide +kernel)⟩
theorem sJ0_1062 : zLs RJ0 1062 mJ3_checkFromToIndex_8c36e 4 := ⟨lJ3_checkFromToIndex_8c36e, zin 470 (by decide +kernel) (by decide +kernel), zin 471 (by decide +kernel) (by decide +kernel)⟩
theorem sJ2_244 : zLs RJ2 244 mJ2_indexOfCharUnsafe_4cfef 4 := ⟨lJ2_indexOfCharUnsafe_4cfef, zin 473 (by decide +kernel) (by decide +kernel), zin 474 (by decide +kernel) (by decide +kernel)⟩
theorem sJ2_71 : zLs RJ2 71 mJ2_getChar_3b067 2 := ⟨lJ2_getChar_3b067, zin 476 (by decide +kernel) (by decide +kernel), zin 477 (by decide +kernel) (by decide +kernel)⟩
theorem sJ2_232 : zLs RJ2 232 mJ2_indexOfSupplementary_4cfef 4 := ⟨lJ2_indexOfSupplementary_4cfef, zin 485 (by decide +kernel) (by decide +kernel), zin 486 (by decide +kernel) (by decide +kernel)⟩
theorem sJ2_164 : zLs RJ2 164 mJ11_isValidCodePoint_9a6ad 1 := ⟨lJ11_isValidCodePoint_9a6ad, zin 488 (by decide +kernel) (by decide +kernel), zin 489 (by decide +kernel) (by decide +kernel)⟩
theorem sJ2_157 : zLs RJ2 157 mJ11_highSurrogate_5068e 1 := ⟨lJ11_highSurrogate_5068e, zin 491 (by decide +kernel) (by decide +kernel), zin 492 (by decide +kernel) (by decide +kernel)⟩
theorem sJ2_161 : zLs RJ2 161 mJ11_lowSurrogate_5068e 1 := ⟨lJ11_lowSurrogate_5068e, zin 495 (by decide +kernel) (by decide +kernel), zin 496 (by decide +kernel) (by decide +kernel)⟩
theorem sX9_58 : zLv RX9 58 mX9_readPerson 2 := ⟨lX9_readPerson, zin 499 (by decide +kernel) (by decide +kernel), zin 501 (by decide +kernel) (by decide +kernel), zin 8 (by decide +kernel) (by decide +kernel)⟩
theorem sX9_65 : zLv RX9 65 mX4_add 4 := ⟨lX4_add, zin 503 (by decide +kernel) (by decide +kernel), zin 504 (by decide +kernel) (by decide +kernel), zin 505 (by decide +kernel) (by decide +kernel)⟩
theorem sX11_133 : zLv RX11 133 mX4_become 1 := ⟨lX4_become, zin 508 (by decide +kernel) (by decide +kernel), zin 509 (by decide +kernel) (by decide +kernel), zin 510 (by decide +kernel) (by decide +kernel)⟩
theorem sX11_137 : zLv RX11 137 mX5_forget 0 := ⟨lX5_forget, zin 513 (by decide +kernel) (by decide +kernel), zin 514 (by decide +kernel) (by decide +kernel), zin 515 (by decide +kernel) (by decide +kernel)⟩
theorem sL_41 : zLv RL 41 mX11_fault 0 := ⟨lX11_fault, zin 518 (by decide +kernel) (by decide +kernel), zin 519 (by decide +kernel) (by decide +kernel), zin 520 (by decide +kernel) (by decide +kernel)⟩
theorem sL_45 : zLv RL 45 mX11_minutes 1 := ⟨lX11_minutes, zin 522 (by decide +kernel) (by decide +kernel), zin 523 (by decide +kernel) (by decide +kernel), zin 524 (by decide +kernel) (by decide +kernel)⟩
theorem sX11_143 : zLv RX11 143 mX11_hasLine 0 := ⟨lX11_hasLine, zin 526 (by decide +kernel) (by decide +kernel), zin 528 (by decide +kernel) (by decide +kernel), zin 9 (by decide +kernel) (by decide +kernel)⟩
theorem sX11_151 : zLv RX11 151 mX5_keep 1 := ⟨lX5_keep, zin 531 (by decide +kernel) (by decide +kernel), zin 532 (by decide +kernel) (by decide +kernel), zin 533 (by decide +kernel) (by decide +kernel)⟩
theorem sX5_22 : zLv RX5 22 mX5_pageOf 1 := ⟨lX5_pageOf, zin 535 (by decide +kernel) (by decide +kernel), zin 537 (by decide +kernel) (by decide +kernel), zin 10 (by decide +kernel) (by decide +kernel)⟩
theorem sX11_154 : zLv RX11 154 mX4_pass 1 := ⟨lX4_pass, zin 540 (by decide +kernel) (by decide +kernel), zin 541 (by decide +kernel) (by decide +kernel), zin 542 (by decide +kernel) (by decide +kernel)⟩
theorem sX4_83 : zLv RX4 83 mX4_tramWithout 1 := ⟨lX4_tramWithout, zin 544 (by decide +kernel) (by decide +kernel), zin 545 (by decide +kernel) (by decide +kernel), zin 546 (by decide +kernel) (by decide +kernel)⟩
theorem sX4_75 : zLv RX4 75 mX4_tellHopes 1 := ⟨lX4_tellHopes, zin 548 (by decide +kernel) (by decide +kernel), zin 550 (by decide +kernel) (by decide +kernel), zin 11 (by decide +kernel) (by decide +kernel)⟩
theorem sX4_103 : zLv RX4 103 mX4_tellCrowds 0 := ⟨lX4_tellCrowds, zin 552 (by decide +kernel) (by decide +kernel), zin 554 (by decide +kernel) (by decide +kernel), zin 12 (by decide +kernel) (by decide +kernel)⟩
theorem sX4_106 : zLs RX4 106 mJ7_fill_53178 2 := ⟨lJ7_fill_53178, zin 556 (by decide +kernel) (by decide +kernel), zin 132 (by decide +kernel) (by decide +kernel)⟩
theorem sX4_65 : zLv RX4 65 mX4_waiter 1 := ⟨lX4_waiter, zin 560 (by decide +kernel) (by decide +kernel), zin 561 (by decide +kernel) (by decide +kernel), zin 562 (by decide +kernel) (by decide +kernel)⟩
theorem sX4_79 : zLv RX4 79 mX4_leastHope 0 := ⟨lX4_leastHope, zin 582 (by decide +kernel) (by decide +kernel), zin 584 (by decide +kernel) (by decide +kernel), zin 13 (by decide +kernel) (by decide +kernel)⟩
theorem sX4_100 : zLs RX4 100 mJ9_max_7cf53 2 := ⟨lJ9_max_7cf53, zin 586 (by decide +kernel) (by decide +kernel), zin 442 (by decide +kernel) (by decide +kernel)⟩
theorem sX4_90 : zLv RX4 90 mX4_moveTo 2 := ⟨lX4_moveTo, zin 587 (by decide +kernel) (by decide +kernel), zin 588 (by decide +kernel) (by decide +kernel), zin 589 (by decide +kernel) (by decide +kernel)⟩
theorem sX4_94 : zLs RX4 94 mJ9_min_7cf53 2 := ⟨lJ9_min_7cf53, zin 591 (by decide +kernel) (by decide +kernel), zin 445 (by decide +kernel) (by decide +kernel)⟩
theorem sX11_157 : zLv RX11 157 mX4_thereBits 0 := ⟨lX4_thereBits, zin 592 (by decide +kernel) (by decide +kernel), zin 593 (by decide +kernel) (by decide +kernel), zin 594 (by decide +kernel) (by decide +kernel)⟩
theorem sL_49 : zLv RL 49 mX11_walk 2 := ⟨lX11_walk, zin 596 (by decide +kernel) (by decide +kernel), zin 597 (by decide +kernel) (by decide +kernel), zin 598 (by decide +kernel) (by decide +kernel)⟩
theorem sX11_161 : zLv RX11 161 mX11_isPerson 1 := ⟨lX11_isPerson, zin 600 (by decide +kernel) (by decide +kernel), zin 602 (by decide +kernel) (by decide +kernel), zin 14 (by decide +kernel) (by decide +kernel)⟩
theorem sX11_168 : zLv RX11 168 mX11_isStop 1 := ⟨lX11_isStop, zin 604 (by decide +kernel) (by decide +kernel), zin 606 (by decide +kernel) (by decide +kernel), zin 15 (by decide +kernel) (by decide +kernel)⟩
theorem sX11_171 : zLv RX11 171 mX4_moveTo 2 := ⟨lX4_moveTo, zin 608 (by decide +kernel) (by decide +kernel), zin 588 (by decide +kernel) (by decide +kernel), zin 589 (by decide +kernel) (by decide +kernel)⟩
theorem sL_54 : zLv RL 54 mX11_preach 2 := ⟨lX11_preach, zin 609 (by decide +kernel) (by decide +kernel), zin 610 (by decide +kernel) (by decide +kernel), zin 611 (by decide +kernel) (by decide +kernel)⟩
theorem sL_58 : zLv RL 58 mX11_wish 2 := ⟨lX11_wish, zin 613 (by decide +kernel) (by decide +kernel), zin 614 (by decide +kernel) (by decide +kernel), zin 615 (by decide +kernel) (by decide +kernel)⟩
theorem sL_62 : zLv RL 62 mX11_undo 0 := ⟨lX11_undo, zin 617 (by decide +kernel) (by decide +kernel), zin 618 (by decide +kernel) (by decide +kernel), zin 619 (by decide +kernel) (by decide +kernel)⟩
theorem sX11_184 : zLv RX11 184 mX5_takeBack 1 := ⟨lX5_takeBack, zin 621 (by decide +kernel) (by decide +kernel), zin 622 (by decide +kernel) (by decide +kernel), zin 623 (by decide +kernel) (by decide +kernel)⟩
theorem sL_66 : zLv RL 66 mX11_person 2 := ⟨lX11_person, zin 625 (by decide +kernel) (by decide +kernel), zin 626 (by decide +kernel) (by decide +kernel), zin 627 (by decide +kernel) (by decide +kernel)⟩
theorem sX11_190 : zLv RX11 190 mX4_hopeOf 1 := ⟨lX4_hopeOf, zin 629 (by decide +kernel) (by decide +kernel), zin 630 (by decide +kernel) (by decide +kernel), zin 631 (by decide +kernel) (by decide +kernel)⟩
theorem sX4_56 : zLv RX4 56 mX4_whoIsAt 1 := ⟨lX4_whoIsAt, zin 633 (by decide +kernel) (by decide +kernel), zin 634 (by decide +kernel) (by decide +kernel), zin 635 (by decide +kernel) (by decide +kernel)⟩
theorem sX4_60 : zLs RX4 60 mJ6_bitCount_0f7a4 1 := ⟨lJ6_bitCount_0f7a4, zin 637 (by decide +kernel) (by decide +kernel), zin 638 (by decide +kernel) (by decide +kernel)⟩
theorem sL_70 : zLv RL 70 mX11_stop 2 := ⟨lX11_stop, zin 643 (by decide +kernel) (by decide +kernel), zin 644 (by decide +kernel) (by decide +kernel), zin 645 (by decide +kernel) (by decide +kernel)⟩
theorem sX11_193 : zLv RX11 193 mX4_hopeAt 1 := ⟨lX4_hopeAt, zin 647 (by decide +kernel) (by decide +kernel), zin 648 (by decide +kernel) (by decide +kernel), zin 649 (by decide +kernel) (by decide +kernel)⟩
theorem sX11_196 : zLv RX11 196 mX4_whoIsAt 1 := ⟨lX4_whoIsAt, zin 651 (by decide +kernel) (by decide +kernel), zin 634 (by decide +kernel) (by decide +kernel), zin 635 (by decide +kernel) (by decide +kernel)⟩
theorem sL_74 : zLv RL 74 mX11_where 2 := ⟨lX11_where, zin 652 (by decide +kernel) (by decide +kernel), zin 653 (by decide +kernel) (by decide +kernel), zin 654 (by decide +kernel) (by decide +kernel)⟩
theorem sX11_199 : zLv RX11 199 mX11_playFor 1 := ⟨lX11_playFor, zin 656 (by decide +kernel) (by decide +kernel), zin 658 (by decide +kernel) (by decide +kernel), zin 16 (by decide +kernel) (by decide +kernel)⟩
theorem sL_78 : zLv RL 78 mX11_tram 1 := ⟨lX11_tram, zin 660 (by decide +kernel) (by decide +kernel), zin 661 (by decide +kernel) (by decide +kernel), zin 662 (by decide +kernel) (by decide +kernel)⟩
theorem sX11_202 : zLv RX11 202 mX4_tramWithout 1 := ⟨lX4_tramWithout, zin 664 (by decide +kernel) (by decide +kernel), zin 545 (by decide +kernel) (by decide +kernel), zin 546 (by decide +kernel) (by decide +kernel)⟩
theorem sL_82 : zLv RL 82 mX11_there 1 := ⟨lX11_there, zin 666 (by decide +kernel) (by decide +kernel), zin 667 (by decide +kernel) (by decide +kernel), zin 668 (by decide +kernel) (by decide +kernel)⟩
theorem sL_86 : zLv RL 86 mX11_when 1 := ⟨lX11_when, zin 670 (by decide +kernel) (by decide +kernel), zin 671 (by decide +kernel) (by decide +kernel), zin 672 (by decide +kernel) (by decide +kernel)⟩
theorem sX11_206 : zLv RX11 206 mX11_playTill 3 := ⟨lX11_playTill, zin 674 (by decide +kernel) (by decide +kernel), zin 676 (by decide +kernel) (by decide +kernel), zin 17 (by decide +kernel) (by decide +kernel)⟩
theorem sL_90 : zLv RL 90 mX11_all 0 := ⟨lX11_all, zin 678 (by decide +kernel) (by decide +kernel), zin 679 (by decide +kernel) (by decide +kernel), zin 680 (by decide +kernel) (by decide +kernel)⟩
theorem sX11_209 : zLv RX11 209 mX4_everybody 0 := ⟨lX4_everybody, zin 682 (by decide +kernel) (by decide +kernel), zin 683 (by decide +kernel) (by decide +kernel), zin 684 (by decide +kernel) (by decide +kernel)⟩
theorem sL_94 : zLv RL 94 mX11_never 0 := ⟨lX11_never, zin 686 (by decide +kernel) (by decide +kernel), zin 687 (by decide +kernel) (by decide +kernel), zin 688 (by decide +kernel) (by decide +kernel)⟩
theorem sL_98 : zLv RL 98 mX11_holding 0 := ⟨lX11_holding, zin 690 (by decide +kernel) (by decide +kernel), zin 691 (by decide +kernel) (by decide +kernel), zin 692 (by decide +kernel) (by decide +kernel)⟩
theorem sX11_212 : zLv RX11 212 mX4_holdingBits 0 := ⟨lX4_holdingBits, zin 694 (by decide +kernel) (by decide +kernel), zin 695 (by decide +kernel) (by decide +kernel), zin 696 (by decide +kernel) (by decide +kernel)⟩
theorem sL_102 : zLv RL 102 mX11_call 2 := ⟨lX11_call, zin 698 (by decide +kernel) (by decide +kernel), zin 699 (by decide +kernel) (by decide +kernel), zin 700 (by decide +kernel) (by decide +kernel)⟩
theorem sX11_215 : zLv RX11 215 mX11_callerBy 2 := ⟨lX11_callerBy, zin 702 (by decide +kernel) (by decide +kernel), zin 704 (by decide +kernel) (by decide +kernel), zin 18 (by decide +kernel) (by decide +kernel)⟩
theorem sL_106 : zLv RL 106 mX11_go 2 := ⟨lX11_go, zin 706 (by decide +kernel) (by decide +kernel), zin 707 (by decide +kernel) (by decide +kernel), zin 708 (by decide +kernel) (by decide +kernel)⟩
theorem sX11_222 : zLv RX11 222 mX11_soonFrom 2 := ⟨lX11_soonFrom, zin 710 (by decide +kernel) (by decide +kernel), zin 712 (by decide +kernel) (by decide +kernel), zin 19 (by decide +kernel) (by decide +kernel)⟩
theorem sL_110 : zLv RL 110 mX11_walkers 2 := ⟨lX11_walkers, zin 714 (by decide +kernel) (by decide +kernel), zin 715 (by decide +kernel) (by decide +kernel), zin 716 (by decide +kernel) (by decide +kernel)⟩
theorem sX11_225 : zLv RX11 225 mX11_leastWalkers 2 := ⟨lX11_leastWalkers, zin 718 (by decide +kernel) (by decide +kernel), zin 720 (by decide +kernel) (by decide +kernel), zin 20 (by decide +kernel) (by decide +kernel)⟩
theorem sX11_287 : zLs RX11 287 mJ6_bitCount_0f7a4 1 := ⟨lJ6_bitCount_0f7a4, zin 722 (by decide +kernel) (by decide +kernel), zin 638 (by decide +kernel) (by decide +kernel)⟩
theorem sL_114 : zLv RL 114 mX11_fits 5 := ⟨lX11_fits, zin 723 (by decide +kernel) (by decide +kernel), zin 724 (by decide +kernel) (by decide +kernel), zin 725 (by decide +kernel) (by decide +kernel)⟩
theorem sX11_228 : zLv RX11 228 mX11_faithsBy 4 := ⟨lX11_faithsBy, zin 727 (by decide +kernel) (by decide +kernel), zin 729 (by decide +kernel) (by decide +kernel), zin 21 (by decide +kernel) (by decide +kernel)⟩
theorem sX11_292 : zLv RX11 292 mX11_playIsAsTold 3 := ⟨lX11_playIsAsTold, zin 731 (by decide +kernel) (by decide +kernel), zin 733 (by decide +kernel) (by decide +kernel), zin 22 (by decide +kernel) (by decide +kernel)⟩
theorem sX11_295 : zLv RX11 295 mX8_itemAt 2 := ⟨lX8_itemAt, zin 735 (by decide +kernel) (by decide +kernel), zin 736 (by decide +kernel) (by decide +kernel), zin 737 (by decide +kernel) (by decide +kernel)⟩
theorem sX11_232 : zLv RX11 232 mX11_sortsBy 4 := ⟨lX11_sortsBy, zin 739 (by decide +kernel) (by decide +kernel), zin 741 (by decide +kernel) (by decide +kernel), zin 23 (by decide +kernel) (by decide +kernel)⟩
theorem sL_118 : zLv RL 118 mX11_bounds 3 := ⟨lX11_bounds, zin 743 (by decide +kernel) (by decide +kernel), zin 744 (by decide +kernel) (by decide +kernel), zin 745 (by decide +kernel) (by decide +kernel)⟩
theorem sX11_235 : zLv RX11 235 mX11_boundsBy 3 := ⟨lX11_boundsBy, zin 747 (by decide +kernel) (by decide +kernel), zin 749 (by decide +kernel) (by decide +kernel), zin 24 (by decide +kernel) (by decide +kernel)⟩
theorem sL_122 : zLv RL 122 mX11_rain 3 := ⟨lX11_rain, zin 751 (by decide +kernel) (by decide +kernel), zin 752 (by decide +kernel) (by decide +kernel), zin 753 (by decide +kernel) (by decide +kernel)⟩
theorem sX11_238 : zLv RX11 238 mX11_waysOf 2 := ⟨lX11_waysOf, zin 755 (by decide +kernel) (by decide +kernel), zin 757 (by decide +kernel) (by decide +kernel), zin 25 (by decide +kernel) (by decide +kernel)⟩
theorem sX11_298 : zLs RX11 298 mX11_isIn 2 := ⟨lX11_isIn, zin 759 (by decide +kernel) (by decide +kernel), zin 558 (by decide +kernel) (by decide +kernel)⟩
theorem sX11_241 : zLs RX11 241 mX11_sharedBy 2 := ⟨lX11_sharedBy, zin 760 (by decide +kernel) (by decide +kernel), zin 761 (by decide +kernel) (by decide +kernel)⟩
theorem sX11_302 : zLs RX11 302 mJ9_max_7cf53 2 := ⟨lJ9_max_7cf53, zin 763 (by decide +kernel) (by decide +kernel), zin 442 (by decide +kernel) (by decide +kernel)⟩
theorem sL_126 : zLv RL 126 mX11_drawn 3 := ⟨lX11_drawn, zin 764 (by decide +kernel) (by decide +kernel), zin 765 (by decide +kernel) (by decide +kernel), zin 766 (by decide +kernel) (by decide +kernel)⟩
theorem sX11_249 : zLv RX11 249 mX11_preachByDraw 1 := ⟨lX11_preachByDraw, zin 771 (by decide +kernel) (by decide +kernel), zin 773 (by decide +kernel) (by decide +kernel), zin 26 (by decide +kernel) (by decide +kernel)⟩
theorem sL_130 : zLv RL 130 mX11_image 1 := ⟨lX11_image, zin 776 (by decide +kernel) (by decide +kernel), zin 777 (by decide +kernel) (by decide +kernel), zin 778 (by decide +kernel) (by decide +kernel)⟩
theorem sL_134 : zLv RL 134 mX11_restore 1 := ⟨lX11_restore, zin 780 (by decide +kernel) (by decide +kernel), zin 781 (by decide +kernel) (by decide +kernel), zin 782 (by decide +kernel) (by decide +kernel)⟩
theorem sL_138 : zLv RL 138 mX11_kind 1 := ⟨lX11_kind, zin 784 (by decide +kernel) (by decide +kernel), zin 785 (by decide +kernel) (by decide +kernel), zin 786 (by decide +kernel) (by decide +kernel)⟩
theorem sL_142 : zLv RL 142 mX11_as 2 := ⟨lX11_as, zin 788 (by decide +kernel) (by decide +kernel), zin 789 (by decide +kernel) (by decide +kernel), zin 790 (by decide +kernel) (by decide +kernel)⟩
theorem sX11_256 : zLv RX11 256 mX4_waiter 1 := ⟨lX4_waiter, zin 792 (by decide +kernel) (by decide +kernel), zin 561 (by decide +kernel) (by decide +kernel), zin 562 (by decide +kernel) (by decide +kernel)⟩
theorem sX11_260 : zLs RX11 260 mX11_isOne 2 := ⟨lX11_isOne, zin 793 (by decide +kernel) (by decide +kernel), zin 794 (by decide +kernel) (by decide +kernel)⟩
theorem sL_146 : zLv RL 146 mX11_ask 2 := ⟨lX11_ask, zin 796 (by decide +kernel) (by decide +kernel), zin 797 (by decide +kernel) (by decide +kernel), zin 798 (by decide +kernel) (by decide +kernel)⟩
theorem sX11_264 : zLv RX11 264 mX0_beginAbout 3 := ⟨lX0_beginAbout, zin 800 (by decide +kernel) (by decide +kernel), zin 801 (by decide +kernel) (by decide +kernel), zin 802 (by decide +kernel) (by decide +kernel)⟩
theorem sX1_7 : zLv RX1 7 mX0_leave 1 := ⟨lX0_leave, zin 810 (by decide +kernel) (by decide +kernel), zin 811 (by decide +kernel) (by decide +kernel), zin 812 (by decide +kernel) (by decide +kernel)⟩
theorem uX1_13 : zLu RX1 13 mX10_askSize 1 := ⟨lX10_askSize, zin 814 (by decide +kernel) (by decide +kernel), zin 806 (by decide +kernel) (by decide +kernel), zin 115 (by decide +kernel) (by decide +kernel), zin 805 (by decide +kernel) (by decide +kernel), by decide +kernel⟩
theorem sX2_7 : zLv RX2 7 mX0_leave 1 := ⟨lX0_leave, zin 818 (by decide +kernel) (by decide +kernel), zin 811 (by decide +kernel) (by decide +kernel), zin 812 (by decide +kernel) (by decide +kernel)⟩
theorem uX2_13 : zLu RX2 13 mX6_askSize 1 := ⟨lX6_askSize, zin 819 (by decide +kernel) (by decide +kernel), zin 1256 (by decide +kernel) (by decide +kernel), zin 101 (by decide +kernel) (by decide +kernel), zin 820 (by decide +kernel) (by decide +kernel), by decide +kernel⟩
theorem sX6_7 : zLv RX6 7 mX0_leave 1 := ⟨lX0_leave, zin 822 (by decide +kernel) (by decide +kernel), zin 811 (by decide +kernel) (by decide +kernel), zin 812 (by decide +kernel) (by decide +kernel)⟩
theorem uX6_13 : zLu RX6 13 mX10_askSize 1 := ⟨lX10_askSize, zin 823 (by decide +kernel) (by decide +kernel), zin 806 (by decide +kernel) (by decide +kernel), zin 94 (by decide +kernel) (by decide +kernel), zin 805 (by decide +kernel) (by decide +kernel), by decide +kernel⟩
theorem sX6_17 : zLv RX6 17 mX6_askMark 1 := ⟨lX6_askMark, zin 824 (by decide +kernel) (by decide +kernel), zin 825 (by decide +kernel) (by decide +kernel), zin 826 (by decide +kernel) (by decide +kernel)⟩
theorem sX2_17 : zLv RX2 17 mX6_askMark 1 := ⟨lX6_askMark, zin 831 (by decide +kernel) (by decide +kernel), zin 825 (by decide +kernel) (by decide +kernel), zin 826 (by decide +kernel) (by decide +kernel)⟩
theorem uX2_17 : zLu RX2 17 mX6_askMark 1 := ⟨lX6_askMark, zin 831 (by decide +kernel) (by decide +kernel), zin 827 (by decide +kernel) (by decide +kernel), zin 101 (by decide +kernel) (by decide +kernel), zin 825 (by decide +kernel) (by decide +kernel), by decide +kernel⟩
theorem sX3_7 : zLv RX3 7 mX0_leave 1 := ⟨lX0_leave, zin 835 (by decide +kernel) (by decide +kernel), zin 811 (by decide +kernel) (by decide +kernel), zin 812 (by decide +kernel) (by decide +kernel)⟩
theorem sX3_13 : zLv RX3 13 mX6_askMark 1 := ⟨lX6_askMark, zin 836 (by decide +kernel) (by decide +kernel), zin 825 (by decide +kernel) (by decide +kernel), zin 826 (by decide +kernel) (by decide +kernel)⟩
theorem uX3_13 : zLu RX3 13 mX6_askMark 1 := ⟨lX6_askMark, zin 836 (by decide +kernel) (by decide +kernel), zin 827 (by decide +kernel) (by decide +kernel), zin 108 (by decide +kernel) (by decide +kernel), zin 825 (by decide +kernel) (by decide +kernel), by decide +kernel⟩
theorem uX6_22 : zLu RX6 22 mX10_askMark 1 := ⟨lX10_askMark, zin 838 (by decide +kernel) (by decide +kernel), zin 1257 (by decide +kernel) (by decide +kernel), zin 94 (by decide +kernel) (by decide +kernel), zin 839 (by decide +kernel) (by decide +kernel), by decide +kernel⟩
theorem sX10_7 : zLv RX10 7 mX0_leave 1 := ⟨lX0_leave, zin 841 (by decide +kernel) (by decide +kernel), zin 811 (by decide +kernel) (by decide +kernel), zin 812 (by decide +kernel) (by decide +kernel)⟩
theorem sX7_7 : zLv RX7 7 mX0_leave 1 := ⟨lX0_leave, zin 847 (by decide +kernel) (by decide +kernel), zin 811 (by decide +kernel) (by decide +kernel), zin 812 (by decide +kernel) (by decide +kernel)⟩
theorem sX7_13 : zLv RX7 13 mX1_askSize 1 := ⟨lX1_askSize, zin 848 (by decide +kernel) (by decide +kernel), zin 808 (by decide +kernel) (by decide +kernel), zin 1260 (by decide +kernel) (by decide +kernel)⟩
theorem uX7_13 : zLu RX7 13 mX1_askSize 1 := ⟨lX1_askSize, zin 848 (by decide +kernel) (by decide +kernel), zin 1258 (by decide +kernel) (by decide +kernel), zin 122 (by decide +kernel) (by decide +kernel), zin 808 (by decide +kernel) (by decide +kernel), by decide +kernel⟩
theorem uX1_17 : zLu RX1 17 mX10_askMark 1 := ⟨lX10_askMark, zin 853 (by decide +kernel) (by decide +kernel), zin 1257 (by decide +kernel) (by decide +kernel), zin 115 (by decide +kernel) (by decide +kernel), zin 839 (by decide +kernel) (by decide +kernel), by decide +kernel⟩
theorem sX1_20 : zLv RX1 20 mX1_askSize 1 := ⟨lX1_askSize, zin 854 (by decide +kernel) (by decide +kernel), zin 808 (by decide +kernel) (by decide +kernel), zin 1260 (by decide +kernel) (by decide +kernel)⟩
theorem sL_150 : zLv RL 150 mX11_trace 1 := ⟨lX11_trace, zin 855 (by decide +kernel) (by decide +kernel), zin 856 (by decide +kernel) (by decide +kernel), zin 857 (by decide +kernel) (by decide +kernel)⟩
theorem sX11_274 : zLv RX11 274 mX0_bodyAt 1 := ⟨lX0_bodyAt, zin 859 (by decide +kernel) (by decide +kernel), zin 860 (by decide +kernel) (by decide +kernel), zin 861 (by decide +kernel) (by decide +kernel)⟩
theorem sL_154 : zLv RL 154 mX11_count 1 := ⟨lX11_count, zin 865 (by decide +kernel) (by decide +kernel), zin 866 (by decide +kernel) (by decide +kernel), zin 867 (by decide +kernel) (by decide +kernel)⟩
theorem sX11_277 : zLv RX11 277 mX8_howMany 0 := ⟨lX8_howMany, zin 869 (by decide +kernel) (by decide +kernel), zin 870 (by decide +kernel) (by decide +kernel), zin 871 (by decide +kernel) (by decide +kernel)⟩
theorem sL_158 : zLv RL 158 mX11_status 0 := ⟨lX11_status, zin 873 (by decide +kernel) (by decide +kernel), zin 874 (by decide +kernel) (by decide +kernel), zin 875 (by decide +kernel) (by decide +kernel)⟩
theorem sL_17 : zLv RL 17 mX12_row 3 := ⟨lX12_row, zin 952 (by decide +kernel) (by decide +kernel), zin 953 (by decide +kernel) (by decide +kernel), zin 954 (by decide +kernel) (by decide +kernel)⟩
theorem sX12_57 : zLs RX12 57 mX12_isRow 1 := ⟨lX12_isRow, zin 956 (by decide +kernel) (by decide +kernel), zin 957 (by decide +kernel) (by decide +kernel)⟩
theorem sX12_53 : zLs RX12 53 mX12_in 3 := ⟨lX12_in, zin 959 (by decide +kernel) (by decide +kernel), zin 960 (by decide +kernel) (by decide +kernel)⟩
theorem sX12_62 : zLv RX12 62 mX12_found 1 := ⟨lX12_found, zin 963 (by decide +kernel) (by decide +kernel), zin 965 (by decide +kernel) (by decide +kernel), zin 27 (by decide +kernel) (by decide +kernel)⟩
theorem sX12_66 : zLv RX12 66 mX12_well 1 := ⟨lX12_well, zin 968 (by decide +kernel) (by decide +kernel), zin 970 (by decide +kernel) (by decide +kernel), zin 28 (by decide +kernel) (by decide +kernel)⟩
theorem sL_21 : zLv RL 21 mX12_set 3 := ⟨lX12_set, zin 972 (by decide +kernel) (by decide +kernel), zin 973 (by decide +kernel) (by decide +kernel), zin 974 (by decide +kernel) (by decide +kernel)⟩
theorem sX12_69 : zLv RX12 69 mX12_isMissing 1 := ⟨lX12_isMissing, zin 976 (by decide +kernel) (by decide +kernel), zin 978 (by decide +kernel) (by decide +kernel), zin 29 (by decide +kernel) (by decide +kernel)⟩
theorem sX12_72 : zLs RX12 72 mX12_cut 2 := ⟨lX12_cut, zin 980 (by decide +kernel) (by decide +kernel), zin 981 (by decide +kernel) (by decide +kernel)⟩
theorem sL_26 : zLv RL 26 mX12_copy 5 := ⟨lX12_copy, zin 983 (by decide +kernel) (by decide +kernel), zin 984 (by decide +kernel) (by decide +kernel), zin 985 (by decide +kernel) (by decide +kernel)⟩
theorem sX12_76 : zLv RX12 76 mX12_isPart 3 := ⟨lX12_isPart, zin 987 (by decide +kernel) (by decide +kernel), zin 989 (by decide +kernel) (by decide +kernel), zin 30 (by decide +kernel) (by decide +kernel)⟩
theorem sL_31 : zLv RL 31 mX12_drop 1 := ⟨lX12_drop, zin 991 (by decide +kernel) (by decide +kernel), zin 992 (by decide +kernel) (by decide +kernel), zin 993 (by decide +kernel) (by decide +kernel)⟩
theorem sL_35 : zLv RL 35 mX12_feed 1 := ⟨lX12_feed, zin 995 (by decide +kernel) (by decide +kernel), zin 996 (by decide +kernel) (by decide +kernel), zin 997 (by decide +kernel) (by decide +kernel)⟩
theorem sL_40 : zLv RL 40 mX12_line 0 := ⟨lX12_line, zin 1000 (by decide +kernel) (by decide +kernel), zin 1001 (by decide +kernel) (by decide +kernel), zin 1002 (by decide +kernel) (by decide +kernel)⟩
theorem sX12_108 : zLv RX12 108 mX12_advances 0 := ⟨lX12_advances, zin 1004 (by decide +kernel) (by decide +kernel), zin 1006 (by decide +kernel) (by decide +kernel), zin 31 (by decide +kernel) (by decide +kernel)⟩
theorem sX12_89 : zLv RX12 89 mX12_byteAt 1 := ⟨lX12_byteAt, zin 1008 (by decide +kernel) (by decide +kernel), zin 1010 (by decide +kernel) (by decide +kernel), zin 32 (by decide +kernel) (by decide +kernel)⟩
theorem sX12_111 : zLv RX12 111 mX12_takes 2 := ⟨lX12_takes, zin 1012 (by decide +kernel) (by decide +kernel), zin 1014 (by decide +kernel) (by decide +kernel), zin 33 (by decide +kernel) (by decide +kernel)⟩
theorem sX12_101 : zLv RX12 101 mX12_isWell 0 := ⟨lX12_isWell, zin 1016 (by decide +kernel) (by decide +kernel), zin 1018 (by decide +kernel) (by decide +kernel), zin 34 (by decide +kernel) (by decide +kernel)⟩
theorem sX12_115 : zLv RX12 115 mX12_figure 2 := ⟨lX12_figure, zin 1020 (by decide +kernel) (by decide +kernel), zin 1022 (by decide +kernel) (by decide +kernel), zin 35 (by decide +kernel) (by decide +kernel)⟩
theorem sX12_121 : zLv RX12 121 mX12_next 2 := ⟨lX12_next, zin 1024 (by decide +kernel) (by decide +kernel), zin 1026 (by decide +kernel) (by decide +kernel), zin 36 (by decide +kernel) (by decide +kernel)⟩
theorem sX12_118 : zLs RX12 118 mX12_kindOf 1 := ⟨lX12_kindOf, zin 1028 (by decide +kernel) (by decide +kernel), zin 1029 (by decide +kernel) (by decide +kernel)⟩
theorem sX12_124 : zLv RX12 124 mX12_readsPerson 0 := ⟨lX12_readsPerson, zin 1031 (by decide +kernel) (by decide +kernel), zin 1033 (by decide +kernel) (by decide +kernel), zin 37 (by decide +kernel) (by decide +kernel)⟩
theorem sX12_128 : zLs RX12 128 mX12_copies 4 := ⟨lX12_copies, zin 1036 (by decide +kernel) (by decide +kernel), zin 1037 (by decide +kernel) (by decide +kernel)⟩
theorem sL_44 : zLv RL 44 mX12_fault 0 := ⟨lX12_fault, zin 1039 (by decide +kernel) (by decide +kernel), zin 1040 (by decide +kernel) (by decide +kernel), zin 1041 (by decide +kernel) (by decide +kernel)⟩
theorem sL_48 : zLv RL 48 mX12_minutes 1 := ⟨lX12_minutes, zin 1043 (by decide +kernel) (by decide +kernel), zin 1044 (by decide +kernel) (by decide +kernel), zin 1045 (by decide +kernel) (by decide +kernel)⟩
theorem sX12_167 : zLv RX12 167 mX12_isLine 0 := ⟨lX12_isLine, zin 1047 (by decide +kernel) (by decide +kernel), zin 1049 (by decide +kernel) (by decide +kernel), zin 38 (by decide +kernel) (by decide +kernel)⟩
theorem sX12_171 : zLv RX12 171 mX12_notes 0 := ⟨lX12_notes, zin 1052 (by decide +kernel) (by decide +kernel), zin 1054 (by decide +kernel) (by decide +kernel), zin 39 (by decide +kernel) (by decide +kernel)⟩
theorem sX12_163 : zLs RX12 163 mX12_passes 2 := ⟨lX12_passes, zin 1056 (by decide +kernel) (by decide +kernel), zin 1057 (by decide +kernel) (by decide +kernel)⟩
theorem sX12_160 : zLs RX12 160 mX12_tramBy 2 := ⟨lX12_tramBy, zin 1059 (by decide +kernel) (by decide +kernel), zin 1060 (by decide +kernel) (by decide +kernel)⟩
theorem sX12_149 : zLs RX12 149 mX12_hope 3 := ⟨lX12_hope, zin 1062 (by decide +kernel) (by decide +kernel), zin 1063 (by decide +kernel) (by decide +kernel)⟩
theorem sX12_142 : zLs RX12 142 mX12_has 2 := ⟨lX12_has, zin 1065 (by decide +kernel) (by decide +kernel), zin 1066 (by decide +kernel) (by decide +kernel)⟩
theorem sX12_146 : zLs RX12 146 mX12_hopes 2 := ⟨lX12_hopes, zin 1068 (by decide +kernel) (by decide +kernel), zin 1069 (by decide +kernel) (by decide +kernel)⟩
theorem sX12_135 : zLs RX12 135 mX12_atStop 2 := ⟨lX12_atStop, zin 1071 (by decide +kernel) (by decide +kernel), zin 1072 (by decide +kernel) (by decide +kernel)⟩
theorem sX12_139 : zLs RX12 139 mX12_ones 1 := ⟨lX12_ones, zin 1074 (by decide +kernel) (by decide +kernel), zin 1075 (by decide +kernel) (by decide +kernel)⟩
theorem sX12_153 : zLs RX12 153 mX12_holds 2 := ⟨lX12_holds, zin 1077 (by decide +kernel) (by decide +kernel), zin 1078 (by decide +kernel) (by decide +kernel)⟩
theorem sX12_157 : zLs RX12 157 mX12_isThere 2 := ⟨lX12_isThere, zin 1080 (by decide +kernel) (by decide +kernel), zin 1081 (by decide +kernel) (by decide +kernel)⟩
theorem sX12_174 : zLs RX12 174 mX12_thereIn 1 := ⟨lX12_thereIn, zin 1083 (by decide +kernel) (by decide +kernel), zin 1084 (by decide +kernel) (by decide +kernel)⟩
theorem sL_53 : zLv RL 53 mX12_walk 2 := ⟨lX12_walk, zin 1086 (by decide +kernel) (by decide +kernel), zin 1087 (by decide +kernel) (by decide +kernel), zin 1088 (by decide +kernel) (by decide +kernel)⟩
theorem sX12_178 : zLv RX12 178 mX12_isPerson 1 := ⟨lX12_isPerson, zin 1090 (by decide +kernel) (by decide +kernel), zin 1092 (by decide +kernel) (by decide +kernel), zin 40 (by decide +kernel) (by decide +kernel)⟩
theorem sX12_181 : zLv RX12 181 mX12_isStop 1 := ⟨lX12_isStop, zin 1094 (by decide +kernel) (by decide +kernel), zin 1096 (by decide +kernel) (by decide +kernel), zin 41 (by decide +kernel) (by decide +kernel)⟩
theorem sL_57 : zLv RL 57 mX12_preach 2 := ⟨lX12_preach, zin 1098 (by decide +kernel) (by decide +kernel), zin 1099 (by decide +kernel) (by decide +kernel), zin 1100 (by decide +kernel) (by decide +kernel)⟩
theorem sX12_184 : zLv RX12 184 mX12_puts 2 := ⟨lX12_puts, zin 1102 (by decide +kernel) (by decide +kernel), zin 1104 (by decide +kernel) (by decide +kernel), zin 42 (by decide +kernel) (by decide +kernel)⟩
theorem sL_61 : zLv RL 61 mX12_wish 2 := ⟨lX12_wish, zin 1106 (by decide +kernel) (by decide +kernel), zin 1107 (by decide +kernel) (by decide +kernel), zin 1108 (by decide +kernel) (by decide +kernel)⟩
theorem sL_65 : zLv RL 65 mX12_undo 0 := ⟨lX12_undo, zin 1110 (by decide +kernel) (by decide +kernel), zin 1111 (by decide +kernel) (by decide +kernel), zin 1112 (by decide +kernel) (by decide +kernel)⟩
theorem sL_69 : zLv RL 69 mX12_person 2 := ⟨lX12_person, zin 1114 (by decide +kernel) (by decide +kernel), zin 1115 (by decide +kernel) (by decide +kernel), zin 1116 (by decide +kernel) (by decide +kernel)⟩
theorem sL_73 : zLv RL 73 mX12_stop 2 := ⟨lX12_stop, zin 1118 (by decide +kernel) (by decide +kernel), zin 1119 (by decide +kernel) (by decide +kernel), zin 1120 (by decide +kernel) (by decide +kernel)⟩
theorem sL_77 : zLv RL 77 mX12_where 2 := ⟨lX12_where, zin 1122 (by decide +kernel) (by decide +kernel), zin 1123 (by decide +kernel) (by decide +kernel), zin 1124 (by decide +kernel) (by decide +kernel)⟩
theorem sX12_187 : zLs RX12 187 mX12_isFar 1 := ⟨lX12_isFar, zin 1126 (by decide +kernel) (by decide +kernel), zin 1127 (by decide +kernel) (by decide +kernel)⟩
theorem sX12_190 : zLv RX12 190 mX12_tries 1 := ⟨lX12_tries, zin 1129 (by decide +kernel) (by decide +kernel), zin 1131 (by decide +kernel) (by decide +kernel), zin 43 (by decide +kernel) (by decide +kernel)⟩
theorem sL_81 : zLv RL 81 mX12_tram 1 := ⟨lX12_tram, zin 1133 (by decide +kernel) (by decide +kernel), zin 1134 (by decide +kernel) (by decide +kernel), zin 1135 (by decide +kernel) (by decide +kernel)⟩
theorem sL_85 : zLv RL 85 mX12_there 1 := ⟨lX12_there, zin 1137 (by decide +kernel) (by decide +kernel), zin 1138 (by decide +kernel) (by decide +kernel), zin 1139 (by decide +kernel) (by decide +kernel)⟩
theorem sL_89 : zLv RL 89 mX12_when 1 := ⟨lX12_when, zin 1141 (by decide +kernel) (by decide +kernel), zin 1142 (by decide +kernel) (by decide +kernel), zin 1143 (by decide +kernel) (by decide +kernel)⟩
theorem sX12_194 : zLv RX12 194 mX12_behind 3 := ⟨lX12_behind, zin 1145 (by decide +kernel) (by decide +kernel), zin 1147 (by decide +kernel) (by decide +kernel), zin 44 (by decide +kernel) (by decide +kernel)⟩
theorem sL_93 : zLv RL 93 mX12_all 0 := ⟨lX12_all, zin 1149 (by decide +kernel) (by decide +kernel), zin 1150 (by decide +kernel) (by decide +kernel), zin 1151 (by decide +kernel) (by decide +kernel)⟩
theorem sX12_198 : zLs RX12 198 mX12_everybody 1 := ⟨lX12_everybody, zin 1153 (by decide +kernel) (by decide +kernel), zin 1154 (by decide +kernel) (by decide +kernel)⟩
theorem sL_97 : zLv RL 97 mX12_never 0 := ⟨lX12_never, zin 1156 (by decide +kernel) (by decide +kernel), zin 1157 (by decide +kernel) (by decide +kernel), zin 1158 (by decide +kernel) (by decide +kernel)⟩
theorem sL_101 : zLv RL 101 mX12_holding 0 := ⟨lX12_holding, zin 1160 (by decide +kernel) (by decide +kernel), zin 1161 (by decide +kernel) (by decide +kernel), zin 1162 (by decide +kernel) (by decide +kernel)⟩
theorem sL_105 : zLv RL 105 mX12_call 2 := ⟨lX12_call, zin 1164 (by decide +kernel) (by decide +kernel), zin 1165 (by decide +kernel) (by decide +kernel), zin 1166 (by decide +kernel) (by decide +kernel)⟩
theorem sL_109 : zLv RL 109 mX12_go 2 := ⟨lX12_go, zin 1168 (by decide +kernel) (by decide +kernel), zin 1169 (by decide +kernel) (by decide +kernel), zin 1170 (by decide +kernel) (by decide +kernel)⟩
theorem sL_113 : zLv RL 113 mX12_walkers 2 := ⟨lX12_walkers, zin 1172 (by decide +kernel) (by decide +kernel), zin 1173 (by decide +kernel) (by decide +kernel), zin 1174 (by decide +kernel) (by decide +kernel)⟩
theorem sL_117 : zLv RL 117 mX12_fits 5 := ⟨lX12_fits, zin 1176 (by decide +kernel) (by decide +kernel), zin 1177 (by decide +kernel) (by decide +kernel), zin 1178 (by decide +kernel) (by decide +kernel)⟩
theorem sX12_201 : zLv RX12 201 mX12_goesSo 2 := ⟨lX12_goesSo, zin 1180 (by decide +kernel) (by decide +kernel), zin 1182 (by decide +kernel) (by decide +kernel), zin 45 (by decide +kernel) (by decide +kernel)⟩
theorem sL_121 : zLv RL 121 mX12_bounds 3 := ⟨lX12_bounds, zin 1184 (by decide +kernel) (by decide +kernel), zin 1185 (by decide +kernel) (by decide +kernel), zin 1186 (by decide +kernel) (by decide +kernel)⟩
theorem sL_125 : zLv RL 125 mX12_rain 3 := ⟨lX12_rain, zin 1188 (by decide +kernel) (by decide +kernel), zin 1189 (by decide +kernel) (by decide +kernel), zin 1190 (by decide +kernel) (by decide +kernel)⟩
theorem sL_129 : zLv RL 129 mX12_drawn 3 := ⟨lX12_drawn, zin 1192 (by decide +kernel) (by decide +kernel), zin 1193 (by decide +kernel) (by decide +kernel), zin 1194 (by decide +kernel) (by decide +kernel)⟩
theorem sL_133 : zLv RL 133 mX12_image 1 := ⟨lX12_image, zin 1200 (by decide +kernel) (by decide +kernel), zin 1201 (by decide +kernel) (by decide +kernel), zin 1202 (by decide +kernel) (by decide +kernel)⟩
theorem sL_137 : zLv RL 137 mX12_restore 1 := ⟨lX12_restore, zin 1204 (by decide +kernel) (by decide +kernel), zin 1205 (by decide +kernel) (by decide +kernel), zin 1206 (by decide +kernel) (by decide +kernel)⟩
theorem sL_141 : zLv RL 141 mX12_kind 1 := ⟨lX12_kind, zin 1208 (by decide +kernel) (by decide +kernel), zin 1209 (by decide +kernel) (by decide +kernel), zin 1210 (by decide +kernel) (by decide +kernel)⟩
theorem sX12_211 : zLv RX12 211 mX12_kindIn 1 := ⟨lX12_kindIn, zin 1212 (by decide +kernel) (by decide +kernel), zin 1214 (by decide +kernel) (by decide +kernel), zin 46 (by decide +kernel) (by decide +kernel)⟩
theorem sL_145 : zLv RL 145 mX12_as 2 := ⟨lX12_as, zin 1216 (by decide +kernel) (by decide +kernel), zin 1217 (by decide +kernel) (by decide +kernel), zin 1218 (by decide +kernel) (by decide +kernel)⟩
theorem sL_149 : zLv RL 149 mX12_ask 2 := ⟨lX12_ask, zin 1220 (by decide +kernel) (by decide +kernel), zin 1221 (by decide +kernel) (by decide +kernel), zin 1222 (by decide +kernel) (by decide +kernel)⟩
theorem sX12_223 : zLv RX12 223 mX12_childSize 1 := ⟨lX12_childSize, zin 1224 (by decide +kernel) (by decide +kernel), zin 1226 (by decide +kernel) (by decide +kernel), zin 47 (by decide +kernel) (by decide +kernel)⟩
theorem sX12_217 : zLv RX12 217 mX12_begins 1 := ⟨lX12_begins, zin 1228 (by decide +kernel) (by decide +kernel), zin 1230 (by decide +kernel) (by decide +kernel), zin 48 (by decide +kernel) (by decide +kernel)⟩
theorem sX12_226 : zLv RX12 226 mX12_plainSize 1 := ⟨lX12_plainSize, zin 1232 (by decide +kernel) (by decide +kernel), zin 1234 (by decide +kernel) (by decide +kernel), zin 49 (by decide +kernel) (by decide +kernel)⟩
theorem sX12_220 : zLv RX12 220 mX12_plainMark 1 := ⟨lX12_plainMark, zin 1236 (by decide +kernel) (by decide +kernel), zin 1238 (by decide +kernel) (by decide +kernel), zin 50 (by decide +kernel) (by decide +kernel)⟩
theorem sX12_229 : zLv RX12 229 mX12_childMark 1 := ⟨lX12_childMark, zin 1240 (by decide +kernel) (by decide +kernel), zin 1242 (by decide +kernel) (by decide +kernel), zin 51 (by decide +kernel) (by decide +kernel)⟩
theorem sL_153 : zLv RL 153 mX12_trace 1 := ⟨lX12_trace, zin 1244 (by decide +kernel) (by decide +kernel), zin 1245 (by decide +kernel) (by decide +kernel), zin 1246 (by decide +kernel) (by decide +kernel)⟩
theorem sL_157 : zLv RL 157 mX12_count 1 := ⟨lX12_count, zin 1248 (by decide +kernel) (by decide +kernel), zin 1249 (by decide +kernel) (by decide +kernel), zin 1250 (by decide +kernel) (by decide +kernel)⟩
theorem sL_161 : zLv RL 161 mX12_status 0 := ⟨lX12_status, zin 1252 (by decide +kernel) (by decide +kernel), zin 1253 (by decide +kernel) (by decide +kernel), zin 1254 (by decide +kernel) (by decide +kernel)⟩
theorem sX9_69 : zLn RX9 69 mX11_isWithin RX11 3 := ⟨lX11_isWithin, by decide +kernel, zin 310 (by decide +kernel) (by decide +kernel)⟩
theorem sX4_86 : zLn RX4 86 mX11_isIn RX11 2 := ⟨lX11_isIn, by decide +kernel, zin 558 (by decide +kernel) (by decide +kernel)⟩
theorem sX0_28 : zLn RX0 28 mX11_isWithin RX11 3 := ⟨lX11_isWithin, by decide +kernel, zin 310 (by decide +kernel) (by decide +kernel)⟩
theorem oX4_69_X1 : zLo RX4 69 RX1 ⟨"TramFaith$Waiter", "hopesBy", "(III)I"⟩ mX1_hopesBy 3 := ⟨lX1_hopesBy, zin 564 (by decide +kernel) (by decide +kernel), zin 566 (by decide +kernel) (by decide +kernel), zin 567 (by decide +kernel) (by decide +kernel), zin 568 (by decide +kernel) (by decide +kernel), by decide +kernel, by decide +kernel, by decide +kernel, Or.inl rfl⟩
theorem oX4_69_X2 : zLo RX4 69 RX2 ⟨"TramFaith$Waiter", "hopesBy", "(III)I"⟩ mX2_hopesBy 3 := ⟨lX2_hopesBy, zin 564 (by decide +kernel) (by decide +kernel), zin 566 (by decide +kernel) (by decide +kernel), zin 570 (by decide +kernel) (by decide +kernel), zin 571 (by decide +kernel) (by decide +kernel), by decide +kernel, by decide +kernel, by decide +kernel, Or.inl rfl⟩
theorem oX4_69_X3 : zLo RX4 69 RX3 ⟨"TramFaith$Waiter", "hopesBy", "(III)I"⟩ mX3_hopesBy 3 := ⟨lX3_hopesBy, zin 564 (by decide +kernel) (by decide +kernel), zin 566 (by decide +kernel) (by decide +kernel), zin 573 (by decide +kernel) (by decide +kernel), zin 574 (by decide +kernel) (by decide +kernel), by decide +kernel, by decide +kernel, by decide +kernel, Or.inl rfl⟩
theorem oX4_69_X6 : zLo RX4 69 RX6 ⟨"TramFaith$Waiter", "hopesBy", "(III)I"⟩ mX6_hopesBy 3 := ⟨lX6_hopesBy, zin 564 (by decide +kernel) (by decide +kernel), zin 566 (by decide +kernel) (by decide +kernel), zin 576 (by decide +kernel) (by decide +kernel), zin 577 (by decide +kernel) (by decide +kernel), by decide +kernel, by decide +kernel, by decide +kernel, Or.inl rfl⟩
theorem oX4_69_X7 : zLo RX4 69 RX7 ⟨"TramFaith$Waiter", "hopesBy", "(III)I"⟩ mX7_hopesBy 3 := ⟨lX7_hopesBy, zin 564 (by decide +kernel) (by decide +kernel), zin 566 (by decide +kernel) (by decide +kernel), zin 579 (by decide +kernel) (by decide +kernel), zin 580 (by decide +kernel) (by decide +kernel), by decide +kernel, by decide +kernel, by decide +kernel, Or.inl rfl⟩
theorem oX11_267_X1 : zLo RX11 267 RX1 ⟨"TramFaith$Waiter", "askSize", "(LTramFaith$Asked;)I"⟩ mX1_askSize 1 := ⟨lX1_askSize, zin 804 (by decide +kernel) (by decide +kernel), zin 806 (by decide +kernel) (by decide +kernel), zin 807 (by decide +kernel) (by decide +kernel), zin 808 (by decide +kernel) (by decide +kernel), by decide +kernel, by decide +kernel, by decide +kernel, Or.inr ⟨zin 805 (by decide +kernel) (by decide +kernel), _, _, _, (lX10_askSize).1⟩⟩
theorem oX11_267_X2 : zLo RX11 267 RX2 ⟨"TramFaith$Waiter", "askSize", "(LTramFaith$Asked;)I"⟩ mX2_askSize 1 := ⟨lX2_askSize, zin 804 (by decide +kernel) (by decide +kernel), zin 806 (by decide +kernel) (by decide +kernel), zin 815 (by decide +kernel) (by decide +kernel), zin 816 (by decide +kernel) (by decide +kernel), by decide +kernel, by decide +kernel, by decide +kernel, Or.inr ⟨zin 805 (by decide +kernel) (by decide +kernel), _, _, _, (lX10_askSize).1⟩⟩
theorem oX6_17_X6 : zLo RX6 17 RX6 ⟨"TramFaith$Plain", "askMark", "(LTramFaith$Asked;)I"⟩ mX6_askMark 1 := ⟨lX6_askMark, zin 824 (by decide +kernel) (by decide +kernel), zin 827 (by decide +kernel) (by decide +kernel), zin 826 (by decide +kernel) (by decide +kernel), zin 825 (by decide +kernel) (by decide +kernel), by decide +kernel, by decide +kernel, by decide +kernel, Or.inr ⟨zin 825 (by decide +kernel) (by decide +kernel), _, _, _, (lX6_askMark).1⟩⟩
theorem oX6_17_X2 : zLo RX6 17 RX2 ⟨"TramFaith$Plain", "askMark", "(LTramFaith$Asked;)I"⟩ mX2_askMark 1 := ⟨lX2_askMark, zin 824 (by decide +kernel) (by decide +kernel), zin 827 (by decide +kernel) (by decide +kernel), zin 828 (by decide +kernel) (by decide +kernel), zin 829 (by decide +kernel) (by decide +kernel), by decide +kernel, by decide +kernel, by decide +kernel, Or.inr ⟨zin 825 (by decide +kernel) (by decide +kernel), _, _, _, (lX6_askMark).1⟩⟩
theorem oX6_17_X3 : zLo RX6 17 RX3 ⟨"TramFaith$Plain", "askMark", "(LTramFaith$Asked;)I"⟩ mX3_askMark 1 := ⟨lX3_askMark, zin 824 (by decide +kernel) (by decide +kernel), zin 827 (by decide +kernel) (by decide +kernel), zin 832 (by decide +kernel) (by decide +kernel), zin 833 (by decide +kernel) (by decide +kernel), by decide +kernel, by decide +kernel, by decide +kernel, Or.inr ⟨zin 825 (by decide +kernel) (by decide +kernel), _, _, _, (lX6_askMark).1⟩⟩
theorem oX11_267_X3 : zLo RX11 267 RX3 ⟨"TramFaith$Waiter", "askSize", "(LTramFaith$Asked;)I"⟩ mX6_askSize 1 := ⟨lX6_askSize, zin 804 (by decide +kernel) (by decide +kernel), zin 806 (by decide +kernel) (by decide +kernel), zin 842 (by decide +kernel) (by decide +kernel), zin 820 (by decide +kernel) (by decide +kernel), by decide +kernel, by decide +kernel, by decide +kernel, Or.inr ⟨zin 805 (by decide +kernel) (by decide +kernel), _, _, _, (lX10_askSize).1⟩⟩
theorem oX11_267_X6 : zLo RX11 267 RX6 ⟨"TramFaith$Waiter", "askSize", "(LTramFaith$Asked;)I"⟩ mX6_askSize 1 := ⟨lX6_askSize, zin 804 (by decide +kernel) (by decide +kernel), zin 806 (by decide +kernel) (by decide +kernel), zin 843 (by decide +kernel) (by decide +kernel), zin 820 (by decide +kernel) (by decide +kernel), by decide +kernel, by decide +kernel, by decide +kernel, Or.inr ⟨zin 805 (by decide +kernel) (by decide +kernel), _, _, _, (lX10_askSize).1⟩⟩
theorem oX11_267_X7 : zLo RX11 267 RX7 ⟨"TramFaith$Waiter", "askSize", "(LTramFaith$Asked;)I"⟩ mX7_askSize 1 := ⟨lX7_askSize, zin 804 (by decide +kernel) (by decide +kernel), zin 806 (by decide +kernel) (by decide +kernel), zin 844 (by decide +kernel) (by decide +kernel), zin 845 (by decide +kernel) (by decide +kernel), by decide +kernel, by decide +kernel, by decide +kernel, Or.inr ⟨zin 805 (by decide +kernel) (by decide +kernel), _, _, _, (lX10_askSize).1⟩⟩
theorem oX11_271_X1 : zLo RX11 271 RX1 ⟨"TramFaith$Waiter", "askMark", "(LTramFaith$Asked;)I"⟩ mX1_askMark 1 := ⟨lX1_askMark, zin 850 (by decide +kernel) (by decide +kernel), zin 1257 (by decide +kernel) (by decide +kernel), zin 1259 (by decide +kernel) (by decide +kernel), zin 851 (by decide +kernel) (by decide +kernel), by decide +kernel, by decide +kernel, by decide +kernel, Or.inr ⟨zin 839 (by decide +kernel) (by decide +kernel), _, _, _, (lX10_askMark).1⟩⟩
theorem oX1_20_X1 : zLo RX1 20 RX1 ⟨"TramFaith$Child", "askSize", "(LTramFaith$Asked;)I"⟩ mX1_askSize 1 := ⟨lX1_askSize, zin 854 (by decide +kernel) (by decide +kernel), zin 1258 (by decide +kernel) (by decide +kernel), zin 1260 (by decide +kernel) (by decide +kernel), zin 808 (by decide +kernel) (by decide +kernel), by decide +kernel, by decide +kernel, by decide +kernel, Or.inr ⟨zin 808 (by decide +kernel) (by decide +kernel), _, _, _, (lX1_askSize).1⟩⟩
theorem oX1_20_X7 : zLo RX1 20 RX7 ⟨"TramFaith$Child", "askSize", "(LTramFaith$Asked;)I"⟩ mX7_askSize 1 := ⟨lX7_askSize, zin 854 (by decide +kernel) (by decide +kernel), zin 1258 (by decide +kernel) (by decide +kernel), zin 1261 (by decide +kernel) (by decide +kernel), zin 845 (by decide +kernel) (by decide +kernel), by decide +kernel, by decide +kernel, by decide +kernel, Or.inr ⟨zin 808 (by decide +kernel) (by decide +kernel), _, _, _, (lX1_askSize).1⟩⟩
theorem oX11_271_X2 : zLo RX11 271 RX2 ⟨"TramFaith$Waiter", "askMark", "(LTramFaith$Asked;)I"⟩ mX2_askMark 1 := ⟨lX2_askMark, zin 850 (by decide +kernel) (by decide +kernel), zin 1257 (by decide +kernel) (by decide +kernel), zin 1262 (by decide +kernel) (by decide +kernel), zin 829 (by decide +kernel) (by decide +kernel), by decide +kernel, by decide +kernel, by decide +kernel, Or.inr ⟨zin 839 (by decide +kernel) (by decide +kernel), _, _, _, (lX10_askMark).1⟩⟩
theorem oX11_271_X3 : zLo RX11 271 RX3 ⟨"TramFaith$Waiter", "askMark", "(LTramFaith$Asked;)I"⟩ mX3_askMark 1 := ⟨lX3_askMark, zin 850 (by decide +kernel) (by decide +kernel), zin 1257 (by decide +kernel) (by decide +kernel), zin 1263 (by decide +kernel) (by decide +kernel), zin 833 (by decide +kernel) (by decide +kernel), by decide +kernel, by decide +kernel, by decide +kernel, Or.inr ⟨zin 839 (by decide +kernel) (by decide +kernel), _, _, _, (lX10_askMark).1⟩⟩
theorem oX11_271_X6 : zLo RX11 271 RX6 ⟨"TramFaith$Waiter", "askMark", "(LTramFaith$Asked;)I"⟩ mX6_askMark 1 := ⟨lX6_askMark, zin 850 (by decide +kernel) (by decide +kernel), zin 1257 (by decide +kernel) (by decide +kernel), zin 1264 (by decide +kernel) (by decide +kernel), zin 825 (by decide +kernel) (by decide +kernel), by decide +kernel, by decide +kernel, by decide +kernel, Or.inr ⟨zin 839 (by decide +kernel) (by decide +kernel), _, _, _, (lX10_askMark).1⟩⟩
theorem oX11_271_X7 : zLo RX11 271 RX7 ⟨"TramFaith$Waiter", "askMark", "(LTramFaith$Asked;)I"⟩ mX1_askMark 1 := ⟨lX1_askMark, zin 850 (by decide +kernel) (by decide +kernel), zin 1257 (by decide +kernel) (by decide +kernel), zin 1265 (by decide +kernel) (by decide +kernel), zin 851 (by decide +kernel) (by decide +kernel), by decide +kernel, by decide +kernel, by decide +kernel, Or.inr ⟨zin 839 (by decide +kernel) (by decide +kernel), _, _, _, (lX10_askMark).1⟩⟩
theorem gwX0 : ∀ w ∈ u_ws RX0 TX0 5, w ∈ zG := fun w hw => List.mem_filter.mpr ⟨inX0 w hw, List.all_eq_true.mp (by decide +kernel : (u_ws RX0 TX0 5).all goodWord = true) w hw⟩
theorem gwX4 : ∀ w ∈ u_ws RX4 TX4 12, w ∈ zG := fun w hw => List.mem_filter.mpr ⟨inX4 w hw, List.all_eq_true.mp (by decide +kernel : (u_ws RX4 TX4 12).all goodWord = true) w hw⟩
theorem gwX5 : ∀ w ∈ u_ws RX5 TX5 3, w ∈ zG := fun w hw => List.mem_filter.mpr ⟨inX5 w hw, List.all_eq_true.mp (by decide +kernel : (u_ws RX5 TX5 3).all goodWord = true) w hw⟩
theorem gwX8 : ∀ w ∈ u_ws RX8 TX8 3, w ∈ zG := fun w hw => List.mem_filter.mpr ⟨inX8 w hw, List.all_eq_true.mp (by decide +kernel : (u_ws RX8 TX8 3).all goodWord = true) w hw⟩
theorem gwX9 : ∀ w ∈ u_ws RX9 TX9 6, w ∈ zG := fun w hw => List.mem_filter.mpr ⟨inX9 w hw, List.all_eq_true.mp (by decide +kernel : (u_ws RX9 TX9 6).all goodWord = true) w hw⟩
theorem gwX11 : ∀ w ∈ u_ws RX11 TX11 9, w ∈ zG := fun w hw => List.mem_filter.mpr ⟨inX11 w hw, List.all_eq_true.mp (by decide +kernel : (u_ws RX11 TX11 9).all goodWord = true) w hw⟩
theorem gwX12 : ∀ w ∈ u_ws RX12 TX12 22, w ∈ zG := fun w hw => List.mem_filter.mpr ⟨inX12 w hw, List.all_eq_true.mp (by decide +kernel : (u_ws RX12 TX12 22).all goodWord = true) w hw⟩
theorem fX8_11 : zFd RX8 11 8 0 RX8 TX8 3 := ⟨rfl, by decide, zin 134 (by decide +kernel) (by decide +kernel), gwX8, rfl, tyX8, tyX8_ok, nmX8⟩
theorem fX8_16 : zFd RX8 16 8 1 RX8 TX8 3 := ⟨rfl, by decide, zin 135 (by decide +kernel) (by decide +kernel), gwX8, rfl, tyX8, tyX8_ok, nmX8⟩
theorem fX8_20 : zFd RX8 20 8 2 RX8 TX8 3 := ⟨rfl, by decide, zin 136 (by decide +kernel) (by decide +kernel), gwX8, rfl, tyX8, tyX8_ok, nmX8⟩
theorem fX9_15 : zFd RX9 15 9 0 RX9 TX9 6 := ⟨rfl, by decide, zin 151 (by decide +kernel) (by decide +kernel), gwX9, rfl, tyX9, tyX9_ok, nmX9⟩
theorem pX9_15 : zFp RX9 15 9 0 RX9 TX9 6 := ⟨fX9_15, rfl, by decide +kernel⟩
theorem fX11_111 : zFd RX11 111 9 0 RX9 TX9 6 := ⟨rfl, by decide, zin 152 (by decide +kernel) (by decide +kernel), gwX9, rfl, tyX9, tyX9_ok, nmX9⟩
theorem pX11_111 : zFp RX11 111 9 0 RX9 TX9 6 := ⟨fX11_111, rfl, by decide +kernel⟩
theorem fX11_123 : zFd RX11 123 9 1 RX9 TX9 6 := ⟨rfl, by decide, zin 153 (by decide +kernel) (by decide +kernel), gwX9, rfl, tyX9, tyX9_ok, nmX9⟩
theorem pX11_123 : zFp RX11 123 9 1 RX9 TX9 6 := ⟨fX11_123, rfl, by decide +kernel⟩
theorem fX9_73 : zFd RX9 73 9 1 RX9 TX9 6 := ⟨rfl, by decide, zin 154 (by decide +kernel) (by decide +kernel), gwX9, rfl, tyX9, tyX9_ok, nmX9⟩
theorem pX9_73 : zFp RX9 73 9 1 RX9 TX9 6 := ⟨fX9_73, rfl, by decide +kernel⟩
theorem fX11_130 : zFd RX11 130 9 2 RX9 TX9 6 := ⟨rfl, by decide, zin 155 (by decide +kernel) (by decide +kernel), gwX9, rfl, tyX9, tyX9_ok, nmX9⟩
theorem pX11_130 : zFp RX11 130 9 2 RX9 TX9 6 := ⟨fX11_130, rfl, by decide +kernel⟩
theorem fX9_76 : zFd RX9 76 9 2 RX9 TX9 6 := ⟨rfl, by decide, zin 156 (by decide +kernel) (by decide +kernel), gwX9, rfl, tyX9, tyX9_ok, nmX9⟩
theorem pX9_76 : zFp RX9 76 9 2 RX9 TX9 6 := ⟨fX9_76, rfl, by decide +kernel⟩
theorem fX9_9 : zFd RX9 9 9 3 RX9 TX9 6 := ⟨rfl, by decide, zin 157 (by decide +kernel) (by decide +kernel), gwX9, rfl, tyX9, tyX9_ok, nmX9⟩
theorem fX9_19 : zFd RX9 19 9 4 RX9 TX9 6 := ⟨rfl, by decide, zin 158 (by decide +kernel) (by decide +kernel), gwX9, rfl, tyX9, tyX9_ok, nmX9⟩
theorem pX9_19 : zFp RX9 19 9 4 RX9 TX9 6 := ⟨fX9_19, rfl, by decide +kernel⟩
theorem fX9_37 : zFd RX9 37 9 5 RX9 TX9 6 := ⟨rfl, by decide, zin 159 (by decide +kernel) (by decide +kernel), gwX9, rfl, tyX9, tyX9_ok, nmX9⟩
theorem pX9_37 : zFp RX9 37 9 5 RX9 TX9 6 := ⟨fX9_37, rfl, by decide +kernel⟩
theorem fX4_37 : zFd RX4 37 4 0 RX4 TX4 12 := ⟨rfl, by decide, zin 179 (by decide +kernel) (by decide +kernel), gwX4, rfl, tyX4, tyX4_ok, nmX4⟩
theorem pX4_37 : zFp RX4 37 4 0 RX4 TX4 12 := ⟨fX4_37, rfl, by decide +kernel⟩
theorem fX9_62 : zFd RX9 62 4 0 RX4 TX4 12 := ⟨rfl, by decide, zin 180 (by decide +kernel) (by decide +kernel), gwX4, rfl, tyX4, tyX4_ok, nmX4⟩
theorem pX9_62 : zFp RX9 62 4 0 RX4 TX4 12 := ⟨fX9_62, rfl, by decide +kernel⟩
theorem fX11_219 : zFd RX11 219 4 0 RX4 TX4 12 := ⟨rfl, by decide, zin 181 (by decide +kernel) (by decide +kernel), gwX4, rfl, tyX4, tyX4_ok, nmX4⟩
theorem pX11_219 : zFp RX11 219 4 0 RX4 TX4 12 := ⟨fX11_219, rfl, by decide +kernel⟩
theorem fX4_41 : zFd RX4 41 4 1 RX4 TX4 12 := ⟨rfl, by decide, zin 182 (by decide +kernel) (by decide +kernel), gwX4, rfl, tyX4, tyX4_ok, nmX4⟩
theorem pX4_41 : zFp RX4 41 4 1 RX4 TX4 12 := ⟨fX4_41, rfl, by decide +kernel⟩
theorem fX11_280 : zFd RX11 280 4 1 RX4 TX4 12 := ⟨rfl, by decide, zin 183 (by decide +kernel) (by decide +kernel), gwX4, rfl, tyX4, tyX4_ok, nmX4⟩
theorem pX11_280 : zFp RX11 280 4 1 RX4 TX4 12 := ⟨fX11_280, rfl, by decide +kernel⟩
theorem fX4_44 : zFd RX4 44 4 2 RX4 TX4 12 := ⟨rfl, by decide, zin 184 (by decide +kernel) (by decide +kernel), gwX4, rfl, tyX4, tyX4_ok, nmX4⟩
theorem pX4_44 : zFp RX4 44 4 2 RX4 TX4 12 := ⟨fX4_44, rfl, by decide +kernel⟩
theorem fX11_140 : zFd RX11 140 4 2 RX4 TX4 12 := ⟨rfl, by decide, zin 185 (by decide +kernel) (by decide +kernel), gwX4, rfl, tyX4, tyX4_ok, nmX4⟩
theorem pX11_140 : zFp RX11 140 4 2 RX4 TX4 12 := ⟨fX11_140, rfl, by decide +kernel⟩
theorem fX4_47 : zFd RX4 47 4 3 RX4 TX4 12 := ⟨rfl, by decide, zin 186 (by decide +kernel) (by decide +kernel), gwX4, rfl, tyX4, tyX4_ok, nmX4⟩
theorem pX4_47 : zFp RX4 47 4 3 RX4 TX4 12 := ⟨fX4_47, rfl, by decide +kernel⟩
theorem fX5_26 : zFd RX5 26 4 3 RX4 TX4 12 := ⟨rfl, by decide, zin 187 (by decide +kernel) (by decide +kernel), gwX4, rfl, tyX4, tyX4_ok, nmX4⟩
theorem pX5_26 : zFp RX5 26 4 3 RX4 TX4 12 := ⟨fX5_26, rfl, by decide +kernel⟩
theorem fX11_148 : zFd RX11 148 4 3 RX4 TX4 12 := ⟨rfl, by decide, zin 188 (by decide +kernel) (by decide +kernel), gwX4, rfl, tyX4, tyX4_ok, nmX4⟩
theorem pX11_148 : zFp RX11 148 4 3 RX4 TX4 12 := ⟨fX11_148, rfl, by decide +kernel⟩
theorem fX4_9 : zFd RX4 9 4 4 RX4 TX4 12 := ⟨rfl, by decide, zin 189 (by decide +kernel) (by decide +kernel), gwX4, rfl, tyX4, tyX4_ok, nmX4⟩
theorem fX11_253 : zFd RX11 253 4 4 RX4 TX4 12 := ⟨rfl, by decide, zin 190 (by decide +kernel) (by decide +kernel), gwX4, rfl, tyX4, tyX4_ok, nmX4⟩
theorem fX4_15 : zFd RX4 15 4 5 RX4 TX4 12 := ⟨rfl, by decide, zin 191 (by decide +kernel) (by decide +kernel), gwX4, rfl, tyX4, tyX4_ok, nmX4⟩
theorem fX5_31 : zFd RX5 31 4 5 RX4 TX4 12 := ⟨rfl, by decide, zin 192 (by decide +kernel) (by decide +kernel), gwX4, rfl, tyX4, tyX4_ok, nmX4⟩
theorem fX11_164 : zFd RX11 164 4 5 RX4 TX4 12 := ⟨rfl, by decide, zin 193 (by decide +kernel) (by decide +kernel), gwX4, rfl, tyX4, tyX4_ok, nmX4⟩
theorem fX4_18 : zFd RX4 18 4 6 RX4 TX4 12 := ⟨rfl, by decide, zin 194 (by decide +kernel) (by decide +kernel), gwX4, rfl, tyX4, tyX4_ok, nmX4⟩
theorem fX5_40 : zFd RX5 40 4 6 RX4 TX4 12 := ⟨rfl, by decide, zin 195 (by decide +kernel) (by decide +kernel), gwX4, rfl, tyX4, tyX4_ok, nmX4⟩
theorem fX11_175 : zFd RX11 175 4 6 RX4 TX4 12 := ⟨rfl, by decide, zin 196 (by decide +kernel) (by decide +kernel), gwX4, rfl, tyX4, tyX4_ok, nmX4⟩
theorem fX4_21 : zFd RX4 21 4 7 RX4 TX4 12 := ⟨rfl, by decide, zin 197 (by decide +kernel) (by decide +kernel), gwX4, rfl, tyX4, tyX4_ok, nmX4⟩
theorem fX5_43 : zFd RX5 43 4 7 RX4 TX4 12 := ⟨rfl, by decide, zin 198 (by decide +kernel) (by decide +kernel), gwX4, rfl, tyX4, tyX4_ok, nmX4⟩
theorem fX11_178 : zFd RX11 178 4 7 RX4 TX4 12 := ⟨rfl, by decide, zin 199 (by decide +kernel) (by decide +kernel), gwX4, rfl, tyX4, tyX4_ok, nmX4⟩
theorem fX4_24 : zFd RX4 24 4 8 RX4 TX4 12 := ⟨rfl, by decide, zin 200 (by decide +kernel) (by decide +kernel), gwX4, rfl, tyX4, tyX4_ok, nmX4⟩
theorem fX5_46 : zFd RX5 46 4 8 RX4 TX4 12 := ⟨rfl, by decide, zin 201 (by decide +kernel) (by decide +kernel), gwX4, rfl, tyX4, tyX4_ok, nmX4⟩
theorem fX11_187 : zFd RX11 187 4 8 RX4 TX4 12 := ⟨rfl, by decide, zin 202 (by decide +kernel) (by decide +kernel), gwX4, rfl, tyX4, tyX4_ok, nmX4⟩
theorem fX4_33 : zFd RX4 33 4 9 RX4 TX4 12 := ⟨rfl, by decide, zin 203 (by decide +kernel) (by decide +kernel), gwX4, rfl, tyX4, tyX4_ok, nmX4⟩
theorem fX4_27 : zFd RX4 27 4 10 RX4 TX4 12 := ⟨rfl, by decide, zin 204 (by decide +kernel) (by decide +kernel), gwX4, rfl, tyX4, tyX4_ok, nmX4⟩
theorem fX4_30 : zFd RX4 30 4 11 RX4 TX4 12 := ⟨rfl, by decide, zin 205 (by decide +kernel) (by decide +kernel), gwX4, rfl, tyX4, tyX4_ok, nmX4⟩
theorem fX5_15 : zFd RX5 15 5 0 RX5 TX5 3 := ⟨rfl, by decide, zin 238 (by decide +kernel) (by decide +kernel), gwX5, rfl, tyX5, tyX5_ok, nmX5⟩
theorem pX5_15 : zFp RX5 15 5 0 RX5 TX5 3 := ⟨fX5_15, rfl, by decide +kernel⟩
theorem fX11_181 : zFd RX11 181 5 0 RX5 TX5 3 := ⟨rfl, by decide, zin 239 (by decide +kernel) (by decide +kernel), gwX5, rfl, tyX5, tyX5_ok, nmX5⟩
theorem pX11_181 : zFp RX11 181 5 0 RX5 TX5 3 := ⟨fX11_181, rfl, by decide +kernel⟩
theorem fX5_19 : zFd RX5 19 5 1 RX5 TX5 3 := ⟨rfl, by decide, zin 240 (by decide +kernel) (by decide +kernel), gwX5, rfl, tyX5, tyX5_ok, nmX5⟩
theorem pX5_19 : zFp RX5 19 5 1 RX5 TX5 3 := ⟨fX5_19, rfl, by decide +kernel⟩
theorem fX5_11 : zFd RX5 11 5 2 RX5 TX5 3 := ⟨rfl, by decide, zin 241 (by decide +kernel) (by decide +kernel), gwX5, rfl, tyX5, tyX5_ok, nmX5⟩
theorem fX0_15 : zFd RX0 15 0 0 RX0 TX0 5 := ⟨rfl, by decide, zin 255 (by decide +kernel) (by decide +kernel), gwX0, rfl, tyX0, tyX0_ok, nmX0⟩
theorem pX0_15 : zFp RX0 15 0 0 RX0 TX0 5 := ⟨fX0_15, rfl, by decide +kernel⟩
theorem fX10_17 : zFd RX10 17 0 0 RX0 TX0 5 := ⟨rfl, by decide, zin 256 (by decide +kernel) (by decide +kernel), gwX0, rfl, tyX0, tyX0_ok, nmX0⟩
theorem pX10_17 : zFp RX10 17 0 0 RX0 TX0 5 := ⟨fX10_17, rfl, by decide +kernel⟩
theorem fX0_19 : zFd RX0 19 0 1 RX0 TX0 5 := ⟨rfl, by decide, zin 257 (by decide +kernel) (by decide +kernel), gwX0, rfl, tyX0, tyX0_ok, nmX0⟩
theorem pX0_19 : zFp RX0 19 0 1 RX0 TX0 5 := ⟨fX0_19, rfl, by decide +kernel⟩
theorem fX10_13 : zFd RX10 13 0 1 RX0 TX0 5 := ⟨rfl, by decide, zin 258 (by decide +kernel) (by decide +kernel), gwX0, rfl, tyX0, tyX0_ok, nmX0⟩
theorem pX10_13 : zFp RX10 13 0 1 RX0 TX0 5 := ⟨fX10_13, rfl, by decide +kernel⟩
theorem fX0_22 : zFd RX0 22 0 2 RX0 TX0 5 := ⟨rfl, by decide, zin 259 (by decide +kernel) (by decide +kernel), gwX0, rfl, tyX0, tyX0_ok, nmX0⟩
theorem pX0_22 : zFp RX0 22 0 2 RX0 TX0 5 := ⟨fX0_22, rfl, by decide +kernel⟩
theorem fX6_23 : zFd RX6 23 0 2 RX0 TX0 5 := ⟨rfl, by decide, zin 260 (by decide +kernel) (by decide +kernel), gwX0, rfl, tyX0, tyX0_ok, nmX0⟩
theorem pX6_23 : zFp RX6 23 0 2 RX0 TX0 5 := ⟨fX6_23, rfl, by decide +kernel⟩
theorem fX0_25 : zFd RX0 25 0 3 RX0 TX0 5 := ⟨rfl, by decide, zin 261 (by decide +kernel) (by decide +kernel), gwX0, rfl, tyX0, tyX0_ok, nmX0⟩
theorem pX0_25 : zFp RX0 25 0 3 RX0 TX0 5 := ⟨fX0_25, rfl, by decide +kernel⟩
theorem fX0_9 : zFd RX0 9 0 4 RX0 TX0 5 := ⟨rfl, by decide, zin 262 (by decide +kernel) (by decide +kernel), gwX0, rfl, tyX0, tyX0_ok, nmX0⟩
theorem fX11_27 : zFd RX11 27 10 0 RX11 TX11 9 := ⟨rfl, by decide, zin 274 (by decide +kernel) (by decide +kernel), gwX11, rfl, tyX11, tyX11_ok, nmX11⟩
theorem fX11_36 : zFd RX11 36 10 1 RX11 TX11 9 := ⟨rfl, by decide, zin 275 (by decide +kernel) (by decide +kernel), gwX11, rfl, tyX11, tyX11_ok, nmX11⟩
theorem fX11_45 : zFd RX11 45 10 2 RX11 TX11 9 := ⟨rfl, by decide, zin 276 (by decide +kernel) (by decide +kernel), gwX11, rfl, tyX11, tyX11_ok, nmX11⟩
theorem fX11_49 : zFd RX11 49 10 3 RX11 TX11 9 := ⟨rfl, by decide, zin 277 (by decide +kernel) (by decide +kernel), gwX11, rfl, tyX11, tyX11_ok, nmX11⟩
theorem fX11_52 : zFd RX11 52 10 4 RX11 TX11 9 := ⟨rfl, by decide, zin 278 (by decide +kernel) (by decide +kernel), gwX11, rfl, tyX11, tyX11_ok, nmX11⟩
theorem fX11_59 : zFd RX11 59 10 5 RX11 TX11 9 := ⟨rfl, by decide, zin 279 (by decide +kernel) (by decide +kernel), gwX11, rfl, tyX11, tyX11_ok, nmX11⟩
theorem fX11_66 : zFd RX11 66 10 6 RX11 TX11 9 := ⟨rfl, by decide, zin 280 (by decide +kernel) (by decide +kernel), gwX11, rfl, tyX11, tyX11_ok, nmX11⟩
theorem fX11_126 : zFd RX11 126 10 7 RX11 TX11 9 := ⟨rfl, by decide, zin 281 (by decide +kernel) (by decide +kernel), gwX11, rfl, tyX11, tyX11_ok, nmX11⟩
theorem pX11_126 : zFp RX11 126 10 7 RX11 TX11 9 := ⟨fX11_126, rfl, by decide +kernel⟩
theorem fX11_283 : zFd RX11 283 10 8 RX11 TX11 9 := ⟨rfl, by decide, zin 282 (by decide +kernel) (by decide +kernel), gwX11, rfl, tyX11, tyX11_ok, nmX11⟩
theorem pX11_283 : zFp RX11 283 10 8 RX11 TX11 9 := ⟨fX11_283, rfl, by decide +kernel⟩
theorem fX12_7 : zFd RX12 7 11 0 RX12 TX12 22 := ⟨rfl, by decide, zin 884 (by decide +kernel) (by decide +kernel), gwX12, rfl, tyX12, tyX12_ok, nmX12⟩
theorem fX12_13 : zFd RX12 13 11 1 RX12 TX12 22 := ⟨rfl, by decide, zin 885 (by decide +kernel) (by decide +kernel), gwX12, rfl, tyX12, tyX12_ok, nmX12⟩
theorem fX12_16 : zFd RX12 16 11 2 RX12 TX12 22 := ⟨rfl, by decide, zin 886 (by decide +kernel) (by decide +kernel), gwX12, rfl, tyX12, tyX12_ok, nmX12⟩
theorem fX12_19 : zFd RX12 19 11 3 RX12 TX12 22 := ⟨rfl, by decide, zin 887 (by decide +kernel) (by decide +kernel), gwX12, rfl, tyX12, tyX12_ok, nmX12⟩
theorem fX12_48 : zFd RX12 48 11 4 RX12 TX12 22 := ⟨rfl, by decide, zin 888 (by decide +kernel) (by decide +kernel), gwX12, rfl, tyX12, tyX12_ok, nmX12⟩
theorem pX12_48 : zFp RX12 48 11 4 RX12 TX12 22 := ⟨fX12_48, rfl, by decide +kernel⟩
theorem fX12_22 : zFd RX12 22 11 5 RX12 TX12 22 := ⟨rfl, by decide, zin 889 (by decide +kernel) (by decide +kernel), gwX12, rfl, tyX12, tyX12_ok, nmX12⟩
theorem fX12_79 : zFd RX12 79 11 6 RX12 TX12 22 := ⟨rfl, by decide, zin 890 (by decide +kernel) (by decide +kernel), gwX12, rfl, tyX12, tyX12_ok, nmX12⟩
theorem pX12_79 : zFp RX12 79 11 6 RX12 TX12 22 := ⟨fX12_79, rfl, by decide +kernel⟩
theorem fX12_105 : zFd RX12 105 11 7 RX12 TX12 22 := ⟨rfl, by decide, zin 891 (by decide +kernel) (by decide +kernel), gwX12, rfl, tyX12, tyX12_ok, nmX12⟩
theorem pX12_105 : zFp RX12 105 11 7 RX12 TX12 22 := ⟨fX12_105, rfl, by decide +kernel⟩
theorem fX12_98 : zFd RX12 98 11 8 RX12 TX12 22 := ⟨rfl, by decide, zin 892 (by decide +kernel) (by decide +kernel), gwX12, rfl, tyX12, tyX12_ok, nmX12⟩
theorem pX12_98 : zFp RX12 98 11 8 RX12 TX12 22 := ⟨fX12_98, rfl, by decide +kernel⟩
theorem fX12_83 : zFd RX12 83 11 9 RX12 TX12 22 := ⟨rfl, by decide, zin 893 (by decide +kernel) (by decide +kernel), gwX12, rfl, tyX12, tyX12_ok, nmX12⟩
theorem pX12_83 : zFp RX12 83 11 9 RX12 TX12 22 := ⟨fX12_83, rfl, by decide +kernel⟩
theorem fX12_86 : zFd RX12 86 11 10 RX12 TX12 22 := ⟨rfl, by decide, zin 894 (by decide +kernel) (by decide +kernel), gwX12, rfl, tyX12, tyX12_ok, nmX12⟩
theorem pX12_86 : zFp RX12 86 11 10 RX12 TX12 22 := ⟨fX12_86, rfl, by decide +kernel⟩
theorem fX12_95 : zFd RX12 95 11 11 RX12 TX12 22 := ⟨rfl, by decide, zin 895 (by decide +kernel) (by decide +kernel), gwX12, rfl, tyX12, tyX12_ok, nmX12⟩
theorem pX12_95 : zFp RX12 95 11 11 RX12 TX12 22 := ⟨fX12_95, rfl, by decide +kernel⟩
theorem fX12_92 : zFd RX12 92 11 12 RX12 TX12 22 := ⟨rfl, by decide, zin 896 (by decide +kernel) (by decide +kernel), gwX12, rfl, tyX12, tyX12_ok, nmX12⟩
theorem pX12_92 : zFp RX12 92 11 12 RX12 TX12 22 := ⟨fX12_92, rfl, by decide +kernel⟩
theorem fX12_25 : zFd RX12 25 11 13 RX12 TX12 22 := ⟨rfl, by decide, zin 897 (by decide +kernel) (by decide +kernel), gwX12, rfl, tyX12, tyX12_ok, nmX12⟩
theorem fX12_28 : zFd RX12 28 11 14 RX12 TX12 22 := ⟨rfl, by decide, zin 898 (by decide +kernel) (by decide +kernel), gwX12, rfl, tyX12, tyX12_ok, nmX12⟩
theorem fX12_31 : zFd RX12 31 11 15 RX12 TX12 22 := ⟨rfl, by decide, zin 899 (by decide +kernel) (by decide +kernel), gwX12, rfl, tyX12, tyX12_ok, nmX12⟩
theorem fX12_34 : zFd RX12 34 11 16 RX12 TX12 22 := ⟨rfl, by decide, zin 900 (by decide +kernel) (by decide +kernel), gwX12, rfl, tyX12, tyX12_ok, nmX12⟩
theorem fX12_132 : zFd RX12 132 11 17 RX12 TX12 22 := ⟨rfl, by decide, zin 901 (by decide +kernel) (by decide +kernel), gwX12, rfl, tyX12, tyX12_ok, nmX12⟩
theorem pX12_132 : zFp RX12 132 11 17 RX12 TX12 22 := ⟨fX12_132, rfl, by decide +kernel⟩
theorem fX12_37 : zFd RX12 37 11 18 RX12 TX12 22 := ⟨rfl, by decide, zin 902 (by decide +kernel) (by decide +kernel), gwX12, rfl, tyX12, tyX12_ok, nmX12⟩
theorem fX12_40 : zFd RX12 40 11 19 RX12 TX12 22 := ⟨rfl, by decide, zin 903 (by decide +kernel) (by decide +kernel), gwX12, rfl, tyX12, tyX12_ok, nmX12⟩
theorem fX12_44 : zFd RX12 44 11 20 RX12 TX12 22 := ⟨rfl, by decide, zin 904 (by decide +kernel) (by decide +kernel), gwX12, rfl, tyX12, tyX12_ok, nmX12⟩
theorem fX12_214 : zFd RX12 214 11 21 RX12 TX12 22 := ⟨rfl, by decide, zin 905 (by decide +kernel) (by decide +kernel), gwX12, rfl, tyX12, tyX12_ok, nmX12⟩
theorem pX12_214 : zFp RX12 214 11 21 RX12 TX12 22 := ⟨fX12_214, rfl, by decide +kernel⟩
theorem kX11_78 : Cond.constant RX11 78 (-1000001) ∈ zG := zin 312 (by decide +kernel) (by decide +kernel)
theorem kX11_286 : Cond.constant RX11 286 (-1000010) ∈ zG := zin 317 (by decide +kernel) (by decide +kernel)
theorem kX11_115 : Cond.constant RX11 115 (-1000003) ∈ zG := zin 374 (by decide +kernel) (by decide +kernel)
theorem kJ2_227 : Cond.constant RJ2 227 (65536) ∈ zG := zin 455 (by decide +kernel) (by decide +kernel)
theorem kJ11_110 : Cond.constant RJ11 110 (55232) ∈ zG := zin 494 (by decide +kernel) (by decide +kernel)
theorem kJ11_76 : Cond.constant RJ11 76 (56320) ∈ zG := zin 498 (by decide +kernel) (by decide +kernel)
theorem kX11_129 : Cond.constant RX11 129 (-1000100) ∈ zG := zin 507 (by decide +kernel) (by decide +kernel)
theorem kX11_147 : Cond.constant RX11 147 (-1000002) ∈ zG := zin 530 (by decide +kernel) (by decide +kernel)
theorem kJ6_265 : Cond.constant RJ6 265 (1431655765) ∈ zG := zin 640 (by decide +kernel) (by decide +kernel)
theorem kJ6_266 : Cond.constant RJ6 266 (858993459) ∈ zG := zin 641 (by decide +kernel) (by decide +kernel)
theorem kJ6_267 : Cond.constant RJ6 267 (252645135) ∈ zG := zin 642 (by decide +kernel) (by decide +kernel)
theorem kX11_205 : Cond.constant RX11 205 (-1000000) ∈ zG := zin 665 (by decide +kernel) (by decide +kernel)
theorem kX11_244 : Cond.constant RX11 244 (999999) ∈ zG := zin 768 (by decide +kernel) (by decide +kernel)
theorem kX11_245 : Cond.constantLong RX11 245 (16807) ∈ zG := zin 769 (by decide +kernel) (by decide +kernel)
theorem kX11_247 : Cond.constantLong RX11 247 (2147483647) ∈ zG := zin 770 (by decide +kernel) (by decide +kernel)
theorem kX11_307 : Cond.constantLong RX11 307 (21) ∈ zG := zin 775 (by decide +kernel) (by decide +kernel)
theorem kX0_32 : Cond.constant RX0 32 (-1000000) ∈ zG := zin 864 (by decide +kernel) (by decide +kernel)
theorem kX12_47 : Cond.constant RX12 47 (-1000000) ∈ zG := zin 883 (by decide +kernel) (by decide +kernel)
theorem kX12_61 : Cond.constant RX12 61 (-1000001) ∈ zG := zin 962 (by decide +kernel) (by decide +kernel)
theorem kX12_52 : Cond.constant RX12 52 (-1000010) ∈ zG := zin 967 (by decide +kernel) (by decide +kernel)
theorem kX12_82 : Cond.constant RX12 82 (-1000003) ∈ zG := zin 999 (by decide +kernel) (by decide +kernel)
theorem kX12_127 : Cond.constant RX12 127 (-1000100) ∈ zG := zin 1035 (by decide +kernel) (by decide +kernel)
theorem kX12_170 : Cond.constant RX12 170 (-1000002) ∈ zG := zin 1051 (by decide +kernel) (by decide +kernel)
theorem kX12_204 : Cond.constant RX12 204 (999999) ∈ zG := zin 1196 (by decide +kernel) (by decide +kernel)
theorem kX12_205 : Cond.constantLong RX12 205 (16807) ∈ zG := zin 1197 (by decide +kernel) (by decide +kernel)
theorem kX12_207 : Cond.constantLong RX12 207 (2147483647) ∈ zG := zin 1198 (by decide +kernel) (by decide +kernel)
theorem kX12_209 : Cond.constantLong RX12 209 (21) ∈ zG := zin 1199 (by decide +kernel) (by decide +kernel)
end
section
/-! small numbers: nI forms of the steps; booleans by a statement -/
noncomputable def bP (c : Prop) : Int32 := @ite _ c (Classical.propDecidable c) 1 0
theorem bP_t {c : Prop} (h : c) : bP c = 1 := by unfold bP; rw [if_pos h]
theorem bP_f {c : Prop} (h : ¬ c) : bP c = 0 := by unfold bP; rw [if_neg h]
theorem bP_nar (c : Prop) : narrow .boolean (.int (bP c)) = .int (bP c) := by
  by_cases h : c
  · rw [bP_t h]; rfl
  · rw [bP_f h]; rfl
theorem bP_0 {c : Prop} : bP c = 0 ↔ ¬ c := by
  by_cases h : c
  · rw [bP_t h]; simp [h]
  · rw [bP_f h]; simp [h]
theorem bP_c {c d : Prop} (h : c ↔ d) : bP c = bP d := by rw [propext h]
def zup (f : Nat → Nat) (k v : Nat) : Nat → Nat := fun j => if j = k then v else f j
theorem zup_s {f : Nat → Nat} {k v : Nat} : zup f k v k = v := if_pos rfl
theorem zup_n {f : Nat → Nat} {k v j : Nat} (h : j ≠ k) : zup f k v j = f j := if_neg h
theorem zup_nI (f : Nat → Nat) (k v : Nat) : upd (fun j => nI (f j)) k (nI v) = fun j => nI (zup f k v j) := by
  funext j
  unfold upd zup
  split <;> rfl
theorem nI_cl {n : Nat} (h : n < 2147483648) : (nI n).toNatClampNeg = n := nI_clamp (by omega)
theorem nI_or (a b : Nat) : nI a ||| nI b = nI (a ||| b) := by
  unfold nI
  apply Int32.toBitVec_inj.mp
  simp [Int32.toBitVec_or, Int32.toBitVec_ofNat, BitVec.ofNat_or]
theorem nI_and (a b : Nat) : nI a &&& nI b = nI (a &&& b) := by
  unfold nI
  apply Int32.toBitVec_inj.mp
  simp [Int32.toBitVec_and, Int32.toBitVec_ofNat, BitVec.ofNat_and]
theorem nI_sc : ∀ n, n < 32 → ((nI n &&& 31).toBitVec.smod 32).toNat = n := by decide +kernel
theorem nI_shl (a : Nat) {b : Nat} (hb : b < 32) : nI a <<< (nI b &&& 31) = nI (a * 2 ^ b) := by
  apply Int32.toBitVec_inj.mp
  apply BitVec.eq_of_toNat_eq
  rw [pk_shl _ _ b (nI_sc b hb)]
  have e : ∀ n : Nat, (nI n).toBitVec.toNat = n % 2 ^ 32 := fun n => by simp [nI, Int32.toBitVec_ofNat]
  rw [e, e, Nat.mod_mul_mod]
theorem nI_shr {a b : Nat} (ha : a < 2147483648) (hb : b < 32) : nI a >>> (nI b &&& 31) = nI (a / 2 ^ b) := pk_shrN (by omega) _ b (nI_sc b hb)
theorem nI_lt0 {a : Nat} (h : a < 2147483648) : ¬ nI a < 0 := nI_pos (by omega)
section ZN
variable {x : zC} {M : zM} {n pc : Nat} {lv lv' : List (Option Value)} {st st' : List Value} {h h' : List zE}
theorem z_eq (e1 : lv = lv') (e2 : st = st') (e3 : h = h') (k : zV x pc lv' st' h') : zV x pc lv st h := by subst e1; subst e2; subst e3; exact k
theorem z_top {a b : Int32} (e : a = b) (k : zV x pc lv (.int b :: st) h) : zV x pc lv (.int a :: st) h := by subst e; exact k
theorem z_topN {a b : Nat} (e : a = b) (k : zV x pc lv (.int (nI b) :: st) h) : zV x pc lv (.int (nI a) :: st) h := by subst e; exact k
theorem z_heap (e : h = h') (k : zV x pc lv st h') : zV x pc lv st h := by subst e; exact k
theorem z_iaddN (hx : zOk x M n) {a b : Nat} (d : decode M.2.1 pc = .ok (.iadd, 1)) (k : zV x (pc + 1) lv (.int (nI (a + b)) :: st) h) : zV x pc lv (.int (nI b) :: .int (nI a) :: st) h :=
  z_iadd hx d (z_top (nI_add a b) k)
theorem z_isubN (hx : zOk x M n) {a b : Nat} (d : decode M.2.1 pc = .ok (.isub, 1)) (hb : b ≤ a) (k : zV x (pc + 1) lv (.int (nI (a - b)) :: st) h) : zV x pc lv (.int (nI b) :: .int (nI a) :: st) h :=
  z_isub hx d (z_top (pk_sub hb) k)
theorem z_imulN (hx : zOk x M n) {a b : Nat} (d : decode M.2.1 pc = .ok (.imul, 1)) (k : zV x (pc + 1) lv (.int (nI (a * b)) :: st) h) : zV x pc lv (.int (nI b) :: .int (nI a) :: st) h :=
  z_imul hx d (z_top (pk_mul a b) k)
theorem z_idivN (hx : zOk x M n) {a b : Nat} (d : decode M.2.1 pc = .ok (.idiv, 1)) (ha : a < 2147483648) (hb : 0 < b) (hb2 : b < 2147483648) (k : zV x (pc + 1) lv (.int (nI (a / b)) :: st) h) : zV x pc lv (.int (nI b) :: .int (nI a) :: st) h :=
  z_idiv hx d (nI_ne0 hb (by omega)) (z_top (pk_div (by omega) hb (by omega)) k)
theorem z_iremN (hx : zOk x M n) {a b : Nat} (d : decode M.2.1 pc = .ok (.irem, 1)) (ha : a < 2147483648) (hb : 0 < b) (hb2 : b < 2147483648) (k : zV x (pc + 1) lv (.int (nI (a % b)) :: st) h) : zV x pc lv (.int (nI b) :: .int (nI a) :: st) h :=
  z_irem hx d (nI_ne0 hb (by omega)) (z_top (pk_rem (by omega) hb (by omega)) k)
theorem z_ishlN (hx : zOk x M n) {a b : Nat} (d : decode M.2.1 pc = .ok (.ishl, 1)) (hb : b < 32) (k : zV x (pc + 1) lv (.int (nI (a * 2 ^ b)) :: st) h) : zV x pc lv (.int (nI b) :: .int (nI a) :: st) h :=
  z_ishl hx d (z_top (nI_shl a hb) k)
theorem z_ishl1 (hx : zOk x M n) {b : Nat} (d : decode M.2.1 pc = .ok (.ishl, 1)) (hb : b < 32) (k : zV x (pc + 1) lv (.int (nI (2 ^ b)) :: st) h) : zV x pc lv (.int (nI b) :: .int (nI 1) :: st) h :=
  z_ishl hx d (z_top (by rw [nI_shl 1 hb, Nat.one_mul]) k)
theorem z_ishrN (hx : zOk x M n) {a b : Nat} (d : decode M.2.1 pc = .ok (.ishr, 1)) (ha : a < 2147483648) (hb : b < 32) (k : zV x (pc + 1) lv (.int (nI (a / 2 ^ b)) :: st) h) : zV x pc lv (.int (nI b) :: .int (nI a) :: st) h :=
  z_ishr hx d (z_top (nI_shr ha hb) k)
theorem z_iandN (hx : zOk x M n) {a b : Nat} (d : decode M.2.1 pc = .ok (.iand, 1)) (k : zV x (pc + 1) lv (.int (nI (a &&& b)) :: st) h) : zV x pc lv (.int (nI b) :: .int (nI a) :: st) h :=
  z_iand hx d (z_top (nI_and a b) k)
theorem z_iorN (hx : zOk x M n) {a b : Nat} (d : decode M.2.1 pc = .ok (.ior, 1)) (k : zV x (pc + 1) lv (.int (nI (a ||| b)) :: st) h) : zV x pc lv (.int (nI b) :: .int (nI a) :: st) h :=
  z_ior hx d (z_top (nI_or a b) k)
theorem z_iincN (hx : zOk x M n) {i z a : Nat} (d : decode M.2.1 pc = .ok (.iinc i (z : Int), 3)) (hv : lv[i]? = some (some (.int (nI a)))) (hn : zns lv i = true) (k : zV x (pc + 3) (lv.set i (some (.int (nI (a + z))))) st h) : zV x pc lv st h :=
  z_iinc hx d hv (by rw [← nI_add]; rfl) hn k
theorem z_icmp_eqN (hx : zOk x M n) {a b : Nat} {off : Int} {tgt : Nat} (d : decode M.2.1 pc = .ok (.if_icmp .eq off, 3)) (ht : (pc : Int) + off = (tgt : Int)) (ha : a < 2147483648) (hb : b < 2147483648) (kt : a = b → zV x tgt lv st h) (kf : ¬ a = b → zV x (pc + 3) lv st h) : zV x pc lv (.int (nI b) :: .int (nI a) :: st) h :=
  z_icmp_eq hx d ht (fun q => kt ((nI_eq (by omega) (by omega)).mp q)) (fun q => kf (fun e => q (by rw [e])))
theorem z_icmp_neN (hx : zOk x M n) {a b : Nat} {off : Int} {tgt : Nat} (d : decode M.2.1 pc = .ok (.if_icmp .ne off, 3)) (ht : (pc : Int) + off = (tgt : Int)) (ha : a < 2147483648) (hb : b < 2147483648) (kt : ¬ a = b → zV x tgt lv st h) (kf : a = b → zV x (pc + 3) lv st h) : zV x pc lv (.int (nI b) :: .int (nI a) :: st) h :=
  z_icmp_ne hx d ht (fun q => kt (fun e => q (by rw [e]))) (fun q => kf ((nI_eq (by omega) (by omega)).mp q))
theorem z_icmp_ltN (hx : zOk x M n) {a b : Nat} {off : Int} {tgt : Nat} (d : decode M.2.1 pc = .ok (.if_icmp .lt off, 3)) (ht : (pc : Int) + off = (tgt : Int)) (ha : a < 2147483648) (hb : b < 2147483648) (kt : a < b → zV x tgt lv st h) (kf : b ≤ a → zV x (pc + 3) lv st h) : zV x pc lv (.int (nI b) :: .int (nI a) :: st) h :=
  z_icmp_lt hx d ht (fun q => kt ((nI_ltI (by omega) (by omega)).mp q)) (fun q => kf (Nat.not_lt.mp fun e => q ((nI_ltI (by omega) (by omega)).mpr e)))
theorem z_icmp_geN (hx : zOk x M n) {a b : Nat} {off : Int} {tgt : Nat} (d : decode M.2.1 pc = .ok (.if_icmp .ge off, 3)) (ht : (pc : Int) + off = (tgt : Int)) (ha : a < 2147483648) (hb : b < 2147483648) (kt : b ≤ a → zV x tgt lv st h) (kf : a < b → zV x (pc + 3) lv st h) : zV x pc lv (.int (nI b) :: .int (nI a) :: st) h :=
  z_icmp_ge hx d ht (fun q => kt ((nI_leI (by omega) (by omega)).mp q)) (fun q => kf (Nat.not_le.mp fun e => q ((nI_leI (by omega) (by omega)).mpr e)))
theorem z_icmp_gtN (hx : zOk x M n) {a b : Nat} {off : Int} {tgt : Nat} (d : decode M.2.1 pc = .ok (.if_icmp .gt off, 3)) (ht : (pc : Int) + off = (tgt : Int)) (ha : a < 2147483648) (hb : b < 2147483648) (kt : b < a → zV x tgt lv st h) (kf : a ≤ b → zV x (pc + 3) lv st h) : zV x pc lv (.int (nI b) :: .int (nI a) :: st) h :=
  z_icmp_gt hx d ht (fun q => kt ((nI_ltI (by omega) (by omega)).mp q)) (fun q => kf (Nat.not_lt.mp fun e => q ((nI_ltI (by omega) (by omega)).mpr e)))
theorem z_icmp_leN (hx : zOk x M n) {a b : Nat} {off : Int} {tgt : Nat} (d : decode M.2.1 pc = .ok (.if_icmp .le off, 3)) (ht : (pc : Int) + off = (tgt : Int)) (ha : a < 2147483648) (hb : b < 2147483648) (kt : a ≤ b → zV x tgt lv st h) (kf : b < a → zV x (pc + 3) lv st h) : zV x pc lv (.int (nI b) :: .int (nI a) :: st) h :=
  z_icmp_le hx d ht (fun q => kt ((nI_leI (by omega) (by omega)).mp q)) (fun q => kf (Nat.not_le.mp fun e => q ((nI_leI (by omega) (by omega)).mpr e)))
theorem z_if_eqN (hx : zOk x M n) {a : Nat} {off : Int} {tgt : Nat} (d : decode M.2.1 pc = .ok (.ifCond .eq off, 3)) (ht : (pc : Int) + off = (tgt : Int)) (ha : a < 2147483648) (kt : a = 0 → zV x tgt lv st h) (kf : 0 < a → zV x (pc + 3) lv st h) : zV x pc lv (.int (nI a) :: st) h :=
  z_if_eq hx d ht (fun q => kt (Nat.eq_zero_of_not_pos fun e => nI_ne0 e (by omega) q)) (fun q => kf (Nat.pos_of_ne_zero fun e => q (by rw [e]; rfl)))
theorem z_if_neN (hx : zOk x M n) {a : Nat} {off : Int} {tgt : Nat} (d : decode M.2.1 pc = .ok (.ifCond .ne off, 3)) (ht : (pc : Int) + off = (tgt : Int)) (ha : a < 2147483648) (kt : 0 < a → zV x tgt lv st h) (kf : a = 0 → zV x (pc + 3) lv st h) : zV x pc lv (.int (nI a) :: st) h :=
  z_if_ne hx d ht (fun q => kt (Nat.pos_of_ne_zero fun e => q (by rw [e]; rfl))) (fun q => kf (Nat.eq_zero_of_not_pos fun e => nI_ne0 e (by omega) q))
theorem z_if_leN (hx : zOk x M n) {a : Nat} {off : Int} {tgt : Nat} (d : decode M.2.1 pc = .ok (.ifCond .le off, 3)) (ht : (pc : Int) + off = (tgt : Int)) (ha : a < 2147483648) (kt : a = 0 → zV x tgt lv st h) (kf : 0 < a → zV x (pc + 3) lv st h) : zV x pc lv (.int (nI a) :: st) h :=
  z_if_le hx d ht (fun q => kt (Nat.eq_zero_of_not_pos fun e => nI_nle e (by omega) q)) (fun q => kf (Nat.pos_of_ne_zero fun e => q (by rw [e]; exact Int32.le_refl _)))
theorem z_if_gtN (hx : zOk x M n) {a : Nat} {off : Int} {tgt : Nat} (d : decode M.2.1 pc = .ok (.ifCond .gt off, 3)) (ht : (pc : Int) + off = (tgt : Int)) (ha : a < 2147483648) (kt : 0 < a → zV x tgt lv st h) (kf : a = 0 → zV x (pc + 3) lv st h) : zV x pc lv (.int (nI a) :: st) h :=
  z_if_gt hx d ht (fun q => kt (Nat.pos_of_ne_zero fun e => by rw [e] at q; exact absurd q (by decide))) (fun q => kf (Nat.eq_zero_of_not_pos fun e => q (nI_lt (a := 0) e (by omega))))
theorem z_if_ltN (hx : zOk x M n) {a : Nat} {off : Int} (d : decode M.2.1 pc = .ok (.ifCond .lt off, 3)) (tgt : Nat) (ht : (pc : Int) + off = (tgt : Int)) (ha : a < 2147483648) (kf : zV x (pc + 3) lv st h) : zV x pc lv (.int (nI a) :: st) h :=
  z_if_lt hx d ht (fun q => absurd q (nI_lt0 ha)) (fun _ => kf)
theorem z_if_geN (hx : zOk x M n) {a : Nat} {off : Int} {tgt : Nat} (d : decode M.2.1 pc = .ok (.ifCond .ge off, 3)) (ht : (pc : Int) + off = (tgt : Int)) (ha : a < 2147483648) (kt : zV x tgt lv st h) : zV x pc lv (.int (nI a) :: st) h :=
  z_if_ge hx d ht (fun _ => kt) (fun q => absurd (nI_pos' (by omega)) q)
theorem z_if_eqB (hx : zOk x M n) {c : Prop} {off : Int} {tgt : Nat} (d : decode M.2.1 pc = .ok (.ifCond .eq off, 3)) (ht : (pc : Int) + off = (tgt : Int)) (kt : ¬ c → zV x tgt lv st h) (kf : c → zV x (pc + 3) lv st h) : zV x pc lv (.int (bP c) :: st) h :=
  z_if_eq hx d ht (fun q => kt (bP_0.mp q)) (fun q => kf (Classical.byContradiction fun e => q (bP_f e)))
theorem z_if_neB (hx : zOk x M n) {c : Prop} {off : Int} {tgt : Nat} (d : decode M.2.1 pc = .ok (.ifCond .ne off, 3)) (ht : (pc : Int) + off = (tgt : Int)) (kt : c → zV x tgt lv st h) (kf : ¬ c → zV x (pc + 3) lv st h) : zV x pc lv (.int (bP c) :: st) h :=
  z_if_ne hx d ht (fun q => kt (Classical.byContradiction fun e => q (bP_f e))) (fun q => kf (bP_0.mp q))
theorem z_ialdJ (hx : zOk x M n) {q N : Nat} {f : Nat → Int32} {j : Nat} (d : decode M.2.1 pc = .ok (.iaload, 1)) (hq : h[q]? = some (zI N f)) (hN : N < 2147483648) (hj : j < N) (k : zV x (pc + 1) lv (.int (f j) :: st) h) : zV x pc lv (.int (nI j) :: .ref q :: st) h :=
  z_iald hx d hq (vp_in_nI hj (by omega)) (z_top (by rw [nI_cl (by omega)]) k)
theorem z_iastJ (hx : zOk x M n) {q N : Nat} {f : Nat → Int32} {j : Nat} {a : Int32} (d : decode M.2.1 pc = .ok (.iastore, 1)) (hq : h[q]? = some (zI N f)) (hN : N < 2147483648) (hj : j < N) (k : zV x (pc + 1) lv st (h.set q (zI N (upd f j a)))) : zV x pc lv (.int a :: .int (nI j) :: .ref q :: st) h :=
  z_iast hx d hq (vp_in_nI hj (by omega)) (z_heap (by rw [nI_cl (by omega)]) k)
theorem z_iastN (hx : zOk x M n) {q N : Nat} {f : Nat → Nat} {j a : Nat} (d : decode M.2.1 pc = .ok (.iastore, 1)) (hq : h[q]? = some (zN N f)) (hN : N < 2147483648) (hj : j < N) (k : zV x (pc + 1) lv st (h.set q (zN N (zup f j a)))) : zV x pc lv (.int (nI a) :: .int (nI j) :: .ref q :: st) h :=
  z_iastJ hx d hq hN hj (z_heap (by rw [zup_nI]) k)
end ZN
/-! contracts that tell the answer and the cells -/
abbrev zMiE (M : zM) (n : Nat) (av : List Value) (h : List zE) (R : Int32) (U : List zE) : Prop := zMi M n av h (fun r u => r = R ∧ u = U)
abbrev zMvE (M : zM) (n : Nat) (av : List Value) (h : List zE) (U : List zE) : Prop := zMv M n av h (fun u => u = U)
theorem zpt_same {h hc : List zE} {g : List Nat} (hs : zsub h g hc) : zpt h g hc = h := by
  unfold zpt
  have e : hc.map (fun e => some (zrn (zpi g) e)) = (hc.map (zrn (zpi g))).map some := by rw [List.map_map]; rfl
  have hs2 : g.map (fun i => h[i]?) = (hc.map (zrn (zpi g))).map some := by rw [← e]; exact hs
  generalize hc.map (zrn (zpi g)) = us at hs2
  clear hs e
  induction g generalizing us with
  | nil => cases us <;> rfl
  | cons i g ih =>
    cases us with
    | nil => rfl
    | cons e us =>
      simp only [List.map_cons, List.cons.injEq] at hs2
      rw [zpt0]
      have h1 : h.set i e = h := by
        apply List.ext_getElem?
        intro k
        rw [List.getElem?_set]
        by_cases hk : i = k
        · subst hk
          rw [if_pos rfl, hs2.1, if_pos ((List.getElem?_eq_some_iff.mp hs2.1).1)]
        · rw [if_neg hk]
      rw [h1]
      exact ih us hs2.2
/-! calls by contracts that tell -/
section ZCE
variable {x : zC} {M M' : zM} {n n' pc idx np : Nat} {lv : List (Option Value)} {st rest : List Value} {h hc : List zE} {av : List Value}
theorem z_callisP (hx : zOk x M n) {R : Int32} (g : List Nat) (hM : zMiE M' n' (av) hc R hc) (d : decode M.2.1 pc = .ok (.invokestatic idx, 3)) (site : zLs M.1.cls idx M' np) (hs : zsub h g hc) (hst : st = ((av).map (zcv (zpi g))).reverse ++ rest) (hlv : lv.length = M.2.2.1) (hnd : g.Nodup) (hg : g.length ≤ 1000) (hap : (av).length = np) (hcat : (rest.map fun v => v.category).sum ≤ 8) (hn : n' + 1 ≤ n) (k : zV x (pc + 3) lv (.int R :: rest) h) : zV x pc lv st h :=
  z_callis hx g hM d site hs hst hlv hnd hg hap hcat hn (fun r u _ q => by obtain ⟨q1, q2⟩ := q; subst q1; subst q2; rw [zpt_same hs]; exact k)
theorem z_callisE (hx : zOk x M n) {R : Int32} {U : List zE} (g : List Nat) (hM : zMiE M' n' (av) hc R U) (d : decode M.2.1 pc = .ok (.invokestatic idx, 3)) (site : zLs M.1.cls idx M' np) (hs : zsub h g hc) (hst : st = ((av).map (zcv (zpi g))).reverse ++ rest) (hlv : lv.length = M.2.2.1) (hnd : g.Nodup) (hg : g.length ≤ 1000) (hap : (av).length = np) (hcat : (rest.map fun v => v.category).sum ≤ 8) (hn : n' + 1 ≤ n) (k : zV x (pc + 3) lv (.int R :: rest) (zpt h g U)) : zV x pc lv st h :=
  z_callis hx g hM d site hs hst hlv hnd hg hap hcat hn (fun r u _ q => by obtain ⟨q1, q2⟩ := q; subst q1; subst q2; exact k)
theorem z_callvsP (hx : zOk x M n) (g : List Nat) (hM : zMvE M' n' (av) hc hc) (d : decode M.2.1 pc = .ok (.invokestatic idx, 3)) (site : zLs M.1.cls idx M' np) (hs : zsub h g hc) (hst : st = ((av).map (zcv (zpi g))).reverse ++ rest) (hlv : lv.length = M.2.2.1) (hnd : g.Nodup) (hg : g.length ≤ 1000) (hap : (av).length = np) (hcat : (rest.map fun v => v.category).sum ≤ 8) (hn : n' + 1 ≤ n) (k : zV x (pc + 3) lv rest h) : zV x pc lv st h :=
  z_callvs hx g hM d site hs hst hlv hnd hg hap hcat hn (fun u _ q => by subst q; rw [zpt_same hs]; exact k)
theorem z_callvsE (hx : zOk x M n) {U : List zE} (g : List Nat) (hM : zMvE M' n' (av) hc U) (d : decode M.2.1 pc = .ok (.invokestatic idx, 3)) (site : zLs M.1.cls idx M' np) (hs : zsub h g hc) (hst : st = ((av).map (zcv (zpi g))).reverse ++ rest) (hlv : lv.length = M.2.2.1) (hnd : g.Nodup) (hg : g.length ≤ 1000) (hap : (av).length = np) (hcat : (rest.map fun v => v.category).sum ≤ 8) (hn : n' + 1 ≤ n) (k : zV x (pc + 3) lv rest (zpt h g U)) : zV x pc lv st h :=
  z_callvs hx g hM d site hs hst hlv hnd hg hap hcat hn (fun u _ q => by subst q; exact k)
theorem z_callinP (hx : zOk x M n) {host : String} {R : Int32} (g : List Nat) (hM : zMiE M' n' (av) hc R hc) (d : decode M.2.1 pc = .ok (.invokestatic idx, 3)) (site : zLn M.1.cls idx M' host np) (hs : zsub h g hc) (hst : st = ((av).map (zcv (zpi g))).reverse ++ rest) (hlv : lv.length = M.2.2.1) (hnd : g.Nodup) (hg : g.length ≤ 1000) (hap : (av).length = np) (hcat : (rest.map fun v => v.category).sum ≤ 8) (hn : n' + 1 ≤ n) (k : zV x (pc + 3) lv (.int R :: rest) h) : zV x pc lv st h :=
  z_callin hx g hM d site hs hst hlv hnd hg hap hcat hn (fun r u _ q => by obtain ⟨q1, q2⟩ := q; subst q1; subst q2; rw [zpt_same hs]; exact k)
theorem z_callinE (hx : zOk x M n) {host : String} {R : Int32} {U : List zE} (g : List Nat) (hM : zMiE M' n' (av) hc R U) (d : decode M.2.1 pc = .ok (.invokestatic idx, 3)) (site : zLn M.1.cls idx M' host np) (hs : zsub h g hc) (hst : st = ((av).map (zcv (zpi g))).reverse ++ rest) (hlv : lv.length = M.2.2.1) (hnd : g.Nodup) (hg : g.length ≤ 1000) (hap : (av).length = np) (hcat : (rest.map fun v => v.category).sum ≤ 8) (hn : n' + 1 ≤ n) (k : zV x (pc + 3) lv (.int R :: rest) (zpt h g U)) : zV x pc lv st h :=
  z_callin hx g hM d site hs hst hlv hnd hg hap hcat hn (fun r u _ q => by obtain ⟨q1, q2⟩ := q; subst q1; subst q2; exact k)
theorem z_callivP (hx : zOk x M n) {r0 ci : Nat} {fs : List Value} {T : u_T} {N : Nat} {R : Int32} (g : List Nat) (hM : zMiE M' n' (.ref r0 :: av) hc R hc) (d : decode M.2.1 pc = .ok (.invokevirtual idx, 3)) (site : zLv M.1.cls idx M' np) (hrc : hc[r0]? = some (zO ci fs)) (hci : vwCl[ci]? = some (M'.1.cls, T, N)) (hs : zsub h g hc) (hst : st = ((.ref r0 :: av).map (zcv (zpi g))).reverse ++ rest) (hlv : lv.length = M.2.2.1) (hnd : g.Nodup) (hg : g.length ≤ 1000) (hap : (av).length = np) (hcat : (rest.map fun v => v.category).sum ≤ 8) (hn : n' + 1 ≤ n) (k : zV x (pc + 3) lv (.int R :: rest) h) : zV x pc lv st h :=
  z_calliv hx g hM d site hrc hci hs hst hlv hnd hg hap hcat hn (fun r u _ q => by obtain ⟨q1, q2⟩ := q; subst q1; subst q2; rw [zpt_same hs]; exact k)
theorem z_callivE (hx : zOk x M n) {r0 ci : Nat} {fs : List Value} {T : u_T} {N : Nat} {R : Int32} {U : List zE} (g : List Nat) (hM : zMiE M' n' (.ref r0 :: av) hc R U) (d : decode M.2.1 pc = .ok (.invokevirtual idx, 3)) (site : zLv M.1.cls idx M' np) (hrc : hc[r0]? = some (zO ci fs)) (hci : vwCl[ci]? = some (M'.1.cls, T, N)) (hs : zsub h g hc) (hst : st = ((.ref r0 :: av).map (zcv (zpi g))).reverse ++ rest) (hlv : lv.length = M.2.2.1) (hnd : g.Nodup) (hg : g.length ≤ 1000) (hap : (av).length = np) (hcat : (rest.map fun v => v.category).sum ≤ 8) (hn : n' + 1 ≤ n) (k : zV x (pc + 3) lv (.int R :: rest) (zpt h g U)) : zV x pc lv st h :=
  z_calliv hx g hM d site hrc hci hs hst hlv hnd hg hap hcat hn (fun r u _ q => by obtain ⟨q1, q2⟩ := q; subst q1; subst q2; exact k)
theorem z_callvvP (hx : zOk x M n) {r0 ci : Nat} {fs : List Value} {T : u_T} {N : Nat} (g : List Nat) (hM : zMvE M' n' (.ref r0 :: av) hc hc) (d : decode M.2.1 pc = .ok (.invokevirtual idx, 3)) (site : zLv M.1.cls idx M' np) (hrc : hc[r0]? = some (zO ci fs)) (hci : vwCl[ci]? = some (M'.1.cls, T, N)) (hs : zsub h g hc) (hst : st = ((.ref r0 :: av).map (zcv (zpi g))).reverse ++ rest) (hlv : lv.length = M.2.2.1) (hnd : g.Nodup) (hg : g.length ≤ 1000) (hap : (av).length = np) (hcat : (rest.map fun v => v.category).sum ≤ 8) (hn : n' + 1 ≤ n) (k : zV x (pc + 3) lv rest h) : zV x pc lv st h :=
  z_callvv hx g hM d site hrc hci hs hst hlv hnd hg hap hcat hn (fun u _ q => by subst q; rw [zpt_same hs]; exact k)
theorem z_callvvE (hx : zOk x M n) {r0 ci : Nat} {fs : List Value} {T : u_T} {N : Nat} {U : List zE} (g : List Nat) (hM : zMvE M' n' (.ref r0 :: av) hc U) (d : decode M.2.1 pc = .ok (.invokevirtual idx, 3)) (site : zLv M.1.cls idx M' np) (hrc : hc[r0]? = some (zO ci fs)) (hci : vwCl[ci]? = some (M'.1.cls, T, N)) (hs : zsub h g hc) (hst : st = ((.ref r0 :: av).map (zcv (zpi g))).reverse ++ rest) (hlv : lv.length = M.2.2.1) (hnd : g.Nodup) (hg : g.length ≤ 1000) (hap : (av).length = np) (hcat : (rest.map fun v => v.category).sum ≤ 8) (hn : n' + 1 ≤ n) (k : zV x (pc + 3) lv rest (zpt h g U)) : zV x pc lv st h :=
  z_callvv hx g hM d site hrc hci hs hst hlv hnd hg hap hcat hn (fun u _ q => by subst q; exact k)
theorem z_callrvP (hx : zOk x M n) {r0 ci : Nat} {fs : List Value} {T : u_T} {N : Nat} {R : Nat} (g : List Nat) (hM : zMr M' n' (.ref r0 :: av) hc (fun r u => r = R ∧ u = hc)) (d : decode M.2.1 pc = .ok (.invokevirtual idx, 3)) (site : zLv M.1.cls idx M' np) (hrc : hc[r0]? = some (zO ci fs)) (hci : vwCl[ci]? = some (M'.1.cls, T, N)) (hs : zsub h g hc) (hst : st = ((.ref r0 :: av).map (zcv (zpi g))).reverse ++ rest) (hlv : lv.length = M.2.2.1) (hnd : g.Nodup) (hg : g.length ≤ 1000) (hap : (av).length = np) (hcat : (rest.map fun v => v.category).sum ≤ 8) (hn : n' + 1 ≤ n) (k : zV x (pc + 3) lv (.ref (zpi g R) :: rest) h) : zV x pc lv st h :=
  z_callrv hx g hM d site hrc hci hs hst hlv hnd hg hap hcat hn (fun r u _ q => by obtain ⟨q1, q2⟩ := q; subst q1; subst q2; rw [zpt_same hs]; exact k)
theorem z_callrvE (hx : zOk x M n) {r0 ci : Nat} {fs : List Value} {T : u_T} {N : Nat} {R : Nat} {U : List zE} (g : List Nat) (hM : zMr M' n' (.ref r0 :: av) hc (fun r u => r = R ∧ u = U)) (d : decode M.2.1 pc = .ok (.invokevirtual idx, 3)) (site : zLv M.1.cls idx M' np) (hrc : hc[r0]? = some (zO ci fs)) (hci : vwCl[ci]? = some (M'.1.cls, T, N)) (hs : zsub h g hc) (hst : st = ((.ref r0 :: av).map (zcv (zpi g))).reverse ++ rest) (hlv : lv.length = M.2.2.1) (hnd : g.Nodup) (hg : g.length ≤ 1000) (hap : (av).length = np) (hcat : (rest.map fun v => v.category).sum ≤ 8) (hn : n' + 1 ≤ n) (k : zV x (pc + 3) lv (.ref (zpi g R) :: rest) (zpt h g U)) : zV x pc lv st h :=
  z_callrv hx g hM d site hrc hci hs hst hlv hnd hg hap hcat hn (fun r u _ q => by obtain ⟨q1, q2⟩ := q; subst q1; subst q2; exact k)
theorem z_calliuP (hx : zOk x M n) {C : String} {r0 ci : Nat} {fs : List Value} {T : u_T} {N : Nat} {R : Int32} (g : List Nat) (hM : zMiE M' n' (.ref r0 :: av) hc R hc) (d : decode M.2.1 pc = .ok (.invokespecial idx, 3)) (site : zLu M.1.cls idx M' np) (hrc : hc[r0]? = some (zO ci fs)) (hci : vwCl[ci]? = some (C, T, N)) (hs : zsub h g hc) (hst : st = ((.ref r0 :: av).map (zcv (zpi g))).reverse ++ rest) (hlv : lv.length = M.2.2.1) (hnd : g.Nodup) (hg : g.length ≤ 1000) (hap : (av).length = np) (hcat : (rest.map fun v => v.category).sum ≤ 8) (hn : n' + 1 ≤ n) (k : zV x (pc + 3) lv (.int R :: rest) h) : zV x pc lv st h :=
  z_calliu hx g hM d site hrc hci hs hst hlv hnd hg hap hcat hn (fun r u _ q => by obtain ⟨q1, q2⟩ := q; subst q1; subst q2; rw [zpt_same hs]; exact k)
theorem z_calliuE (hx : zOk x M n) {C : String} {r0 ci : Nat} {fs : List Value} {T : u_T} {N : Nat} {R : Int32} {U : List zE} (g : List Nat) (hM : zMiE M' n' (.ref r0 :: av) hc R U) (d : decode M.2.1 pc = .ok (.invokespecial idx, 3)) (site : zLu M.1.cls idx M' np) (hrc : hc[r0]? = some (zO ci fs)) (hci : vwCl[ci]? = some (C, T, N)) (hs : zsub h g hc) (hst : st = ((.ref r0 :: av).map (zcv (zpi g))).reverse ++ rest) (hlv : lv.length = M.2.2.1) (hnd : g.Nodup) (hg : g.length ≤ 1000) (hap : (av).length = np) (hcat : (rest.map fun v => v.category).sum ≤ 8) (hn : n' + 1 ≤ n) (k : zV x (pc + 3) lv (.int R :: rest) (zpt h g U)) : zV x pc lv st h :=
  z_calliu hx g hM d site hrc hci hs hst hlv hnd hg hap hcat hn (fun r u _ q => by obtain ⟨q1, q2⟩ := q; subst q1; subst q2; exact k)
theorem z_callioP (hx : zOk x M n) {C : String} {y0 : MethodName} {r0 ci : Nat} {fs : List Value} {T : u_T} {N : Nat} {R : Int32} (g : List Nat) (hM : zMiE M' n' (.ref r0 :: av) hc R hc) (d : decode M.2.1 pc = .ok (.invokevirtual idx, 3)) (site : zLo M.1.cls idx C y0 M' np) (hrc : hc[r0]? = some (zO ci fs)) (hci : vwCl[ci]? = some (C, T, N)) (hs : zsub h g hc) (hst : st = ((.ref r0 :: av).map (zcv (zpi g))).reverse ++ rest) (hlv : lv.length = M.2.2.1) (hnd : g.Nodup) (hg : g.length ≤ 1000) (hap : (av).length = np) (hcat : (rest.map fun v => v.category).sum ≤ 8) (hn : n' + 1 ≤ n) (k : zV x (pc + 3) lv (.int R :: rest) h) : zV x pc lv st h :=
  z_callio hx g hM d site hrc hci hs hst hlv hnd hg hap hcat hn (fun r u _ q => by obtain ⟨q1, q2⟩ := q; subst q1; subst q2; rw [zpt_same hs]; exact k)
theorem z_callioE (hx : zOk x M n) {C : String} {y0 : MethodName} {r0 ci : Nat} {fs : List Value} {T : u_T} {N : Nat} {R : Int32} {U : List zE} (g : List Nat) (hM : zMiE M' n' (.ref r0 :: av) hc R U) (d : decode M.2.1 pc = .ok (.invokevirtual idx, 3)) (site : zLo M.1.cls idx C y0 M' np) (hrc : hc[r0]? = some (zO ci fs)) (hci : vwCl[ci]? = some (C, T, N)) (hs : zsub h g hc) (hst : st = ((.ref r0 :: av).map (zcv (zpi g))).reverse ++ rest) (hlv : lv.length = M.2.2.1) (hnd : g.Nodup) (hg : g.length ≤ 1000) (hap : (av).length = np) (hcat : (rest.map fun v => v.category).sum ≤ 8) (hn : n' + 1 ≤ n) (k : zV x (pc + 3) lv (.int R :: rest) (zpt h g U)) : zV x pc lv st h :=
  z_callio hx g hM d site hrc hci hs hst hlv hnd hg hap hcat hn (fun r u _ q => by obtain ⟨q1, q2⟩ := q; subst q1; subst q2; exact k)
end ZCE
end
section
/-! THE MEANING: a line's state, and what is asked of it, as numbers -/
abbrev zL : Type := (Nat × Nat × Nat × Nat) × (Nat → Nat) × (Nat → Nat) × (Nat → Nat) × (Nat → Nat) × (Nat → Nat)
def lS (L : zL) : Nat := L.1.1
def lB (L : zL) : Nat := L.1.2.1
def lP (L : zL) : Nat := L.1.2.2.1
def lM (L : zL) : Nat := L.1.2.2.2
def lK (L : zL) : Nat → Nat := L.2.1
def lA (L : zL) : Nat → Nat := L.2.2.1
def lF (L : zL) : Nat → Nat := L.2.2.2.1
def lW (L : zL) : Nat → Nat := L.2.2.2.2.1
def lT (L : zL) : Nat → Nat := L.2.2.2.2.2
def zWf (L : zL) : Prop := lS L ≤ 8 ∧ lB L ≤ 40 ∧ lP L ≤ 6 ∧ lM L ≤ 2000 ∧ ∀ q, q < lP L → 1 ≤ lK L q ∧ lK L q ≤ 5 ∧ lA L q < lS L ∧ lF L q ≤ 60 ∧ lW L q < lS L ∧ lT L q ≤ 99
/-- who is THERE, of the first ones -/
def zTh (L : zL) : Nat → Nat
  | 0 => 0
  | q + 1 => zTh L q ||| (if lA L q = lW L q then 2 ^ q else 0)
/-- who is at a stop, of the first ones -/
def zWh (L : zL) (k : Nat) : Nat → Nat
  | 0 => 0
  | q + 1 => zWh L k q ||| (if lA L q = k then 2 ^ q else 0)
/-- how many are at a stop, of the first ones -/
def zCn (L : zL) : Nat → Nat → Nat
  | 0, _ => 0
  | q + 1, k => zCn L q k + (if lA L q = k then 1 else 0)
/-- by how much one hopes, by his kind, faith, waiting, and how many are with him -/
def zHk (k f t o : Nat) : Nat := if k = 1 then f else if k = 2 then f + o else if k = 3 then f - t else if k = 4 then 3 else if o = 0 then 13 else 3
def zHp (L : zL) (q : Nat) : Nat := zHk (lK L q) (lF L q) (lT L q) (zCn L (lP L) (lA L q) - 1)
/-- the hope of a stop, of the first ones, but the silent ones -/
def zHo (L : zL) (but : Nat) : Nat → Nat → Nat
  | 0, _ => 0
  | q + 1, k => zHo L but q k + (if lA L q = k ∧ but.testBit q = false then zHp L q else 0)
def zHs (L : zL) (but : Nat) : Nat → Nat := zHo L but (lP L)
/-- the most hope among the first stops, and the first stop that has it -/
def zMx (L : zL) (but : Nat) : Nat → Nat
  | 0 => 0
  | k + 1 => if zMx L but k < zHs L but k then zHs L but k else zMx L but k
def zBs (L : zL) (but : Nat) : Nat → Option Nat
  | 0 => none
  | k + 1 => if zMx L but k < zHs L but k then some k else zBs L but k
/-- where the tram is -/
def zTr (L : zL) (but : Nat) : Option Nat := if 0 < zMx L but (lS L) ∧ lB L ≤ zMx L but (lS L) then zBs L but (lS L) else none
/-- one moves in a minute -/
def zMv1 (L : zL) (walk : Nat) (q : Nat) : Prop := ¬ lA L q = lW L q ∧ (zTr L 0 = some (lA L q) ∨ walk.testBit q = true)
noncomputable def zIf (c : Prop) (a b : Nat) : Nat := @ite _ c (Classical.propDecidable c) a b
theorem zIf_t {c : Prop} {a b : Nat} (h : c) : zIf c a b = a := by unfold zIf; rw [if_pos h]
theorem zIf_f {c : Prop} {a b : Nat} (h : ¬ c) : zIf c a b = b := by unfold zIf; rw [if_neg h]
noncomputable def zPa (L : zL) (walk n : Nat) : Nat → Nat := fun q => zIf (q < n ∧ zMv1 L walk q) (if lA L q < lW L q then lA L q + 1 else lA L q - 1) (lA L q)
noncomputable def zPt (L : zL) (walk n : Nat) : Nat → Nat := fun q => if q < n then zIf (zMv1 L walk q) 0 (if lT L q < 99 then lT L q + 1 else lT L q) else lT L q
/-- the state behind a minute -/
noncomputable def zPs (L : zL) (walk : Nat) : zL := ((lS L, lB L, lP L, lM L + 1), lK L, zPa L walk (lP L), lF L, lW L, zPt L walk (lP L))
noncomputable def zIt (L : zL) (walk : Nat) : Nat → zL
  | 0 => L
  | d + 1 => zPs (zIt L walk d) walk
/-- a line's cells in the class -/
def hLc (L : zL) (cr ho : Nat → Nat) : List zE := [zO 4 [.int (nI (lS L)), .int (nI (lB L)), .int (nI (lP L)), .int (nI (lM L)), .ref 1, .ref 2, .ref 3, .ref 4, .ref 5, .ref 8, .ref 6, .ref 7], zN 6 (lK L), zN 6 (lA L), zN 6 (lF L), zN 6 (lW L), zN 6 (lT L), zN 8 cr, zN 8 ho, zR 3 [.ref 9, .ref 10, .ref 11, .ref 12, .ref 13], zO 6 [], zO 2 [], zO 3 [], zO 1 [], zO 7 []]
/-- a line's cell in the reference -/
def fl (L : zL) : Nat → Nat := fun j => if j = 0 then lS L else if j = 1 then lB L else if j = 2 then lM L else if j = 3 then lP L else
  if (j - 4) % 5 = 0 then lK L ((j - 4) / 5) else if (j - 4) % 5 = 1 then lA L ((j - 4) / 5) else if (j - 4) % 5 = 2 then lF L ((j - 4) / 5) else if (j - 4) % 5 = 3 then lW L ((j - 4) / 5) else lT L ((j - 4) / 5)
theorem fl_0 (L : zL) : fl L 0 = lS L := rfl
theorem fl_1 (L : zL) : fl L 1 = lB L := rfl
theorem fl_2 (L : zL) : fl L 2 = lM L := rfl
theorem fl_3 (L : zL) : fl L 3 = lP L := rfl
theorem fl_K (L : zL) (q : Nat) : fl L (4 + 5 * q) = lK L q := by
  unfold fl
  rw [if_neg (by omega), if_neg (by omega), if_neg (by omega), if_neg (by omega), if_pos (by omega)]
  congr 1; omega
theorem fl_A (L : zL) (q : Nat) : fl L (4 + 5 * q + 1) = lA L q := by
  unfold fl
  rw [if_neg (by omega), if_neg (by omega), if_neg (by omega), if_neg (by omega), if_neg (by omega), if_pos (by omega)]
  congr 1; omega
theorem fl_F (L : zL) (q : Nat) : fl L (4 + 5 * q + 2) = lF L q := by
  unfold fl
  rw [if_neg (by omega), if_neg (by omega), if_neg (by omega), if_neg (by omega), if_neg (by omega), if_neg (by omega), if_pos (by omega)]
  congr 1; omega
theorem fl_W (L : zL) (q : Nat) : fl L (4 + 5 * q + 3) = lW L q := by
  unfold fl
  rw [if_neg (by omega), if_neg (by omega), if_neg (by omega), if_neg (by omega), if_neg (by omega), if_neg (by omega), if_neg (by omega), if_pos (by omega)]
  congr 1; omega
theorem fl_T (L : zL) (q : Nat) : fl L (4 + 5 * q + 4) = lT L q := by
  unfold fl
  rw [if_neg (by omega), if_neg (by omega), if_neg (by omega), if_neg (by omega), if_neg (by omega), if_neg (by omega), if_neg (by omega), if_neg (by omega)]
  congr 1; omega
theorem fl_up {L : zL} {v q : Nat} {f : Nat → Nat} (c : Nat) (hc : c < 5) (e : ∀ j, j < 4 → fl L j = f j) (e2 : ∀ p d, d < 5 → f (4 + 5 * p + d) = if p = q ∧ d = c then v else fl L (4 + 5 * p + d)) : zup (fl L) (4 + 5 * q + c) v = f := by
  funext j
  unfold zup
  by_cases h4 : j < 4
  · rw [if_neg (by omega), e j h4]
  · have hj : j = 4 + 5 * ((j - 4) / 5) + (j - 4) % 5 := by omega
    have h5 := e2 ((j - 4) / 5) ((j - 4) % 5) (by omega)
    rw [← hj] at h5
    rw [h5]
    by_cases hq : j = 4 + 5 * q + c
    · rw [if_pos hq, if_pos (by omega)]
    · rw [if_neg hq, if_neg (by omega)]
theorem fl_five (L : zL) (p d : Nat) (hd : d < 5) : fl L (4 + 5 * p + d) = if d = 0 then lK L p else if d = 1 then lA L p else if d = 2 then lF L p else if d = 3 then lW L p else lT L p := by
  rcases (show d = 0 ∨ d = 1 ∨ d = 2 ∨ d = 3 ∨ d = 4 by omega) with rfl | rfl | rfl | rfl | rfl
  · exact fl_K L p
  · exact fl_A L p
  · exact fl_F L p
  · exact fl_W L p
  · exact fl_T L p
theorem fl_lt (L : zL) (j : Nat) (h : j < 4) : fl L j = if j = 0 then lS L else if j = 1 then lB L else if j = 2 then lM L else lP L := by
  rcases (show j = 0 ∨ j = 1 ∨ j = 2 ∨ j = 3 by omega) with rfl | rfl | rfl | rfl <;> rfl
/-- writes -/
def lsK (L : zL) (q v : Nat) : zL := (L.1, zup (lK L) q v, lA L, lF L, lW L, lT L)
def lsA (L : zL) (q v : Nat) : zL := (L.1, lK L, zup (lA L) q v, lF L, lW L, lT L)
def lsF (L : zL) (q v : Nat) : zL := (L.1, lK L, lA L, zup (lF L) q v, lW L, lT L)
def lsW (L : zL) (q v : Nat) : zL := (L.1, lK L, lA L, lF L, zup (lW L) q v, lT L)
def lsT (L : zL) (q v : Nat) : zL := (L.1, lK L, lA L, lF L, lW L, zup (lT L) q v)
def lsB (L : zL) (v : Nat) : zL := ((lS L, v, lP L, lM L), lK L, lA L, lF L, lW L, lT L)
def lsM (L : zL) (v : Nat) : zL := ((lS L, lB L, lP L, v), lK L, lA L, lF L, lW L, lT L)
theorem fl_sK (L : zL) (q v : Nat) : zup (fl L) (4 + 5 * q) v = fl (lsK L q v) := by
  refine fl_up (L := L) 0 (by omega) (fun j h => by rw [fl_lt _ _ h, fl_lt _ _ h]; rfl) (fun p d hd => ?_)
  rw [fl_five _ _ _ hd, fl_five _ _ _ hd]
  by_cases h1 : d = 0
  · subst h1; simp [lsK, lK, zup]
  · simp [h1]; rfl
theorem fl_sA (L : zL) (q v : Nat) : zup (fl L) (4 + 5 * q + 1) v = fl (lsA L q v) := by
  refine fl_up (L := L) 1 (by omega) (fun j h => by rw [fl_lt _ _ h, fl_lt _ _ h]; rfl) (fun p d hd => ?_)
  rw [fl_five _ _ _ hd, fl_five _ _ _ hd]
  by_cases h1 : d = 1
  · subst h1; simp [lsA, lA, zup]
  · simp [h1]; rfl
theorem fl_sF (L : zL) (q v : Nat) : zup (fl L) (4 + 5 * q + 2) v = fl (lsF L q v) := by
  refine fl_up (L := L) 2 (by omega) (fun j h => by rw [fl_lt _ _ h, fl_lt _ _ h]; rfl) (fun p d hd => ?_)
  rw [fl_five _ _ _ hd, fl_five _ _ _ hd]
  by_cases h1 : d = 2
  · subst h1; simp [lsF, lF, zup]
  · simp [h1]; rfl
theorem fl_sW (L : zL) (q v : Nat) : zup (fl L) (4 + 5 * q + 3) v = fl (lsW L q v) := by
  refine fl_up (L := L) 3 (by omega) (fun j h => by rw [fl_lt _ _ h, fl_lt _ _ h]; rfl) (fun p d hd => ?_)
  rw [fl_five _ _ _ hd, fl_five _ _ _ hd]
  by_cases h1 : d = 3
  · subst h1; simp [lsW, lW, zup]
  · simp [h1]; rfl
theorem fl_sT (L : zL) (q v : Nat) : zup (fl L) (4 + 5 * q + 4) v = fl (lsT L q v) := by
  refine fl_up (L := L) 4 (by omega) (fun j h => by rw [fl_lt _ _ h, fl_lt _ _ h]; rfl) (fun p d hd => ?_)
  rw [fl_five _ _ _ hd, fl_five _ _ _ hd]
  by_cases h1 : d = 4
  · subst h1; simp [lsT, lT, zup]
  · rcases (show d = 0 ∨ d = 1 ∨ d = 2 ∨ d = 3 by omega) with rfl | rfl | rfl | rfl <;> (simp; rfl)
theorem fl_sB (L : zL) (v : Nat) : zup (fl L) 1 v = fl (lsB L v) := by
  funext j
  unfold zup fl
  by_cases h : j = 1
  · subst h; rfl
  · rw [if_neg h]
    by_cases h0 : j = 0
    · subst h0; rfl
    · rw [if_neg h0, if_neg h0, if_neg h, if_neg h]; rfl
theorem fl_sM (L : zL) (v : Nat) : zup (fl L) 2 v = fl (lsM L v) := by
  funext j
  unfold zup fl
  by_cases h : j = 2
  · subst h; rfl
  · rw [if_neg h]
    by_cases h0 : j = 0
    · subst h0; rfl
    · by_cases h1 : j = 1
      · subst h1; rfl
      · rw [if_neg h0, if_neg h0, if_neg h1, if_neg h1, if_neg h, if_neg h]; rfl
theorem zinN {v : Int32} {a b : Nat} (hb : b < 2147483648) : (nI a ≤ v ∧ v ≤ nI b ∧ a ≤ b) ↔ (∃ j, a ≤ j ∧ j ≤ b ∧ v = nI j) := by
  constructor
  · rintro ⟨h1, h2, h3⟩
    rw [Int32.le_iff_toInt_le, nI_toInt (by omega)] at h1 h2
    refine ⟨v.toInt.toNat, by omega, by omega, Int32.toInt_inj.mp ?_⟩
    rw [nI_toInt (by omega)]
    omega
  · rintro ⟨j, h1, h2, rfl⟩
    exact ⟨nI_le h1 (by omega), nI_le h2 (by omega), by omega⟩
theorem zinN2 {v : Int32} {a b : Nat} (hb : b < 2147483648) (hab : a ≤ b) : (nI a ≤ v ∧ v ≤ nI b) ↔ (∃ j, a ≤ j ∧ j ≤ b ∧ v = nI j) :=
  ⟨fun h => (zinN hb).mp ⟨h.1, h.2, hab⟩, fun h => ⟨((zinN hb).mpr h).1, ((zinN hb).mpr h).2.1⟩⟩
theorem zinP {v : Int32} {p : Nat} (hp : p < 1000000) : (nI 0 ≤ v ∧ v ≤ nI p - nI 1) ↔ (∃ j, j < p ∧ v = nI j) := by
  have e := pk_sub_toInt (a := p) (b := 1) (by omega) (by omega)
  constructor
  · rintro ⟨h1, h2⟩
    rw [Int32.le_iff_toInt_le, nI_toInt (by omega)] at h1
    rw [Int32.le_iff_toInt_le, e] at h2
    refine ⟨v.toInt.toNat, by omega, Int32.toInt_inj.mp ?_⟩
    rw [nI_toInt (by omega)]
    omega
  · rintro ⟨j, h1, rfl⟩
    refine ⟨nI_le (by omega) (by omega), ?_⟩
    rw [Int32.le_iff_toInt_le, e, nI_toInt (by omega)]
    omega
/-- an array's function may be another one below its length -/
theorem z_cell {x : zC} {pc : Nat} {lv : List (Option Value)} {st : List Value} {h : List zE} {q N : Nat} {f : Nat → Int32} (g : Nat → Int32) (hq : h[q]? = some (zI N f)) (e : ∀ j, j < N → f j = g j) (k : zV x pc lv st (h.set q (zI N g))) : zV x pc lv st h := by
  obtain ⟨p, l, en, R, s, m, args, below, meth, c, D, ca, ad, A, Q⟩ := x
  intro H locs ls hl hP hD hS
  have hql := (List.getElem?_eq_some_iff.mp hq).1
  refine k H locs ls hl ?_ (zD_len hD List.length_set) hS
  intro i z hz
  obtain ⟨e1, h1, rfl⟩ := zcw_of hz
  rw [List.getElem?_set] at h1
  by_cases hi : q = i
  · subst hi
    rw [if_pos rfl, if_pos hql] at h1
    cases h1
    have h2 := hP q _ (zcw_get hq)
    have h3 : vp_cell (ca 0) (N, .inl g) = vp_cell (ca 0) (N, .inl f) := by
      simp only [vp_cell, arrV]
      congr 1
      apply Array.ext
      · simp
      · intro j hj1 hj2
        simp at hj1
        simp [e j hj1]
    show H[ad q]? = some (vp_cell (ca 0) (N, .inl g))
    rw [h3]
    exact h2
  · rw [if_neg hi] at h1
    exact hP i _ (zcw_get h1)
end
section
theorem aX8_33 : Cond.methodLink RX8 33 arraycopyName ∈ zG := zin 358 (by decide +kernel) (by decide +kernel)
theorem aX4_50 : Cond.methodLink RX4 50 arraycopyName ∈ zG := zin 512 (by decide +kernel) (by decide +kernel)
theorem aX5_34 : Cond.methodLink RX5 34 arraycopyName ∈ zG := zin 539 (by decide +kernel) (by decide +kernel)
theorem zac_nat : Cond.native arraycopyName ∈ zG := zin 360 (by decide +kernel) (by decide +kernel)
theorem zac_sta : Cond.static arraycopyName ∈ zG := zin 359 (by decide +kernel) (by decide +kernel)
theorem zac_ini : Cond.initialized "java/lang/System" ∈ zG := zin 67 (by decide +kernel) (by decide +kernel)
section ZAC
variable {x : zC} {M : zM} {n pc : Nat} {lv : List (Option Value)} {st : List Value} {h : List zE}
theorem z_iushr (hx : zOk x M n) {a b : Int32} (d : decode M.2.1 pc = .ok (.iushr, 1)) (k : zV x (pc + 1) lv (.int ((a.toUInt32 >>> (b.toUInt32 &&& Int32.toUInt32 31)).toInt32) :: st) h) : zV x pc lv (.int b :: .int a :: st) h := by
  obtain ⟨p, l, e, R, s, m, args, below, meth, c, D, ca, ad, A, Q⟩ := x
  obtain ⟨hx, hb, hml, hown, hts, hKK, hA, hR, hr, hlk⟩ := hx
  intro H locs ls hl hP hD hS
  exact lv_iushr (x := a) (y := b) hx hb d rfl (k H locs ls hl hP hD hS)
theorem z_acopy (hx : zOk x M n) {idx q0 q1 N0 N1 sp dp cnt : Nat} {f g : Nat → Int32} (d : decode M.2.1 pc = .ok (.invokestatic idx, 3)) (hlink : Cond.methodLink M.1.cls idx arraycopyName ∈ zG) (hq0 : h[q0]? = some (zI N0 f)) (hq1 : h[q1]? = some (zI N1 g)) (hN0 : N0 < 2147483648) (hN1 : N1 < 2147483648) (h4 : sp + cnt ≤ N0) (h5 : dp + cnt ≤ N1) (hlv : lv.length = M.2.2.1) (hn : 1 ≤ n) (hcat : (st.map fun v => v.category).sum ≤ 8) (k : zV x (pc + 3) lv st (h.set q1 (zI N1 (va_cpy f g sp dp cnt)))) : zV x pc lv (.int (nI cnt) :: .int (nI dp) :: .ref q1 :: .int (nI sp) :: .ref q0 :: st) h := by
  obtain ⟨p, l, e, R, s, m, args, below, meth, c, D, ca, ad, A, Q⟩ := x
  obtain ⟨hx, hb, hml, hown, hts, hKK, hA, hR, hr, hlk⟩ := hx
  subst hR
  intro H locs ls hl hP hD hS
  have g' : ∀ {w : Cond}, w ∈ zG → w.before args s = true := fun hw => hts _ (List.mem_cons_of_mem _ hw)
  have c1 : (nI sp).toNatClampNeg = sp := nI_cl (by omega)
  have c2 : (nI dp).toNatClampNeg = dp := nI_cl (by omega)
  have c3 : (nI cnt).toNatClampNeg = cnt := nI_cl (by omega)
  have hw : nativeFrameWords "java/lang/System" "arraycopy" 5 ≤ 20 := by decide +kernel
  have hcat2 : ((st.map (zcv ad)).map fun v => v.category).sum ≤ 8 := by
    rw [List.map_map]
    have : ((fun v : Value => v.category) ∘ zcv ad) = fun v => v.category := funext fun v => zcv_cat ad v
    rw [this]
    exact hcat
  refine va_copyi (ty := .int) (f := f) (g := g) (sp := nI sp) (dp := nI dp) (n := nI cnt) hx hb (hml.trans (hlv.symm.trans hl.1.symm)) hown (g' hlink) (g' zac_nat) (g' zac_sta) (g' zac_ini) hKK.1 hP hD hS q0 q1 0 0 (zcw_get hq0) (zcw_get hq1) rfl rfl rfl (nI_lt0 (by omega)) (nI_lt0 (by omega)) (nI_lt0 (by omega)) (by rw [c1, c3]; exact h4) (by rw [c2, c3]; exact h5) (fun _ _ => rfl) hn (by show _ ≤ 40 * n; omega) d (fun H1 locs1 hP1 hD1 hS1 => ?_)
  rw [c1, c2, c3] at hP1 hD1
  have e9 := zcw_set (ad := ad) (ca := ca) (h := h) q1 (zI N1 (va_cpy f g sp dp cnt))
  rw [zce] at e9
  rw [e9] at hP1 hD1
  exact k H1 locs1 ls hl hP1 hD1 hS1
theorem zmm_max : yJ9_max_7cf53 = Lib.Math.max.name ∧ cJ9_max_7cf53 = Lib.Math.max.code := ⟨by decide +kernel, by decide +kernel⟩
theorem zmm_min : yJ9_min_7cf53 = Lib.Math.min.name ∧ cJ9_min_7cf53 = Lib.Math.min.code := ⟨by decide +kernel, by decide +kernel⟩
theorem z_mmax (hx : zOk x M n) {idx a b : Nat} (d : decode M.2.1 pc = .ok (.invokestatic idx, 3)) (site : zLs M.1.cls idx mJ9_max_7cf53 2) (ha : a < 2147483648) (hb2 : b < 2147483648) (hlv : lv.length = M.2.2.1) (hn : 1 ≤ n) (hcat : (st.map fun v => v.category).sum ≤ 8) (k : zV x (pc + 3) lv (.int (nI (if a < b then b else a)) :: st) h) : zV x pc lv (.int (nI b) :: .int (nI a) :: st) h := by
  obtain ⟨p, l, e, R, s, m, args, below, meth, c, D, ca, ad, A, Q⟩ := x
  obtain ⟨hx, hb, hml, hown, hts, hKK, hA, hR, hr, hlk⟩ := hx
  subst hR
  intro H locs ls hl hP hD hS
  have g' : ∀ {w : Cond}, w ∈ zG → w.before args s = true := fun hw => hts _ (List.mem_cons_of_mem _ hw)
  have hcat2 : ((st.map (zcv ad)).map fun v => v.category).sum ≤ 8 := by
    rw [List.map_map]
    have : ((fun v : Value => v.category) ∘ zcv ad) = fun v => v.category := funext fun v => zcv_cat ad v
    rw [this]
    exact hcat
  obtain ⟨⟨s1, s2, -, -, -, -⟩, s3, s4⟩ := site
  have s1 : Cond.code yJ9_max_7cf53 cJ9_max_7cf53 2 (some .int) ∈ zG := s1
  have s3 : Cond.methodLink M.1.cls idx yJ9_max_7cf53 ∈ zG := s3
  have s4 : Cond.static yJ9_max_7cf53 ∈ zG := s4
  rw [zmm_max.1, zmm_max.2] at s1
  rw [zmm_max.1] at s3 s4
  refine va_mmax (x := nI a) (y := nI b) hx hb (hml.trans (hlv.symm.trans hl.1.symm)) hown (g' s3) (g' s4) (g' s2) (g' s1) hn (by show _ ≤ 40 * n; omega) (Nat.le_refl _) (Nat.le_refl _) d ?_
  have e9 : (if nI a < nI b then nI b else nI a) = nI (if a < b then b else a) := by
    by_cases q : a < b
    · rw [if_pos q, if_pos ((nI_ltI (by omega) (by omega)).mpr q)]
    · rw [if_neg q, if_neg (fun z => q ((nI_ltI (by omega) (by omega)).mp z))]
  rw [e9]
  exact k H locs ls hl hP hD hS
theorem z_mmin (hx : zOk x M n) {idx a b : Nat} (d : decode M.2.1 pc = .ok (.invokestatic idx, 3)) (site : zLs M.1.cls idx mJ9_min_7cf53 2) (ha : a < 2147483648) (hb2 : b < 2147483648) (hlv : lv.length = M.2.2.1) (hn : 1 ≤ n) (hcat : (st.map fun v => v.category).sum ≤ 8) (k : zV x (pc + 3) lv (.int (nI (if b < a then b else a)) :: st) h) : zV x pc lv (.int (nI b) :: .int (nI a) :: st) h := by
  obtain ⟨p, l, e, R, s, m, args, below, meth, c, D, ca, ad, A, Q⟩ := x
  obtain ⟨hx, hb, hml, hown, hts, hKK, hA, hR, hr, hlk⟩ := hx
  subst hR
  intro H locs ls hl hP hD hS
  have g' : ∀ {w : Cond}, w ∈ zG → w.before args s = true := fun hw => hts _ (List.mem_cons_of_mem _ hw)
  have hcat2 : ((st.map (zcv ad)).map fun v => v.category).sum ≤ 8 := by
    rw [List.map_map]
    have : ((fun v : Value => v.category) ∘ zcv ad) = fun v => v.category := funext fun v => zcv_cat ad v
    rw [this]
    exact hcat
  obtain ⟨⟨s1, s2, -, -, -, -⟩, s3, s4⟩ := site
  have s1 : Cond.code yJ9_min_7cf53 cJ9_min_7cf53 2 (some .int) ∈ zG := s1
  have s3 : Cond.methodLink M.1.cls idx yJ9_min_7cf53 ∈ zG := s3
  have s4 : Cond.static yJ9_min_7cf53 ∈ zG := s4
  rw [zmm_min.1, zmm_min.2] at s1
  rw [zmm_min.1] at s3 s4
  refine va_mmin (x := nI a) (y := nI b) hx hb (hml.trans (hlv.symm.trans hl.1.symm)) hown (g' s3) (g' s4) (g' s2) (g' s1) hn (by show _ ≤ 40 * n; omega) (Nat.le_refl _) (Nat.le_refl _) d ?_
  have e9 : (if nI b < nI a then nI b else nI a) = nI (if b < a then b else a) := by
    by_cases q : b < a
    · rw [if_pos q, if_pos ((nI_ltI (by omega) (by omega)).mpr q)]
    · rw [if_neg q, if_neg (fun z => q ((nI_ltI (by omega) (by omega)).mp z))]
  rw [e9]
  exact k H locs ls hl hP hD hS
end ZAC
/-! bits and counts -/
theorem zbit (b n : Nat) : (b / 2 ^ n &&& 1 = 1) ↔ b.testBit n = true := by
  rw [Nat.testBit_eq_decide_div_mod_eq, decide_eq_true_iff, Nat.and_one_is_mod]
def zOk8 (x : Nat) : Nat → Nat
  | 0 => 0
  | k + 1 => zOk8 x k + x / 2 ^ k % 2
def zOn (x : Nat) : Nat := zOk8 x 8
theorem zOn_or : ∀ q, q < 7 → ∀ y, y < 128 → y < 2 ^ q → (zOn (y ||| 2 ^ q) = zOn y + 1 ∧ y ||| 2 ^ q < 2 ^ (q + 1)) := by decide +kernel
theorem zWh_lt (L : zL) (k : Nat) : ∀ q, q ≤ 7 → zWh L k q < 2 ^ q ∧ zOn (zWh L k q) = zCn L q k
  | 0, _ => ⟨by rw [zWh]; decide, by rw [zWh, zCn]; decide⟩
  | q + 1, hq => by
    obtain ⟨h1, h2⟩ := zWh_lt L k q (by omega)
    have h3 : 2 ^ q ≤ 2 ^ 6 := Nat.pow_le_pow_right (by decide) (by omega)
    have h4 := zOn_or q (by omega) (zWh L k q) (by omega) h1
    rw [zWh, zCn]
    by_cases hc : lA L q = k
    · rw [if_pos hc, if_pos hc, h4.1, h2]
      exact ⟨h4.2, rfl⟩
    · rw [if_neg hc, if_neg hc, Nat.or_zero, h2]
      exact ⟨Nat.lt_of_lt_of_le h1 (Nat.pow_le_pow_right (by decide) (by omega)), rfl⟩
theorem zTh_lt (L : zL) : ∀ q, zTh L q < 2 ^ q
  | 0 => by rw [zTh]; decide
  | q + 1 => by
    rw [zTh]
    apply Nat.or_lt_two_pow
    · exact Nat.lt_of_lt_of_le (zTh_lt L q) (Nat.pow_le_pow_right (by decide) (by omega))
    · split
      · exact Nat.pow_lt_pow_right (by decide) (by omega)
      · exact Nat.two_pow_pos _
theorem zCn_up (L : zL) (q : Nat) : zup (zCn L q) (lA L q) (zCn L q (lA L q) + 1) = zCn L (q + 1) := by
  funext k
  unfold zup
  rw [zCn]
  by_cases h : k = lA L q
  · subst h; rw [if_pos rfl, if_pos rfl]
  · rw [if_neg h, if_neg (fun e => h e.symm)]; rfl
theorem zCn_le (L : zL) (k : Nat) : ∀ q, zCn L q k ≤ q
  | 0 => Nat.le_refl _
  | q + 1 => by
    have := zCn_le L k q
    rw [zCn]
    split <;> omega
theorem zCn_mono (L : zL) (k : Nat) {a : Nat} : ∀ d, zCn L a k ≤ zCn L (a + d) k
  | 0 => Nat.le_refl _
  | d + 1 => Nat.le_trans (zCn_mono L k d) (by show _ ≤ zCn L (a + d) k + _; omega)
theorem zCn_pos (L : zL) {q n : Nat} (h : q < n) : 1 ≤ zCn L n (lA L q) := by
  have h1 : zCn L (q + 1) (lA L q) = zCn L q (lA L q) + 1 := by rw [zCn, if_pos rfl]
  have h2 := zCn_mono L (lA L q) (a := q + 1) (n - (q + 1))
  rw [show q + 1 + (n - (q + 1)) = n by omega] at h2
  omega
theorem zHk_le {k f t o : Nat} (hf : f ≤ 60) (ho : o ≤ 6) : zHk k f t o ≤ 100 := by
  unfold zHk
  repeat' split
  all_goals omega
theorem zHo_le {L : zL} (hw : zWf L) (but k : Nat) : ∀ q, q ≤ lP L → zHo L but q k ≤ 100 * q
  | 0, _ => by simp [zHo]
  | q + 1, hq => by
    have ih := zHo_le hw but k q (by omega)
    obtain ⟨w1, w2, w3, w4, w5⟩ := hw
    have h1 := w5 q (by omega)
    have h2 := zCn_le L (lA L q) (lP L)
    have h3 := zHk_le (k := lK L q) (t := lT L q) (o := zCn L (lP L) (lA L q) - 1) h1.2.2.2.1 (by omega)
    rw [zHo]
    unfold zHp
    split <;> omega
theorem zHs_le {L : zL} (hw : zWf L) (but k : Nat) : zHs L but k ≤ 600 := by
  have h1 := zHo_le hw but k (lP L) (Nat.le_refl _)
  have := hw.2.2.1
  unfold zHs
  omega
theorem zHo_up {L : zL} {but q : Nat} (hb : but.testBit q = false) : zup (zHo L but q) (lA L q) (zHo L but q (lA L q) + zHp L q) = zHo L but (q + 1) := by
  funext k
  unfold zup
  rw [zHo]
  by_cases h : k = lA L q
  · subst h; rw [if_pos rfl, if_pos ⟨rfl, hb⟩]
  · rw [if_neg h, if_neg (fun e => h e.1.symm)]; rfl
theorem zHo_no {L : zL} {but q : Nat} (hb : but.testBit q = true) : zHo L but q = zHo L but (q + 1) := by
  funext k
  rw [zHo, if_neg (fun e => by rw [hb] at e; exact absurd e.2 (by decide))]
  rfl
/-- the class's way to the tram -/
def zMc (L : zL) (but : Nat) : Nat → Nat
  | 0 => (if lB L < 1 then 1 else lB L) - 1
  | k + 1 => if zMc L but k < zHs L but k then zHs L but k else zMc L but k
def zBc (L : zL) (but : Nat) : Nat → Option Nat
  | 0 => none
  | k + 1 => if zMc L but k < zHs L but k then some k else zBc L but k
theorem zMc_Mx (L : zL) (but : Nat) : ∀ k, zMc L but k = max ((if lB L < 1 then 1 else lB L) - 1) (zMx L but k) ∧ (zBc L but k = if (if lB L < 1 then 1 else lB L) ≤ zMx L but k then zBs L but k else none)
  | 0 => by
    constructor
    · simp [zMc, zMx]
    · rw [zBc, zMx, if_neg]
      split <;> omega
  | k + 1 => by
    obtain ⟨h1, h2⟩ := zMc_Mx L but k
    have hm : 1 ≤ (if lB L < 1 then 1 else lB L) := by split <;> omega
    rw [zMc, zBc, zMx, zBs, h1, h2]
    generalize (if lB L < 1 then 1 else lB L) = m at hm ⊢
    by_cases ha : zMx L but k < zHs L but k
    · rw [if_pos ha, if_pos ha]
      by_cases hb : m ≤ zHs L but k
      · rw [if_pos (by omega), if_pos (by omega), if_pos hb]
        exact ⟨by omega, rfl⟩
      · rw [if_neg (by omega), if_neg (by omega), if_neg (by omega), if_neg hb]
        exact ⟨by omega, rfl⟩
    · rw [if_neg ha, if_neg ha, if_neg (by omega), if_neg (by omega)]
      exact ⟨rfl, rfl⟩
theorem zBc_Tr (L : zL) (but : Nat) : zBc L but (lS L) = zTr L but := by
  rw [(zMc_Mx L but (lS L)).2]
  unfold zTr
  by_cases h : lB L < 1
  · rw [if_pos h]
    by_cases h2 : 1 ≤ zMx L but (lS L)
    · rw [if_pos h2, if_pos ⟨by omega, by omega⟩]
    · rw [if_neg h2, if_neg (by omega)]
  · rw [if_neg h]
    by_cases h2 : lB L ≤ zMx L but (lS L)
    · rw [if_pos h2, if_pos ⟨by omega, h2⟩]
    · rw [if_neg h2, if_neg (by omega)]
theorem zMc_le {L : zL} (hw : zWf L) (but : Nat) : ∀ k, zMc L but k ≤ 600
  | 0 => by
    have := hw.2.1
    rw [zMc]
    split <;> omega
  | k + 1 => by
    have := zMc_le hw but k
    have := zHs_le hw but k
    rw [zMc]
    split <;> omega
/-- where, as the class tells it: -1 nowhere -/
def tI : Option Nat → Int32
  | none => -1
  | some k => nI k
theorem zBs_lt (L : zL) (but : Nat) : ∀ k j, zBs L but k = some j → j < k
  | 0, j, h => by cases h
  | k + 1, j, h => by
    rw [zBs] at h
    split at h
    · cases h; omega
    · have := zBs_lt L but k j h; omega
theorem zTr_lt {L : zL} {but j : Nat} (h : zTr L but = some j) : j < lS L := by
  unfold zTr at h
  split at h
  · exact zBs_lt L but _ j h
  · cases h
end
section
/-! calls whose callee has the caller's own cells -/
theorem zpi_range (n : Nat) : zpi (List.range n) = fun k => k := by
  funext k
  unfold zpi
  rw [List.getD_eq_getElem?_getD]
  by_cases h : k < n
  · rw [List.getElem?_range h]; rfl
  · rw [List.getElem?_eq_none (by rw [List.length_range]; omega)]; rfl
theorem zcv_id (v : Value) : zcv (fun k => k) v = v := by cases v <;> rfl
theorem zcvs_id (l : List Value) : l.map (zcv (fun k => k)) = l := by
  induction l with
  | nil => rfl
  | cons v l ih => rw [List.map_cons, ih, zcv_id]
theorem zrn_id (e : zE) : zrn (fun k => k) e = e := by
  rcases e with (a | ⟨ci, fs⟩) | ⟨t, fs⟩
  · rfl
  · simp only [zrn, zcvs_id]
  · simp only [zrn, zcvs_id]
theorem zsub_id (h : List zE) : zsub h (List.range h.length) h := by
  unfold zsub
  rw [zpi_range]
  apply List.ext_getElem?
  intro i
  rw [List.getElem?_map, List.getElem?_map]
  by_cases hi : i < h.length
  · rw [List.getElem?_range hi, List.getElem?_eq_getElem hi]
    simp [zrn_id, List.getElem?_eq_getElem hi]
  · rw [List.getElem?_eq_none (by rw [List.length_range]; omega), List.getElem?_eq_none (by omega)]
    rfl
theorem zpt_all {h u : List zE} (hl : u.length = h.length) : zpt h (List.range h.length) u = u := by
  have hm : u.map (zrn (zpi (List.range h.length))) = u := by
    rw [zpi_range]
    have : (zrn fun k => k) = id := funext zrn_id
    rw [this, List.map_id]
  unfold zpt
  rw [hm]
  apply List.ext_getElem?
  intro i
  by_cases hi : i < h.length
  · rw [List.getElem?_eq_getElem (by omega : i < u.length)]
    exact zpt0_in _ h u i i _ List.nodup_range (List.getElem?_range hi) (List.getElem?_eq_getElem (by omega)) hi
  · rw [List.getElem?_eq_none (by rw [zpt0_len]; omega), List.getElem?_eq_none (by omega)]
section ZCF
variable {x : zC} {M M' : zM} {n n' pc idx np : Nat} {lv : List (Option Value)} {st rest : List Value} {h : List zE} {av : List Value}
theorem z_callisF (hx : zOk x M n) {R : Int32} {U : List zE} (hM : zMiE M' n' (av) h R U) (d : decode M.2.1 pc = .ok (.invokestatic idx, 3)) (site : zLs M.1.cls idx M' np) (hst : st = (av).reverse ++ rest) (hlv : lv.length = M.2.2.1) (hg : h.length ≤ 1000) (hap : (av).length = np) (hcat : (rest.map fun v => v.category).sum ≤ 8) (hn : n' + 1 ≤ n) (k : zV x (pc + 3) lv (.int R :: rest) U) : zV x pc lv st h :=
  z_callis hx (List.range h.length) hM d site (zsub_id h) (by rw [zpi_range, zcvs_id]; exact hst) hlv List.nodup_range (by rw [List.length_range]; exact hg) hap hcat hn (fun r u hl q => by obtain ⟨q1, q2⟩ := q; subst q1; subst q2; rw [zpt_all hl]; exact k)
theorem z_callvsF (hx : zOk x M n) {U : List zE} (hM : zMvE M' n' (av) h U) (d : decode M.2.1 pc = .ok (.invokestatic idx, 3)) (site : zLs M.1.cls idx M' np) (hst : st = (av).reverse ++ rest) (hlv : lv.length = M.2.2.1) (hg : h.length ≤ 1000) (hap : (av).length = np) (hcat : (rest.map fun v => v.category).sum ≤ 8) (hn : n' + 1 ≤ n) (k : zV x (pc + 3) lv rest U) : zV x pc lv st h :=
  z_callvs hx (List.range h.length) hM d site (zsub_id h) (by rw [zpi_range, zcvs_id]; exact hst) hlv List.nodup_range (by rw [List.length_range]; exact hg) hap hcat hn (fun u hl q => by subst q; rw [zpt_all hl]; exact k)
theorem z_callivF (hx : zOk x M n) {r0 ci : Nat} {fs : List Value} {T : u_T} {N : Nat} {R : Int32} {U : List zE} (hM : zMiE M' n' (.ref r0 :: av) h R U) (d : decode M.2.1 pc = .ok (.invokevirtual idx, 3)) (site : zLv M.1.cls idx M' np) (hrc : h[r0]? = some (zO ci fs)) (hci : vwCl[ci]? = some (M'.1.cls, T, N)) (hst : st = (.ref r0 :: av).reverse ++ rest) (hlv : lv.length = M.2.2.1) (hg : h.length ≤ 1000) (hap : (av).length = np) (hcat : (rest.map fun v => v.category).sum ≤ 8) (hn : n' + 1 ≤ n) (k : zV x (pc + 3) lv (.int R :: rest) U) : zV x pc lv st h :=
  z_calliv hx (List.range h.length) hM d site hrc hci (zsub_id h) (by rw [zpi_range, zcvs_id]; exact hst) hlv List.nodup_range (by rw [List.length_range]; exact hg) hap hcat hn (fun r u hl q => by obtain ⟨q1, q2⟩ := q; subst q1; subst q2; rw [zpt_all hl]; exact k)
theorem z_callvvF (hx : zOk x M n) {r0 ci : Nat} {fs : List Value} {T : u_T} {N : Nat} {U : List zE} (hM : zMvE M' n' (.ref r0 :: av) h U) (d : decode M.2.1 pc = .ok (.invokevirtual idx, 3)) (site : zLv M.1.cls idx M' np) (hrc : h[r0]? = some (zO ci fs)) (hci : vwCl[ci]? = some (M'.1.cls, T, N)) (hst : st = (.ref r0 :: av).reverse ++ rest) (hlv : lv.length = M.2.2.1) (hg : h.length ≤ 1000) (hap : (av).length = np) (hcat : (rest.map fun v => v.category).sum ≤ 8) (hn : n' + 1 ≤ n) (k : zV x (pc + 3) lv rest U) : zV x pc lv st h :=
  z_callvv hx (List.range h.length) hM d site hrc hci (zsub_id h) (by rw [zpi_range, zcvs_id]; exact hst) hlv List.nodup_range (by rw [List.length_range]; exact hg) hap hcat hn (fun u hl q => by subst q; rw [zpt_all hl]; exact k)
theorem z_callrvF (hx : zOk x M n) {r0 ci : Nat} {fs : List Value} {T : u_T} {N : Nat} {R : Nat} {U : List zE} (hM : zMr M' n' (.ref r0 :: av) h (fun r u => r = R ∧ u = U)) (d : decode M.2.1 pc = .ok (.invokevirtual idx, 3)) (site : zLv M.1.cls idx M' np) (hrc : h[r0]? = some (zO ci fs)) (hci : vwCl[ci]? = some (M'.1.cls, T, N)) (hst : st = (.ref r0 :: av).reverse ++ rest) (hlv : lv.length = M.2.2.1) (hg : h.length ≤ 1000) (hap : (av).length = np) (hcat : (rest.map fun v => v.category).sum ≤ 8) (hn : n' + 1 ≤ n) (k : zV x (pc + 3) lv (.ref R :: rest) U) : zV x pc lv st h :=
  z_callrv hx (List.range h.length) hM d site hrc hci (zsub_id h) (by rw [zpi_range, zcvs_id]; exact hst) hlv List.nodup_range (by rw [List.length_range]; exact hg) hap hcat hn (fun r u hl q => by obtain ⟨q1, q2⟩ := q; subst q1; subst q2; rw [zpt_all hl, zpi_range]; exact k)
theorem z_calliuF (hx : zOk x M n) {C : String} {r0 ci : Nat} {fs : List Value} {T : u_T} {N : Nat} {R : Int32} {U : List zE} (hM : zMiE M' n' (.ref r0 :: av) h R U) (d : decode M.2.1 pc = .ok (.invokespecial idx, 3)) (site : zLu M.1.cls idx M' np) (hrc : h[r0]? = some (zO ci fs)) (hci : vwCl[ci]? = some (C, T, N)) (hst : st = (.ref r0 :: av).reverse ++ rest) (hlv : lv.length = M.2.2.1) (hg : h.length ≤ 1000) (hap : (av).length = np) (hcat : (rest.map fun v => v.category).sum ≤ 8) (hn : n' + 1 ≤ n) (k : zV x (pc + 3) lv (.int R :: rest) U) : zV x pc lv st h :=
  z_calliu hx (List.range h.length) hM d site hrc hci (zsub_id h) (by rw [zpi_range, zcvs_id]; exact hst) hlv List.nodup_range (by rw [List.length_range]; exact hg) hap hcat hn (fun r u hl q => by obtain ⟨q1, q2⟩ := q; subst q1; subst q2; rw [zpt_all hl]; exact k)
theorem z_callioF (hx : zOk x M n) {C : String} {y0 : MethodName} {r0 ci : Nat} {fs : List Value} {T : u_T} {N : Nat} {R : Int32} {U : List zE} (hM : zMiE M' n' (.ref r0 :: av) h R U) (d : decode M.2.1 pc = .ok (.invokevirtual idx, 3)) (site : zLo M.1.cls idx C y0 M' np) (hrc : h[r0]? = some (zO ci fs)) (hci : vwCl[ci]? = some (C, T, N)) (hst : st = (.ref r0 :: av).reverse ++ rest) (hlv : lv.length = M.2.2.1) (hg : h.length ≤ 1000) (hap : (av).length = np) (hcat : (rest.map fun v => v.category).sum ≤ 8) (hn : n' + 1 ≤ n) (k : zV x (pc + 3) lv (.int R :: rest) U) : zV x pc lv st h :=
  z_callio hx (List.range h.length) hM d site hrc hci (zsub_id h) (by rw [zpi_range, zcvs_id]; exact hst) hlv List.nodup_range (by rw [List.length_range]; exact hg) hap hcat hn (fun r u hl q => by obtain ⟨q1, q2⟩ := q; subst q1; subst q2; rw [zpt_all hl]; exact k)
end ZCF
end
section
/-! the cells of the two objects -/
abbrev zRw : Type := (Nat → Nat) × (Nat → Option Nat) × (Nat → Nat → Int32)
/-- a tape: size, fault, its place, letters, next, number -/
abbrev zTp : Type := Nat × Nat × Nat × (Nat → Nat) × Nat × Nat
abbrev zLk : Type := zL × (Nat → Nat) × (Nat → Nat)
/-- kept, oldest, pages -/
abbrev zPy : Type := Nat × Nat × (Nat → Nat)
/-- number, faith, waited, begun, bodies -/
abbrev zAs : Type := Nat × Nat × Nat × Nat × (Nat → Nat)
abbrev zCS : Type := zRw × zTp × zLk × zLk × (zLk × zLk) × zPy × zAs × (Nat × Nat)
/-- the class's cells -/
def hC (c : zCS) : List zE :=
    [zO 10 [.ref 1, .ref 13, .ref 15, .ref 23, .ref 31, .ref 48, .ref 50, .int (nI (c.2.2.2.2.2.2.2.1)), .int (nI (c.2.2.2.2.2.2.2.2))],
     zO 8 [.ref 2, .ref 3, .ref 4], zR 4 [.ref 5, .ref 6, .ref 7, .ref 8, .ref 9, .ref 10, .ref 11, .ref 12], zN 8 (c.1.1), zI 8 (fun j => tI ((c.1.2.1) j)), zI 40 ((c.1.2.2) 0), zI 40 ((c.1.2.2) 1), zI 40 ((c.1.2.2) 2), zI 40 ((c.1.2.2) 3), zI 40 ((c.1.2.2) 4), zI 40 ((c.1.2.2) 5), zI 40 ((c.1.2.2) 6), zI 40 ((c.1.2.2) 7),
     zO 9 [.int (nI (c.2.1.1)), .int (nI (c.2.1.2.1)), .int (nI (c.2.1.2.2.1)), .ref 14, .int (nI (c.2.1.2.2.2.2.1)), .int (nI (c.2.1.2.2.2.2.2))], zN 100 (c.2.1.2.2.2.1),
     zO 4 [.int (nI (lS (c.2.2.1.1))), .int (nI (lB (c.2.2.1.1))), .int (nI (lP (c.2.2.1.1))), .int (nI (lM (c.2.2.1.1))), .ref 16, .ref 17, .ref 18, .ref 19, .ref 20, .ref 52, .ref 21, .ref 22], zN 6 (lK (c.2.2.1.1)), zN 6 (lA (c.2.2.1.1)), zN 6 (lF (c.2.2.1.1)), zN 6 (lW (c.2.2.1.1)), zN 6 (lT (c.2.2.1.1)), zN 8 (c.2.2.1.2.1), zN 8 (c.2.2.1.2.2),
     zO 4 [.int (nI (lS (c.2.2.2.1.1))), .int (nI (lB (c.2.2.2.1.1))), .int (nI (lP (c.2.2.2.1.1))), .int (nI (lM (c.2.2.2.1.1))), .ref 24, .ref 25, .ref 26, .ref 27, .ref 28, .ref 52, .ref 29, .ref 30], zN 6 (lK (c.2.2.2.1.1)), zN 6 (lA (c.2.2.2.1.1)), zN 6 (lF (c.2.2.2.1.1)), zN 6 (lW (c.2.2.2.1.1)), zN 6 (lT (c.2.2.2.1.1)), zN 8 (c.2.2.2.1.2.1), zN 8 (c.2.2.2.1.2.2),
     zR 2 [.ref 32, .ref 40],
     zO 4 [.int (nI (lS (c.2.2.2.2.1.1.1))), .int (nI (lB (c.2.2.2.2.1.1.1))), .int (nI (lP (c.2.2.2.2.1.1.1))), .int (nI (lM (c.2.2.2.2.1.1.1))), .ref 33, .ref 34, .ref 35, .ref 36, .ref 37, .ref 52, .ref 38, .ref 39], zN 6 (lK (c.2.2.2.2.1.1.1)), zN 6 (lA (c.2.2.2.2.1.1.1)), zN 6 (lF (c.2.2.2.2.1.1.1)), zN 6 (lW (c.2.2.2.2.1.1.1)), zN 6 (lT (c.2.2.2.2.1.1.1)), zN 8 (c.2.2.2.2.1.1.2.1), zN 8 (c.2.2.2.2.1.1.2.2),
     zO 4 [.int (nI (lS (c.2.2.2.2.1.2.1))), .int (nI (lB (c.2.2.2.2.1.2.1))), .int (nI (lP (c.2.2.2.2.1.2.1))), .int (nI (lM (c.2.2.2.2.1.2.1))), .ref 41, .ref 42, .ref 43, .ref 44, .ref 45, .ref 52, .ref 46, .ref 47], zN 6 (lK (c.2.2.2.2.1.2.1)), zN 6 (lA (c.2.2.2.2.1.2.1)), zN 6 (lF (c.2.2.2.2.1.2.1)), zN 6 (lW (c.2.2.2.2.1.2.1)), zN 6 (lT (c.2.2.2.2.1.2.1)), zN 8 (c.2.2.2.2.1.2.2.1), zN 8 (c.2.2.2.2.1.2.2.2),
     zO 5 [.int (nI (c.2.2.2.2.2.1.1)), .int (nI (c.2.2.2.2.2.1.2.1)), .ref 49], zN 600 (c.2.2.2.2.2.1.2.2),
     zO 0 [.int (nI (c.2.2.2.2.2.2.1.1)), .int (nI (c.2.2.2.2.2.2.1.2.1)), .int (nI (c.2.2.2.2.2.2.1.2.2.1)), .int (nI (c.2.2.2.2.2.2.1.2.2.2.1)), .ref 51], zN 16 (c.2.2.2.2.2.2.1.2.2.2.2),
     zR 3 [.ref 53, .ref 54, .ref 55, .ref 56, .ref 57], zO 6 [], zO 2 [], zO 3 [], zO 1 [], zO 7 []]
abbrev gLn : List Nat := [15, 16, 17, 18, 19, 20, 21, 22, 52, 53, 54, 55, 56, 57]
abbrev gPl : List Nat := [23, 24, 25, 26, 27, 28, 29, 30, 52, 53, 54, 55, 56, 57]
theorem sub_Ln (r : zRw) (t : zTp) (L : zL) (cr ho : Nat → Nat) (p : zLk) (i : zLk × zLk) (y : zPy) (a : zAs) (f : Nat × Nat) : zsub (hC (r, t, (L, cr, ho), p, i, y, a, f)) gLn (hLc L cr ho) := rfl
theorem sub_Pl (r : zRw) (t : zTp) (l : zLk) (P : zL) (pr po : Nat → Nat) (i : zLk × zLk) (y : zPy) (a : zAs) (f : Nat × Nat) : zsub (hC (r, t, l, (P, pr, po), i, y, a, f)) gPl (hLc P pr po) := rfl
theorem pt_Ln (r : zRw) (t : zTp) (l : zLk) (L : zL) (cr ho : Nat → Nat) (p : zLk) (i : zLk × zLk) (y : zPy) (a : zAs) (f : Nat × Nat) : zpt (hC (r, t, l, p, i, y, a, f)) gLn (hLc L cr ho) = hC (r, t, (L, cr, ho), p, i, y, a, f) := rfl
theorem pt_Pl (r : zRw) (t : zTp) (l p : zLk) (P : zL) (pr po : Nat → Nat) (i : zLk × zLk) (y : zPy) (a : zAs) (f : Nat × Nat) : zpt (hC (r, t, l, p, i, y, a, f)) gPl (hLc P pr po) = hC (r, t, l, (P, pr, po), i, y, a, f) := rfl
end
section
/-! the class's cells one by one, and writes to them -/
def hLc2 (L : zL) (cr ho : Nat → Nat) (L' : zL) (cr' ho' : Nat → Nat) : List zE := hLc L cr ho ++ [zO 4 [.int (nI (lS L')), .int (nI (lB L')), .int (nI (lP L')), .int (nI (lM L')), .ref 15, .ref 16, .ref 17, .ref 18, .ref 19, .ref 8, .ref 20, .ref 21], zN 6 (lK L'), zN 6 (lA L'), zN 6 (lF L'), zN 6 (lW L'), zN 6 (lT L'), zN 8 cr', zN 8 ho']
theorem zpt_upd {h u : List zE} {g : List Nat} (hn : g.Nodup) (hul : u.length = g.length) (k i : Nat) (hk : g[k]? = some i) (e : zE) : zpt h g (u.set k e) = (zpt h g u).set i (zrn (zpi g) e) := by
  have hkl : k < u.length := by rw [hul]; exact (List.getElem?_eq_some_iff.mp hk).1
  apply List.ext_getElem?
  intro j
  rw [List.getElem?_set]
  by_cases hj : j < h.length
  · by_cases hij : i = j
    · subst hij
      rw [if_pos rfl, if_pos (by unfold zpt; rw [zpt0_len]; exact hj)]
      exact zpt0_in g h _ k i _ hn hk (by rw [List.map_set, List.getElem?_set_self (by rw [List.length_map]; exact hkl)]) hj
    · rw [if_neg hij]
      by_cases hm : j ∈ g
      · obtain ⟨m, hm1, hm2⟩ := List.mem_iff_getElem.mp hm
        have hgm : g[m]? = some j := by rw [List.getElem?_eq_getElem hm1, hm2]
        have hmu : m < u.length := by rw [hul]; exact hm1
        have hne : k ≠ m := fun q => by subst q; rw [hk] at hgm; exact hij (Option.some.inj hgm)
        have h1 : (u.map (zrn (zpi g)))[m]? = some (zrn (zpi g) u[m]) := by rw [List.getElem?_map, List.getElem?_eq_getElem hmu]; rfl
        have h2 : ((u.set k e).map (zrn (zpi g)))[m]? = some (zrn (zpi g) u[m]) := by rw [List.map_set, List.getElem?_set_ne hne]; exact h1
        unfold zpt
        rw [zpt0_in g h _ m j _ hn hgm h2 hj, zpt0_in g h _ m j _ hn hgm h1 hj]
      · unfold zpt
        rw [zpt0_out g h _ j hm, zpt0_out g h _ j hm]
  · have l1 : (zpt h g (u.set k e)).length = h.length := zpt0_len _ _ _
    have l2 : (zpt h g u).length = h.length := zpt0_len _ _ _
    rw [List.getElem?_eq_none (by omega)]
    split
    · rw [if_neg (by omega)]
    · rw [List.getElem?_eq_none (by omega)]
theorem hC_0 {r : zRw} {t : zTp} {l : zLk} {p : zLk} {i : zLk × zLk} {y : zPy} {a : zAs} {f1 f2 : Nat} : (hC (r, t, l, p, i, y, a, (f1, f2)))[0]? = some (zO 10 [.ref 1, .ref 13, .ref 15, .ref 23, .ref 31, .ref 48, .ref 50, .int (nI f1), .int (nI f2)]) := rfl
theorem hC_1 {r : zRw} {t : zTp} {l : zLk} {p : zLk} {i : zLk × zLk} {y : zPy} {a : zAs} {f : Nat × Nat} : (hC (r, t, l, p, i, y, a, f))[1]? = some (zO 8 [.ref 2, .ref 3, .ref 4]) := rfl
theorem hC_13 {r : zRw} {l : zLk} {p : zLk} {i : zLk × zLk} {y : zPy} {a : zAs} {f : Nat × Nat} {t1 t2 t3 t5 t6 : Nat} {t4 : Nat → Nat} : (hC (r, (t1, t2, t3, t4, t5, t6), l, p, i, y, a, f))[13]? = some (zO 9 [.int (nI t1), .int (nI t2), .int (nI t3), .ref 14, .int (nI t5), .int (nI t6)]) := rfl
theorem hC_31 {r : zRw} {t : zTp} {l : zLk} {p : zLk} {i : zLk × zLk} {y : zPy} {a : zAs} {f : Nat × Nat} : (hC (r, t, l, p, i, y, a, f))[31]? = some (zR 2 [.ref 32, .ref 40]) := rfl
theorem hC_48 {r : zRw} {t : zTp} {l : zLk} {p : zLk} {i : zLk × zLk} {a : zAs} {f : Nat × Nat} {y1 y2 : Nat} {y3 : Nat → Nat} : (hC (r, t, l, p, i, (y1, y2, y3), a, f))[48]? = some (zO 5 [.int (nI y1), .int (nI y2), .ref 49]) := rfl
theorem hC_50 {r : zRw} {t : zTp} {l : zLk} {p : zLk} {i : zLk × zLk} {y : zPy} {f : Nat × Nat} {a1 a2 a3 a4 : Nat} {a5 : Nat → Nat} : (hC (r, t, l, p, i, y, (a1, a2, a3, a4, a5), f))[50]? = some (zO 0 [.int (nI a1), .int (nI a2), .int (nI a3), .int (nI a4), .ref 51]) := rfl
theorem hC_15 {r : zRw} {t : zTp} {p : zLk} {i : zLk × zLk} {y : zPy} {a : zAs} {f : Nat × Nat} {L : zL} {cr ho : Nat → Nat}  : (hC (r, t, (L, cr, ho), p, i, y, a, f))[15]? = some (zO 4 [.int (nI (lS L)), .int (nI (lB L)), .int (nI (lP L)), .int (nI (lM L)), .ref 16, .ref 17, .ref 18, .ref 19, .ref 20, .ref 52, .ref 21, .ref 22]) := rfl
theorem hC_16 {r : zRw} {t : zTp} {p : zLk} {i : zLk × zLk} {y : zPy} {a : zAs} {f : Nat × Nat} {L : zL} {cr ho : Nat → Nat}  : (hC (r, t, (L, cr, ho), p, i, y, a, f))[16]? = some (zN 6 (lK L)) := rfl
theorem hC_17 {r : zRw} {t : zTp} {p : zLk} {i : zLk × zLk} {y : zPy} {a : zAs} {f : Nat × Nat} {L : zL} {cr ho : Nat → Nat}  : (hC (r, t, (L, cr, ho), p, i, y, a, f))[17]? = some (zN 6 (lA L)) := rfl
theorem hC_18 {r : zRw} {t : zTp} {p : zLk} {i : zLk × zLk} {y : zPy} {a : zAs} {f : Nat × Nat} {L : zL} {cr ho : Nat → Nat}  : (hC (r, t, (L, cr, ho), p, i, y, a, f))[18]? = some (zN 6 (lF L)) := rfl
theorem hC_19 {r : zRw} {t : zTp} {p : zLk} {i : zLk × zLk} {y : zPy} {a : zAs} {f : Nat × Nat} {L : zL} {cr ho : Nat → Nat}  : (hC (r, t, (L, cr, ho), p, i, y, a, f))[19]? = some (zN 6 (lW L)) := rfl
theorem hC_20 {r : zRw} {t : zTp} {p : zLk} {i : zLk × zLk} {y : zPy} {a : zAs} {f : Nat × Nat} {L : zL} {cr ho : Nat → Nat}  : (hC (r, t, (L, cr, ho), p, i, y, a, f))[20]? = some (zN 6 (lT L)) := rfl
theorem hC_23 {r : zRw} {t : zTp} {l : zLk} {i : zLk × zLk} {y : zPy} {a : zAs} {f : Nat × Nat} {L : zL} {cr ho : Nat → Nat}  : (hC (r, t, l, (L, cr, ho), i, y, a, f))[23]? = some (zO 4 [.int (nI (lS L)), .int (nI (lB L)), .int (nI (lP L)), .int (nI (lM L)), .ref 24, .ref 25, .ref 26, .ref 27, .ref 28, .ref 52, .ref 29, .ref 30]) := rfl
theorem hC_24 {r : zRw} {t : zTp} {l : zLk} {i : zLk × zLk} {y : zPy} {a : zAs} {f : Nat × Nat} {L : zL} {cr ho : Nat → Nat}  : (hC (r, t, l, (L, cr, ho), i, y, a, f))[24]? = some (zN 6 (lK L)) := rfl
theorem hC_25 {r : zRw} {t : zTp} {l : zLk} {i : zLk × zLk} {y : zPy} {a : zAs} {f : Nat × Nat} {L : zL} {cr ho : Nat → Nat}  : (hC (r, t, l, (L, cr, ho), i, y, a, f))[25]? = some (zN 6 (lA L)) := rfl
theorem hC_26 {r : zRw} {t : zTp} {l : zLk} {i : zLk × zLk} {y : zPy} {a : zAs} {f : Nat × Nat} {L : zL} {cr ho : Nat → Nat}  : (hC (r, t, l, (L, cr, ho), i, y, a, f))[26]? = some (zN 6 (lF L)) := rfl
theorem hC_27 {r : zRw} {t : zTp} {l : zLk} {i : zLk × zLk} {y : zPy} {a : zAs} {f : Nat × Nat} {L : zL} {cr ho : Nat → Nat}  : (hC (r, t, l, (L, cr, ho), i, y, a, f))[27]? = some (zN 6 (lW L)) := rfl
theorem hC_28 {r : zRw} {t : zTp} {l : zLk} {i : zLk × zLk} {y : zPy} {a : zAs} {f : Nat × Nat} {L : zL} {cr ho : Nat → Nat}  : (hC (r, t, l, (L, cr, ho), i, y, a, f))[28]? = some (zN 6 (lT L)) := rfl
theorem hC_32 {r : zRw} {t : zTp} {l : zLk} {p : zLk} {y : zPy} {a : zAs} {f : Nat × Nat} {L : zL} {cr ho : Nat → Nat}  {j : zLk} : (hC (r, t, l, p, ((L, cr, ho), j), y, a, f))[32]? = some (zO 4 [.int (nI (lS L)), .int (nI (lB L)), .int (nI (lP L)), .int (nI (lM L)), .ref 33, .ref 34, .ref 35, .ref 36, .ref 37, .ref 52, .ref 38, .ref 39]) := rfl
theorem hC_40 {r : zRw} {t : zTp} {l : zLk} {p : zLk} {y : zPy} {a : zAs} {f : Nat × Nat} {L : zL} {cr ho : Nat → Nat}  {j : zLk} : (hC (r, t, l, p, (j, (L, cr, ho)), y, a, f))[40]? = some (zO 4 [.int (nI (lS L)), .int (nI (lB L)), .int (nI (lP L)), .int (nI (lM L)), .ref 41, .ref 42, .ref 43, .ref 44, .ref 45, .ref 52, .ref 46, .ref 47]) := rfl
theorem hS_0_a {r : zRw} {t : zTp} {l : zLk} {p : zLk} {i : zLk × zLk} {y : zPy} {a : zAs} {f1 f2 v : Nat} : (hC (r, t, l, p, i, y, a, (f1, f2))).set 0 (zO 10 [.ref 1, .ref 13, .ref 15, .ref 23, .ref 31, .ref 48, .ref 50, .int (nI v), .int (nI f2)]) = hC (r, t, l, p, i, y, a, (v, f2)) := rfl
theorem hS_0_b {r : zRw} {t : zTp} {l : zLk} {p : zLk} {i : zLk × zLk} {y : zPy} {a : zAs} {f1 f2 v : Nat} : (hC (r, t, l, p, i, y, a, (f1, f2))).set 0 (zO 10 [.ref 1, .ref 13, .ref 15, .ref 23, .ref 31, .ref 48, .ref 50, .int (nI f1), .int (nI v)]) = hC (r, t, l, p, i, y, a, (f1, v)) := rfl
theorem hS_13 {r : zRw} {l : zLk} {p : zLk} {i : zLk × zLk} {y : zPy} {a : zAs} {f : Nat × Nat} {t1 t2 t3 t5 t6 v : Nat} {t4 : Nat → Nat} : (hC (r, (t1, t2, t3, t4, t5, t6), l, p, i, y, a, f)).set 13 (zO 9 [.int (nI v), .int (nI t2), .int (nI t3), .ref 14, .int (nI t5), .int (nI t6)]) = hC (r, (v, t2, t3, t4, t5, t6), l, p, i, y, a, f) := rfl
theorem hS_24 {r : zRw} {t : zTp} {l : zLk} {i : zLk × zLk} {y : zPy} {a : zAs} {f : Nat × Nat} {L : zL} {cr ho : Nat → Nat}  {g : Nat → Nat} : (hC (r, t, l, (L, cr, ho), i, y, a, f)).set 24 (zN 6 g) = hC (r, t, l, ((L.1, g, lA L, lF L, lW L, lT L), cr, ho), i, y, a, f) := rfl
theorem hS_26 {r : zRw} {t : zTp} {l : zLk} {i : zLk × zLk} {y : zPy} {a : zAs} {f : Nat × Nat} {L : zL} {cr ho : Nat → Nat}  {g : Nat → Nat} : (hC (r, t, l, (L, cr, ho), i, y, a, f)).set 26 (zN 6 g) = hC (r, t, l, ((L.1, lK L, lA L, g, lW L, lT L), cr, ho), i, y, a, f) := rfl
theorem hS_18 {r : zRw} {t : zTp} {p : zLk} {i : zLk × zLk} {y : zPy} {a : zAs} {f : Nat × Nat} {L : zL} {cr ho : Nat → Nat}  {g : Nat → Nat} : (hC (r, t, (L, cr, ho), p, i, y, a, f)).set 18 (zN 6 g) = hC (r, t, ((L.1, lK L, lA L, g, lW L, lT L), cr, ho), p, i, y, a, f) := rfl
theorem hS_19 {r : zRw} {t : zTp} {p : zLk} {i : zLk × zLk} {y : zPy} {a : zAs} {f : Nat × Nat} {L : zL} {cr ho : Nat → Nat}  {g : Nat → Nat} : (hC (r, t, (L, cr, ho), p, i, y, a, f)).set 19 (zN 6 g) = hC (r, t, ((L.1, lK L, lA L, lF L, g, lT L), cr, ho), p, i, y, a, f) := rfl
theorem hS_23 {r : zRw} {t : zTp} {l : zLk} {i : zLk × zLk} {y : zPy} {a : zAs} {f : Nat × Nat} {L : zL} {cr ho : Nat → Nat}  {v : Nat} : (hC (r, t, l, (L, cr, ho), i, y, a, f)).set 23 (zO 4 [.int (nI (lS L)), .int (nI v), .int (nI (lP L)), .int (nI (lM L)), .ref 24, .ref 25, .ref 26, .ref 27, .ref 28, .ref 52, .ref 29, .ref 30]) = hC (r, t, l, (lsB L v, cr, ho), i, y, a, f) := rfl
abbrev gPL : List Nat := [23, 24, 25, 26, 27, 28, 29, 30, 52, 53, 54, 55, 56, 57, 15, 16, 17, 18, 19, 20, 21, 22]
theorem sub_PL {r : zRw} {t : zTp} {i : zLk × zLk} {y : zPy} {a : zAs} {f : Nat × Nat} {P L : zL} {pr po cr ho : Nat → Nat} : zsub (hC (r, t, (L, cr, ho), (P, pr, po), i, y, a, f)) gPL (hLc2 P pr po L cr ho) := rfl
theorem pt_PL {r : zRw} {t : zTp} {i : zLk × zLk} {y : zPy} {a : zAs} {f : Nat × Nat} {P L : zL} {pr po cr ho : Nat → Nat} : zpt (hC (r, t, (L, cr, ho), (P, pr, po), i, y, a, f)) gPL (hLc2 L pr po L cr ho) = hC (r, t, (L, cr, ho), (L, pr, po), i, y, a, f) := by
  have e : hLc2 L pr po L cr ho = ((((((hLc2 P pr po L cr ho).set 0 (zO 4 [.int (nI (lS L)), .int (nI (lB L)), .int (nI (lP L)), .int (nI (lM L)), .ref 1, .ref 2, .ref 3, .ref 4, .ref 5, .ref 8, .ref 6, .ref 7])).set 1 (zN 6 (lK L))).set 2 (zN 6 (lA L))).set 3 (zN 6 (lF L))).set 4 (zN 6 (lW L))).set 5 (zN 6 (lT L)) := rfl
  rw [e, zpt_upd (by decide) rfl 5 28 rfl, zpt_upd (by decide) rfl 4 27 rfl, zpt_upd (by decide) rfl 3 26 rfl, zpt_upd (by decide) rfl 2 25 rfl, zpt_upd (by decide) rfl 1 24 rfl, zpt_upd (by decide) rfl 0 23 rfl, zpt_same sub_PL]
  rfl
abbrev gLP : List Nat := [15, 16, 17, 18, 19, 20, 21, 22, 52, 53, 54, 55, 56, 57, 23, 24, 25, 26, 27, 28, 29, 30]
theorem sub_LP {r : zRw} {t : zTp} {i : zLk × zLk} {y : zPy} {a : zAs} {f : Nat × Nat} {P L : zL} {pr po cr ho : Nat → Nat} : zsub (hC (r, t, (P, pr, po), (L, cr, ho), i, y, a, f)) gLP (hLc2 P pr po L cr ho) := rfl
theorem pt_LP {r : zRw} {t : zTp} {i : zLk × zLk} {y : zPy} {a : zAs} {f : Nat × Nat} {P L : zL} {pr po cr ho : Nat → Nat} : zpt (hC (r, t, (P, pr, po), (L, cr, ho), i, y, a, f)) gLP (hLc2 L pr po L cr ho) = hC (r, t, (L, pr, po), (L, cr, ho), i, y, a, f) := by
  have e : hLc2 L pr po L cr ho = ((((((hLc2 P pr po L cr ho).set 0 (zO 4 [.int (nI (lS L)), .int (nI (lB L)), .int (nI (lP L)), .int (nI (lM L)), .ref 1, .ref 2, .ref 3, .ref 4, .ref 5, .ref 8, .ref 6, .ref 7])).set 1 (zN 6 (lK L))).set 2 (zN 6 (lA L))).set 3 (zN 6 (lF L))).set 4 (zN 6 (lW L))).set 5 (zN 6 (lT L)) := rfl
  rw [e, zpt_upd (by decide) rfl 5 20 rfl, zpt_upd (by decide) rfl 4 19 rfl, zpt_upd (by decide) rfl 3 18 rfl, zpt_upd (by decide) rfl 2 17 rfl, zpt_upd (by decide) rfl 1 16 rfl, zpt_upd (by decide) rfl 0 15 rfl, zpt_same sub_LP]
  rfl
abbrev gIL : List Nat := [32, 33, 34, 35, 36, 37, 38, 39, 52, 53, 54, 55, 56, 57, 15, 16, 17, 18, 19, 20, 21, 22]
theorem sub_IL {r : zRw} {t : zTp} {p : zLk} {y : zPy} {a : zAs} {f : Nat × Nat} {P L : zL} {pr po cr ho : Nat → Nat} {j : zLk} : zsub (hC (r, t, (L, cr, ho), p, ((P, pr, po), j), y, a, f)) gIL (hLc2 P pr po L cr ho) := rfl
theorem pt_IL {r : zRw} {t : zTp} {p : zLk} {y : zPy} {a : zAs} {f : Nat × Nat} {P L : zL} {pr po cr ho : Nat → Nat} {j : zLk} : zpt (hC (r, t, (L, cr, ho), p, ((P, pr, po), j), y, a, f)) gIL (hLc2 L pr po L cr ho) = hC (r, t, (L, cr, ho), p, ((L, pr, po), j), y, a, f) := by
  have e : hLc2 L pr po L cr ho = ((((((hLc2 P pr po L cr ho).set 0 (zO 4 [.int (nI (lS L)), .int (nI (lB L)), .int (nI (lP L)), .int (nI (lM L)), .ref 1, .ref 2, .ref 3, .ref 4, .ref 5, .ref 8, .ref 6, .ref 7])).set 1 (zN 6 (lK L))).set 2 (zN 6 (lA L))).set 3 (zN 6 (lF L))).set 4 (zN 6 (lW L))).set 5 (zN 6 (lT L)) := rfl
  rw [e, zpt_upd (by decide) rfl 5 37 rfl, zpt_upd (by decide) rfl 4 36 rfl, zpt_upd (by decide) rfl 3 35 rfl, zpt_upd (by decide) rfl 2 34 rfl, zpt_upd (by decide) rfl 1 33 rfl, zpt_upd (by decide) rfl 0 32 rfl, zpt_same sub_IL]
  rfl
abbrev gJL : List Nat := [40, 41, 42, 43, 44, 45, 46, 47, 52, 53, 54, 55, 56, 57, 15, 16, 17, 18, 19, 20, 21, 22]
theorem sub_JL {r : zRw} {t : zTp} {p : zLk} {y : zPy} {a : zAs} {f : Nat × Nat} {P L : zL} {pr po cr ho : Nat → Nat} {j : zLk} : zsub (hC (r, t, (L, cr, ho), p, (j, (P, pr, po)), y, a, f)) gJL (hLc2 P pr po L cr ho) := rfl
theorem pt_JL {r : zRw} {t : zTp} {p : zLk} {y : zPy} {a : zAs} {f : Nat × Nat} {P L : zL} {pr po cr ho : Nat → Nat} {j : zLk} : zpt (hC (r, t, (L, cr, ho), p, (j, (P, pr, po)), y, a, f)) gJL (hLc2 L pr po L cr ho) = hC (r, t, (L, cr, ho), p, (j, (L, pr, po)), y, a, f) := by
  have e : hLc2 L pr po L cr ho = ((((((hLc2 P pr po L cr ho).set 0 (zO 4 [.int (nI (lS L)), .int (nI (lB L)), .int (nI (lP L)), .int (nI (lM L)), .ref 1, .ref 2, .ref 3, .ref 4, .ref 5, .ref 8, .ref 6, .ref 7])).set 1 (zN 6 (lK L))).set 2 (zN 6 (lA L))).set 3 (zN 6 (lF L))).set 4 (zN 6 (lW L))).set 5 (zN 6 (lT L)) := rfl
  rw [e, zpt_upd (by decide) rfl 5 45 rfl, zpt_upd (by decide) rfl 4 44 rfl, zpt_upd (by decide) rfl 3 43 rfl, zpt_upd (by decide) rfl 2 42 rfl, zpt_upd (by decide) rfl 1 41 rfl, zpt_upd (by decide) rfl 0 40 rfl, zpt_same sub_JL]
  rfl
abbrev gLI : List Nat := [15, 16, 17, 18, 19, 20, 21, 22, 52, 53, 54, 55, 56, 57, 32, 33, 34, 35, 36, 37, 38, 39]
theorem sub_LI {r : zRw} {t : zTp} {p : zLk} {y : zPy} {a : zAs} {f : Nat × Nat} {P L : zL} {pr po cr ho : Nat → Nat} {j : zLk} : zsub (hC (r, t, (P, pr, po), p, ((L, cr, ho), j), y, a, f)) gLI (hLc2 P pr po L cr ho) := rfl
theorem pt_LI {r : zRw} {t : zTp} {p : zLk} {y : zPy} {a : zAs} {f : Nat × Nat} {P L : zL} {pr po cr ho : Nat → Nat} {j : zLk} : zpt (hC (r, t, (P, pr, po), p, ((L, cr, ho), j), y, a, f)) gLI (hLc2 L pr po L cr ho) = hC (r, t, (L, pr, po), p, ((L, cr, ho), j), y, a, f) := by
  have e : hLc2 L pr po L cr ho = ((((((hLc2 P pr po L cr ho).set 0 (zO 4 [.int (nI (lS L)), .int (nI (lB L)), .int (nI (lP L)), .int (nI (lM L)), .ref 1, .ref 2, .ref 3, .ref 4, .ref 5, .ref 8, .ref 6, .ref 7])).set 1 (zN 6 (lK L))).set 2 (zN 6 (lA L))).set 3 (zN 6 (lF L))).set 4 (zN 6 (lW L))).set 5 (zN 6 (lT L)) := rfl
  rw [e, zpt_upd (by decide) rfl 5 20 rfl, zpt_upd (by decide) rfl 4 19 rfl, zpt_upd (by decide) rfl 3 18 rfl, zpt_upd (by decide) rfl 2 17 rfl, zpt_upd (by decide) rfl 1 16 rfl, zpt_upd (by decide) rfl 0 15 rfl, zpt_same sub_LI]
  rfl
abbrev gLJ : List Nat := [15, 16, 17, 18, 19, 20, 21, 22, 52, 53, 54, 55, 56, 57, 40, 41, 42, 43, 44, 45, 46, 47]
theorem sub_LJ {r : zRw} {t : zTp} {p : zLk} {y : zPy} {a : zAs} {f : Nat × Nat} {P L : zL} {pr po cr ho : Nat → Nat} {j : zLk} : zsub (hC (r, t, (P, pr, po), p, (j, (L, cr, ho)), y, a, f)) gLJ (hLc2 P pr po L cr ho) := rfl
theorem pt_LJ {r : zRw} {t : zTp} {p : zLk} {y : zPy} {a : zAs} {f : Nat × Nat} {P L : zL} {pr po cr ho : Nat → Nat} {j : zLk} : zpt (hC (r, t, (P, pr, po), p, (j, (L, cr, ho)), y, a, f)) gLJ (hLc2 L pr po L cr ho) = hC (r, t, (L, pr, po), p, (j, (L, cr, ho)), y, a, f) := by
  have e : hLc2 L pr po L cr ho = ((((((hLc2 P pr po L cr ho).set 0 (zO 4 [.int (nI (lS L)), .int (nI (lB L)), .int (nI (lP L)), .int (nI (lM L)), .ref 1, .ref 2, .ref 3, .ref 4, .ref 5, .ref 8, .ref 6, .ref 7])).set 1 (zN 6 (lK L))).set 2 (zN 6 (lA L))).set 3 (zN 6 (lF L))).set 4 (zN 6 (lW L))).set 5 (zN 6 (lT L)) := rfl
  rw [e, zpt_upd (by decide) rfl 5 20 rfl, zpt_upd (by decide) rfl 4 19 rfl, zpt_upd (by decide) rfl 3 18 rfl, zpt_upd (by decide) rfl 2 17 rfl, zpt_upd (by decide) rfl 1 16 rfl, zpt_upd (by decide) rfl 0 15 rfl, zpt_same sub_LJ]
  rfl
end
