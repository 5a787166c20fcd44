section
-- ===== PART A: goes FIRST, ahead of the names: the tables' words, and 'selects' of the private methods out of them =====
/-- a private method of a class that the tables say can be made, by its rows of tables_1 -/
def lw_okq (q : MethodName × Nat) : Prop := (q.1.cls ≠ "java/lang/invoke/MethodHandle" ∧ q.1.cls ≠ "java/lang/invoke/VarHandle") ∧ Cond.instantiable q.1.cls q.2 ∈ tables_1 ∧ Cond.privateMethod q.1 ∈ tables_1 ∧ Cond.instanceMethod q.1 ∈ tables_1
theorem lw_p0 : lw_okq (⟨"BeamKeepers$History", "dropOldest", "()V"⟩, 2) := ⟨⟨by decide +kernel, by decide +kernel⟩, List.mem_of_getElem? (i := 192) (by decide +kernel), List.mem_of_getElem? (i := 306) (by decide +kernel), List.mem_of_getElem? (i := 307) (by decide +kernel)⟩
theorem lw_p1 : lw_okq (⟨"BeamKeepers$Light", "litCells", "(I)I"⟩, 8) := ⟨⟨by decide +kernel, by decide +kernel⟩, List.mem_of_getElem? (i := 72) (by decide +kernel), List.mem_of_getElem? (i := 365) (by decide +kernel), List.mem_of_getElem? (i := 366) (by decide +kernel)⟩
theorem lw_p2 : lw_okq (⟨"BeamKeepers$Light", "reach", "(I)I"⟩, 8) := ⟨⟨by decide +kernel, by decide +kernel⟩, List.mem_of_getElem? (i := 72) (by decide +kernel), List.mem_of_getElem? (i := 373) (by decide +kernel), List.mem_of_getElem? (i := 374) (by decide +kernel)⟩
theorem lw_p3 : lw_okq (⟨"BeamKeepers$Light", "isDark", "(I)Z"⟩, 8) := ⟨⟨by decide +kernel, by decide +kernel⟩, List.mem_of_getElem? (i := 72) (by decide +kernel), List.mem_of_getElem? (i := 377) (by decide +kernel), List.mem_of_getElem? (i := 378) (by decide +kernel)⟩
theorem lw_p4 : lw_okq (⟨"BeamKeepers$Text", "readPart", "(LBeamKeepers$Part;)Z"⟩, 5) := ⟨⟨by decide +kernel, by decide +kernel⟩, List.mem_of_getElem? (i := 209) (by decide +kernel), List.mem_of_getElem? (i := 417) (by decide +kernel), List.mem_of_getElem? (i := 418) (by decide +kernel)⟩
theorem lw_p5 : lw_okq (⟨"BeamKeepers$Text", "readSign", "(C)Z"⟩, 5) := ⟨⟨by decide +kernel, by decide +kernel⟩, List.mem_of_getElem? (i := 209) (by decide +kernel), List.mem_of_getElem? (i := 421) (by decide +kernel), List.mem_of_getElem? (i := 422) (by decide +kernel)⟩
theorem lw_p6 : lw_okq (⟨"BeamKeepers$Text", "readCell", "()I"⟩, 5) := ⟨⟨by decide +kernel, by decide +kernel⟩, List.mem_of_getElem? (i := 209) (by decide +kernel), List.mem_of_getElem? (i := 425) (by decide +kernel), List.mem_of_getElem? (i := 426) (by decide +kernel)⟩
theorem lw_p7 : lw_okq (⟨"BeamKeepers$Text", "readDigit", "(II)I"⟩, 5) := ⟨⟨by decide +kernel, by decide +kernel⟩, List.mem_of_getElem? (i := 209) (by decide +kernel), List.mem_of_getElem? (i := 429) (by decide +kernel), List.mem_of_getElem? (i := 430) (by decide +kernel)⟩
theorem lw_p8 : lw_okq (⟨"BeamKeepers$Text", "readShip", "(LBeamKeepers$Part;)Z"⟩, 5) := ⟨⟨by decide +kernel, by decide +kernel⟩, List.mem_of_getElem? (i := 209) (by decide +kernel), List.mem_of_getElem? (i := 433) (by decide +kernel), List.mem_of_getElem? (i := 434) (by decide +kernel)⟩
theorem lw_p9 : lw_okq (⟨"BeamKeepers$Text", "readNumber", "(I)I"⟩, 5) := ⟨⟨by decide +kernel, by decide +kernel⟩, List.mem_of_getElem? (i := 209) (by decide +kernel), List.mem_of_getElem? (i := 437) (by decide +kernel), List.mem_of_getElem? (i := 438) (by decide +kernel)⟩
theorem lw_p10 : lw_okq (⟨"BeamKeepers$State", "goesToWreck", "(LBeamKeepers$Ship;)Z"⟩, 9) := ⟨⟨by decide +kernel, by decide +kernel⟩, List.mem_of_getElem? (i := 61) (by decide +kernel), List.mem_of_getElem? (i := 465) (by decide +kernel), List.mem_of_getElem? (i := 466) (by decide +kernel)⟩
theorem lw_p11 : lw_okq (⟨"BeamKeepers$Light", "cellOnRing", "(II)I"⟩, 8) := ⟨⟨by decide +kernel, by decide +kernel⟩, List.mem_of_getElem? (i := 72) (by decide +kernel), List.mem_of_getElem? (i := 599) (by decide +kernel), List.mem_of_getElem? (i := 600) (by decide +kernel)⟩
theorem lw_p12 : lw_okq (⟨"BeamKeepers", "isWreckedInTrial", "(I)Z"⟩, 7) := ⟨⟨by decide +kernel, by decide +kernel⟩, List.mem_of_getElem? (i := 15) (by decide +kernel), List.mem_of_getElem? (i := 657) (by decide +kernel), List.mem_of_getElem? (i := 658) (by decide +kernel)⟩
theorem lw_p13 : lw_okq (⟨"BeamKeepers", "worthWreckedInTrial", "()I"⟩, 7) := ⟨⟨by decide +kernel, by decide +kernel⟩, List.mem_of_getElem? (i := 15) (by decide +kernel), List.mem_of_getElem? (i := 665) (by decide +kernel), List.mem_of_getElem? (i := 666) (by decide +kernel)⟩
theorem lw_p14 : lw_okq (⟨"BeamKeepersModel", "records", "()V"⟩, 15) := ⟨⟨by decide +kernel, by decide +kernel⟩, List.mem_of_getElem? (i := 669) (by decide +kernel), List.mem_of_getElem? (i := 743) (by decide +kernel), List.mem_of_getElem? (i := 744) (by decide +kernel)⟩
theorem lw_p15 : lw_okq (⟨"BeamKeepersModel", "rocks", "()I"⟩, 15) := ⟨⟨by decide +kernel, by decide +kernel⟩, List.mem_of_getElem? (i := 669) (by decide +kernel), List.mem_of_getElem? (i := 747) (by decide +kernel), List.mem_of_getElem? (i := 748) (by decide +kernel)⟩
def lw_privs_1 : List (MethodName × Nat) := [(⟨"BeamKeepers$History", "dropOldest", "()V"⟩, 2), (⟨"BeamKeepers$Light", "litCells", "(I)I"⟩, 8), (⟨"BeamKeepers$Light", "reach", "(I)I"⟩, 8), (⟨"BeamKeepers$Light", "isDark", "(I)Z"⟩, 8), (⟨"BeamKeepers$Text", "readPart", "(LBeamKeepers$Part;)Z"⟩, 5), (⟨"BeamKeepers$Text", "readSign", "(C)Z"⟩, 5), (⟨"BeamKeepers$Text", "readCell", "()I"⟩, 5), (⟨"BeamKeepers$Text", "readDigit", "(II)I"⟩, 5), (⟨"BeamKeepers$Text", "readShip", "(LBeamKeepers$Part;)Z"⟩, 5), (⟨"BeamKeepers$Text", "readNumber", "(I)I"⟩, 5), (⟨"BeamKeepers$State", "goesToWreck", "(LBeamKeepers$Ship;)Z"⟩, 9), (⟨"BeamKeepers$Light", "cellOnRing", "(II)I"⟩, 8), (⟨"BeamKeepers", "isWreckedInTrial", "(I)Z"⟩, 7), (⟨"BeamKeepers", "worthWreckedInTrial", "()I"⟩, 7), (⟨"BeamKeepersModel", "records", "()V"⟩, 15), (⟨"BeamKeepersModel", "rocks", "()I"⟩, 15)]
theorem lw_r1 : ∀ q ∈ lw_privs_1, lw_okq q := List.forall_mem_cons.mpr ⟨lw_p0, List.forall_mem_cons.mpr ⟨lw_p1, List.forall_mem_cons.mpr ⟨lw_p2, List.forall_mem_cons.mpr ⟨lw_p3, List.forall_mem_cons.mpr ⟨lw_p4, List.forall_mem_cons.mpr ⟨lw_p5, List.forall_mem_cons.mpr ⟨lw_p6, List.forall_mem_cons.mpr ⟨lw_p7, List.forall_mem_cons.mpr ⟨lw_p8, List.forall_mem_cons.mpr ⟨lw_p9, List.forall_mem_cons.mpr ⟨lw_p10, List.forall_mem_cons.mpr ⟨lw_p11, List.forall_mem_cons.mpr ⟨lw_p12, List.forall_mem_cons.mpr ⟨lw_p13, List.forall_mem_cons.mpr ⟨lw_p14, List.forall_mem_cons.mpr ⟨lw_p15, fun _ h => absurd h List.not_mem_nil⟩⟩⟩⟩⟩⟩⟩⟩⟩⟩⟩⟩⟩⟩⟩⟩
theorem lw_p16 : lw_okq (⟨"BeamKeepersModel", "barShip", "(III)I"⟩, 15) := ⟨⟨by decide +kernel, by decide +kernel⟩, List.mem_of_getElem? (i := 669) (by decide +kernel), List.mem_of_getElem? (i := 765) (by decide +kernel), List.mem_of_getElem? (i := 766) (by decide +kernel)⟩
theorem lw_p17 : lw_okq (⟨"BeamKeepersModel", "shipIn", "(I)I"⟩, 15) := ⟨⟨by decide +kernel, by decide +kernel⟩, List.mem_of_getElem? (i := 669) (by decide +kernel), List.mem_of_getElem? (i := 769) (by decide +kernel), List.mem_of_getElem? (i := 770) (by decide +kernel)⟩
theorem lw_p18 : lw_okq (⟨"BeamKeepersModel", "comes", "(III)I"⟩, 15) := ⟨⟨by decide +kernel, by decide +kernel⟩, List.mem_of_getElem? (i := 669) (by decide +kernel), List.mem_of_getElem? (i := 776) (by decide +kernel), List.mem_of_getElem? (i := 777) (by decide +kernel)⟩
theorem lw_p19 : lw_okq (⟨"BeamKeepersModel", "barPass", "(I)I"⟩, 15) := ⟨⟨by decide +kernel, by decide +kernel⟩, List.mem_of_getElem? (i := 669) (by decide +kernel), List.mem_of_getElem? (i := 784) (by decide +kernel), List.mem_of_getElem? (i := 785) (by decide +kernel)⟩
theorem lw_p20 : lw_okq (⟨"BeamKeepersModel", "passes", "(I)I"⟩, 15) := ⟨⟨by decide +kernel, by decide +kernel⟩, List.mem_of_getElem? (i := 669) (by decide +kernel), List.mem_of_getElem? (i := 788) (by decide +kernel), List.mem_of_getElem? (i := 789) (by decide +kernel)⟩
theorem lw_p21 : lw_okq (⟨"BeamKeepersModel", "shipsIn", "(I)I"⟩, 15) := ⟨⟨by decide +kernel, by decide +kernel⟩, List.mem_of_getElem? (i := 669) (by decide +kernel), List.mem_of_getElem? (i := 792) (by decide +kernel), List.mem_of_getElem? (i := 793) (by decide +kernel)⟩
theorem lw_p22 : lw_okq (⟨"BeamKeepersModel", "hour", "()V"⟩, 15) := ⟨⟨by decide +kernel, by decide +kernel⟩, List.mem_of_getElem? (i := 669) (by decide +kernel), List.mem_of_getElem? (i := 796) (by decide +kernel), List.mem_of_getElem? (i := 797) (by decide +kernel)⟩
theorem lw_p23 : lw_okq (⟨"BeamKeepersModel", "rank", "(I)I"⟩, 15) := ⟨⟨by decide +kernel, by decide +kernel⟩, List.mem_of_getElem? (i := 669) (by decide +kernel), List.mem_of_getElem? (i := 800) (by decide +kernel), List.mem_of_getElem? (i := 801) (by decide +kernel)⟩
theorem lw_p24 : lw_okq (⟨"BeamKeepersModel", "goes", "(I)V"⟩, 15) := ⟨⟨by decide +kernel, by decide +kernel⟩, List.mem_of_getElem? (i := 669) (by decide +kernel), List.mem_of_getElem? (i := 804) (by decide +kernel), List.mem_of_getElem? (i := 805) (by decide +kernel)⟩
theorem lw_p25 : lw_okq (⟨"BeamKeepersModel", "lightsOn", "(I)I"⟩, 15) := ⟨⟨by decide +kernel, by decide +kernel⟩, List.mem_of_getElem? (i := 669) (by decide +kernel), List.mem_of_getElem? (i := 811) (by decide +kernel), List.mem_of_getElem? (i := 812) (by decide +kernel)⟩
theorem lw_p26 : lw_okq (⟨"BeamKeepersModel", "litBy", "(II)Z"⟩, 15) := ⟨⟨by decide +kernel, by decide +kernel⟩, List.mem_of_getElem? (i := 669) (by decide +kernel), List.mem_of_getElem? (i := 815) (by decide +kernel), List.mem_of_getElem? (i := 816) (by decide +kernel)⟩
theorem lw_p27 : lw_okq (⟨"BeamKeepersModel", "lights", "(IIII)Z"⟩, 15) := ⟨⟨by decide +kernel, by decide +kernel⟩, List.mem_of_getElem? (i := 669) (by decide +kernel), List.mem_of_getElem? (i := 819) (by decide +kernel), List.mem_of_getElem? (i := 820) (by decide +kernel)⟩
theorem lw_p28 : lw_okq (⟨"BeamKeepersModel", "beam", "(II)I"⟩, 15) := ⟨⟨by decide +kernel, by decide +kernel⟩, List.mem_of_getElem? (i := 669) (by decide +kernel), List.mem_of_getElem? (i := 838) (by decide +kernel), List.mem_of_getElem? (i := 839) (by decide +kernel)⟩
theorem lw_p29 : lw_okq (⟨"BeamKeepersModel", "isDark", "(II)Z"⟩, 15) := ⟨⟨by decide +kernel, by decide +kernel⟩, List.mem_of_getElem? (i := 669) (by decide +kernel), List.mem_of_getElem? (i := 842) (by decide +kernel), List.mem_of_getElem? (i := 843) (by decide +kernel)⟩
theorem lw_p30 : lw_okq (⟨"BeamKeepersModel", "canLay", "(II)Z"⟩, 15) := ⟨⟨by decide +kernel, by decide +kernel⟩, List.mem_of_getElem? (i := 669) (by decide +kernel), List.mem_of_getElem? (i := 863) (by decide +kernel), List.mem_of_getElem? (i := 864) (by decide +kernel)⟩
theorem lw_p31 : lw_okq (⟨"BeamKeepersModel", "lays", "(II)V"⟩, 15) := ⟨⟨by decide +kernel, by decide +kernel⟩, List.mem_of_getElem? (i := 669) (by decide +kernel), List.mem_of_getElem? (i := 867) (by decide +kernel), List.mem_of_getElem? (i := 868) (by decide +kernel)⟩
def lw_privs_2 : List (MethodName × Nat) := [(⟨"BeamKeepersModel", "barShip", "(III)I"⟩, 15), (⟨"BeamKeepersModel", "shipIn", "(I)I"⟩, 15), (⟨"BeamKeepersModel", "comes", "(III)I"⟩, 15), (⟨"BeamKeepersModel", "barPass", "(I)I"⟩, 15), (⟨"BeamKeepersModel", "passes", "(I)I"⟩, 15), (⟨"BeamKeepersModel", "shipsIn", "(I)I"⟩, 15), (⟨"BeamKeepersModel", "hour", "()V"⟩, 15), (⟨"BeamKeepersModel", "rank", "(I)I"⟩, 15), (⟨"BeamKeepersModel", "goes", "(I)V"⟩, 15), (⟨"BeamKeepersModel", "lightsOn", "(I)I"⟩, 15), (⟨"BeamKeepersModel", "litBy", "(II)Z"⟩, 15), (⟨"BeamKeepersModel", "lights", "(IIII)Z"⟩, 15), (⟨"BeamKeepersModel", "beam", "(II)I"⟩, 15), (⟨"BeamKeepersModel", "isDark", "(II)Z"⟩, 15), (⟨"BeamKeepersModel", "canLay", "(II)Z"⟩, 15), (⟨"BeamKeepersModel", "lays", "(II)V"⟩, 15)]
theorem lw_r2 : ∀ q ∈ lw_privs_2, lw_okq q := List.forall_mem_cons.mpr ⟨lw_p16, List.forall_mem_cons.mpr ⟨lw_p17, List.forall_mem_cons.mpr ⟨lw_p18, List.forall_mem_cons.mpr ⟨lw_p19, List.forall_mem_cons.mpr ⟨lw_p20, List.forall_mem_cons.mpr ⟨lw_p21, List.forall_mem_cons.mpr ⟨lw_p22, List.forall_mem_cons.mpr ⟨lw_p23, List.forall_mem_cons.mpr ⟨lw_p24, List.forall_mem_cons.mpr ⟨lw_p25, List.forall_mem_cons.mpr ⟨lw_p26, List.forall_mem_cons.mpr ⟨lw_p27, List.forall_mem_cons.mpr ⟨lw_p28, List.forall_mem_cons.mpr ⟨lw_p29, List.forall_mem_cons.mpr ⟨lw_p30, List.forall_mem_cons.mpr ⟨lw_p31, fun _ h => absurd h List.not_mem_nil⟩⟩⟩⟩⟩⟩⟩⟩⟩⟩⟩⟩⟩⟩⟩⟩
theorem lw_p32 : lw_okq (⟨"BeamKeepersModel", "parts", "()I"⟩, 15) := ⟨⟨by decide +kernel, by decide +kernel⟩, List.mem_of_getElem? (i := 669) (by decide +kernel), List.mem_of_getElem? (i := 883) (by decide +kernel), List.mem_of_getElem? (i := 884) (by decide +kernel)⟩
theorem lw_p33 : lw_okq (⟨"BeamKeepersModel", "part", "()V"⟩, 15) := ⟨⟨by decide +kernel, by decide +kernel⟩, List.mem_of_getElem? (i := 669) (by decide +kernel), List.mem_of_getElem? (i := 887) (by decide +kernel), List.mem_of_getElem? (i := 888) (by decide +kernel)⟩
theorem lw_p34 : lw_okq (⟨"BeamKeepersModel", "next", "()I"⟩, 15) := ⟨⟨by decide +kernel, by decide +kernel⟩, List.mem_of_getElem? (i := 669) (by decide +kernel), List.mem_of_getElem? (i := 891) (by decide +kernel), List.mem_of_getElem? (i := 892) (by decide +kernel)⟩
theorem lw_p35 : lw_okq (⟨"BeamKeepersModel", "cell", "()I"⟩, 15) := ⟨⟨by decide +kernel, by decide +kernel⟩, List.mem_of_getElem? (i := 669) (by decide +kernel), List.mem_of_getElem? (i := 895) (by decide +kernel), List.mem_of_getElem? (i := 896) (by decide +kernel)⟩
theorem lw_p36 : lw_okq (⟨"BeamKeepersModel", "digit", "(II)I"⟩, 15) := ⟨⟨by decide +kernel, by decide +kernel⟩, List.mem_of_getElem? (i := 669) (by decide +kernel), List.mem_of_getElem? (i := 899) (by decide +kernel), List.mem_of_getElem? (i := 900) (by decide +kernel)⟩
theorem lw_p37 : lw_okq (⟨"BeamKeepersModel", "number", "(I)I"⟩, 15) := ⟨⟨by decide +kernel, by decide +kernel⟩, List.mem_of_getElem? (i := 669) (by decide +kernel), List.mem_of_getElem? (i := 903) (by decide +kernel), List.mem_of_getElem? (i := 904) (by decide +kernel)⟩
theorem lw_p38 : lw_okq (⟨"BeamKeepersModel", "sign", "(I)V"⟩, 15) := ⟨⟨by decide +kernel, by decide +kernel⟩, List.mem_of_getElem? (i := 669) (by decide +kernel), List.mem_of_getElem? (i := 907) (by decide +kernel), List.mem_of_getElem? (i := 908) (by decide +kernel)⟩
theorem lw_p39 : lw_okq (⟨"BeamKeepersModel", "putAside", "()V"⟩, 15) := ⟨⟨by decide +kernel, by decide +kernel⟩, List.mem_of_getElem? (i := 669) (by decide +kernel), List.mem_of_getElem? (i := 915) (by decide +kernel), List.mem_of_getElem? (i := 916) (by decide +kernel)⟩
theorem lw_p40 : lw_okq (⟨"BeamKeepersModel", "does", "()I"⟩, 15) := ⟨⟨by decide +kernel, by decide +kernel⟩, List.mem_of_getElem? (i := 669) (by decide +kernel), List.mem_of_getElem? (i := 919) (by decide +kernel), List.mem_of_getElem? (i := 920) (by decide +kernel)⟩
theorem lw_p41 : lw_okq (⟨"BeamKeepersModel", "putBack", "()V"⟩, 15) := ⟨⟨by decide +kernel, by decide +kernel⟩, List.mem_of_getElem? (i := 669) (by decide +kernel), List.mem_of_getElem? (i := 923) (by decide +kernel), List.mem_of_getElem? (i := 924) (by decide +kernel)⟩
theorem lw_p42 : lw_okq (⟨"BeamKeepersModel", "litCells", "(I)I"⟩, 15) := ⟨⟨by decide +kernel, by decide +kernel⟩, List.mem_of_getElem? (i := 669) (by decide +kernel), List.mem_of_getElem? (i := 947) (by decide +kernel), List.mem_of_getElem? (i := 948) (by decide +kernel)⟩
theorem lw_p43 : lw_okq (⟨"BeamKeepersModel", "isShip", "(I)Z"⟩, 15) := ⟨⟨by decide +kernel, by decide +kernel⟩, List.mem_of_getElem? (i := 669) (by decide +kernel), List.mem_of_getElem? (i := 959) (by decide +kernel), List.mem_of_getElem? (i := 960) (by decide +kernel)⟩
theorem lw_p44 : lw_okq (⟨"BeamKeepersModel", "litNow", "(Z)I"⟩, 15) := ⟨⟨by decide +kernel, by decide +kernel⟩, List.mem_of_getElem? (i := 669) (by decide +kernel), List.mem_of_getElem? (i := 975) (by decide +kernel), List.mem_of_getElem? (i := 976) (by decide +kernel)⟩
theorem lw_p45 : lw_okq (⟨"BeamKeepersModel", "ofAll", "(I)I"⟩, 15) := ⟨⟨by decide +kernel, by decide +kernel⟩, List.mem_of_getElem? (i := 669) (by decide +kernel), List.mem_of_getElem? (i := 979) (by decide +kernel), List.mem_of_getElem? (i := 980) (by decide +kernel)⟩
theorem lw_p46 : lw_okq (⟨"BeamKeepersModel", "worth", "(I)I"⟩, 15) := ⟨⟨by decide +kernel, by decide +kernel⟩, List.mem_of_getElem? (i := 669) (by decide +kernel), List.mem_of_getElem? (i := 983) (by decide +kernel), List.mem_of_getElem? (i := 984) (by decide +kernel)⟩
theorem lw_p47 : lw_okq (⟨"BeamKeepersModel", "isLitThen", "(III)Z"⟩, 15) := ⟨⟨by decide +kernel, by decide +kernel⟩, List.mem_of_getElem? (i := 669) (by decide +kernel), List.mem_of_getElem? (i := 992) (by decide +kernel), List.mem_of_getElem? (i := 993) (by decide +kernel)⟩
def lw_privs_3 : List (MethodName × Nat) := [(⟨"BeamKeepersModel", "parts", "()I"⟩, 15), (⟨"BeamKeepersModel", "part", "()V"⟩, 15), (⟨"BeamKeepersModel", "next", "()I"⟩, 15), (⟨"BeamKeepersModel", "cell", "()I"⟩, 15), (⟨"BeamKeepersModel", "digit", "(II)I"⟩, 15), (⟨"BeamKeepersModel", "number", "(I)I"⟩, 15), (⟨"BeamKeepersModel", "sign", "(I)V"⟩, 15), (⟨"BeamKeepersModel", "putAside", "()V"⟩, 15), (⟨"BeamKeepersModel", "does", "()I"⟩, 15), (⟨"BeamKeepersModel", "putBack", "()V"⟩, 15), (⟨"BeamKeepersModel", "litCells", "(I)I"⟩, 15), (⟨"BeamKeepersModel", "isShip", "(I)Z"⟩, 15), (⟨"BeamKeepersModel", "litNow", "(Z)I"⟩, 15), (⟨"BeamKeepersModel", "ofAll", "(I)I"⟩, 15), (⟨"BeamKeepersModel", "worth", "(I)I"⟩, 15), (⟨"BeamKeepersModel", "isLitThen", "(III)Z"⟩, 15)]
theorem lw_r3 : ∀ q ∈ lw_privs_3, lw_okq q := List.forall_mem_cons.mpr ⟨lw_p32, List.forall_mem_cons.mpr ⟨lw_p33, List.forall_mem_cons.mpr ⟨lw_p34, List.forall_mem_cons.mpr ⟨lw_p35, List.forall_mem_cons.mpr ⟨lw_p36, List.forall_mem_cons.mpr ⟨lw_p37, List.forall_mem_cons.mpr ⟨lw_p38, List.forall_mem_cons.mpr ⟨lw_p39, List.forall_mem_cons.mpr ⟨lw_p40, List.forall_mem_cons.mpr ⟨lw_p41, List.forall_mem_cons.mpr ⟨lw_p42, List.forall_mem_cons.mpr ⟨lw_p43, List.forall_mem_cons.mpr ⟨lw_p44, List.forall_mem_cons.mpr ⟨lw_p45, List.forall_mem_cons.mpr ⟨lw_p46, List.forall_mem_cons.mpr ⟨lw_p47, fun _ h => absurd h List.not_mem_nil⟩⟩⟩⟩⟩⟩⟩⟩⟩⟩⟩⟩⟩⟩⟩⟩
def lw_privs : List (MethodName × Nat) := lw_privs_1 ++ (lw_privs_2 ++ (lw_privs_3))
def lw_tbl : List Cond := k2_sels lw_privs ++ tables_1
theorem lw_privs_ok : ∀ q ∈ lw_privs, lw_okq q := by
  show ∀ q ∈ lw_privs_1 ++ (lw_privs_2 ++ (lw_privs_3)), lw_okq q
  exact List.forall_mem_append.mpr ⟨lw_r1, List.forall_mem_append.mpr ⟨lw_r2, lw_r3⟩⟩
/-- the streams that the claim lets the run draw from -/
abbrev lw_cs : List Choice := [Jvm.Choice.named "NaN.bits"]
theorem lw_bits : nanBits ∈ lw_cs := by first | decide | exact List.mem_cons_self | simp [lw_cs, nanBits]
end
section
theorem vr_outer (c : ClassId) (N h0 : Nat) : ∀ i : Nat, Jvm.Free.Multi.outerC c N h0 i = arrV c N (fun j => va_rf (if j < i then some (h0 + 1 + j) else none))
  | 0 => by
    show ({ cls := c, slots := Array.replicate N .null, vm := .none } : Cell) = _
    rw [arrV_new]
    refine congrArg (arrV c N) (funext fun j => ?_)
    simp [va_rf]
  | i + 1 => by
    show (Jvm.Free.Multi.outerC c N h0 i).setSlot i (.ref (h0 + 1 + i)) = _
    rw [vr_outer c N h0 i, arrV_store]
    refine congrArg (arrV c N) (funext fun j => ?_)
    by_cases e : j = i
    · subst e
      simp [updV, va_rf]
    · by_cases h : j < i
      · simp [updV, e, h, Nat.lt_succ_of_lt h]
      · simp [updV, e, h, show ¬ j < i + 1 by omega]
def RX0 : String := "BeamKeepers$Bearings"
def TX0 : u_T := fun k => match k with
  | 0 => ("BeamKeepers$Bearings", "winds", "[[I", true)
  | 1 => ("BeamKeepers$Bearings", "distances", "[[I", true)
  | _ => ("BeamKeepers$Bearings", "nearest", "[I", true)
def tyX0 : Nat → FieldType := fun k => match k with
  | 0 => .array (.array .int)
  | 1 => .array (.array .int)
  | _ => .array .int
theorem nmX0 : ∀ a, a < 3 → ∀ b, b < 3 → a ≠ b → (TX0 a).2.1 ≠ (TX0 b).2.1 := by decide +kernel
theorem tyX0_ok : ∀ k, k < 3 → parseFieldDescriptor (TX0 k).2.2.1 = some (tyX0 k) := by decide +kernel
abbrev cX0_init : ByteArray := prog_2_method_1_code
def yX0_init : MethodName := ⟨RX0, "<init>", "()V"⟩
abbrev cX0_windOf : ByteArray := prog_2_method_2_code
def yX0_windOf : MethodName := ⟨RX0, "windOf", "(II)I"⟩
def RX1 : String := "BeamKeepers$History"
def TX1 : u_T := fun k => match k with
  | 0 => ("BeamKeepers$History", "states", "[LBeamKeepers$State;", true)
  | _ => ("BeamKeepers$History", "size", "I", false)
def tyX1 : Nat → FieldType := fun k => match k with
  | 0 => .array (.object "BeamKeepers$State")
  | _ => .int
theorem nmX1 : ∀ a, a < 2 → ∀ b, b < 2 → a ≠ b → (TX1 a).2.1 ≠ (TX1 b).2.1 := by decide +kernel
theorem tyX1_ok : ∀ k, k < 2 → parseFieldDescriptor (TX1 k).2.2.1 = some (tyX1 k) := by decide +kernel
abbrev cX1_init : ByteArray := prog_3_method_1_code
def yX1_init : MethodName := ⟨RX1, "<init>", "(LBeamKeepers$Bearings;)V"⟩
abbrev cX1_record : ByteArray := prog_3_method_2_code
def yX1_record : MethodName := ⟨RX1, "record", "(LBeamKeepers$State;)V"⟩
abbrev cX1_dropOldest : ByteArray := prog_3_method_3_code
def yX1_dropOldest : MethodName := ⟨RX1, "dropOldest", "()V"⟩
abbrev cX1_takeBack : ByteArray := prog_3_method_4_code
def yX1_takeBack : MethodName := ⟨RX1, "takeBack", "(LBeamKeepers$State;)I"⟩
def RX2 : String := "BeamKeepers$Keeper"
def TX2 : u_T := fun k => match k with
  | 0 => ("BeamKeepers$Keeper", "coins", "I", false)
  | 1 => ("BeamKeepers$Keeper", "debt", "I", false)
  | 2 => ("BeamKeepers$Keeper", "cards", "I", false)
  | 3 => ("BeamKeepers$Keeper", "wrecks", "I", false)
  | _ => ("BeamKeepers$Keeper", "paid", "I", false)
def tyX2 : Nat → FieldType := fun k => match k with
  | 0 => .int
  | 1 => .int
  | 2 => .int
  | 3 => .int
  | _ => .int
theorem nmX2 : ∀ a, a < 5 → ∀ b, b < 5 → a ≠ b → (TX2 a).2.1 ≠ (TX2 b).2.1 := by decide +kernel
theorem tyX2_ok : ∀ k, k < 5 → parseFieldDescriptor (TX2 k).2.2.1 = some (tyX2 k) := by decide +kernel
abbrev cX2_init : ByteArray := prog_4_method_1_code
def yX2_init : MethodName := ⟨RX2, "<init>", "()V"⟩
abbrev cX2_copyFrom : ByteArray := prog_4_method_2_code
def yX2_copyFrom : MethodName := ⟨RX2, "copyFrom", "(LBeamKeepers$Keeper;)V"⟩
abbrev cX2_told : ByteArray := prog_4_method_3_code
def yX2_told : MethodName := ⟨RX2, "told", "(I)I"⟩
abbrev cX2_oweWreck : ByteArray := prog_4_method_4_code
def yX2_oweWreck : MethodName := ⟨RX2, "oweWreck", "(I)V"⟩
abbrev cX2_earn : ByteArray := prog_4_method_5_code
def yX2_earn : MethodName := ⟨RX2, "earn", "(I)V"⟩
def RX3 : String := "BeamKeepers$Light"
def TX3 : u_T := fun k => match k with
  | 0 => ("BeamKeepers$Light", "ownCell", "I", true)
  | 1 => ("BeamKeepers$Light", "winds", "[I", true)
  | 2 => ("BeamKeepers$Light", "distances", "[I", true)
  | 3 => ("BeamKeepers$Light", "start", "I", false)
  | 4 => ("BeamKeepers$Light", "pace", "I", false)
  | 5 => ("BeamKeepers$Light", "range", "I", false)
  | 6 => ("BeamKeepers$Light", "dark", "I", false)
  | _ => ("BeamKeepers$Light", "fog", "I", false)
def tyX3 : Nat → FieldType := fun k => match k with
  | 0 => .int
  | 1 => .array .int
  | 2 => .array .int
  | 3 => .int
  | 4 => .int
  | 5 => .int
  | 6 => .int
  | _ => .int
theorem nmX3 : ∀ a, a < 8 → ∀ b, b < 8 → a ≠ b → (TX3 a).2.1 ≠ (TX3 b).2.1 := by decide +kernel
theorem tyX3_ok : ∀ k, k < 8 → parseFieldDescriptor (TX3 k).2.2.1 = some (tyX3 k) := by decide +kernel
abbrev cX3_init : ByteArray := prog_5_method_1_code
def yX3_init : MethodName := ⟨RX3, "<init>", "(ILBeamKeepers$Bearings;)V"⟩
abbrev cX3_copyFrom : ByteArray := prog_5_method_2_code
def yX3_copyFrom : MethodName := ⟨RX3, "copyFrom", "(LBeamKeepers$Light;)V"⟩
abbrev cX3_told : ByteArray := prog_5_method_3_code
def yX3_told : MethodName := ⟨RX3, "told", "(II)I"⟩
abbrev cX3_set : ByteArray := prog_5_method_4_code
def yX3_set : MethodName := ⟨RX3, "set", "(II)V"⟩
abbrev cX3_turnDark : ByteArray := prog_5_method_5_code
def yX3_turnDark : MethodName := ⟨RX3, "turnDark", "(I)V"⟩
abbrev cX3_layCard : ByteArray := prog_5_method_6_code
def yX3_layCard : MethodName := ⟨RX3, "layCard", "()V"⟩
abbrev cX3_thinFog : ByteArray := prog_5_method_7_code
def yX3_thinFog : MethodName := ⟨RX3, "thinFog", "()V"⟩
abbrev cX3_beamWind : ByteArray := prog_5_method_8_code
def yX3_beamWind : MethodName := ⟨RX3, "beamWind", "(I)I"⟩
abbrev cX3_isDark : ByteArray := prog_5_method_9_code
def yX3_isDark : MethodName := ⟨RX3, "isDark", "(I)Z"⟩
abbrev cX3_reach : ByteArray := prog_5_method_10_code
def yX3_reach : MethodName := ⟨RX3, "reach", "(I)I"⟩
abbrev cX3_lightsCell : ByteArray := prog_5_method_11_code
def yX3_lightsCell : MethodName := ⟨RX3, "lightsCell", "(III)Z"⟩
abbrev cX3_meetsOnWalk : ByteArray := prog_5_method_12_code
def yX3_meetsOnWalk : MethodName := ⟨RX3, "meetsOnWalk", "(II)Z"⟩
abbrev cX3_cellOnRing : ByteArray := prog_5_method_13_code
def yX3_cellOnRing : MethodName := ⟨RX3, "cellOnRing", "(II)I"⟩
abbrev cX3_eastOnRing : ByteArray := prog_5_method_14_code
def yX3_eastOnRing : MethodName := ⟨RX3, "eastOnRing", "(II)I"⟩
abbrev cX3_litCells : ByteArray := prog_5_method_15_code
def yX3_litCells : MethodName := ⟨RX3, "litCells", "(I)I"⟩
abbrev cX3_whyDark : ByteArray := prog_5_method_16_code
def yX3_whyDark : MethodName := ⟨RX3, "whyDark", "(II)I"⟩
def RX4 : String := "BeamKeepers$Part"
def TX4 : u_T := fun k => match k with
  | 0 => ("BeamKeepers$Part", "kind", "C", false)
  | 1 => ("BeamKeepers$Part", "number", "I", false)
  | 2 => ("BeamKeepers$Part", "cell", "I", false)
  | 3 => ("BeamKeepers$Part", "harbour", "I", false)
  | _ => ("BeamKeepers$Part", "wind", "I", false)
def tyX4 : Nat → FieldType := fun k => match k with
  | 0 => .char
  | 1 => .int
  | 2 => .int
  | 3 => .int
  | _ => .int
theorem nmX4 : ∀ a, a < 5 → ∀ b, b < 5 → a ≠ b → (TX4 a).2.1 ≠ (TX4 b).2.1 := by decide +kernel
theorem tyX4_ok : ∀ k, k < 5 → parseFieldDescriptor (TX4 k).2.2.1 = some (tyX4 k) := by decide +kernel
abbrev cX4_init : ByteArray := prog_6_method_1_code
def yX4_init : MethodName := ⟨RX4, "<init>", "()V"⟩
def RX5 : String := "BeamKeepers$Ship"
def TX5 : u_T := fun k => match k with
  | 0 => ("BeamKeepers$Ship", "worth", "I", false)
  | 1 => ("BeamKeepers$Ship", "cell", "I", false)
  | 2 => ("BeamKeepers$Ship", "harbour", "I", false)
  | 3 => ("BeamKeepers$Ship", "condition", "I", false)
  | _ => ("BeamKeepers$Ship", "waited", "I", false)
def tyX5 : Nat → FieldType := fun k => match k with
  | 0 => .int
  | 1 => .int
  | 2 => .int
  | 3 => .int
  | _ => .int
theorem nmX5 : ∀ a, a < 5 → ∀ b, b < 5 → a ≠ b → (TX5 a).2.1 ≠ (TX5 b).2.1 := by decide +kernel
theorem tyX5_ok : ∀ k, k < 5 → parseFieldDescriptor (TX5 k).2.2.1 = some (tyX5 k) := by decide +kernel
abbrev cX5_init : ByteArray := prog_7_method_1_code
def yX5_init : MethodName := ⟨RX5, "<init>", "()V"⟩
abbrev cX5_copyFrom : ByteArray := prog_7_method_2_code
def yX5_copyFrom : MethodName := ⟨RX5, "copyFrom", "(LBeamKeepers$Ship;)V"⟩
abbrev cX5_begin : ByteArray := prog_7_method_3_code
def yX5_begin : MethodName := ⟨RX5, "begin", "(III)V"⟩
abbrev cX5_told : ByteArray := prog_7_method_4_code
def yX5_told : MethodName := ⟨RX5, "told", "(I)I"⟩
abbrev cX5_nextCell : ByteArray := prog_7_method_5_code
def yX5_nextCell : MethodName := ⟨RX5, "nextCell", "()I"⟩
abbrev cX5_comeTo : ByteArray := prog_7_method_6_code
def yX5_comeTo : MethodName := ⟨RX5, "comeTo", "(I)V"⟩
abbrev cX5_breakIn : ByteArray := prog_7_method_7_code
def yX5_breakIn : MethodName := ⟨RX5, "breakIn", "(I)V"⟩
def RX6 : String := "BeamKeepers$State"
def TX6 : u_T := fun k => match k with
  | 0 => ("BeamKeepers$State", "bearings", "LBeamKeepers$Bearings;", true)
  | 1 => ("BeamKeepers$State", "rockRows", "[I", true)
  | 2 => ("BeamKeepers$State", "lights", "[LBeamKeepers$Light;", true)
  | 3 => ("BeamKeepers$State", "keepers", "[LBeamKeepers$Keeper;", true)
  | 4 => ("BeamKeepers$State", "ships", "[LBeamKeepers$Ship;", true)
  | 5 => ("BeamKeepers$State", "goingOrder", "[I", true)
  | 6 => ("BeamKeepers$State", "shipCount", "I", false)
  | 7 => ("BeamKeepers$State", "wage", "I", false)
  | _ => ("BeamKeepers$State", "hour", "I", false)
def tyX6 : Nat → FieldType := fun k => match k with
  | 0 => .object "BeamKeepers$Bearings"
  | 1 => .array .int
  | 2 => .array (.object "BeamKeepers$Light")
  | 3 => .array (.object "BeamKeepers$Keeper")
  | 4 => .array (.object "BeamKeepers$Ship")
  | 5 => .array .int
  | 6 => .int
  | 7 => .int
  | _ => .int
theorem nmX6 : ∀ a, a < 9 → ∀ b, b < 9 → a ≠ b → (TX6 a).2.1 ≠ (TX6 b).2.1 := by decide +kernel
theorem tyX6_ok : ∀ k, k < 9 → parseFieldDescriptor (TX6 k).2.2.1 = some (tyX6 k) := by decide +kernel
abbrev cX6_init : ByteArray := prog_8_method_1_code
def yX6_init : MethodName := ⟨RX6, "<init>", "(LBeamKeepers$Bearings;)V"⟩
abbrev cX6_copyFrom : ByteArray := prog_8_method_2_code
def yX6_copyFrom : MethodName := ⟨RX6, "copyFrom", "(LBeamKeepers$State;)V"⟩
abbrev cX6_hasRock : ByteArray := prog_8_method_3_code
def yX6_hasRock : MethodName := ⟨RX6, "hasRock", "(I)Z"⟩
abbrev cX6_rocks : ByteArray := prog_8_method_4_code
def yX6_rocks : MethodName := ⟨RX6, "rocks", "()I"⟩
abbrev cX6_rockError : ByteArray := prog_8_method_5_code
def yX6_rockError : MethodName := ⟨RX6, "rockError", "(I)I"⟩
abbrev cX6_turnRock : ByteArray := prog_8_method_6_code
def yX6_turnRock : MethodName := ⟨RX6, "turnRock", "(I)V"⟩
abbrev cX6_shipError : ByteArray := prog_8_method_7_code
def yX6_shipError : MethodName := ⟨RX6, "shipError", "(III)I"⟩
abbrev cX6_addShip : ByteArray := prog_8_method_8_code
def yX6_addShip : MethodName := ⟨RX6, "addShip", "(III)I"⟩
abbrev cX6_shipAtSeaIn : ByteArray := prog_8_method_9_code
def yX6_shipAtSeaIn : MethodName := ⟨RX6, "shipAtSeaIn", "(I)I"⟩
abbrev cX6_shipsThatAre : ByteArray := prog_8_method_10_code
def yX6_shipsThatAre : MethodName := ⟨RX6, "shipsThatAre", "(I)I"⟩
abbrev cX6_worthHome : ByteArray := prog_8_method_11_code
def yX6_worthHome : MethodName := ⟨RX6, "worthHome", "()I"⟩
abbrev cX6_placeOf : ByteArray := prog_8_method_12_code
def yX6_placeOf : MethodName := ⟨RX6, "placeOf", "(I)I"⟩
abbrev cX6_canLayCard : ByteArray := prog_8_method_13_code
def yX6_canLayCard : MethodName := ⟨RX6, "canLayCard", "(II)Z"⟩
abbrev cX6_debts : ByteArray := prog_8_method_14_code
def yX6_debts : MethodName := ⟨RX6, "debts", "()I"⟩
abbrev cX6_paid : ByteArray := prog_8_method_15_code
def yX6_paid : MethodName := ⟨RX6, "paid", "()I"⟩
abbrev cX6_litBy : ByteArray := prog_8_method_16_code
def yX6_litBy : MethodName := ⟨RX6, "litBy", "(III)I"⟩
abbrev cX6_litCells : ByteArray := prog_8_method_17_code
def yX6_litCells : MethodName := ⟨RX6, "litCells", "(Z)I"⟩
abbrev cX6_passError : ByteArray := prog_8_method_18_code
def yX6_passError : MethodName := ⟨RX6, "passError", "(I)I"⟩
abbrev cX6_passHours : ByteArray := prog_8_method_19_code
def yX6_passHours : MethodName := ⟨RX6, "passHours", "(I)I"⟩
abbrev cX6_goesToWreck : ByteArray := prog_8_method_20_code
def yX6_goesToWreck : MethodName := ⟨RX6, "goesToWreck", "(LBeamKeepers$Ship;)Z"⟩
abbrev cX6_doPart : ByteArray := prog_8_method_21_code
def yX6_doPart : MethodName := ⟨RX6, "doPart", "(LBeamKeepers$Part;)I"⟩
def RX7 : String := "BeamKeepers$Text"
def TX7 : u_T := fun k => match k with
  | 0 => ("BeamKeepers$Text", "characters", "[C", true)
  | 1 => ("BeamKeepers$Text", "length", "I", false)
  | 2 => ("BeamKeepers$Text", "parts", "[LBeamKeepers$Part;", true)
  | 3 => ("BeamKeepers$Text", "partCount", "I", false)
  | _ => ("BeamKeepers$Text", "place", "I", false)
def tyX7 : Nat → FieldType := fun k => match k with
  | 0 => .array .char
  | 1 => .int
  | 2 => .array (.object "BeamKeepers$Part")
  | 3 => .int
  | _ => .int
theorem nmX7 : ∀ a, a < 5 → ∀ b, b < 5 → a ≠ b → (TX7 a).2.1 ≠ (TX7 b).2.1 := by decide +kernel
theorem tyX7_ok : ∀ k, k < 5 → parseFieldDescriptor (TX7 k).2.2.1 = some (tyX7 k) := by decide +kernel
abbrev cX7_init : ByteArray := prog_9_method_1_code
def yX7_init : MethodName := ⟨RX7, "<init>", "()V"⟩
abbrev cX7_append : ByteArray := prog_9_method_2_code
def yX7_append : MethodName := ⟨RX7, "append", "(C)I"⟩
abbrev cX7_read : ByteArray := prog_9_method_3_code
def yX7_read : MethodName := ⟨RX7, "read", "()I"⟩
abbrev cX7_readPart : ByteArray := prog_9_method_4_code
def yX7_readPart : MethodName := ⟨RX7, "readPart", "(LBeamKeepers$Part;)Z"⟩
abbrev cX7_readShip : ByteArray := prog_9_method_5_code
def yX7_readShip : MethodName := ⟨RX7, "readShip", "(LBeamKeepers$Part;)Z"⟩
abbrev cX7_readSign : ByteArray := prog_9_method_6_code
def yX7_readSign : MethodName := ⟨RX7, "readSign", "(C)Z"⟩
abbrev cX7_readCell : ByteArray := prog_9_method_7_code
def yX7_readCell : MethodName := ⟨RX7, "readCell", "()I"⟩
abbrev cX7_readNumber : ByteArray := prog_9_method_8_code
def yX7_readNumber : MethodName := ⟨RX7, "readNumber", "(I)I"⟩
abbrev cX7_readDigit : ByteArray := prog_9_method_9_code
def yX7_readDigit : MethodName := ⟨RX7, "readDigit", "(II)I"⟩
def RX8 : String := "BeamKeepers"
def TX8 : u_T := fun k => match k with
  | 0 => ("BeamKeepers", "bearings", "LBeamKeepers$Bearings;", true)
  | 1 => ("BeamKeepers", "state", "LBeamKeepers$State;", true)
  | 2 => ("BeamKeepers", "trial", "LBeamKeepers$State;", true)
  | 3 => ("BeamKeepers", "snapshot", "LBeamKeepers$State;", true)
  | 4 => ("BeamKeepers", "hasSnapshot", "Z", false)
  | 5 => ("BeamKeepers", "history", "LBeamKeepers$History;", true)
  | _ => ("BeamKeepers", "text", "LBeamKeepers$Text;", true)
def tyX8 : Nat → FieldType := fun k => match k with
  | 0 => .object "BeamKeepers$Bearings"
  | 1 => .object "BeamKeepers$State"
  | 2 => .object "BeamKeepers$State"
  | 3 => .object "BeamKeepers$State"
  | 4 => .boolean
  | 5 => .object "BeamKeepers$History"
  | _ => .object "BeamKeepers$Text"
theorem nmX8 : ∀ a, a < 7 → ∀ b, b < 7 → a ≠ b → (TX8 a).2.1 ≠ (TX8 b).2.1 := by decide +kernel
theorem tyX8_ok : ∀ k, k < 7 → parseFieldDescriptor (TX8 k).2.2.1 = some (tyX8 k) := by decide +kernel
abbrev cX8_init : ByteArray := prog_1_method_1_code
def yX8_init : MethodName := ⟨RX8, "<init>", "()V"⟩
abbrev cX8_rock : ByteArray := prog_1_method_2_code
def yX8_rock : MethodName := ⟨RX8, "rock", "(I)I"⟩
abbrev cX8_light : ByteArray := prog_1_method_3_code
def yX8_light : MethodName := ⟨RX8, "light", "(III)I"⟩
abbrev cX8_ship : ByteArray := prog_1_method_4_code
def yX8_ship : MethodName := ⟨RX8, "ship", "(III)I"⟩
abbrev cX8_doAll : ByteArray := prog_1_method_5_code
def yX8_doAll : MethodName := ⟨RX8, "doAll", "()I"⟩
abbrev cX8_card : ByteArray := prog_1_method_6_code
def yX8_card : MethodName := ⟨RX8, "card", "(II)I"⟩
abbrev cX8_pass : ByteArray := prog_1_method_7_code
def yX8_pass : MethodName := ⟨RX8, "pass", "(I)I"⟩
abbrev cX8_wage : ByteArray := prog_1_method_8_code
def yX8_wage : MethodName := ⟨RX8, "wage", "(I)I"⟩
abbrev cX8_type : ByteArray := prog_1_method_9_code
def yX8_type : MethodName := ⟨RX8, "type", "(C)I"⟩
abbrev cX8_clearText : ByteArray := prog_1_method_10_code
def yX8_clearText : MethodName := ⟨RX8, "clearText", "()I"⟩
abbrev cX8_fault : ByteArray := prog_1_method_11_code
def yX8_fault : MethodName := ⟨RX8, "fault", "()I"⟩
abbrev cX8_undo : ByteArray := prog_1_method_12_code
def yX8_undo : MethodName := ⟨RX8, "undo", "()I"⟩
abbrev cX8_keep : ByteArray := prog_1_method_13_code
def yX8_keep : MethodName := ⟨RX8, "keep", "()I"⟩
abbrev cX8_restore : ByteArray := prog_1_method_14_code
def yX8_restore : MethodName := ⟨RX8, "restore", "()I"⟩
abbrev cX8_cellOf : ByteArray := prog_1_method_15_code
def yX8_cellOf : MethodName := ⟨RX8, "cellOf", "(II)I"⟩
abbrev cX8_lightOf : ByteArray := prog_1_method_16_code
def yX8_lightOf : MethodName := ⟨RX8, "lightOf", "(II)I"⟩
abbrev cX8_keeperOf : ByteArray := prog_1_method_17_code
def yX8_keeperOf : MethodName := ⟨RX8, "keeperOf", "(II)I"⟩
abbrev cX8_shipOf : ByteArray := prog_1_method_18_code
def yX8_shipOf : MethodName := ⟨RX8, "shipOf", "(II)I"⟩
abbrev cX8_isLit : ByteArray := prog_1_method_19_code
def yX8_isLit : MethodName := ⟨RX8, "isLit", "(IIII)I"⟩
abbrev cX8_why : ByteArray := prog_1_method_20_code
def yX8_why : MethodName := ⟨RX8, "why", "(II)I"⟩
abbrev cX8_count : ByteArray := prog_1_method_21_code
def yX8_count : MethodName := ⟨RX8, "count", "(I)I"⟩
abbrev cX8_share : ByteArray := prog_1_method_22_code
def yX8_share : MethodName := ⟨RX8, "share", "(I)F"⟩
abbrev cX8_litIn : ByteArray := prog_1_method_23_code
def yX8_litIn : MethodName := ⟨RX8, "litIn", "(I)I"⟩
abbrev cX8_ifPassed : ByteArray := prog_1_method_24_code
def yX8_ifPassed : MethodName := ⟨RX8, "ifPassed", "(I)I"⟩
abbrev cX8_bestCard : ByteArray := prog_1_method_25_code
def yX8_bestCard : MethodName := ⟨RX8, "bestCard", "(I)I"⟩
abbrev cX8_worthWreckedInTrial : ByteArray := prog_1_method_26_code
def yX8_worthWreckedInTrial : MethodName := ⟨RX8, "worthWreckedInTrial", "()I"⟩
abbrev cX8_isWreckedInTrial : ByteArray := prog_1_method_27_code
def yX8_isWreckedInTrial : MethodName := ⟨RX8, "isWreckedInTrial", "(I)Z"⟩
abbrev cX8_isCell : ByteArray := prog_1_method_28_code
def yX8_isCell : MethodName := ⟨RX8, "isCell", "(I)Z"⟩
abbrev cX8_isLight : ByteArray := prog_1_method_29_code
def yX8_isLight : MethodName := ⟨RX8, "isLight", "(I)Z"⟩
abbrev cX8_isSetting : ByteArray := prog_1_method_30_code
def yX8_isSetting : MethodName := ⟨RX8, "isSetting", "(II)Z"⟩
abbrev cX8_distanceBetween : ByteArray := prog_1_method_31_code
def yX8_distanceBetween : MethodName := ⟨RX8, "distanceBetween", "(II)I"⟩
def RX9 : String := "BeamKeepersModel"
def TX9 : u_T := fun k => match k with
  | 0 => ("BeamKeepersModel", "s", "[I", true)
  | 1 => ("BeamKeepersModel", "aside", "[I", true)
  | 2 => ("BeamKeepersModel", "past", "[I", true)
  | 3 => ("BeamKeepersModel", "pasts", "I", false)
  | 4 => ("BeamKeepersModel", "snapshot", "[I", true)
  | 5 => ("BeamKeepersModel", "isKept", "Z", false)
  | 6 => ("BeamKeepersModel", "text", "[C", true)
  | 7 => ("BeamKeepersModel", "length", "I", false)
  | 8 => ("BeamKeepersModel", "order", "[I", true)
  | 9 => ("BeamKeepersModel", "spot", "I", false)
  | 10 => ("BeamKeepersModel", "isWrong", "Z", false)
  | 11 => ("BeamKeepersModel", "letter", "I", false)
  | 12 => ("BeamKeepersModel", "first", "I", false)
  | 13 => ("BeamKeepersModel", "second", "I", false)
  | _ => ("BeamKeepersModel", "third", "I", false)
def tyX9 : Nat → FieldType := fun k => match k with
  | 0 => .array .int
  | 1 => .array .int
  | 2 => .array .int
  | 3 => .int
  | 4 => .array .int
  | 5 => .boolean
  | 6 => .array .char
  | 7 => .int
  | 8 => .array .int
  | 9 => .int
  | 10 => .boolean
  | 11 => .int
  | 12 => .int
  | 13 => .int
  | _ => .int
theorem nmX9 : ∀ a, a < 15 → ∀ b, b < 15 → a ≠ b → (TX9 a).2.1 ≠ (TX9 b).2.1 := by decide +kernel
theorem tyX9_ok : ∀ k, k < 15 → parseFieldDescriptor (TX9 k).2.2.1 = some (tyX9 k) := by decide +kernel
abbrev cX9_init : ByteArray := prog_11_method_1_code
def yX9_init : MethodName := ⟨RX9, "<init>", "()V"⟩
abbrev cX9_in : ByteArray := prog_11_method_3_code
def yX9_in : MethodName := ⟨RX9, "in", "(III)Z"⟩
abbrev cX9_isCell : ByteArray := prog_11_method_4_code
def yX9_isCell : MethodName := ⟨RX9, "isCell", "(I)Z"⟩
abbrev cX9_isLight : ByteArray := prog_11_method_5_code
def yX9_isLight : MethodName := ⟨RX9, "isLight", "(I)Z"⟩
abbrev cX9_isShip : ByteArray := prog_11_method_6_code
def yX9_isShip : MethodName := ⟨RX9, "isShip", "(I)Z"⟩
abbrev cX9_ofL : ByteArray := prog_11_method_7_code
def yX9_ofL : MethodName := ⟨RX9, "ofL", "(II)I"⟩
abbrev cX9_ofK : ByteArray := prog_11_method_8_code
def yX9_ofK : MethodName := ⟨RX9, "ofK", "(II)I"⟩
abbrev cX9_ofS : ByteArray := prog_11_method_9_code
def yX9_ofS : MethodName := ⟨RX9, "ofS", "(II)I"⟩
abbrev cX9_records : ByteArray := prog_11_method_10_code
def yX9_records : MethodName := ⟨RX9, "records", "()V"⟩
abbrev cX9_putAside : ByteArray := prog_11_method_11_code
def yX9_putAside : MethodName := ⟨RX9, "putAside", "()V"⟩
abbrev cX9_putBack : ByteArray := prog_11_method_12_code
def yX9_putBack : MethodName := ⟨RX9, "putBack", "()V"⟩
abbrev cX9_home : ByteArray := prog_11_method_13_code
def yX9_home : MethodName := ⟨RX9, "home", "(I)I"⟩
abbrev cX9_isHome : ByteArray := prog_11_method_14_code
def yX9_isHome : MethodName := ⟨RX9, "isHome", "(I)Z"⟩
abbrev cX9_size : ByteArray := prog_11_method_15_code
def yX9_size : MethodName := ⟨RX9, "size", "(I)I"⟩
abbrev cX9_east : ByteArray := prog_11_method_16_code
def yX9_east : MethodName := ⟨RX9, "east", "(II)I"⟩
abbrev cX9_south : ByteArray := prog_11_method_17_code
def yX9_south : MethodName := ⟨RX9, "south", "(II)I"⟩
abbrev cX9_distance : ByteArray := prog_11_method_18_code
def yX9_distance : MethodName := ⟨RX9, "distance", "(II)I"⟩
abbrev cX9_wind : ByteArray := prog_11_method_19_code
def yX9_wind : MethodName := ⟨RX9, "wind", "(II)I"⟩
abbrev cX9_beam : ByteArray := prog_11_method_20_code
def yX9_beam : MethodName := ⟨RX9, "beam", "(II)I"⟩
abbrev cX9_isDark : ByteArray := prog_11_method_21_code
def yX9_isDark : MethodName := ⟨RX9, "isDark", "(II)Z"⟩
abbrev cX9_lights : ByteArray := prog_11_method_22_code
def yX9_lights : MethodName := ⟨RX9, "lights", "(IIII)Z"⟩
abbrev cX9_litBy : ByteArray := prog_11_method_23_code
def yX9_litBy : MethodName := ⟨RX9, "litBy", "(II)Z"⟩
abbrev cX9_lightsOn : ByteArray := prog_11_method_24_code
def yX9_lightsOn : MethodName := ⟨RX9, "lightsOn", "(I)I"⟩
abbrev cX9_nearest : ByteArray := prog_11_method_25_code
def yX9_nearest : MethodName := ⟨RX9, "nearest", "(I)I"⟩
abbrev cX9_rocks : ByteArray := prog_11_method_26_code
def yX9_rocks : MethodName := ⟨RX9, "rocks", "()I"⟩
abbrev cX9_barRock : ByteArray := prog_11_method_27_code
def yX9_barRock : MethodName := ⟨RX9, "barRock", "(I)I"⟩
abbrev cX9_rock : ByteArray := prog_11_method_28_code
def yX9_rock : MethodName := ⟨RX9, "rock", "(I)I"⟩
abbrev cX9_fits : ByteArray := prog_11_method_29_code
def yX9_fits : MethodName := ⟨RX9, "fits", "(II)Z"⟩
abbrev cX9_light : ByteArray := prog_11_method_30_code
def yX9_light : MethodName := ⟨RX9, "light", "(III)I"⟩
abbrev cX9_shipIn : ByteArray := prog_11_method_31_code
def yX9_shipIn : MethodName := ⟨RX9, "shipIn", "(I)I"⟩
abbrev cX9_barShip : ByteArray := prog_11_method_32_code
def yX9_barShip : MethodName := ⟨RX9, "barShip", "(III)I"⟩
abbrev cX9_comes : ByteArray := prog_11_method_33_code
def yX9_comes : MethodName := ⟨RX9, "comes", "(III)I"⟩
abbrev cX9_ship : ByteArray := prog_11_method_34_code
def yX9_ship : MethodName := ⟨RX9, "ship", "(III)I"⟩
abbrev cX9_rank : ByteArray := prog_11_method_35_code
def yX9_rank : MethodName := ⟨RX9, "rank", "(I)I"⟩
abbrev cX9_towards : ByteArray := prog_11_method_36_code
def yX9_towards : MethodName := ⟨RX9, "towards", "(II)I"⟩
abbrev cX9_goes : ByteArray := prog_11_method_37_code
def yX9_goes : MethodName := ⟨RX9, "goes", "(I)V"⟩
abbrev cX9_hour : ByteArray := prog_11_method_38_code
def yX9_hour : MethodName := ⟨RX9, "hour", "()V"⟩
abbrev cX9_shipsIn : ByteArray := prog_11_method_39_code
def yX9_shipsIn : MethodName := ⟨RX9, "shipsIn", "(I)I"⟩
abbrev cX9_many : ByteArray := prog_11_method_40_code
def yX9_many : MethodName := ⟨RX9, "many", "(I)I"⟩
abbrev cX9_passes : ByteArray := prog_11_method_41_code
def yX9_passes : MethodName := ⟨RX9, "passes", "(I)I"⟩
abbrev cX9_barPass : ByteArray := prog_11_method_42_code
def yX9_barPass : MethodName := ⟨RX9, "barPass", "(I)I"⟩
abbrev cX9_pass : ByteArray := prog_11_method_43_code
def yX9_pass : MethodName := ⟨RX9, "pass", "(I)I"⟩
abbrev cX9_wage : ByteArray := prog_11_method_44_code
def yX9_wage : MethodName := ⟨RX9, "wage", "(I)I"⟩
abbrev cX9_canLay : ByteArray := prog_11_method_45_code
def yX9_canLay : MethodName := ⟨RX9, "canLay", "(II)Z"⟩
abbrev cX9_lays : ByteArray := prog_11_method_46_code
def yX9_lays : MethodName := ⟨RX9, "lays", "(II)V"⟩
abbrev cX9_card : ByteArray := prog_11_method_47_code
def yX9_card : MethodName := ⟨RX9, "card", "(II)I"⟩
abbrev cX9_type : ByteArray := prog_11_method_48_code
def yX9_type : MethodName := ⟨RX9, "type", "(C)I"⟩
abbrev cX9_clearText : ByteArray := prog_11_method_49_code
def yX9_clearText : MethodName := ⟨RX9, "clearText", "()I"⟩
abbrev cX9_next : ByteArray := prog_11_method_50_code
def yX9_next : MethodName := ⟨RX9, "next", "()I"⟩
abbrev cX9_sign : ByteArray := prog_11_method_51_code
def yX9_sign : MethodName := ⟨RX9, "sign", "(I)V"⟩
abbrev cX9_digit : ByteArray := prog_11_method_52_code
def yX9_digit : MethodName := ⟨RX9, "digit", "(II)I"⟩
abbrev cX9_cell : ByteArray := prog_11_method_53_code
def yX9_cell : MethodName := ⟨RX9, "cell", "()I"⟩
abbrev cX9_number : ByteArray := prog_11_method_54_code
def yX9_number : MethodName := ⟨RX9, "number", "(I)I"⟩
abbrev cX9_part : ByteArray := prog_11_method_55_code
def yX9_part : MethodName := ⟨RX9, "part", "()V"⟩
abbrev cX9_parts : ByteArray := prog_11_method_56_code
def yX9_parts : MethodName := ⟨RX9, "parts", "()I"⟩
abbrev cX9_fault : ByteArray := prog_11_method_57_code
def yX9_fault : MethodName := ⟨RX9, "fault", "()I"⟩
abbrev cX9_does : ByteArray := prog_11_method_58_code
def yX9_does : MethodName := ⟨RX9, "does", "()I"⟩
abbrev cX9_doAll : ByteArray := prog_11_method_59_code
def yX9_doAll : MethodName := ⟨RX9, "doAll", "()I"⟩
abbrev cX9_undo : ByteArray := prog_11_method_60_code
def yX9_undo : MethodName := ⟨RX9, "undo", "()I"⟩
abbrev cX9_keep : ByteArray := prog_11_method_61_code
def yX9_keep : MethodName := ⟨RX9, "keep", "()I"⟩
abbrev cX9_restore : ByteArray := prog_11_method_62_code
def yX9_restore : MethodName := ⟨RX9, "restore", "()I"⟩
abbrev cX9_cellOf : ByteArray := prog_11_method_63_code
def yX9_cellOf : MethodName := ⟨RX9, "cellOf", "(II)I"⟩
abbrev cX9_litCells : ByteArray := prog_11_method_64_code
def yX9_litCells : MethodName := ⟨RX9, "litCells", "(I)I"⟩
abbrev cX9_lightOf : ByteArray := prog_11_method_65_code
def yX9_lightOf : MethodName := ⟨RX9, "lightOf", "(II)I"⟩
abbrev cX9_keeperOf : ByteArray := prog_11_method_66_code
def yX9_keeperOf : MethodName := ⟨RX9, "keeperOf", "(II)I"⟩
abbrev cX9_shipOf : ByteArray := prog_11_method_67_code
def yX9_shipOf : MethodName := ⟨RX9, "shipOf", "(II)I"⟩
abbrev cX9_isLit : ByteArray := prog_11_method_68_code
def yX9_isLit : MethodName := ⟨RX9, "isLit", "(IIII)I"⟩
abbrev cX9_why : ByteArray := prog_11_method_69_code
def yX9_why : MethodName := ⟨RX9, "why", "(II)I"⟩
abbrev cX9_litNow : ByteArray := prog_11_method_70_code
def yX9_litNow : MethodName := ⟨RX9, "litNow", "(Z)I"⟩
abbrev cX9_ofAll : ByteArray := prog_11_method_71_code
def yX9_ofAll : MethodName := ⟨RX9, "ofAll", "(I)I"⟩
abbrev cX9_worth : ByteArray := prog_11_method_72_code
def yX9_worth : MethodName := ⟨RX9, "worth", "(I)I"⟩
abbrev cX9_count : ByteArray := prog_11_method_73_code
def yX9_count : MethodName := ⟨RX9, "count", "(I)I"⟩
abbrev cX9_isLitThen : ByteArray := prog_11_method_74_code
def yX9_isLitThen : MethodName := ⟨RX9, "isLitThen", "(III)Z"⟩
abbrev cX9_share : ByteArray := prog_11_method_75_code
def yX9_share : MethodName := ⟨RX9, "share", "(I)F"⟩
abbrev cX9_litIn : ByteArray := prog_11_method_76_code
def yX9_litIn : MethodName := ⟨RX9, "litIn", "(I)I"⟩
abbrev cX9_ifPassed : ByteArray := prog_11_method_77_code
def yX9_ifPassed : MethodName := ⟨RX9, "ifPassed", "(I)I"⟩
abbrev cX9_bestCard : ByteArray := prog_11_method_78_code
def yX9_bestCard : MethodName := ⟨RX9, "bestCard", "(I)I"⟩
def RJ6 : String := "java/lang/Integer"
def TJ6 : u_T := fun k => match k with
  | _ => ("", "", "", false)
def tyJ6 : Nat → FieldType := fun k => match k with
  | _ => .int
theorem nmJ6 : ∀ a, a < 0 → ∀ b, b < 0 → a ≠ b → (TJ6 a).2.1 ≠ (TJ6 b).2.1 := by decide +kernel
theorem tyJ6_ok : ∀ k, k < 0 → parseFieldDescriptor (TJ6 k).2.2.1 = some (tyJ6 k) := by decide +kernel
abbrev cJ6_compare_7cf53 : ByteArray := prog_12_method_40_code
def yJ6_compare_7cf53 : MethodName := ⟨RJ6, "compare", "(II)I"⟩
abbrev cJ6_bitCount_0f7a4 : ByteArray := prog_12_method_49_code
def yJ6_bitCount_0f7a4 : MethodName := ⟨RJ6, "bitCount", "(I)I"⟩
def RJ9 : String := "java/lang/Math"
def TJ9 : u_T := fun k => match k with
  | _ => ("", "", "", false)
def tyJ9 : Nat → FieldType := fun k => match k with
  | _ => .int
theorem nmJ9 : ∀ a, a < 0 → ∀ b, b < 0 → a ≠ b → (TJ9 a).2.1 ≠ (TJ9 b).2.1 := by decide +kernel
theorem tyJ9_ok : ∀ k, k < 0 → parseFieldDescriptor (TJ9 k).2.2.1 = some (tyJ9 k) := by decide +kernel
abbrev cJ9_floorMod_7cf53 : ByteArray := prog_13_method_50_code
def yJ9_floorMod_7cf53 : MethodName := ⟨RJ9, "floorMod", "(II)I"⟩
abbrev cJ9_abs_0f7a4 : ByteArray := prog_13_method_59_code
def yJ9_abs_0f7a4 : MethodName := ⟨RJ9, "abs", "(I)I"⟩
abbrev cJ9_max_7cf53 : ByteArray := prog_13_method_65_code
def yJ9_max_7cf53 : MethodName := ⟨RJ9, "max", "(II)I"⟩
abbrev cJ9_min_7cf53 : ByteArray := prog_13_method_69_code
def yJ9_min_7cf53 : MethodName := ⟨RJ9, "min", "(II)I"⟩
def RJ10 : String := "java/lang/System"
def TJ10 : u_T := fun k => match k with
  | _ => ("", "", "", false)
def tyJ10 : Nat → FieldType := fun k => match k with
  | _ => .int
theorem nmJ10 : ∀ a, a < 0 → ∀ b, b < 0 → a ≠ b → (TJ10 a).2.1 ≠ (TJ10 b).2.1 := by decide +kernel
theorem tyJ10_ok : ∀ k, k < 0 → parseFieldDescriptor (TJ10 k).2.2.1 = some (tyJ10 k) := by decide +kernel
def RL : String := "BeamKeepersLaw"
abbrev cL_law : ByteArray := code
def yL_law : MethodName := ⟨RL, "law", "([I)Z"⟩
abbrev vwCl : List vw_C := [(RX0, TX0, 3), (RX1, TX1, 2), (RX2, TX2, 5), (RX3, TX3, 8), (RX4, TX4, 5), (RX5, TX5, 5), (RX6, TX6, 9), (RX7, TX7, 5), (RX8, TX8, 7), (RX9, TX9, 15)]
end
section
/-! words of the tables, each by its place -/
def bkTB : List Cond := lw_tbl.filter goodWord
theorem bk_w {w : Cond} (i : Nat) (h : lw_tbl[i]? = some w) (g : goodWord w = true) : w ∈ bkTB := List.mem_filter.mpr ⟨List.mem_of_getElem? h, g⟩
theorem bk_in {C : String} {T : u_T} {N : Nat} (h : ∀ k, k < N → u_lay C T k ∈ bkTB) : ∀ w ∈ u_ws C T N, w ∈ bkTB := fun w hw => by
  obtain ⟨k, hk, rfl⟩ := List.mem_map.mp hw
  exact h k (List.mem_range.mp hk)
theorem ini_L : Cond.initialized RL ∈ bkTB := bk_w 48 (by decide +kernel) rfl
theorem ini_X8 : Cond.initialized RX8 ∈ bkTB := bk_w 49 (by decide +kernel) rfl
theorem ini_X0 : Cond.initialized RX0 ∈ bkTB := bk_w 50 (by decide +kernel) rfl
theorem ini_J9 : Cond.initialized RJ9 ∈ bkTB := bk_w 51 (by decide +kernel) rfl
theorem ini_X6 : Cond.initialized RX6 ∈ bkTB := bk_w 52 (by decide +kernel) rfl
theorem ini_X3 : Cond.initialized RX3 ∈ bkTB := bk_w 53 (by decide +kernel) rfl
theorem ini_X2 : Cond.initialized RX2 ∈ bkTB := bk_w 54 (by decide +kernel) rfl
theorem ini_X5 : Cond.initialized RX5 ∈ bkTB := bk_w 55 (by decide +kernel) rfl
theorem ini_X1 : Cond.initialized RX1 ∈ bkTB := bk_w 56 (by decide +kernel) rfl
theorem ini_X7 : Cond.initialized RX7 ∈ bkTB := bk_w 57 (by decide +kernel) rfl
theorem ini_X4 : Cond.initialized RX4 ∈ bkTB := bk_w 58 (by decide +kernel) rfl
theorem ini_X9 : Cond.initialized RX9 ∈ bkTB := bk_w 59 (by decide +kernel) rfl
theorem ini_J10 : Cond.initialized RJ10 ∈ bkTB := bk_w 60 (by decide +kernel) rfl
theorem ini_J6 : Cond.initialized RJ6 ∈ bkTB := bk_w 61 (by decide +kernel) rfl
theorem cl_L_7 : Cond.classLink RL 7 RX8 ∈ bkTB := bk_w 62 (by decide +kernel) rfl
theorem ins_X8 : Cond.instantiable RX8 7 ∈ bkTB := bk_w 63 (by decide +kernel) rfl
theorem ml_L_9 : Cond.methodLink RL 9 yX8_init ∈ bkTB := bk_w 64 (by decide +kernel) rfl
theorem im_X8_init : Cond.instanceMethod yX8_init ∈ bkTB := bk_w 65 (by decide +kernel) rfl
theorem cd_X8_init : Cond.code yX8_init cX8_init 1 none ∈ bkTB := bk_w 66 (by decide +kernel) rfl
theorem ml_X8_1 : Cond.methodLink RX8 1 objectInit ∈ bkTB := bk_w 67 (by decide +kernel) rfl
theorem im_objectInit : Cond.instanceMethod objectInit ∈ bkTB := bk_w 68 (by decide +kernel) rfl
theorem cd_objectInit : Cond.code objectInit ⟨#[0xb1]⟩ 1 none ∈ bkTB := bk_w 69 (by decide +kernel) rfl
theorem cl_X8_7 : Cond.classLink RX8 7 RX0 ∈ bkTB := bk_w 70 (by decide +kernel) rfl
theorem ins_X0 : Cond.instantiable RX0 3 ∈ bkTB := bk_w 71 (by decide +kernel) rfl
theorem ml_X8_9 : Cond.methodLink RX8 9 yX0_init ∈ bkTB := bk_w 72 (by decide +kernel) rfl
theorem im_X0_init : Cond.instanceMethod yX0_init ∈ bkTB := bk_w 73 (by decide +kernel) rfl
theorem cd_X0_init : Cond.code yX0_init cX0_init 4 none ∈ bkTB := bk_w 74 (by decide +kernel) rfl
theorem ml_X0_3 : Cond.methodLink RX0 3 objectInit ∈ bkTB := bk_w 75 (by decide +kernel) rfl
theorem cl_X0_9 : Cond.classLink RX0 9 "[[I" ∈ bkTB := bk_w 76 (by decide +kernel) rfl
theorem ml_X0_26 : Cond.methodLink RX0 26 yX0_windOf ∈ bkTB := bk_w 80 (by decide +kernel) rfl
theorem st_X0_windOf : Cond.static yX0_windOf ∈ bkTB := bk_w 81 (by decide +kernel) rfl
theorem cd_X0_windOf : Cond.code yX0_windOf cX0_windOf 4 (some .int) ∈ bkTB := bk_w 82 (by decide +kernel) rfl
theorem ml_X0_33 : Cond.methodLink RX0 33 yJ9_abs_0f7a4 ∈ bkTB := bk_w 83 (by decide +kernel) rfl
theorem st_J9_abs_0f7a4 : Cond.static yJ9_abs_0f7a4 ∈ bkTB := bk_w 84 (by decide +kernel) rfl
theorem cd_J9_abs_0f7a4 : Cond.code yJ9_abs_0f7a4 cJ9_abs_0f7a4 1 (some .int) ∈ bkTB := bk_w 85 (by decide +kernel) rfl
theorem st_X8_distanceBetween : Cond.static yX8_distanceBetween ∈ bkTB := bk_w 87 (by decide +kernel) rfl
theorem cd_X8_distanceBetween : Cond.code yX8_distanceBetween cX8_distanceBetween 4 (some .int) ∈ bkTB := bk_w 88 (by decide +kernel) rfl
theorem ml_X8_233 : Cond.methodLink RX8 233 yJ9_abs_0f7a4 ∈ bkTB := bk_w 89 (by decide +kernel) rfl
theorem ml_X8_238 : Cond.methodLink RX8 238 yJ9_max_7cf53 ∈ bkTB := bk_w 90 (by decide +kernel) rfl
theorem st_J9_max_7cf53 : Cond.static yJ9_max_7cf53 ∈ bkTB := bk_w 91 (by decide +kernel) rfl
theorem cd_J9_max_7cf53 : Cond.code yJ9_max_7cf53 cJ9_max_7cf53 2 (some .int) ∈ bkTB := bk_w 92 (by decide +kernel) rfl
theorem fl_X0_11 : Cond.fieldLink RX0 11 "BeamKeepers$Bearings" "winds" "[[I" ∈ bkTB := bk_w 93 (by decide +kernel) rfl
theorem fl_X3_31 : Cond.fieldLink RX3 31 "BeamKeepers$Bearings" "winds" "[[I" ∈ bkTB := bk_w 94 (by decide +kernel) rfl
theorem fl_X0_16 : Cond.fieldLink RX0 16 "BeamKeepers$Bearings" "distances" "[[I" ∈ bkTB := bk_w 95 (by decide +kernel) rfl
theorem fl_X3_39 : Cond.fieldLink RX3 39 "BeamKeepers$Bearings" "distances" "[[I" ∈ bkTB := bk_w 96 (by decide +kernel) rfl
theorem fl_X0_19 : Cond.fieldLink RX0 19 "BeamKeepers$Bearings" "nearest" "[I" ∈ bkTB := bk_w 97 (by decide +kernel) rfl
theorem fl_X8_165 : Cond.fieldLink RX8 165 "BeamKeepers$Bearings" "nearest" "[I" ∈ bkTB := bk_w 98 (by decide +kernel) rfl
theorem fl_X6_144 : Cond.fieldLink RX6 144 "BeamKeepers$Bearings" "nearest" "[I" ∈ bkTB := bk_w 99 (by decide +kernel) rfl
theorem ac_int : Cond.arrayClass .int ∈ bkTB := bk_w 107 (by decide +kernel) rfl
theorem cl_X8_16 : Cond.classLink RX8 16 RX6 ∈ bkTB := bk_w 108 (by decide +kernel) rfl
theorem ins_X6 : Cond.instantiable RX6 9 ∈ bkTB := bk_w 109 (by decide +kernel) rfl
theorem ml_X8_18 : Cond.methodLink RX8 18 yX6_init ∈ bkTB := bk_w 110 (by decide +kernel) rfl
theorem im_X6_init : Cond.instanceMethod yX6_init ∈ bkTB := bk_w 111 (by decide +kernel) rfl
theorem cd_X6_init : Cond.code yX6_init cX6_init 3 none ∈ bkTB := bk_w 112 (by decide +kernel) rfl
theorem ml_X6_3 : Cond.methodLink RX6 3 objectInit ∈ bkTB := bk_w 113 (by decide +kernel) rfl
theorem cl_X6_15 : Cond.classLink RX6 15 RX3 ∈ bkTB := bk_w 114 (by decide +kernel) rfl
theorem cl_X6_21 : Cond.classLink RX6 21 RX2 ∈ bkTB := bk_w 116 (by decide +kernel) rfl
theorem cl_X6_27 : Cond.classLink RX6 27 RX5 ∈ bkTB := bk_w 118 (by decide +kernel) rfl
theorem ins_X3 : Cond.instantiable RX3 8 ∈ bkTB := bk_w 120 (by decide +kernel) rfl
theorem ml_X6_50 : Cond.methodLink RX6 50 yX3_init ∈ bkTB := bk_w 121 (by decide +kernel) rfl
theorem im_X3_init : Cond.instanceMethod yX3_init ∈ bkTB := bk_w 122 (by decide +kernel) rfl
theorem cd_X3_init : Cond.code yX3_init cX3_init 3 none ∈ bkTB := bk_w 123 (by decide +kernel) rfl
theorem ml_X3_3 : Cond.methodLink RX3 3 objectInit ∈ bkTB := bk_w 124 (by decide +kernel) rfl
theorem fl_X3_28 : Cond.fieldLink RX3 28 "BeamKeepers$Light" "ownCell" "I" ∈ bkTB := bk_w 126 (by decide +kernel) rfl
theorem fl_X3_37 : Cond.fieldLink RX3 37 "BeamKeepers$Light" "winds" "[I" ∈ bkTB := bk_w 127 (by decide +kernel) rfl
theorem fl_X3_42 : Cond.fieldLink RX3 42 "BeamKeepers$Light" "distances" "[I" ∈ bkTB := bk_w 128 (by decide +kernel) rfl
theorem fl_X3_44 : Cond.fieldLink RX3 44 "BeamKeepers$Light" "start" "I" ∈ bkTB := bk_w 129 (by decide +kernel) rfl
theorem fl_X3_9 : Cond.fieldLink RX3 9 "BeamKeepers$Light" "pace" "I" ∈ bkTB := bk_w 130 (by decide +kernel) rfl
theorem fl_X3_15 : Cond.fieldLink RX3 15 "BeamKeepers$Light" "range" "I" ∈ bkTB := bk_w 131 (by decide +kernel) rfl
theorem fl_X3_18 : Cond.fieldLink RX3 18 "BeamKeepers$Light" "dark" "I" ∈ bkTB := bk_w 132 (by decide +kernel) rfl
theorem fl_X3_21 : Cond.fieldLink RX3 21 "BeamKeepers$Light" "fog" "I" ∈ bkTB := bk_w 133 (by decide +kernel) rfl
theorem fl_X8_130 : Cond.fieldLink RX8 130 "BeamKeepers$Light" "fog" "I" ∈ bkTB := bk_w 134 (by decide +kernel) rfl
theorem fl_X6_106 : Cond.fieldLink RX6 106 "BeamKeepers$Light" "fog" "I" ∈ bkTB := bk_w 135 (by decide +kernel) rfl
theorem ins_X2 : Cond.instantiable RX2 5 ∈ bkTB := bk_w 153 (by decide +kernel) rfl
theorem im_X2_init : Cond.instanceMethod yX2_init ∈ bkTB := bk_w 155 (by decide +kernel) rfl
theorem cd_X2_init : Cond.code yX2_init cX2_init 1 none ∈ bkTB := bk_w 156 (by decide +kernel) rfl
theorem ml_X2_3 : Cond.methodLink RX2 3 objectInit ∈ bkTB := bk_w 157 (by decide +kernel) rfl
theorem fl_X2_9 : Cond.fieldLink RX2 9 "BeamKeepers$Keeper" "coins" "I" ∈ bkTB := bk_w 158 (by decide +kernel) rfl
theorem fl_X2_15 : Cond.fieldLink RX2 15 "BeamKeepers$Keeper" "debt" "I" ∈ bkTB := bk_w 159 (by decide +kernel) rfl
theorem fl_X6_109 : Cond.fieldLink RX6 109 "BeamKeepers$Keeper" "debt" "I" ∈ bkTB := bk_w 160 (by decide +kernel) rfl
theorem fl_X2_18 : Cond.fieldLink RX2 18 "BeamKeepers$Keeper" "cards" "I" ∈ bkTB := bk_w 161 (by decide +kernel) rfl
theorem fl_X8_122 : Cond.fieldLink RX8 122 "BeamKeepers$Keeper" "cards" "I" ∈ bkTB := bk_w 162 (by decide +kernel) rfl
theorem fl_X6_103 : Cond.fieldLink RX6 103 "BeamKeepers$Keeper" "cards" "I" ∈ bkTB := bk_w 163 (by decide +kernel) rfl
theorem fl_X2_21 : Cond.fieldLink RX2 21 "BeamKeepers$Keeper" "wrecks" "I" ∈ bkTB := bk_w 164 (by decide +kernel) rfl
theorem fl_X2_24 : Cond.fieldLink RX2 24 "BeamKeepers$Keeper" "paid" "I" ∈ bkTB := bk_w 165 (by decide +kernel) rfl
theorem fl_X6_112 : Cond.fieldLink RX6 112 "BeamKeepers$Keeper" "paid" "I" ∈ bkTB := bk_w 166 (by decide +kernel) rfl
theorem ins_X5 : Cond.instantiable RX5 5 ∈ bkTB := bk_w 178 (by decide +kernel) rfl
theorem im_X5_init : Cond.instanceMethod yX5_init ∈ bkTB := bk_w 180 (by decide +kernel) rfl
theorem cd_X5_init : Cond.code yX5_init cX5_init 1 none ∈ bkTB := bk_w 181 (by decide +kernel) rfl
theorem ml_X5_3 : Cond.methodLink RX5 3 objectInit ∈ bkTB := bk_w 182 (by decide +kernel) rfl
theorem fl_X5_9 : Cond.fieldLink RX5 9 "BeamKeepers$Ship" "worth" "I" ∈ bkTB := bk_w 183 (by decide +kernel) rfl
theorem fl_X6_94 : Cond.fieldLink RX6 94 "BeamKeepers$Ship" "worth" "I" ∈ bkTB := bk_w 184 (by decide +kernel) rfl
theorem fl_X8_221 : Cond.fieldLink RX8 221 "BeamKeepers$Ship" "worth" "I" ∈ bkTB := bk_w 185 (by decide +kernel) rfl
theorem fl_X5_15 : Cond.fieldLink RX5 15 "BeamKeepers$Ship" "cell" "I" ∈ bkTB := bk_w 186 (by decide +kernel) rfl
theorem fl_X6_100 : Cond.fieldLink RX6 100 "BeamKeepers$Ship" "cell" "I" ∈ bkTB := bk_w 187 (by decide +kernel) rfl
theorem fl_X5_18 : Cond.fieldLink RX5 18 "BeamKeepers$Ship" "harbour" "I" ∈ bkTB := bk_w 188 (by decide +kernel) rfl
theorem fl_X5_21 : Cond.fieldLink RX5 21 "BeamKeepers$Ship" "condition" "I" ∈ bkTB := bk_w 189 (by decide +kernel) rfl
theorem fl_X6_97 : Cond.fieldLink RX6 97 "BeamKeepers$Ship" "condition" "I" ∈ bkTB := bk_w 190 (by decide +kernel) rfl
theorem fl_X8_224 : Cond.fieldLink RX8 224 "BeamKeepers$Ship" "condition" "I" ∈ bkTB := bk_w 191 (by decide +kernel) rfl
theorem fl_X5_24 : Cond.fieldLink RX5 24 "BeamKeepers$Ship" "waited" "I" ∈ bkTB := bk_w 192 (by decide +kernel) rfl
theorem fl_X6_138 : Cond.fieldLink RX6 138 "BeamKeepers$Ship" "waited" "I" ∈ bkTB := bk_w 193 (by decide +kernel) rfl
theorem fl_X6_46 : Cond.fieldLink RX6 46 "BeamKeepers$State" "bearings" "LBeamKeepers$Bearings;" ∈ bkTB := bk_w 205 (by decide +kernel) rfl
theorem fl_X6_9 : Cond.fieldLink RX6 9 "BeamKeepers$State" "rockRows" "[I" ∈ bkTB := bk_w 206 (by decide +kernel) rfl
theorem fl_X6_17 : Cond.fieldLink RX6 17 "BeamKeepers$State" "lights" "[LBeamKeepers$Light;" ∈ bkTB := bk_w 207 (by decide +kernel) rfl
theorem fl_X8_73 : Cond.fieldLink RX8 73 "BeamKeepers$State" "lights" "[LBeamKeepers$Light;" ∈ bkTB := bk_w 208 (by decide +kernel) rfl
theorem fl_X6_23 : Cond.fieldLink RX6 23 "BeamKeepers$State" "keepers" "[LBeamKeepers$Keeper;" ∈ bkTB := bk_w 209 (by decide +kernel) rfl
theorem fl_X8_118 : Cond.fieldLink RX8 118 "BeamKeepers$State" "keepers" "[LBeamKeepers$Keeper;" ∈ bkTB := bk_w 210 (by decide +kernel) rfl
theorem fl_X6_29 : Cond.fieldLink RX6 29 "BeamKeepers$State" "ships" "[LBeamKeepers$Ship;" ∈ bkTB := bk_w 211 (by decide +kernel) rfl
theorem fl_X8_177 : Cond.fieldLink RX8 177 "BeamKeepers$State" "ships" "[LBeamKeepers$Ship;" ∈ bkTB := bk_w 212 (by decide +kernel) rfl
theorem fl_X6_33 : Cond.fieldLink RX6 33 "BeamKeepers$State" "goingOrder" "[I" ∈ bkTB := bk_w 213 (by decide +kernel) rfl
theorem fl_X6_36 : Cond.fieldLink RX6 36 "BeamKeepers$State" "shipCount" "I" ∈ bkTB := bk_w 214 (by decide +kernel) rfl
theorem fl_X8_171 : Cond.fieldLink RX8 171 "BeamKeepers$State" "shipCount" "I" ∈ bkTB := bk_w 215 (by decide +kernel) rfl
theorem fl_X6_40 : Cond.fieldLink RX6 40 "BeamKeepers$State" "wage" "I" ∈ bkTB := bk_w 216 (by decide +kernel) rfl
theorem fl_X8_139 : Cond.fieldLink RX8 139 "BeamKeepers$State" "wage" "I" ∈ bkTB := bk_w 217 (by decide +kernel) rfl
theorem fl_X6_43 : Cond.fieldLink RX6 43 "BeamKeepers$State" "hour" "I" ∈ bkTB := bk_w 218 (by decide +kernel) rfl
theorem fl_X8_77 : Cond.fieldLink RX8 77 "BeamKeepers$State" "hour" "I" ∈ bkTB := bk_w 219 (by decide +kernel) rfl
theorem cl_X8_35 : Cond.classLink RX8 35 RX1 ∈ bkTB := bk_w 239 (by decide +kernel) rfl
theorem ins_X1 : Cond.instantiable RX1 2 ∈ bkTB := bk_w 240 (by decide +kernel) rfl
theorem ml_X8_37 : Cond.methodLink RX8 37 yX1_init ∈ bkTB := bk_w 241 (by decide +kernel) rfl
theorem im_X1_init : Cond.instanceMethod yX1_init ∈ bkTB := bk_w 242 (by decide +kernel) rfl
theorem cd_X1_init : Cond.code yX1_init cX1_init 3 none ∈ bkTB := bk_w 243 (by decide +kernel) rfl
theorem ml_X1_3 : Cond.methodLink RX1 3 objectInit ∈ bkTB := bk_w 244 (by decide +kernel) rfl
theorem cl_X1_9 : Cond.classLink RX1 9 RX6 ∈ bkTB := bk_w 245 (by decide +kernel) rfl
theorem ml_X1_21 : Cond.methodLink RX1 21 yX6_init ∈ bkTB := bk_w 247 (by decide +kernel) rfl
theorem fl_X1_11 : Cond.fieldLink RX1 11 "BeamKeepers$History" "states" "[LBeamKeepers$State;" ∈ bkTB := bk_w 248 (by decide +kernel) rfl
theorem fl_X1_17 : Cond.fieldLink RX1 17 "BeamKeepers$History" "size" "I" ∈ bkTB := bk_w 249 (by decide +kernel) rfl
theorem fl_X8_210 : Cond.fieldLink RX8 210 "BeamKeepers$History" "size" "I" ∈ bkTB := bk_w 250 (by decide +kernel) rfl
theorem cl_X8_42 : Cond.classLink RX8 42 RX7 ∈ bkTB := bk_w 256 (by decide +kernel) rfl
theorem ins_X7 : Cond.instantiable RX7 5 ∈ bkTB := bk_w 257 (by decide +kernel) rfl
theorem ml_X8_44 : Cond.methodLink RX8 44 yX7_init ∈ bkTB := bk_w 258 (by decide +kernel) rfl
theorem im_X7_init : Cond.instanceMethod yX7_init ∈ bkTB := bk_w 259 (by decide +kernel) rfl
theorem cd_X7_init : Cond.code yX7_init cX7_init 2 none ∈ bkTB := bk_w 260 (by decide +kernel) rfl
theorem ml_X7_3 : Cond.methodLink RX7 3 objectInit ∈ bkTB := bk_w 261 (by decide +kernel) rfl
theorem cl_X7_19 : Cond.classLink RX7 19 RX4 ∈ bkTB := bk_w 262 (by decide +kernel) rfl
theorem ins_X4 : Cond.instantiable RX4 5 ∈ bkTB := bk_w 264 (by decide +kernel) rfl
theorem im_X4_init : Cond.instanceMethod yX4_init ∈ bkTB := bk_w 266 (by decide +kernel) rfl
theorem cd_X4_init : Cond.code yX4_init cX4_init 1 none ∈ bkTB := bk_w 267 (by decide +kernel) rfl
theorem ml_X4_1 : Cond.methodLink RX4 1 objectInit ∈ bkTB := bk_w 268 (by decide +kernel) rfl
theorem fl_X4_7 : Cond.fieldLink RX4 7 "BeamKeepers$Part" "kind" "C" ∈ bkTB := bk_w 269 (by decide +kernel) rfl
theorem fl_X7_40 : Cond.fieldLink RX7 40 "BeamKeepers$Part" "kind" "C" ∈ bkTB := bk_w 270 (by decide +kernel) rfl
theorem fl_X6_155 : Cond.fieldLink RX6 155 "BeamKeepers$Part" "kind" "C" ∈ bkTB := bk_w 271 (by decide +kernel) rfl
theorem fl_X4_13 : Cond.fieldLink RX4 13 "BeamKeepers$Part" "number" "I" ∈ bkTB := bk_w 272 (by decide +kernel) rfl
theorem fl_X7_58 : Cond.fieldLink RX7 58 "BeamKeepers$Part" "number" "I" ∈ bkTB := bk_w 273 (by decide +kernel) rfl
theorem fl_X6_168 : Cond.fieldLink RX6 168 "BeamKeepers$Part" "number" "I" ∈ bkTB := bk_w 274 (by decide +kernel) rfl
theorem fl_X4_17 : Cond.fieldLink RX4 17 "BeamKeepers$Part" "cell" "I" ∈ bkTB := bk_w 275 (by decide +kernel) rfl
theorem fl_X7_48 : Cond.fieldLink RX7 48 "BeamKeepers$Part" "cell" "I" ∈ bkTB := bk_w 276 (by decide +kernel) rfl
theorem fl_X6_161 : Cond.fieldLink RX6 161 "BeamKeepers$Part" "cell" "I" ∈ bkTB := bk_w 277 (by decide +kernel) rfl
theorem fl_X4_20 : Cond.fieldLink RX4 20 "BeamKeepers$Part" "harbour" "I" ∈ bkTB := bk_w 278 (by decide +kernel) rfl
theorem fl_X7_68 : Cond.fieldLink RX7 68 "BeamKeepers$Part" "harbour" "I" ∈ bkTB := bk_w 279 (by decide +kernel) rfl
theorem fl_X6_171 : Cond.fieldLink RX6 171 "BeamKeepers$Part" "harbour" "I" ∈ bkTB := bk_w 280 (by decide +kernel) rfl
theorem fl_X4_23 : Cond.fieldLink RX4 23 "BeamKeepers$Part" "wind" "I" ∈ bkTB := bk_w 281 (by decide +kernel) rfl
theorem fl_X7_61 : Cond.fieldLink RX7 61 "BeamKeepers$Part" "wind" "I" ∈ bkTB := bk_w 282 (by decide +kernel) rfl
theorem fl_X6_180 : Cond.fieldLink RX6 180 "BeamKeepers$Part" "wind" "I" ∈ bkTB := bk_w 283 (by decide +kernel) rfl
theorem ac_char : Cond.arrayClass .char ∈ bkTB := bk_w 295 (by decide +kernel) rfl
theorem fl_X7_9 : Cond.fieldLink RX7 9 "BeamKeepers$Text" "characters" "[C" ∈ bkTB := bk_w 296 (by decide +kernel) rfl
theorem fl_X7_15 : Cond.fieldLink RX7 15 "BeamKeepers$Text" "length" "I" ∈ bkTB := bk_w 297 (by decide +kernel) rfl
theorem fl_X8_146 : Cond.fieldLink RX8 146 "BeamKeepers$Text" "length" "I" ∈ bkTB := bk_w 298 (by decide +kernel) rfl
theorem fl_X7_21 : Cond.fieldLink RX7 21 "BeamKeepers$Text" "parts" "[LBeamKeepers$Part;" ∈ bkTB := bk_w 299 (by decide +kernel) rfl
theorem fl_X8_107 : Cond.fieldLink RX8 107 "BeamKeepers$Text" "parts" "[LBeamKeepers$Part;" ∈ bkTB := bk_w 300 (by decide +kernel) rfl
theorem fl_X7_25 : Cond.fieldLink RX7 25 "BeamKeepers$Text" "partCount" "I" ∈ bkTB := bk_w 301 (by decide +kernel) rfl
theorem fl_X8_104 : Cond.fieldLink RX8 104 "BeamKeepers$Text" "partCount" "I" ∈ bkTB := bk_w 302 (by decide +kernel) rfl
theorem fl_X7_28 : Cond.fieldLink RX7 28 "BeamKeepers$Text" "place" "I" ∈ bkTB := bk_w 303 (by decide +kernel) rfl
theorem fl_X8_10 : Cond.fieldLink RX8 10 "BeamKeepers" "bearings" "LBeamKeepers$Bearings;" ∈ bkTB := bk_w 315 (by decide +kernel) rfl
theorem fl_X8_21 : Cond.fieldLink RX8 21 "BeamKeepers" "state" "LBeamKeepers$State;" ∈ bkTB := bk_w 316 (by decide +kernel) rfl
theorem fl_X8_25 : Cond.fieldLink RX8 25 "BeamKeepers" "trial" "LBeamKeepers$State;" ∈ bkTB := bk_w 317 (by decide +kernel) rfl
theorem fl_X8_28 : Cond.fieldLink RX8 28 "BeamKeepers" "snapshot" "LBeamKeepers$State;" ∈ bkTB := bk_w 318 (by decide +kernel) rfl
theorem fl_X8_31 : Cond.fieldLink RX8 31 "BeamKeepers" "hasSnapshot" "Z" ∈ bkTB := bk_w 319 (by decide +kernel) rfl
theorem fl_X8_38 : Cond.fieldLink RX8 38 "BeamKeepers" "history" "LBeamKeepers$History;" ∈ bkTB := bk_w 320 (by decide +kernel) rfl
theorem fl_X8_45 : Cond.fieldLink RX8 45 "BeamKeepers" "text" "LBeamKeepers$Text;" ∈ bkTB := bk_w 321 (by decide +kernel) rfl
theorem ml_L_13 : Cond.methodLink RL 13 yX8_rock ∈ bkTB := bk_w 337 (by decide +kernel) rfl
theorem im_X8_rock : Cond.instanceMethod yX8_rock ∈ bkTB := bk_w 338 (by decide +kernel) rfl
theorem se_X8_rock : Cond.selects RX8 yX8_rock yX8_rock ∈ bkTB := bk_w 339 (by decide +kernel) rfl
theorem cd_X8_rock : Cond.code yX8_rock cX8_rock 3 (some .int) ∈ bkTB := bk_w 340 (by decide +kernel) rfl
theorem ml_X8_49 : Cond.methodLink RX8 49 yX6_rockError ∈ bkTB := bk_w 341 (by decide +kernel) rfl
theorem im_X6_rockError : Cond.instanceMethod yX6_rockError ∈ bkTB := bk_w 342 (by decide +kernel) rfl
theorem se_X6_rockError : Cond.selects RX6 yX6_rockError yX6_rockError ∈ bkTB := bk_w 343 (by decide +kernel) rfl
theorem cd_X6_rockError : Cond.code yX6_rockError cX6_rockError 6 (some .int) ∈ bkTB := bk_w 344 (by decide +kernel) rfl
theorem st_X8_isCell : Cond.static yX8_isCell ∈ bkTB := bk_w 346 (by decide +kernel) rfl
theorem cd_X8_isCell : Cond.code yX8_isCell cX8_isCell 1 (some .boolean) ∈ bkTB := bk_w 347 (by decide +kernel) rfl
theorem ml_X8_53 : Cond.methodLink RX8 53 yX1_record ∈ bkTB := bk_w 349 (by decide +kernel) rfl
theorem im_X1_record : Cond.instanceMethod yX1_record ∈ bkTB := bk_w 350 (by decide +kernel) rfl
theorem se_X1_record : Cond.selects RX1 yX1_record yX1_record ∈ bkTB := bk_w 351 (by decide +kernel) rfl
theorem cd_X1_record : Cond.code yX1_record cX1_record 2 none ∈ bkTB := bk_w 352 (by decide +kernel) rfl
theorem ml_X1_24 : Cond.methodLink RX1 24 yX1_dropOldest ∈ bkTB := bk_w 353 (by decide +kernel) rfl
theorem im_X1_dropOldest : Cond.instanceMethod yX1_dropOldest ∈ bkTB := bk_w 355 (by decide +kernel) rfl
theorem cd_X1_dropOldest : Cond.code yX1_dropOldest cX1_dropOldest 3 none ∈ bkTB := bk_w 356 (by decide +kernel) rfl
theorem ml_X1_27 : Cond.methodLink RX1 27 yX6_copyFrom ∈ bkTB := bk_w 357 (by decide +kernel) rfl
theorem im_X6_copyFrom : Cond.instanceMethod yX6_copyFrom ∈ bkTB := bk_w 358 (by decide +kernel) rfl
theorem se_X6_copyFrom : Cond.selects RX6 yX6_copyFrom yX6_copyFrom ∈ bkTB := bk_w 359 (by decide +kernel) rfl
theorem cd_X6_copyFrom : Cond.code yX6_copyFrom cX6_copyFrom 3 none ∈ bkTB := bk_w 360 (by decide +kernel) rfl
theorem ml_X6_55 : Cond.methodLink RX6 55 arraycopyName ∈ bkTB := bk_w 361 (by decide +kernel) rfl
theorem st_arraycopy : Cond.static arraycopyName ∈ bkTB := bk_w 362 (by decide +kernel) rfl
theorem na_arraycopy : Cond.native arraycopyName ∈ bkTB := bk_w 363 (by decide +kernel) rfl
theorem ml_X6_61 : Cond.methodLink RX6 61 yX3_copyFrom ∈ bkTB := bk_w 364 (by decide +kernel) rfl
theorem im_X3_copyFrom : Cond.instanceMethod yX3_copyFrom ∈ bkTB := bk_w 365 (by decide +kernel) rfl
theorem se_X3_copyFrom : Cond.selects RX3 yX3_copyFrom yX3_copyFrom ∈ bkTB := bk_w 366 (by decide +kernel) rfl
theorem cd_X3_copyFrom : Cond.code yX3_copyFrom cX3_copyFrom 2 none ∈ bkTB := bk_w 367 (by decide +kernel) rfl
theorem ml_X6_65 : Cond.methodLink RX6 65 yX2_copyFrom ∈ bkTB := bk_w 368 (by decide +kernel) rfl
theorem im_X2_copyFrom : Cond.instanceMethod yX2_copyFrom ∈ bkTB := bk_w 369 (by decide +kernel) rfl
theorem se_X2_copyFrom : Cond.selects RX2 yX2_copyFrom yX2_copyFrom ∈ bkTB := bk_w 370 (by decide +kernel) rfl
theorem cd_X2_copyFrom : Cond.code yX2_copyFrom cX2_copyFrom 2 none ∈ bkTB := bk_w 371 (by decide +kernel) rfl
theorem ml_X6_68 : Cond.methodLink RX6 68 yX5_copyFrom ∈ bkTB := bk_w 372 (by decide +kernel) rfl
theorem im_X5_copyFrom : Cond.instanceMethod yX5_copyFrom ∈ bkTB := bk_w 373 (by decide +kernel) rfl
theorem se_X5_copyFrom : Cond.selects RX5 yX5_copyFrom yX5_copyFrom ∈ bkTB := bk_w 374 (by decide +kernel) rfl
theorem cd_X5_copyFrom : Cond.code yX5_copyFrom cX5_copyFrom 2 none ∈ bkTB := bk_w 375 (by decide +kernel) rfl
theorem ml_X8_57 : Cond.methodLink RX8 57 yX6_turnRock ∈ bkTB := bk_w 376 (by decide +kernel) rfl
theorem im_X6_turnRock : Cond.instanceMethod yX6_turnRock ∈ bkTB := bk_w 377 (by decide +kernel) rfl
theorem se_X6_turnRock : Cond.selects RX6 yX6_turnRock yX6_turnRock ∈ bkTB := bk_w 378 (by decide +kernel) rfl
theorem cd_X6_turnRock : Cond.code yX6_turnRock cX6_turnRock 2 none ∈ bkTB := bk_w 379 (by decide +kernel) rfl
theorem ml_X8_61 : Cond.methodLink RX8 61 yX6_rocks ∈ bkTB := bk_w 380 (by decide +kernel) rfl
theorem im_X6_rocks : Cond.instanceMethod yX6_rocks ∈ bkTB := bk_w 381 (by decide +kernel) rfl
theorem se_X6_rocks : Cond.selects RX6 yX6_rocks yX6_rocks ∈ bkTB := bk_w 382 (by decide +kernel) rfl
theorem cd_X6_rocks : Cond.code yX6_rocks cX6_rocks 6 (some .int) ∈ bkTB := bk_w 383 (by decide +kernel) rfl
theorem ml_X6_71 : Cond.methodLink RX6 71 yJ6_bitCount_0f7a4 ∈ bkTB := bk_w 384 (by decide +kernel) rfl
theorem st_J6_bitCount_0f7a4 : Cond.static yJ6_bitCount_0f7a4 ∈ bkTB := bk_w 385 (by decide +kernel) rfl
theorem cd_J6_bitCount_0f7a4 : Cond.code yJ6_bitCount_0f7a4 cJ6_bitCount_0f7a4 1 (some .int) ∈ bkTB := bk_w 386 (by decide +kernel) rfl
theorem co_J6_265 : Cond.constant RJ6 265 1431655765 ∈ bkTB := bk_w 387 (by decide +kernel) rfl
theorem co_J6_266 : Cond.constant RJ6 266 858993459 ∈ bkTB := bk_w 388 (by decide +kernel) rfl
theorem co_J6_267 : Cond.constant RJ6 267 252645135 ∈ bkTB := bk_w 389 (by decide +kernel) rfl
theorem ml_L_18 : Cond.methodLink RL 18 yX8_light ∈ bkTB := bk_w 390 (by decide +kernel) rfl
theorem im_X8_light : Cond.instanceMethod yX8_light ∈ bkTB := bk_w 391 (by decide +kernel) rfl
theorem se_X8_light : Cond.selects RX8 yX8_light yX8_light ∈ bkTB := bk_w 392 (by decide +kernel) rfl
theorem cd_X8_light : Cond.code yX8_light cX8_light 5 (some .int) ∈ bkTB := bk_w 393 (by decide +kernel) rfl
theorem ml_X8_65 : Cond.methodLink RX8 65 yX8_isLight ∈ bkTB := bk_w 394 (by decide +kernel) rfl
theorem st_X8_isLight : Cond.static yX8_isLight ∈ bkTB := bk_w 395 (by decide +kernel) rfl
theorem cd_X8_isLight : Cond.code yX8_isLight cX8_isLight 1 (some .boolean) ∈ bkTB := bk_w 396 (by decide +kernel) rfl
theorem ml_X8_69 : Cond.methodLink RX8 69 yX8_isSetting ∈ bkTB := bk_w 397 (by decide +kernel) rfl
theorem st_X8_isSetting : Cond.static yX8_isSetting ∈ bkTB := bk_w 398 (by decide +kernel) rfl
theorem cd_X8_isSetting : Cond.code yX8_isSetting cX8_isSetting 2 (some .boolean) ∈ bkTB := bk_w 399 (by decide +kernel) rfl
theorem fl_X8_227 : Cond.fieldLink RX8 227 "BeamKeepers" "MOST_SETTING" "[I" ∈ bkTB := bk_w 400 (by decide +kernel) rfl
theorem fl_X8_230 : Cond.fieldLink RX8 230 "BeamKeepers" "LEAST_SETTING" "[I" ∈ bkTB := bk_w 402 (by decide +kernel) rfl
theorem ml_X8_81 : Cond.methodLink RX8 81 yX3_told ∈ bkTB := bk_w 404 (by decide +kernel) rfl
theorem im_X3_told : Cond.instanceMethod yX3_told ∈ bkTB := bk_w 405 (by decide +kernel) rfl
theorem se_X3_told : Cond.selects RX3 yX3_told yX3_told ∈ bkTB := bk_w 406 (by decide +kernel) rfl
theorem cd_X3_told : Cond.code yX3_told cX3_told 3 (some .int) ∈ bkTB := bk_w 407 (by decide +kernel) rfl
theorem ml_X3_47 : Cond.methodLink RX3 47 yX3_beamWind ∈ bkTB := bk_w 408 (by decide +kernel) rfl
theorem im_X3_beamWind : Cond.instanceMethod yX3_beamWind ∈ bkTB := bk_w 409 (by decide +kernel) rfl
theorem se_X3_beamWind : Cond.selects RX3 yX3_beamWind yX3_beamWind ∈ bkTB := bk_w 410 (by decide +kernel) rfl
theorem cd_X3_beamWind : Cond.code yX3_beamWind cX3_beamWind 2 (some .int) ∈ bkTB := bk_w 411 (by decide +kernel) rfl
theorem ml_X3_51 : Cond.methodLink RX3 51 yX3_litCells ∈ bkTB := bk_w 412 (by decide +kernel) rfl
theorem im_X3_litCells : Cond.instanceMethod yX3_litCells ∈ bkTB := bk_w 414 (by decide +kernel) rfl
theorem cd_X3_litCells : Cond.code yX3_litCells cX3_litCells 4 (some .int) ∈ bkTB := bk_w 415 (by decide +kernel) rfl
theorem ml_X3_82 : Cond.methodLink RX3 82 yX3_lightsCell ∈ bkTB := bk_w 416 (by decide +kernel) rfl
theorem im_X3_lightsCell : Cond.instanceMethod yX3_lightsCell ∈ bkTB := bk_w 417 (by decide +kernel) rfl
theorem se_X3_lightsCell : Cond.selects RX3 yX3_lightsCell yX3_lightsCell ∈ bkTB := bk_w 418 (by decide +kernel) rfl
theorem cd_X3_lightsCell : Cond.code yX3_lightsCell cX3_lightsCell 5 (some .boolean) ∈ bkTB := bk_w 419 (by decide +kernel) rfl
theorem ml_X3_60 : Cond.methodLink RX3 60 yX3_reach ∈ bkTB := bk_w 420 (by decide +kernel) rfl
theorem im_X3_reach : Cond.instanceMethod yX3_reach ∈ bkTB := bk_w 422 (by decide +kernel) rfl
theorem cd_X3_reach : Cond.code yX3_reach cX3_reach 2 (some .int) ∈ bkTB := bk_w 423 (by decide +kernel) rfl
theorem ml_X3_63 : Cond.methodLink RX3 63 yX3_isDark ∈ bkTB := bk_w 424 (by decide +kernel) rfl
theorem im_X3_isDark : Cond.instanceMethod yX3_isDark ∈ bkTB := bk_w 426 (by decide +kernel) rfl
theorem cd_X3_isDark : Cond.code yX3_isDark cX3_isDark 2 (some .boolean) ∈ bkTB := bk_w 427 (by decide +kernel) rfl
theorem ml_X8_87 : Cond.methodLink RX8 87 yX3_set ∈ bkTB := bk_w 428 (by decide +kernel) rfl
theorem im_X3_set : Cond.instanceMethod yX3_set ∈ bkTB := bk_w 429 (by decide +kernel) rfl
theorem se_X3_set : Cond.selects RX3 yX3_set yX3_set ∈ bkTB := bk_w 430 (by decide +kernel) rfl
theorem cd_X3_set : Cond.code yX3_set cX3_set 3 none ∈ bkTB := bk_w 431 (by decide +kernel) rfl
theorem ml_L_23 : Cond.methodLink RL 23 yX8_ship ∈ bkTB := bk_w 432 (by decide +kernel) rfl
theorem im_X8_ship : Cond.instanceMethod yX8_ship ∈ bkTB := bk_w 433 (by decide +kernel) rfl
theorem se_X8_ship : Cond.selects RX8 yX8_ship yX8_ship ∈ bkTB := bk_w 434 (by decide +kernel) rfl
theorem cd_X8_ship : Cond.code yX8_ship cX8_ship 5 (some .int) ∈ bkTB := bk_w 435 (by decide +kernel) rfl
theorem ml_X8_91 : Cond.methodLink RX8 91 yX6_shipError ∈ bkTB := bk_w 436 (by decide +kernel) rfl
theorem im_X6_shipError : Cond.instanceMethod yX6_shipError ∈ bkTB := bk_w 437 (by decide +kernel) rfl
theorem se_X6_shipError : Cond.selects RX6 yX6_shipError yX6_shipError ∈ bkTB := bk_w 438 (by decide +kernel) rfl
theorem cd_X6_shipError : Cond.code yX6_shipError cX6_shipError 4 (some .int) ∈ bkTB := bk_w 439 (by decide +kernel) rfl
theorem ml_X6_84 : Cond.methodLink RX6 84 yX6_hasRock ∈ bkTB := bk_w 440 (by decide +kernel) rfl
theorem im_X6_hasRock : Cond.instanceMethod yX6_hasRock ∈ bkTB := bk_w 441 (by decide +kernel) rfl
theorem se_X6_hasRock : Cond.selects RX6 yX6_hasRock yX6_hasRock ∈ bkTB := bk_w 442 (by decide +kernel) rfl
theorem cd_X6_hasRock : Cond.code yX6_hasRock cX6_hasRock 2 (some .boolean) ∈ bkTB := bk_w 443 (by decide +kernel) rfl
theorem ml_X6_87 : Cond.methodLink RX6 87 yX6_shipAtSeaIn ∈ bkTB := bk_w 444 (by decide +kernel) rfl
theorem im_X6_shipAtSeaIn : Cond.instanceMethod yX6_shipAtSeaIn ∈ bkTB := bk_w 445 (by decide +kernel) rfl
theorem se_X6_shipAtSeaIn : Cond.selects RX6 yX6_shipAtSeaIn yX6_shipAtSeaIn ∈ bkTB := bk_w 446 (by decide +kernel) rfl
theorem cd_X6_shipAtSeaIn : Cond.code yX6_shipAtSeaIn cX6_shipAtSeaIn 3 (some .int) ∈ bkTB := bk_w 447 (by decide +kernel) rfl
theorem ml_X8_95 : Cond.methodLink RX8 95 yX6_addShip ∈ bkTB := bk_w 448 (by decide +kernel) rfl
theorem im_X6_addShip : Cond.instanceMethod yX6_addShip ∈ bkTB := bk_w 449 (by decide +kernel) rfl
theorem se_X6_addShip : Cond.selects RX6 yX6_addShip yX6_addShip ∈ bkTB := bk_w 450 (by decide +kernel) rfl
theorem cd_X6_addShip : Cond.code yX6_addShip cX6_addShip 6 (some .int) ∈ bkTB := bk_w 451 (by decide +kernel) rfl
theorem ml_X6_90 : Cond.methodLink RX6 90 yX5_begin ∈ bkTB := bk_w 452 (by decide +kernel) rfl
theorem im_X5_begin : Cond.instanceMethod yX5_begin ∈ bkTB := bk_w 453 (by decide +kernel) rfl
theorem se_X5_begin : Cond.selects RX5 yX5_begin yX5_begin ∈ bkTB := bk_w 454 (by decide +kernel) rfl
theorem cd_X5_begin : Cond.code yX5_begin cX5_begin 4 none ∈ bkTB := bk_w 455 (by decide +kernel) rfl
theorem ml_L_27 : Cond.methodLink RL 27 yX8_doAll ∈ bkTB := bk_w 456 (by decide +kernel) rfl
theorem im_X8_doAll : Cond.instanceMethod yX8_doAll ∈ bkTB := bk_w 457 (by decide +kernel) rfl
theorem se_X8_doAll : Cond.selects RX8 yX8_doAll yX8_doAll ∈ bkTB := bk_w 458 (by decide +kernel) rfl
theorem cd_X8_doAll : Cond.code yX8_doAll cX8_doAll 4 (some .int) ∈ bkTB := bk_w 459 (by decide +kernel) rfl
theorem ml_X8_98 : Cond.methodLink RX8 98 yX7_read ∈ bkTB := bk_w 460 (by decide +kernel) rfl
theorem im_X7_read : Cond.instanceMethod yX7_read ∈ bkTB := bk_w 461 (by decide +kernel) rfl
theorem se_X7_read : Cond.selects RX7 yX7_read yX7_read ∈ bkTB := bk_w 462 (by decide +kernel) rfl
theorem cd_X7_read : Cond.code yX7_read cX7_read 2 (some .int) ∈ bkTB := bk_w 463 (by decide +kernel) rfl
theorem ml_X7_32 : Cond.methodLink RX7 32 yX7_readPart ∈ bkTB := bk_w 464 (by decide +kernel) rfl
theorem im_X7_readPart : Cond.instanceMethod yX7_readPart ∈ bkTB := bk_w 466 (by decide +kernel) rfl
theorem cd_X7_readPart : Cond.code yX7_readPart cX7_readPart 2 (some .boolean) ∈ bkTB := bk_w 467 (by decide +kernel) rfl
theorem ml_X7_36 : Cond.methodLink RX7 36 yX7_readSign ∈ bkTB := bk_w 468 (by decide +kernel) rfl
theorem im_X7_readSign : Cond.instanceMethod yX7_readSign ∈ bkTB := bk_w 470 (by decide +kernel) rfl
theorem cd_X7_readSign : Cond.code yX7_readSign cX7_readSign 2 (some .boolean) ∈ bkTB := bk_w 471 (by decide +kernel) rfl
theorem ml_X7_44 : Cond.methodLink RX7 44 yX7_readCell ∈ bkTB := bk_w 472 (by decide +kernel) rfl
theorem im_X7_readCell : Cond.instanceMethod yX7_readCell ∈ bkTB := bk_w 474 (by decide +kernel) rfl
theorem cd_X7_readCell : Cond.code yX7_readCell cX7_readCell 3 (some .int) ∈ bkTB := bk_w 475 (by decide +kernel) rfl
theorem ml_X7_54 : Cond.methodLink RX7 54 yX7_readDigit ∈ bkTB := bk_w 476 (by decide +kernel) rfl
theorem im_X7_readDigit : Cond.instanceMethod yX7_readDigit ∈ bkTB := bk_w 478 (by decide +kernel) rfl
theorem cd_X7_readDigit : Cond.code yX7_readDigit cX7_readDigit 4 (some .int) ∈ bkTB := bk_w 479 (by decide +kernel) rfl
theorem ml_X7_51 : Cond.methodLink RX7 51 yX7_readShip ∈ bkTB := bk_w 480 (by decide +kernel) rfl
theorem im_X7_readShip : Cond.instanceMethod yX7_readShip ∈ bkTB := bk_w 482 (by decide +kernel) rfl
theorem cd_X7_readShip : Cond.code yX7_readShip cX7_readShip 2 (some .boolean) ∈ bkTB := bk_w 483 (by decide +kernel) rfl
theorem ml_X7_64 : Cond.methodLink RX7 64 yX7_readNumber ∈ bkTB := bk_w 484 (by decide +kernel) rfl
theorem im_X7_readNumber : Cond.instanceMethod yX7_readNumber ∈ bkTB := bk_w 486 (by decide +kernel) rfl
theorem cd_X7_readNumber : Cond.code yX7_readNumber cX7_readNumber 4 (some .int) ∈ bkTB := bk_w 487 (by decide +kernel) rfl
theorem ml_X7_71 : Cond.methodLink RX7 71 yJ9_min_7cf53 ∈ bkTB := bk_w 488 (by decide +kernel) rfl
theorem st_J9_min_7cf53 : Cond.static yJ9_min_7cf53 ∈ bkTB := bk_w 489 (by decide +kernel) rfl
theorem cd_J9_min_7cf53 : Cond.code yJ9_min_7cf53 cJ9_min_7cf53 2 (some .int) ∈ bkTB := bk_w 490 (by decide +kernel) rfl
theorem ml_X8_101 : Cond.methodLink RX8 101 yX6_copyFrom ∈ bkTB := bk_w 491 (by decide +kernel) rfl
theorem ml_X8_111 : Cond.methodLink RX8 111 yX6_doPart ∈ bkTB := bk_w 492 (by decide +kernel) rfl
theorem im_X6_doPart : Cond.instanceMethod yX6_doPart ∈ bkTB := bk_w 493 (by decide +kernel) rfl
theorem se_X6_doPart : Cond.selects RX6 yX6_doPart yX6_doPart ∈ bkTB := bk_w 494 (by decide +kernel) rfl
theorem cd_X6_doPart : Cond.code yX6_doPart cX6_doPart 3 (some .int) ∈ bkTB := bk_w 495 (by decide +kernel) rfl
theorem ml_X6_162 : Cond.methodLink RX6 162 yX6_rockError ∈ bkTB := bk_w 496 (by decide +kernel) rfl
theorem ml_X6_165 : Cond.methodLink RX6 165 yX6_turnRock ∈ bkTB := bk_w 497 (by decide +kernel) rfl
theorem ml_X6_174 : Cond.methodLink RX6 174 yX6_shipError ∈ bkTB := bk_w 498 (by decide +kernel) rfl
theorem ml_X6_177 : Cond.methodLink RX6 177 yX6_addShip ∈ bkTB := bk_w 499 (by decide +kernel) rfl
theorem ml_X6_183 : Cond.methodLink RX6 183 yX3_turnDark ∈ bkTB := bk_w 500 (by decide +kernel) rfl
theorem im_X3_turnDark : Cond.instanceMethod yX3_turnDark ∈ bkTB := bk_w 501 (by decide +kernel) rfl
theorem se_X3_turnDark : Cond.selects RX3 yX3_turnDark yX3_turnDark ∈ bkTB := bk_w 502 (by decide +kernel) rfl
theorem cd_X3_turnDark : Cond.code yX3_turnDark cX3_turnDark 2 none ∈ bkTB := bk_w 503 (by decide +kernel) rfl
theorem ml_X6_186 : Cond.methodLink RX6 186 yX6_passError ∈ bkTB := bk_w 504 (by decide +kernel) rfl
theorem im_X6_passError : Cond.instanceMethod yX6_passError ∈ bkTB := bk_w 505 (by decide +kernel) rfl
theorem se_X6_passError : Cond.selects RX6 yX6_passError yX6_passError ∈ bkTB := bk_w 506 (by decide +kernel) rfl
theorem cd_X6_passError : Cond.code yX6_passError cX6_passError 2 (some .int) ∈ bkTB := bk_w 507 (by decide +kernel) rfl
theorem ml_X6_189 : Cond.methodLink RX6 189 yX6_passHours ∈ bkTB := bk_w 508 (by decide +kernel) rfl
theorem im_X6_passHours : Cond.instanceMethod yX6_passHours ∈ bkTB := bk_w 509 (by decide +kernel) rfl
theorem se_X6_passHours : Cond.selects RX6 yX6_passHours yX6_passHours ∈ bkTB := bk_w 510 (by decide +kernel) rfl
theorem cd_X6_passHours : Cond.code yX6_passHours cX6_passHours 8 (some .int) ∈ bkTB := bk_w 511 (by decide +kernel) rfl
theorem ml_X6_123 : Cond.methodLink RX6 123 yX6_goesToWreck ∈ bkTB := bk_w 512 (by decide +kernel) rfl
theorem im_X6_goesToWreck : Cond.instanceMethod yX6_goesToWreck ∈ bkTB := bk_w 514 (by decide +kernel) rfl
theorem cd_X6_goesToWreck : Cond.code yX6_goesToWreck cX6_goesToWreck 4 (some .boolean) ∈ bkTB := bk_w 515 (by decide +kernel) rfl
theorem ml_X6_134 : Cond.methodLink RX6 134 yX5_nextCell ∈ bkTB := bk_w 516 (by decide +kernel) rfl
theorem im_X5_nextCell : Cond.instanceMethod yX5_nextCell ∈ bkTB := bk_w 517 (by decide +kernel) rfl
theorem se_X5_nextCell : Cond.selects RX5 yX5_nextCell yX5_nextCell ∈ bkTB := bk_w 518 (by decide +kernel) rfl
theorem cd_X5_nextCell : Cond.code yX5_nextCell cX5_nextCell 3 (some .int) ∈ bkTB := bk_w 519 (by decide +kernel) rfl
theorem ml_X5_31 : Cond.methodLink RX5 31 yJ6_compare_7cf53 ∈ bkTB := bk_w 520 (by decide +kernel) rfl
theorem st_J6_compare_7cf53 : Cond.static yJ6_compare_7cf53 ∈ bkTB := bk_w 521 (by decide +kernel) rfl
theorem cd_J6_compare_7cf53 : Cond.code yJ6_compare_7cf53 cJ6_compare_7cf53 2 (some .int) ∈ bkTB := bk_w 522 (by decide +kernel) rfl
theorem ml_X6_119 : Cond.methodLink RX6 119 yX6_litBy ∈ bkTB := bk_w 523 (by decide +kernel) rfl
theorem im_X6_litBy : Cond.instanceMethod yX6_litBy ∈ bkTB := bk_w 524 (by decide +kernel) rfl
theorem se_X6_litBy : Cond.selects RX6 yX6_litBy yX6_litBy ∈ bkTB := bk_w 525 (by decide +kernel) rfl
theorem cd_X6_litBy : Cond.code yX6_litBy cX6_litBy 6 (some .int) ∈ bkTB := bk_w 526 (by decide +kernel) rfl
theorem ml_X6_115 : Cond.methodLink RX6 115 yX3_lightsCell ∈ bkTB := bk_w 527 (by decide +kernel) rfl
theorem ml_X6_141 : Cond.methodLink RX6 141 yX5_breakIn ∈ bkTB := bk_w 528 (by decide +kernel) rfl
theorem im_X5_breakIn : Cond.instanceMethod yX5_breakIn ∈ bkTB := bk_w 529 (by decide +kernel) rfl
theorem se_X5_breakIn : Cond.selects RX5 yX5_breakIn yX5_breakIn ∈ bkTB := bk_w 530 (by decide +kernel) rfl
theorem cd_X5_breakIn : Cond.code yX5_breakIn cX5_breakIn 2 none ∈ bkTB := bk_w 531 (by decide +kernel) rfl
theorem ml_X6_149 : Cond.methodLink RX6 149 yX2_oweWreck ∈ bkTB := bk_w 532 (by decide +kernel) rfl
theorem im_X2_oweWreck : Cond.instanceMethod yX2_oweWreck ∈ bkTB := bk_w 533 (by decide +kernel) rfl
theorem se_X2_oweWreck : Cond.selects RX2 yX2_oweWreck yX2_oweWreck ∈ bkTB := bk_w 534 (by decide +kernel) rfl
theorem cd_X2_oweWreck : Cond.code yX2_oweWreck cX2_oweWreck 2 none ∈ bkTB := bk_w 535 (by decide +kernel) rfl
theorem ml_X6_152 : Cond.methodLink RX6 152 yX5_comeTo ∈ bkTB := bk_w 536 (by decide +kernel) rfl
theorem im_X5_comeTo : Cond.instanceMethod yX5_comeTo ∈ bkTB := bk_w 537 (by decide +kernel) rfl
theorem se_X5_comeTo : Cond.selects RX5 yX5_comeTo yX5_comeTo ∈ bkTB := bk_w 538 (by decide +kernel) rfl
theorem cd_X5_comeTo : Cond.code yX5_comeTo cX5_comeTo 2 none ∈ bkTB := bk_w 539 (by decide +kernel) rfl
theorem ml_X6_127 : Cond.methodLink RX6 127 yX2_earn ∈ bkTB := bk_w 540 (by decide +kernel) rfl
theorem im_X2_earn : Cond.instanceMethod yX2_earn ∈ bkTB := bk_w 541 (by decide +kernel) rfl
theorem se_X2_earn : Cond.selects RX2 yX2_earn yX2_earn ∈ bkTB := bk_w 542 (by decide +kernel) rfl
theorem cd_X2_earn : Cond.code yX2_earn cX2_earn 3 none ∈ bkTB := bk_w 543 (by decide +kernel) rfl
theorem ml_X2_27 : Cond.methodLink RX2 27 yJ9_min_7cf53 ∈ bkTB := bk_w 544 (by decide +kernel) rfl
theorem ml_X6_131 : Cond.methodLink RX6 131 yX3_thinFog ∈ bkTB := bk_w 545 (by decide +kernel) rfl
theorem im_X3_thinFog : Cond.instanceMethod yX3_thinFog ∈ bkTB := bk_w 546 (by decide +kernel) rfl
theorem se_X3_thinFog : Cond.selects RX3 yX3_thinFog yX3_thinFog ∈ bkTB := bk_w 547 (by decide +kernel) rfl
theorem cd_X3_thinFog : Cond.code yX3_thinFog cX3_thinFog 1 none ∈ bkTB := bk_w 548 (by decide +kernel) rfl
theorem ml_L_32 : Cond.methodLink RL 32 yX8_card ∈ bkTB := bk_w 549 (by decide +kernel) rfl
theorem im_X8_card : Cond.instanceMethod yX8_card ∈ bkTB := bk_w 550 (by decide +kernel) rfl
theorem se_X8_card : Cond.selects RX8 yX8_card yX8_card ∈ bkTB := bk_w 551 (by decide +kernel) rfl
theorem cd_X8_card : Cond.code yX8_card cX8_card 3 (some .int) ∈ bkTB := bk_w 552 (by decide +kernel) rfl
theorem ml_X8_115 : Cond.methodLink RX8 115 yX6_canLayCard ∈ bkTB := bk_w 553 (by decide +kernel) rfl
theorem im_X6_canLayCard : Cond.instanceMethod yX6_canLayCard ∈ bkTB := bk_w 554 (by decide +kernel) rfl
theorem se_X6_canLayCard : Cond.selects RX6 yX6_canLayCard yX6_canLayCard ∈ bkTB := bk_w 555 (by decide +kernel) rfl
theorem cd_X6_canLayCard : Cond.code yX6_canLayCard cX6_canLayCard 3 (some .boolean) ∈ bkTB := bk_w 556 (by decide +kernel) rfl
theorem ml_X8_127 : Cond.methodLink RX8 127 yX3_layCard ∈ bkTB := bk_w 557 (by decide +kernel) rfl
theorem im_X3_layCard : Cond.instanceMethod yX3_layCard ∈ bkTB := bk_w 558 (by decide +kernel) rfl
theorem se_X3_layCard : Cond.selects RX3 yX3_layCard yX3_layCard ∈ bkTB := bk_w 559 (by decide +kernel) rfl
theorem cd_X3_layCard : Cond.code yX3_layCard cX3_layCard 1 none ∈ bkTB := bk_w 560 (by decide +kernel) rfl
theorem ml_X3_54 : Cond.methodLink RX3 54 yJ9_min_7cf53 ∈ bkTB := bk_w 561 (by decide +kernel) rfl
theorem ml_L_37 : Cond.methodLink RL 37 yX8_pass ∈ bkTB := bk_w 562 (by decide +kernel) rfl
theorem im_X8_pass : Cond.instanceMethod yX8_pass ∈ bkTB := bk_w 563 (by decide +kernel) rfl
theorem se_X8_pass : Cond.selects RX8 yX8_pass yX8_pass ∈ bkTB := bk_w 564 (by decide +kernel) rfl
theorem cd_X8_pass : Cond.code yX8_pass cX8_pass 3 (some .int) ∈ bkTB := bk_w 565 (by decide +kernel) rfl
theorem ml_X8_133 : Cond.methodLink RX8 133 yX6_passError ∈ bkTB := bk_w 566 (by decide +kernel) rfl
theorem ml_X8_136 : Cond.methodLink RX8 136 yX6_passHours ∈ bkTB := bk_w 567 (by decide +kernel) rfl
theorem ml_L_41 : Cond.methodLink RL 41 yX8_wage ∈ bkTB := bk_w 568 (by decide +kernel) rfl
theorem im_X8_wage : Cond.instanceMethod yX8_wage ∈ bkTB := bk_w 569 (by decide +kernel) rfl
theorem se_X8_wage : Cond.selects RX8 yX8_wage yX8_wage ∈ bkTB := bk_w 570 (by decide +kernel) rfl
theorem cd_X8_wage : Cond.code yX8_wage cX8_wage 3 (some .int) ∈ bkTB := bk_w 571 (by decide +kernel) rfl
theorem ml_L_45 : Cond.methodLink RL 45 yX8_type ∈ bkTB := bk_w 572 (by decide +kernel) rfl
theorem im_X8_type : Cond.instanceMethod yX8_type ∈ bkTB := bk_w 573 (by decide +kernel) rfl
theorem se_X8_type : Cond.selects RX8 yX8_type yX8_type ∈ bkTB := bk_w 574 (by decide +kernel) rfl
theorem cd_X8_type : Cond.code yX8_type cX8_type 2 (some .int) ∈ bkTB := bk_w 575 (by decide +kernel) rfl
theorem ml_X8_142 : Cond.methodLink RX8 142 yX7_append ∈ bkTB := bk_w 576 (by decide +kernel) rfl
theorem im_X7_append : Cond.instanceMethod yX7_append ∈ bkTB := bk_w 577 (by decide +kernel) rfl
theorem se_X7_append : Cond.selects RX7 yX7_append yX7_append ∈ bkTB := bk_w 578 (by decide +kernel) rfl
theorem cd_X7_append : Cond.code yX7_append cX7_append 2 (some .int) ∈ bkTB := bk_w 579 (by decide +kernel) rfl
theorem ml_L_50 : Cond.methodLink RL 50 yX8_clearText ∈ bkTB := bk_w 580 (by decide +kernel) rfl
theorem im_X8_clearText : Cond.instanceMethod yX8_clearText ∈ bkTB := bk_w 581 (by decide +kernel) rfl
theorem se_X8_clearText : Cond.selects RX8 yX8_clearText yX8_clearText ∈ bkTB := bk_w 582 (by decide +kernel) rfl
theorem cd_X8_clearText : Cond.code yX8_clearText cX8_clearText 2 (some .int) ∈ bkTB := bk_w 583 (by decide +kernel) rfl
theorem ml_L_54 : Cond.methodLink RL 54 yX8_fault ∈ bkTB := bk_w 584 (by decide +kernel) rfl
theorem im_X8_fault : Cond.instanceMethod yX8_fault ∈ bkTB := bk_w 585 (by decide +kernel) rfl
theorem se_X8_fault : Cond.selects RX8 yX8_fault yX8_fault ∈ bkTB := bk_w 586 (by decide +kernel) rfl
theorem cd_X8_fault : Cond.code yX8_fault cX8_fault 1 (some .int) ∈ bkTB := bk_w 587 (by decide +kernel) rfl
theorem ml_L_58 : Cond.methodLink RL 58 yX8_undo ∈ bkTB := bk_w 588 (by decide +kernel) rfl
theorem im_X8_undo : Cond.instanceMethod yX8_undo ∈ bkTB := bk_w 589 (by decide +kernel) rfl
theorem se_X8_undo : Cond.selects RX8 yX8_undo yX8_undo ∈ bkTB := bk_w 590 (by decide +kernel) rfl
theorem cd_X8_undo : Cond.code yX8_undo cX8_undo 1 (some .int) ∈ bkTB := bk_w 591 (by decide +kernel) rfl
theorem ml_X8_149 : Cond.methodLink RX8 149 yX1_takeBack ∈ bkTB := bk_w 592 (by decide +kernel) rfl
theorem im_X1_takeBack : Cond.instanceMethod yX1_takeBack ∈ bkTB := bk_w 593 (by decide +kernel) rfl
theorem se_X1_takeBack : Cond.selects RX1 yX1_takeBack yX1_takeBack ∈ bkTB := bk_w 594 (by decide +kernel) rfl
theorem cd_X1_takeBack : Cond.code yX1_takeBack cX1_takeBack 2 (some .int) ∈ bkTB := bk_w 595 (by decide +kernel) rfl
theorem ml_L_62 : Cond.methodLink RL 62 yX8_keep ∈ bkTB := bk_w 596 (by decide +kernel) rfl
theorem im_X8_keep : Cond.instanceMethod yX8_keep ∈ bkTB := bk_w 597 (by decide +kernel) rfl
theorem se_X8_keep : Cond.selects RX8 yX8_keep yX8_keep ∈ bkTB := bk_w 598 (by decide +kernel) rfl
theorem cd_X8_keep : Cond.code yX8_keep cX8_keep 1 (some .int) ∈ bkTB := bk_w 599 (by decide +kernel) rfl
theorem ml_L_66 : Cond.methodLink RL 66 yX8_restore ∈ bkTB := bk_w 600 (by decide +kernel) rfl
theorem im_X8_restore : Cond.instanceMethod yX8_restore ∈ bkTB := bk_w 601 (by decide +kernel) rfl
theorem se_X8_restore : Cond.selects RX8 yX8_restore yX8_restore ∈ bkTB := bk_w 602 (by decide +kernel) rfl
theorem cd_X8_restore : Cond.code yX8_restore cX8_restore 1 (some .int) ∈ bkTB := bk_w 603 (by decide +kernel) rfl
theorem ml_L_70 : Cond.methodLink RL 70 yX8_cellOf ∈ bkTB := bk_w 604 (by decide +kernel) rfl
theorem im_X8_cellOf : Cond.instanceMethod yX8_cellOf ∈ bkTB := bk_w 605 (by decide +kernel) rfl
theorem se_X8_cellOf : Cond.selects RX8 yX8_cellOf yX8_cellOf ∈ bkTB := bk_w 606 (by decide +kernel) rfl
theorem cd_X8_cellOf : Cond.code yX8_cellOf cX8_cellOf 3 (some .int) ∈ bkTB := bk_w 607 (by decide +kernel) rfl
theorem ml_X8_153 : Cond.methodLink RX8 153 yX8_isCell ∈ bkTB := bk_w 608 (by decide +kernel) rfl
theorem ml_X8_156 : Cond.methodLink RX8 156 yX6_hasRock ∈ bkTB := bk_w 609 (by decide +kernel) rfl
theorem ml_X8_159 : Cond.methodLink RX8 159 yX6_shipAtSeaIn ∈ bkTB := bk_w 610 (by decide +kernel) rfl
theorem ml_X8_162 : Cond.methodLink RX8 162 yX6_litBy ∈ bkTB := bk_w 611 (by decide +kernel) rfl
theorem ml_L_74 : Cond.methodLink RL 74 yX8_lightOf ∈ bkTB := bk_w 612 (by decide +kernel) rfl
theorem im_X8_lightOf : Cond.instanceMethod yX8_lightOf ∈ bkTB := bk_w 613 (by decide +kernel) rfl
theorem se_X8_lightOf : Cond.selects RX8 yX8_lightOf yX8_lightOf ∈ bkTB := bk_w 614 (by decide +kernel) rfl
theorem cd_X8_lightOf : Cond.code yX8_lightOf cX8_lightOf 3 (some .int) ∈ bkTB := bk_w 615 (by decide +kernel) rfl
theorem ml_L_78 : Cond.methodLink RL 78 yX8_keeperOf ∈ bkTB := bk_w 616 (by decide +kernel) rfl
theorem im_X8_keeperOf : Cond.instanceMethod yX8_keeperOf ∈ bkTB := bk_w 617 (by decide +kernel) rfl
theorem se_X8_keeperOf : Cond.selects RX8 yX8_keeperOf yX8_keeperOf ∈ bkTB := bk_w 618 (by decide +kernel) rfl
theorem cd_X8_keeperOf : Cond.code yX8_keeperOf cX8_keeperOf 3 (some .int) ∈ bkTB := bk_w 619 (by decide +kernel) rfl
theorem ml_X8_169 : Cond.methodLink RX8 169 yX2_told ∈ bkTB := bk_w 620 (by decide +kernel) rfl
theorem im_X2_told : Cond.instanceMethod yX2_told ∈ bkTB := bk_w 621 (by decide +kernel) rfl
theorem se_X2_told : Cond.selects RX2 yX2_told yX2_told ∈ bkTB := bk_w 622 (by decide +kernel) rfl
theorem cd_X2_told : Cond.code yX2_told cX2_told 2 (some .int) ∈ bkTB := bk_w 623 (by decide +kernel) rfl
theorem ml_L_82 : Cond.methodLink RL 82 yX8_shipOf ∈ bkTB := bk_w 624 (by decide +kernel) rfl
theorem im_X8_shipOf : Cond.instanceMethod yX8_shipOf ∈ bkTB := bk_w 625 (by decide +kernel) rfl
theorem se_X8_shipOf : Cond.selects RX8 yX8_shipOf yX8_shipOf ∈ bkTB := bk_w 626 (by decide +kernel) rfl
theorem cd_X8_shipOf : Cond.code yX8_shipOf cX8_shipOf 3 (some .int) ∈ bkTB := bk_w 627 (by decide +kernel) rfl
theorem ml_X8_174 : Cond.methodLink RX8 174 yX6_placeOf ∈ bkTB := bk_w 628 (by decide +kernel) rfl
theorem im_X6_placeOf : Cond.instanceMethod yX6_placeOf ∈ bkTB := bk_w 629 (by decide +kernel) rfl
theorem se_X6_placeOf : Cond.selects RX6 yX6_placeOf yX6_placeOf ∈ bkTB := bk_w 630 (by decide +kernel) rfl
theorem cd_X6_placeOf : Cond.code yX6_placeOf cX6_placeOf 4 (some .int) ∈ bkTB := bk_w 631 (by decide +kernel) rfl
theorem ml_X8_181 : Cond.methodLink RX8 181 yX5_told ∈ bkTB := bk_w 632 (by decide +kernel) rfl
theorem im_X5_told : Cond.instanceMethod yX5_told ∈ bkTB := bk_w 633 (by decide +kernel) rfl
theorem se_X5_told : Cond.selects RX5 yX5_told yX5_told ∈ bkTB := bk_w 634 (by decide +kernel) rfl
theorem cd_X5_told : Cond.code yX5_told cX5_told 2 (some .int) ∈ bkTB := bk_w 635 (by decide +kernel) rfl
theorem ml_L_86 : Cond.methodLink RL 86 yX8_isLit ∈ bkTB := bk_w 637 (by decide +kernel) rfl
theorem im_X8_isLit : Cond.instanceMethod yX8_isLit ∈ bkTB := bk_w 638 (by decide +kernel) rfl
theorem se_X8_isLit : Cond.selects RX8 yX8_isLit yX8_isLit ∈ bkTB := bk_w 639 (by decide +kernel) rfl
theorem cd_X8_isLit : Cond.code yX8_isLit cX8_isLit 7 (some .int) ∈ bkTB := bk_w 640 (by decide +kernel) rfl
theorem ml_X8_184 : Cond.methodLink RX8 184 yX3_lightsCell ∈ bkTB := bk_w 641 (by decide +kernel) rfl
theorem ml_X8_188 : Cond.methodLink RX8 188 yX3_meetsOnWalk ∈ bkTB := bk_w 642 (by decide +kernel) rfl
theorem im_X3_meetsOnWalk : Cond.instanceMethod yX3_meetsOnWalk ∈ bkTB := bk_w 643 (by decide +kernel) rfl
theorem se_X3_meetsOnWalk : Cond.selects RX3 yX3_meetsOnWalk yX3_meetsOnWalk ∈ bkTB := bk_w 644 (by decide +kernel) rfl
theorem cd_X3_meetsOnWalk : Cond.code yX3_meetsOnWalk cX3_meetsOnWalk 9 (some .boolean) ∈ bkTB := bk_w 645 (by decide +kernel) rfl
theorem ml_X3_67 : Cond.methodLink RX3 67 yX3_cellOnRing ∈ bkTB := bk_w 646 (by decide +kernel) rfl
theorem im_X3_cellOnRing : Cond.instanceMethod yX3_cellOnRing ∈ bkTB := bk_w 648 (by decide +kernel) rfl
theorem cd_X3_cellOnRing : Cond.code yX3_cellOnRing cX3_cellOnRing 5 (some .int) ∈ bkTB := bk_w 649 (by decide +kernel) rfl
theorem ml_X3_70 : Cond.methodLink RX3 70 yX3_eastOnRing ∈ bkTB := bk_w 650 (by decide +kernel) rfl
theorem st_X3_eastOnRing : Cond.static yX3_eastOnRing ∈ bkTB := bk_w 651 (by decide +kernel) rfl
theorem cd_X3_eastOnRing : Cond.code yX3_eastOnRing cX3_eastOnRing 3 (some .int) ∈ bkTB := bk_w 652 (by decide +kernel) rfl
theorem ml_X3_73 : Cond.methodLink RX3 73 yJ9_floorMod_7cf53 ∈ bkTB := bk_w 653 (by decide +kernel) rfl
theorem st_J9_floorMod_7cf53 : Cond.static yJ9_floorMod_7cf53 ∈ bkTB := bk_w 654 (by decide +kernel) rfl
theorem cd_J9_floorMod_7cf53 : Cond.code yJ9_floorMod_7cf53 cJ9_floorMod_7cf53 3 (some .int) ∈ bkTB := bk_w 655 (by decide +kernel) rfl
theorem ml_X3_76 : Cond.methodLink RX3 76 yJ9_abs_0f7a4 ∈ bkTB := bk_w 656 (by decide +kernel) rfl
theorem ml_X3_79 : Cond.methodLink RX3 79 yJ9_max_7cf53 ∈ bkTB := bk_w 657 (by decide +kernel) rfl
theorem ml_L_91 : Cond.methodLink RL 91 yX8_why ∈ bkTB := bk_w 658 (by decide +kernel) rfl
theorem im_X8_why : Cond.instanceMethod yX8_why ∈ bkTB := bk_w 659 (by decide +kernel) rfl
theorem se_X8_why : Cond.selects RX8 yX8_why yX8_why ∈ bkTB := bk_w 660 (by decide +kernel) rfl
theorem cd_X8_why : Cond.code yX8_why cX8_why 3 (some .int) ∈ bkTB := bk_w 661 (by decide +kernel) rfl
theorem ml_X8_191 : Cond.methodLink RX8 191 yX3_whyDark ∈ bkTB := bk_w 662 (by decide +kernel) rfl
theorem im_X3_whyDark : Cond.instanceMethod yX3_whyDark ∈ bkTB := bk_w 663 (by decide +kernel) rfl
theorem se_X3_whyDark : Cond.selects RX3 yX3_whyDark yX3_whyDark ∈ bkTB := bk_w 664 (by decide +kernel) rfl
theorem cd_X3_whyDark : Cond.code yX3_whyDark cX3_whyDark 5 (some .int) ∈ bkTB := bk_w 665 (by decide +kernel) rfl
theorem ml_L_95 : Cond.methodLink RL 95 yX8_count ∈ bkTB := bk_w 666 (by decide +kernel) rfl
theorem im_X8_count : Cond.instanceMethod yX8_count ∈ bkTB := bk_w 667 (by decide +kernel) rfl
theorem se_X8_count : Cond.selects RX8 yX8_count yX8_count ∈ bkTB := bk_w 668 (by decide +kernel) rfl
theorem cd_X8_count : Cond.code yX8_count cX8_count 2 (some .int) ∈ bkTB := bk_w 669 (by decide +kernel) rfl
theorem ml_X8_194 : Cond.methodLink RX8 194 yX6_shipsThatAre ∈ bkTB := bk_w 670 (by decide +kernel) rfl
theorem im_X6_shipsThatAre : Cond.instanceMethod yX6_shipsThatAre ∈ bkTB := bk_w 671 (by decide +kernel) rfl
theorem se_X6_shipsThatAre : Cond.selects RX6 yX6_shipsThatAre yX6_shipsThatAre ∈ bkTB := bk_w 672 (by decide +kernel) rfl
theorem cd_X6_shipsThatAre : Cond.code yX6_shipsThatAre cX6_shipsThatAre 4 (some .int) ∈ bkTB := bk_w 673 (by decide +kernel) rfl
theorem ml_X8_197 : Cond.methodLink RX8 197 yX6_litCells ∈ bkTB := bk_w 674 (by decide +kernel) rfl
theorem im_X6_litCells : Cond.instanceMethod yX6_litCells ∈ bkTB := bk_w 675 (by decide +kernel) rfl
theorem se_X6_litCells : Cond.selects RX6 yX6_litCells yX6_litCells ∈ bkTB := bk_w 676 (by decide +kernel) rfl
theorem cd_X6_litCells : Cond.code yX6_litCells cX6_litCells 4 (some .int) ∈ bkTB := bk_w 677 (by decide +kernel) rfl
theorem ml_X8_201 : Cond.methodLink RX8 201 yX6_debts ∈ bkTB := bk_w 678 (by decide +kernel) rfl
theorem im_X6_debts : Cond.instanceMethod yX6_debts ∈ bkTB := bk_w 679 (by decide +kernel) rfl
theorem se_X6_debts : Cond.selects RX6 yX6_debts yX6_debts ∈ bkTB := bk_w 680 (by decide +kernel) rfl
theorem cd_X6_debts : Cond.code yX6_debts cX6_debts 6 (some .int) ∈ bkTB := bk_w 681 (by decide +kernel) rfl
theorem ml_X8_204 : Cond.methodLink RX8 204 yX6_paid ∈ bkTB := bk_w 682 (by decide +kernel) rfl
theorem im_X6_paid : Cond.instanceMethod yX6_paid ∈ bkTB := bk_w 683 (by decide +kernel) rfl
theorem se_X6_paid : Cond.selects RX6 yX6_paid yX6_paid ∈ bkTB := bk_w 684 (by decide +kernel) rfl
theorem cd_X6_paid : Cond.code yX6_paid cX6_paid 6 (some .int) ∈ bkTB := bk_w 685 (by decide +kernel) rfl
theorem ml_X8_207 : Cond.methodLink RX8 207 yX6_worthHome ∈ bkTB := bk_w 686 (by decide +kernel) rfl
theorem im_X6_worthHome : Cond.instanceMethod yX6_worthHome ∈ bkTB := bk_w 687 (by decide +kernel) rfl
theorem se_X6_worthHome : Cond.selects RX6 yX6_worthHome yX6_worthHome ∈ bkTB := bk_w 688 (by decide +kernel) rfl
theorem cd_X6_worthHome : Cond.code yX6_worthHome cX6_worthHome 3 (some .int) ∈ bkTB := bk_w 689 (by decide +kernel) rfl
theorem ml_L_99 : Cond.methodLink RL 99 yX8_share ∈ bkTB := bk_w 690 (by decide +kernel) rfl
theorem im_X8_share : Cond.instanceMethod yX8_share ∈ bkTB := bk_w 691 (by decide +kernel) rfl
theorem se_X8_share : Cond.selects RX8 yX8_share yX8_share ∈ bkTB := bk_w 692 (by decide +kernel) rfl
theorem cd_X8_share : Cond.code yX8_share cX8_share 4 (some .float) ∈ bkTB := bk_w 693 (by decide +kernel) rfl
theorem co_X8_213 : Cond.constantFloat RX8 213 3212836864 ∈ bkTB := bk_w 694 (by decide +kernel) rfl
theorem co_X8_214 : Cond.constantFloat RX8 214 1090519040 ∈ bkTB := bk_w 695 (by decide +kernel) rfl
theorem ml_L_104 : Cond.methodLink RL 104 yX8_litIn ∈ bkTB := bk_w 696 (by decide +kernel) rfl
theorem im_X8_litIn : Cond.instanceMethod yX8_litIn ∈ bkTB := bk_w 697 (by decide +kernel) rfl
theorem se_X8_litIn : Cond.selects RX8 yX8_litIn yX8_litIn ∈ bkTB := bk_w 698 (by decide +kernel) rfl
theorem cd_X8_litIn : Cond.code yX8_litIn cX8_litIn 3 (some .int) ∈ bkTB := bk_w 699 (by decide +kernel) rfl
theorem ml_L_108 : Cond.methodLink RL 108 yX8_ifPassed ∈ bkTB := bk_w 700 (by decide +kernel) rfl
theorem im_X8_ifPassed : Cond.instanceMethod yX8_ifPassed ∈ bkTB := bk_w 701 (by decide +kernel) rfl
theorem se_X8_ifPassed : Cond.selects RX8 yX8_ifPassed yX8_ifPassed ∈ bkTB := bk_w 702 (by decide +kernel) rfl
theorem cd_X8_ifPassed : Cond.code yX8_ifPassed cX8_ifPassed 4 (some .int) ∈ bkTB := bk_w 703 (by decide +kernel) rfl
theorem ml_X8_215 : Cond.methodLink RX8 215 yX8_isWreckedInTrial ∈ bkTB := bk_w 704 (by decide +kernel) rfl
theorem im_X8_isWreckedInTrial : Cond.instanceMethod yX8_isWreckedInTrial ∈ bkTB := bk_w 706 (by decide +kernel) rfl
theorem cd_X8_isWreckedInTrial : Cond.code yX8_isWreckedInTrial cX8_isWreckedInTrial 2 (some .boolean) ∈ bkTB := bk_w 707 (by decide +kernel) rfl
theorem ml_L_112 : Cond.methodLink RL 112 yX8_bestCard ∈ bkTB := bk_w 708 (by decide +kernel) rfl
theorem im_X8_bestCard : Cond.instanceMethod yX8_bestCard ∈ bkTB := bk_w 709 (by decide +kernel) rfl
theorem se_X8_bestCard : Cond.selects RX8 yX8_bestCard yX8_bestCard ∈ bkTB := bk_w 710 (by decide +kernel) rfl
theorem cd_X8_bestCard : Cond.code yX8_bestCard cX8_bestCard 6 (some .int) ∈ bkTB := bk_w 711 (by decide +kernel) rfl
theorem ml_X8_218 : Cond.methodLink RX8 218 yX8_worthWreckedInTrial ∈ bkTB := bk_w 712 (by decide +kernel) rfl
theorem im_X8_worthWreckedInTrial : Cond.instanceMethod yX8_worthWreckedInTrial ∈ bkTB := bk_w 714 (by decide +kernel) rfl
theorem cd_X8_worthWreckedInTrial : Cond.code yX8_worthWreckedInTrial cX8_worthWreckedInTrial 3 (some .int) ∈ bkTB := bk_w 715 (by decide +kernel) rfl
theorem cl_L_10 : Cond.classLink RL 10 RX9 ∈ bkTB := bk_w 716 (by decide +kernel) rfl
theorem ins_X9 : Cond.instantiable RX9 15 ∈ bkTB := bk_w 717 (by decide +kernel) rfl
theorem ml_L_12 : Cond.methodLink RL 12 yX9_init ∈ bkTB := bk_w 718 (by decide +kernel) rfl
theorem im_X9_init : Cond.instanceMethod yX9_init ∈ bkTB := bk_w 719 (by decide +kernel) rfl
theorem cd_X9_init : Cond.code yX9_init cX9_init 2 none ∈ bkTB := bk_w 720 (by decide +kernel) rfl
theorem ml_X9_1 : Cond.methodLink RX9 1 objectInit ∈ bkTB := bk_w 721 (by decide +kernel) rfl
theorem ml_X9_29 : Cond.methodLink RX9 29 yX9_ofL ∈ bkTB := bk_w 722 (by decide +kernel) rfl
theorem st_X9_ofL : Cond.static yX9_ofL ∈ bkTB := bk_w 723 (by decide +kernel) rfl
theorem cd_X9_ofL : Cond.code yX9_ofL cX9_ofL 2 (some .int) ∈ bkTB := bk_w 724 (by decide +kernel) rfl
theorem ml_X9_33 : Cond.methodLink RX9 33 yX9_ofK ∈ bkTB := bk_w 725 (by decide +kernel) rfl
theorem st_X9_ofK : Cond.static yX9_ofK ∈ bkTB := bk_w 726 (by decide +kernel) rfl
theorem cd_X9_ofK : Cond.code yX9_ofK cX9_ofK 2 (some .int) ∈ bkTB := bk_w 727 (by decide +kernel) rfl
theorem fl_X9_7 : Cond.fieldLink RX9 7 "BeamKeepersModel" "s" "[I" ∈ bkTB := bk_w 728 (by decide +kernel) rfl
theorem fl_X9_13 : Cond.fieldLink RX9 13 "BeamKeepersModel" "aside" "[I" ∈ bkTB := bk_w 729 (by decide +kernel) rfl
theorem fl_X9_16 : Cond.fieldLink RX9 16 "BeamKeepersModel" "past" "[I" ∈ bkTB := bk_w 730 (by decide +kernel) rfl
theorem fl_X9_40 : Cond.fieldLink RX9 40 "BeamKeepersModel" "pasts" "I" ∈ bkTB := bk_w 731 (by decide +kernel) rfl
theorem fl_X9_19 : Cond.fieldLink RX9 19 "BeamKeepersModel" "snapshot" "[I" ∈ bkTB := bk_w 732 (by decide +kernel) rfl
theorem fl_X9_203 : Cond.fieldLink RX9 203 "BeamKeepersModel" "isKept" "Z" ∈ bkTB := bk_w 733 (by decide +kernel) rfl
theorem fl_X9_22 : Cond.fieldLink RX9 22 "BeamKeepersModel" "text" "[C" ∈ bkTB := bk_w 734 (by decide +kernel) rfl
theorem fl_X9_151 : Cond.fieldLink RX9 151 "BeamKeepersModel" "length" "I" ∈ bkTB := bk_w 735 (by decide +kernel) rfl
theorem fl_X9_26 : Cond.fieldLink RX9 26 "BeamKeepersModel" "order" "[I" ∈ bkTB := bk_w 736 (by decide +kernel) rfl
theorem fl_X9_154 : Cond.fieldLink RX9 154 "BeamKeepersModel" "spot" "I" ∈ bkTB := bk_w 737 (by decide +kernel) rfl
theorem fl_X9_157 : Cond.fieldLink RX9 157 "BeamKeepersModel" "isWrong" "Z" ∈ bkTB := bk_w 738 (by decide +kernel) rfl
theorem fl_X9_167 : Cond.fieldLink RX9 167 "BeamKeepersModel" "letter" "I" ∈ bkTB := bk_w 739 (by decide +kernel) rfl
theorem fl_X9_173 : Cond.fieldLink RX9 173 "BeamKeepersModel" "first" "I" ∈ bkTB := bk_w 740 (by decide +kernel) rfl
theorem fl_X9_182 : Cond.fieldLink RX9 182 "BeamKeepersModel" "second" "I" ∈ bkTB := bk_w 741 (by decide +kernel) rfl
theorem fl_X9_185 : Cond.fieldLink RX9 185 "BeamKeepersModel" "third" "I" ∈ bkTB := bk_w 742 (by decide +kernel) rfl
theorem ml_L_17 : Cond.methodLink RL 17 yX9_rock ∈ bkTB := bk_w 774 (by decide +kernel) rfl
theorem im_X9_rock : Cond.instanceMethod yX9_rock ∈ bkTB := bk_w 775 (by decide +kernel) rfl
theorem se_X9_rock : Cond.selects RX9 yX9_rock yX9_rock ∈ bkTB := bk_w 776 (by decide +kernel) rfl
theorem cd_X9_rock : Cond.code yX9_rock cX9_rock 3 (some .int) ∈ bkTB := bk_w 777 (by decide +kernel) rfl
theorem ml_X9_84 : Cond.methodLink RX9 84 yX9_barRock ∈ bkTB := bk_w 778 (by decide +kernel) rfl
theorem st_X9_barRock : Cond.static yX9_barRock ∈ bkTB := bk_w 779 (by decide +kernel) rfl
theorem cd_X9_barRock : Cond.code yX9_barRock cX9_barRock 1 (some .int) ∈ bkTB := bk_w 780 (by decide +kernel) rfl
theorem ml_X9_77 : Cond.methodLink RX9 77 yX9_isCell ∈ bkTB := bk_w 781 (by decide +kernel) rfl
theorem st_X9_isCell : Cond.static yX9_isCell ∈ bkTB := bk_w 782 (by decide +kernel) rfl
theorem cd_X9_isCell : Cond.code yX9_isCell cX9_isCell 1 (some .boolean) ∈ bkTB := bk_w 783 (by decide +kernel) rfl
theorem ml_X9_36 : Cond.methodLink RX9 36 yX9_in ∈ bkTB := bk_w 784 (by decide +kernel) rfl
theorem st_X9_in : Cond.static yX9_in ∈ bkTB := bk_w 785 (by decide +kernel) rfl
theorem cd_X9_in : Cond.code yX9_in cX9_in 3 (some .boolean) ∈ bkTB := bk_w 786 (by decide +kernel) rfl
theorem ml_X9_81 : Cond.methodLink RX9 81 yX9_isHome ∈ bkTB := bk_w 787 (by decide +kernel) rfl
theorem st_X9_isHome : Cond.static yX9_isHome ∈ bkTB := bk_w 788 (by decide +kernel) rfl
theorem cd_X9_isHome : Cond.code yX9_isHome cX9_isHome 1 (some .boolean) ∈ bkTB := bk_w 789 (by decide +kernel) rfl
theorem ml_X9_87 : Cond.methodLink RX9 87 yX9_records ∈ bkTB := bk_w 790 (by decide +kernel) rfl
theorem im_X9_records : Cond.instanceMethod yX9_records ∈ bkTB := bk_w 792 (by decide +kernel) rfl
theorem cd_X9_records : Cond.code yX9_records cX9_records 2 none ∈ bkTB := bk_w 793 (by decide +kernel) rfl
theorem ml_X9_90 : Cond.methodLink RX9 90 yX9_rocks ∈ bkTB := bk_w 794 (by decide +kernel) rfl
theorem im_X9_rocks : Cond.instanceMethod yX9_rocks ∈ bkTB := bk_w 796 (by decide +kernel) rfl
theorem cd_X9_rocks : Cond.code yX9_rocks cX9_rocks 3 (some .int) ∈ bkTB := bk_w 797 (by decide +kernel) rfl
theorem ml_L_22 : Cond.methodLink RL 22 yX9_light ∈ bkTB := bk_w 798 (by decide +kernel) rfl
theorem im_X9_light : Cond.instanceMethod yX9_light ∈ bkTB := bk_w 799 (by decide +kernel) rfl
theorem se_X9_light : Cond.selects RX9 yX9_light yX9_light ∈ bkTB := bk_w 800 (by decide +kernel) rfl
theorem cd_X9_light : Cond.code yX9_light cX9_light 5 (some .int) ∈ bkTB := bk_w 801 (by decide +kernel) rfl
theorem ml_X9_94 : Cond.methodLink RX9 94 yX9_isLight ∈ bkTB := bk_w 802 (by decide +kernel) rfl
theorem st_X9_isLight : Cond.static yX9_isLight ∈ bkTB := bk_w 803 (by decide +kernel) rfl
theorem cd_X9_isLight : Cond.code yX9_isLight cX9_isLight 1 (some .boolean) ∈ bkTB := bk_w 804 (by decide +kernel) rfl
theorem ml_X9_97 : Cond.methodLink RX9 97 yX9_fits ∈ bkTB := bk_w 805 (by decide +kernel) rfl
theorem st_X9_fits : Cond.static yX9_fits ∈ bkTB := bk_w 806 (by decide +kernel) rfl
theorem cd_X9_fits : Cond.code yX9_fits cX9_fits 2 (some .boolean) ∈ bkTB := bk_w 807 (by decide +kernel) rfl
theorem ml_L_26 : Cond.methodLink RL 26 yX9_ship ∈ bkTB := bk_w 808 (by decide +kernel) rfl
theorem im_X9_ship : Cond.instanceMethod yX9_ship ∈ bkTB := bk_w 809 (by decide +kernel) rfl
theorem se_X9_ship : Cond.selects RX9 yX9_ship yX9_ship ∈ bkTB := bk_w 810 (by decide +kernel) rfl
theorem cd_X9_ship : Cond.code yX9_ship cX9_ship 5 (some .int) ∈ bkTB := bk_w 811 (by decide +kernel) rfl
theorem ml_X9_106 : Cond.methodLink RX9 106 yX9_barShip ∈ bkTB := bk_w 812 (by decide +kernel) rfl
theorem im_X9_barShip : Cond.instanceMethod yX9_barShip ∈ bkTB := bk_w 814 (by decide +kernel) rfl
theorem cd_X9_barShip : Cond.code yX9_barShip cX9_barShip 5 (some .int) ∈ bkTB := bk_w 815 (by decide +kernel) rfl
theorem ml_X9_103 : Cond.methodLink RX9 103 yX9_shipIn ∈ bkTB := bk_w 816 (by decide +kernel) rfl
theorem im_X9_shipIn : Cond.instanceMethod yX9_shipIn ∈ bkTB := bk_w 818 (by decide +kernel) rfl
theorem cd_X9_shipIn : Cond.code yX9_shipIn cX9_shipIn 3 (some .int) ∈ bkTB := bk_w 819 (by decide +kernel) rfl
theorem ml_X9_100 : Cond.methodLink RX9 100 yX9_ofS ∈ bkTB := bk_w 820 (by decide +kernel) rfl
theorem st_X9_ofS : Cond.static yX9_ofS ∈ bkTB := bk_w 821 (by decide +kernel) rfl
theorem cd_X9_ofS : Cond.code yX9_ofS cX9_ofS 2 (some .int) ∈ bkTB := bk_w 822 (by decide +kernel) rfl
theorem ml_X9_110 : Cond.methodLink RX9 110 yX9_comes ∈ bkTB := bk_w 823 (by decide +kernel) rfl
theorem im_X9_comes : Cond.instanceMethod yX9_comes ∈ bkTB := bk_w 825 (by decide +kernel) rfl
theorem cd_X9_comes : Cond.code yX9_comes cX9_comes 5 (some .int) ∈ bkTB := bk_w 826 (by decide +kernel) rfl
theorem ml_L_40 : Cond.methodLink RL 40 yX9_pass ∈ bkTB := bk_w 827 (by decide +kernel) rfl
theorem im_X9_pass : Cond.instanceMethod yX9_pass ∈ bkTB := bk_w 828 (by decide +kernel) rfl
theorem se_X9_pass : Cond.selects RX9 yX9_pass yX9_pass ∈ bkTB := bk_w 829 (by decide +kernel) rfl
theorem cd_X9_pass : Cond.code yX9_pass cX9_pass 3 (some .int) ∈ bkTB := bk_w 830 (by decide +kernel) rfl
theorem ml_X9_135 : Cond.methodLink RX9 135 yX9_barPass ∈ bkTB := bk_w 831 (by decide +kernel) rfl
theorem im_X9_barPass : Cond.instanceMethod yX9_barPass ∈ bkTB := bk_w 833 (by decide +kernel) rfl
theorem cd_X9_barPass : Cond.code yX9_barPass cX9_barPass 2 (some .int) ∈ bkTB := bk_w 834 (by decide +kernel) rfl
theorem ml_X9_138 : Cond.methodLink RX9 138 yX9_passes ∈ bkTB := bk_w 835 (by decide +kernel) rfl
theorem im_X9_passes : Cond.instanceMethod yX9_passes ∈ bkTB := bk_w 837 (by decide +kernel) rfl
theorem cd_X9_passes : Cond.code yX9_passes cX9_passes 4 (some .int) ∈ bkTB := bk_w 838 (by decide +kernel) rfl
theorem ml_X9_129 : Cond.methodLink RX9 129 yX9_shipsIn ∈ bkTB := bk_w 839 (by decide +kernel) rfl
theorem im_X9_shipsIn : Cond.instanceMethod yX9_shipsIn ∈ bkTB := bk_w 841 (by decide +kernel) rfl
theorem cd_X9_shipsIn : Cond.code yX9_shipsIn cX9_shipsIn 4 (some .int) ∈ bkTB := bk_w 842 (by decide +kernel) rfl
theorem ml_X9_132 : Cond.methodLink RX9 132 yX9_hour ∈ bkTB := bk_w 843 (by decide +kernel) rfl
theorem im_X9_hour : Cond.instanceMethod yX9_hour ∈ bkTB := bk_w 845 (by decide +kernel) rfl
theorem cd_X9_hour : Cond.code yX9_hour cX9_hour 5 none ∈ bkTB := bk_w 846 (by decide +kernel) rfl
theorem ml_X9_122 : Cond.methodLink RX9 122 yX9_rank ∈ bkTB := bk_w 847 (by decide +kernel) rfl
theorem im_X9_rank : Cond.instanceMethod yX9_rank ∈ bkTB := bk_w 849 (by decide +kernel) rfl
theorem cd_X9_rank : Cond.code yX9_rank cX9_rank 5 (some .int) ∈ bkTB := bk_w 850 (by decide +kernel) rfl
theorem ml_X9_125 : Cond.methodLink RX9 125 yX9_goes ∈ bkTB := bk_w 851 (by decide +kernel) rfl
theorem im_X9_goes : Cond.instanceMethod yX9_goes ∈ bkTB := bk_w 853 (by decide +kernel) rfl
theorem cd_X9_goes : Cond.code yX9_goes cX9_goes 7 none ∈ bkTB := bk_w 854 (by decide +kernel) rfl
theorem ml_X9_113 : Cond.methodLink RX9 113 yX9_towards ∈ bkTB := bk_w 855 (by decide +kernel) rfl
theorem st_X9_towards : Cond.static yX9_towards ∈ bkTB := bk_w 856 (by decide +kernel) rfl
theorem cd_X9_towards : Cond.code yX9_towards cX9_towards 2 (some .int) ∈ bkTB := bk_w 857 (by decide +kernel) rfl
theorem ml_X9_116 : Cond.methodLink RX9 116 yX9_lightsOn ∈ bkTB := bk_w 858 (by decide +kernel) rfl
theorem im_X9_lightsOn : Cond.instanceMethod yX9_lightsOn ∈ bkTB := bk_w 860 (by decide +kernel) rfl
theorem cd_X9_lightsOn : Cond.code yX9_lightsOn cX9_lightsOn 4 (some .int) ∈ bkTB := bk_w 861 (by decide +kernel) rfl
theorem ml_X9_74 : Cond.methodLink RX9 74 yX9_litBy ∈ bkTB := bk_w 862 (by decide +kernel) rfl
theorem im_X9_litBy : Cond.instanceMethod yX9_litBy ∈ bkTB := bk_w 864 (by decide +kernel) rfl
theorem cd_X9_litBy : Cond.code yX9_litBy cX9_litBy 3 (some .boolean) ∈ bkTB := bk_w 865 (by decide +kernel) rfl
theorem ml_X9_70 : Cond.methodLink RX9 70 yX9_lights ∈ bkTB := bk_w 866 (by decide +kernel) rfl
theorem im_X9_lights : Cond.instanceMethod yX9_lights ∈ bkTB := bk_w 868 (by decide +kernel) rfl
theorem cd_X9_lights : Cond.code yX9_lights cX9_lights 6 (some .boolean) ∈ bkTB := bk_w 869 (by decide +kernel) rfl
theorem ml_X9_57 : Cond.methodLink RX9 57 yX9_wind ∈ bkTB := bk_w 870 (by decide +kernel) rfl
theorem st_X9_wind : Cond.static yX9_wind ∈ bkTB := bk_w 871 (by decide +kernel) rfl
theorem cd_X9_wind : Cond.code yX9_wind cX9_wind 4 (some .int) ∈ bkTB := bk_w 872 (by decide +kernel) rfl
theorem ml_X9_54 : Cond.methodLink RX9 54 yX9_home ∈ bkTB := bk_w 873 (by decide +kernel) rfl
theorem st_X9_home : Cond.static yX9_home ∈ bkTB := bk_w 874 (by decide +kernel) rfl
theorem cd_X9_home : Cond.code yX9_home cX9_home 1 (some .int) ∈ bkTB := bk_w 875 (by decide +kernel) rfl
theorem ml_X9_44 : Cond.methodLink RX9 44 yX9_east ∈ bkTB := bk_w 876 (by decide +kernel) rfl
theorem st_X9_east : Cond.static yX9_east ∈ bkTB := bk_w 877 (by decide +kernel) rfl
theorem cd_X9_east : Cond.code yX9_east cX9_east 2 (some .int) ∈ bkTB := bk_w 878 (by decide +kernel) rfl
theorem ml_X9_51 : Cond.methodLink RX9 51 yX9_south ∈ bkTB := bk_w 879 (by decide +kernel) rfl
theorem st_X9_south : Cond.static yX9_south ∈ bkTB := bk_w 880 (by decide +kernel) rfl
theorem cd_X9_south : Cond.code yX9_south cX9_south 2 (some .int) ∈ bkTB := bk_w 881 (by decide +kernel) rfl
theorem ml_X9_47 : Cond.methodLink RX9 47 yX9_size ∈ bkTB := bk_w 882 (by decide +kernel) rfl
theorem st_X9_size : Cond.static yX9_size ∈ bkTB := bk_w 883 (by decide +kernel) rfl
theorem cd_X9_size : Cond.code yX9_size cX9_size 1 (some .int) ∈ bkTB := bk_w 884 (by decide +kernel) rfl
theorem ml_X9_60 : Cond.methodLink RX9 60 yX9_beam ∈ bkTB := bk_w 885 (by decide +kernel) rfl
theorem im_X9_beam : Cond.instanceMethod yX9_beam ∈ bkTB := bk_w 887 (by decide +kernel) rfl
theorem cd_X9_beam : Cond.code yX9_beam cX9_beam 3 (some .int) ∈ bkTB := bk_w 888 (by decide +kernel) rfl
theorem ml_X9_63 : Cond.methodLink RX9 63 yX9_isDark ∈ bkTB := bk_w 889 (by decide +kernel) rfl
theorem im_X9_isDark : Cond.instanceMethod yX9_isDark ∈ bkTB := bk_w 891 (by decide +kernel) rfl
theorem cd_X9_isDark : Cond.code yX9_isDark cX9_isDark 3 (some .boolean) ∈ bkTB := bk_w 892 (by decide +kernel) rfl
theorem ml_X9_67 : Cond.methodLink RX9 67 yX9_distance ∈ bkTB := bk_w 893 (by decide +kernel) rfl
theorem st_X9_distance : Cond.static yX9_distance ∈ bkTB := bk_w 894 (by decide +kernel) rfl
theorem cd_X9_distance : Cond.code yX9_distance cX9_distance 4 (some .int) ∈ bkTB := bk_w 895 (by decide +kernel) rfl
theorem ml_X9_119 : Cond.methodLink RX9 119 yX9_nearest ∈ bkTB := bk_w 896 (by decide +kernel) rfl
theorem st_X9_nearest : Cond.static yX9_nearest ∈ bkTB := bk_w 897 (by decide +kernel) rfl
theorem cd_X9_nearest : Cond.code yX9_nearest cX9_nearest 3 (some .int) ∈ bkTB := bk_w 898 (by decide +kernel) rfl
theorem ml_X9_141 : Cond.methodLink RX9 141 yX9_many ∈ bkTB := bk_w 899 (by decide +kernel) rfl
theorem st_X9_many : Cond.static yX9_many ∈ bkTB := bk_w 900 (by decide +kernel) rfl
theorem cd_X9_many : Cond.code yX9_many cX9_many 3 (some .int) ∈ bkTB := bk_w 901 (by decide +kernel) rfl
theorem ml_L_44 : Cond.methodLink RL 44 yX9_wage ∈ bkTB := bk_w 902 (by decide +kernel) rfl
theorem im_X9_wage : Cond.instanceMethod yX9_wage ∈ bkTB := bk_w 903 (by decide +kernel) rfl
theorem se_X9_wage : Cond.selects RX9 yX9_wage yX9_wage ∈ bkTB := bk_w 904 (by decide +kernel) rfl
theorem cd_X9_wage : Cond.code yX9_wage cX9_wage 3 (some .int) ∈ bkTB := bk_w 905 (by decide +kernel) rfl
theorem ml_L_36 : Cond.methodLink RL 36 yX9_card ∈ bkTB := bk_w 906 (by decide +kernel) rfl
theorem im_X9_card : Cond.instanceMethod yX9_card ∈ bkTB := bk_w 907 (by decide +kernel) rfl
theorem se_X9_card : Cond.selects RX9 yX9_card yX9_card ∈ bkTB := bk_w 908 (by decide +kernel) rfl
theorem cd_X9_card : Cond.code yX9_card cX9_card 3 (some .int) ∈ bkTB := bk_w 909 (by decide +kernel) rfl
theorem ml_X9_144 : Cond.methodLink RX9 144 yX9_canLay ∈ bkTB := bk_w 910 (by decide +kernel) rfl
theorem im_X9_canLay : Cond.instanceMethod yX9_canLay ∈ bkTB := bk_w 912 (by decide +kernel) rfl
theorem cd_X9_canLay : Cond.code yX9_canLay cX9_canLay 3 (some .boolean) ∈ bkTB := bk_w 913 (by decide +kernel) rfl
theorem ml_X9_147 : Cond.methodLink RX9 147 yX9_lays ∈ bkTB := bk_w 914 (by decide +kernel) rfl
theorem im_X9_lays : Cond.instanceMethod yX9_lays ∈ bkTB := bk_w 916 (by decide +kernel) rfl
theorem cd_X9_lays : Cond.code yX9_lays cX9_lays 4 none ∈ bkTB := bk_w 917 (by decide +kernel) rfl
theorem ml_L_49 : Cond.methodLink RL 49 yX9_type ∈ bkTB := bk_w 918 (by decide +kernel) rfl
theorem im_X9_type : Cond.instanceMethod yX9_type ∈ bkTB := bk_w 919 (by decide +kernel) rfl
theorem se_X9_type : Cond.selects RX9 yX9_type yX9_type ∈ bkTB := bk_w 920 (by decide +kernel) rfl
theorem cd_X9_type : Cond.code yX9_type cX9_type 2 (some .int) ∈ bkTB := bk_w 921 (by decide +kernel) rfl
theorem ml_L_53 : Cond.methodLink RL 53 yX9_clearText ∈ bkTB := bk_w 922 (by decide +kernel) rfl
theorem im_X9_clearText : Cond.instanceMethod yX9_clearText ∈ bkTB := bk_w 923 (by decide +kernel) rfl
theorem se_X9_clearText : Cond.selects RX9 yX9_clearText yX9_clearText ∈ bkTB := bk_w 924 (by decide +kernel) rfl
theorem cd_X9_clearText : Cond.code yX9_clearText cX9_clearText 2 (some .int) ∈ bkTB := bk_w 925 (by decide +kernel) rfl
theorem ml_L_57 : Cond.methodLink RL 57 yX9_fault ∈ bkTB := bk_w 926 (by decide +kernel) rfl
theorem im_X9_fault : Cond.instanceMethod yX9_fault ∈ bkTB := bk_w 927 (by decide +kernel) rfl
theorem se_X9_fault : Cond.selects RX9 yX9_fault yX9_fault ∈ bkTB := bk_w 928 (by decide +kernel) rfl
theorem cd_X9_fault : Cond.code yX9_fault cX9_fault 1 (some .int) ∈ bkTB := bk_w 929 (by decide +kernel) rfl
theorem ml_X9_191 : Cond.methodLink RX9 191 yX9_parts ∈ bkTB := bk_w 930 (by decide +kernel) rfl
theorem im_X9_parts : Cond.instanceMethod yX9_parts ∈ bkTB := bk_w 932 (by decide +kernel) rfl
theorem cd_X9_parts : Cond.code yX9_parts cX9_parts 3 (some .int) ∈ bkTB := bk_w 933 (by decide +kernel) rfl
theorem ml_X9_188 : Cond.methodLink RX9 188 yX9_part ∈ bkTB := bk_w 934 (by decide +kernel) rfl
theorem im_X9_part : Cond.instanceMethod yX9_part ∈ bkTB := bk_w 936 (by decide +kernel) rfl
theorem cd_X9_part : Cond.code yX9_part cX9_part 1 none ∈ bkTB := bk_w 937 (by decide +kernel) rfl
theorem ml_X9_161 : Cond.methodLink RX9 161 yX9_next ∈ bkTB := bk_w 938 (by decide +kernel) rfl
theorem im_X9_next : Cond.instanceMethod yX9_next ∈ bkTB := bk_w 940 (by decide +kernel) rfl
theorem cd_X9_next : Cond.code yX9_next cX9_next 1 (some .int) ∈ bkTB := bk_w 941 (by decide +kernel) rfl
theorem ml_X9_170 : Cond.methodLink RX9 170 yX9_cell ∈ bkTB := bk_w 942 (by decide +kernel) rfl
theorem im_X9_cell : Cond.instanceMethod yX9_cell ∈ bkTB := bk_w 944 (by decide +kernel) rfl
theorem cd_X9_cell : Cond.code yX9_cell cX9_cell 3 (some .int) ∈ bkTB := bk_w 945 (by decide +kernel) rfl
theorem ml_X9_164 : Cond.methodLink RX9 164 yX9_digit ∈ bkTB := bk_w 946 (by decide +kernel) rfl
theorem im_X9_digit : Cond.instanceMethod yX9_digit ∈ bkTB := bk_w 948 (by decide +kernel) rfl
theorem cd_X9_digit : Cond.code yX9_digit cX9_digit 4 (some .int) ∈ bkTB := bk_w 949 (by decide +kernel) rfl
theorem ml_X9_176 : Cond.methodLink RX9 176 yX9_number ∈ bkTB := bk_w 950 (by decide +kernel) rfl
theorem im_X9_number : Cond.instanceMethod yX9_number ∈ bkTB := bk_w 952 (by decide +kernel) rfl
theorem cd_X9_number : Cond.code yX9_number cX9_number 4 (some .int) ∈ bkTB := bk_w 953 (by decide +kernel) rfl
theorem ml_X9_179 : Cond.methodLink RX9 179 yX9_sign ∈ bkTB := bk_w 954 (by decide +kernel) rfl
theorem im_X9_sign : Cond.instanceMethod yX9_sign ∈ bkTB := bk_w 956 (by decide +kernel) rfl
theorem cd_X9_sign : Cond.code yX9_sign cX9_sign 2 none ∈ bkTB := bk_w 957 (by decide +kernel) rfl
theorem ml_L_31 : Cond.methodLink RL 31 yX9_doAll ∈ bkTB := bk_w 958 (by decide +kernel) rfl
theorem im_X9_doAll : Cond.instanceMethod yX9_doAll ∈ bkTB := bk_w 959 (by decide +kernel) rfl
theorem se_X9_doAll : Cond.selects RX9 yX9_doAll yX9_doAll ∈ bkTB := bk_w 960 (by decide +kernel) rfl
theorem cd_X9_doAll : Cond.code yX9_doAll cX9_doAll 5 (some .int) ∈ bkTB := bk_w 961 (by decide +kernel) rfl
theorem ml_X9_194 : Cond.methodLink RX9 194 yX9_putAside ∈ bkTB := bk_w 962 (by decide +kernel) rfl
theorem im_X9_putAside : Cond.instanceMethod yX9_putAside ∈ bkTB := bk_w 964 (by decide +kernel) rfl
theorem cd_X9_putAside : Cond.code yX9_putAside cX9_putAside 2 none ∈ bkTB := bk_w 965 (by decide +kernel) rfl
theorem ml_X9_197 : Cond.methodLink RX9 197 yX9_does ∈ bkTB := bk_w 966 (by decide +kernel) rfl
theorem im_X9_does : Cond.instanceMethod yX9_does ∈ bkTB := bk_w 968 (by decide +kernel) rfl
theorem cd_X9_does : Cond.code yX9_does cX9_does 4 (some .int) ∈ bkTB := bk_w 969 (by decide +kernel) rfl
theorem ml_X9_200 : Cond.methodLink RX9 200 yX9_putBack ∈ bkTB := bk_w 970 (by decide +kernel) rfl
theorem im_X9_putBack : Cond.instanceMethod yX9_putBack ∈ bkTB := bk_w 972 (by decide +kernel) rfl
theorem cd_X9_putBack : Cond.code yX9_putBack cX9_putBack 2 none ∈ bkTB := bk_w 973 (by decide +kernel) rfl
theorem ml_L_61 : Cond.methodLink RL 61 yX9_undo ∈ bkTB := bk_w 974 (by decide +kernel) rfl
theorem im_X9_undo : Cond.instanceMethod yX9_undo ∈ bkTB := bk_w 975 (by decide +kernel) rfl
theorem se_X9_undo : Cond.selects RX9 yX9_undo yX9_undo ∈ bkTB := bk_w 976 (by decide +kernel) rfl
theorem cd_X9_undo : Cond.code yX9_undo cX9_undo 2 (some .int) ∈ bkTB := bk_w 977 (by decide +kernel) rfl
theorem ml_L_65 : Cond.methodLink RL 65 yX9_keep ∈ bkTB := bk_w 978 (by decide +kernel) rfl
theorem im_X9_keep : Cond.instanceMethod yX9_keep ∈ bkTB := bk_w 979 (by decide +kernel) rfl
theorem se_X9_keep : Cond.selects RX9 yX9_keep yX9_keep ∈ bkTB := bk_w 980 (by decide +kernel) rfl
theorem cd_X9_keep : Cond.code yX9_keep cX9_keep 2 (some .int) ∈ bkTB := bk_w 981 (by decide +kernel) rfl
theorem ml_L_69 : Cond.methodLink RL 69 yX9_restore ∈ bkTB := bk_w 982 (by decide +kernel) rfl
theorem im_X9_restore : Cond.instanceMethod yX9_restore ∈ bkTB := bk_w 983 (by decide +kernel) rfl
theorem se_X9_restore : Cond.selects RX9 yX9_restore yX9_restore ∈ bkTB := bk_w 984 (by decide +kernel) rfl
theorem cd_X9_restore : Cond.code yX9_restore cX9_restore 2 (some .int) ∈ bkTB := bk_w 985 (by decide +kernel) rfl
theorem ml_L_73 : Cond.methodLink RL 73 yX9_cellOf ∈ bkTB := bk_w 986 (by decide +kernel) rfl
theorem im_X9_cellOf : Cond.instanceMethod yX9_cellOf ∈ bkTB := bk_w 987 (by decide +kernel) rfl
theorem se_X9_cellOf : Cond.selects RX9 yX9_cellOf yX9_cellOf ∈ bkTB := bk_w 988 (by decide +kernel) rfl
theorem cd_X9_cellOf : Cond.code yX9_cellOf cX9_cellOf 3 (some .int) ∈ bkTB := bk_w 989 (by decide +kernel) rfl
theorem ml_L_77 : Cond.methodLink RL 77 yX9_lightOf ∈ bkTB := bk_w 990 (by decide +kernel) rfl
theorem im_X9_lightOf : Cond.instanceMethod yX9_lightOf ∈ bkTB := bk_w 991 (by decide +kernel) rfl
theorem se_X9_lightOf : Cond.selects RX9 yX9_lightOf yX9_lightOf ∈ bkTB := bk_w 992 (by decide +kernel) rfl
theorem cd_X9_lightOf : Cond.code yX9_lightOf cX9_lightOf 3 (some .int) ∈ bkTB := bk_w 993 (by decide +kernel) rfl
theorem ml_X9_206 : Cond.methodLink RX9 206 yX9_litCells ∈ bkTB := bk_w 994 (by decide +kernel) rfl
theorem im_X9_litCells : Cond.instanceMethod yX9_litCells ∈ bkTB := bk_w 996 (by decide +kernel) rfl
theorem cd_X9_litCells : Cond.code yX9_litCells cX9_litCells 4 (some .int) ∈ bkTB := bk_w 997 (by decide +kernel) rfl
theorem ml_L_81 : Cond.methodLink RL 81 yX9_keeperOf ∈ bkTB := bk_w 998 (by decide +kernel) rfl
theorem im_X9_keeperOf : Cond.instanceMethod yX9_keeperOf ∈ bkTB := bk_w 999 (by decide +kernel) rfl
theorem se_X9_keeperOf : Cond.selects RX9 yX9_keeperOf yX9_keeperOf ∈ bkTB := bk_w 1000 (by decide +kernel) rfl
theorem cd_X9_keeperOf : Cond.code yX9_keeperOf cX9_keeperOf 3 (some .int) ∈ bkTB := bk_w 1001 (by decide +kernel) rfl
theorem ml_L_85 : Cond.methodLink RL 85 yX9_shipOf ∈ bkTB := bk_w 1002 (by decide +kernel) rfl
theorem im_X9_shipOf : Cond.instanceMethod yX9_shipOf ∈ bkTB := bk_w 1003 (by decide +kernel) rfl
theorem se_X9_shipOf : Cond.selects RX9 yX9_shipOf yX9_shipOf ∈ bkTB := bk_w 1004 (by decide +kernel) rfl
theorem cd_X9_shipOf : Cond.code yX9_shipOf cX9_shipOf 3 (some .int) ∈ bkTB := bk_w 1005 (by decide +kernel) rfl
theorem ml_X9_209 : Cond.methodLink RX9 209 yX9_isShip ∈ bkTB := bk_w 1006 (by decide +kernel) rfl
theorem im_X9_isShip : Cond.instanceMethod yX9_isShip ∈ bkTB := bk_w 1008 (by decide +kernel) rfl
theorem cd_X9_isShip : Cond.code yX9_isShip cX9_isShip 2 (some .boolean) ∈ bkTB := bk_w 1009 (by decide +kernel) rfl
theorem ml_L_90 : Cond.methodLink RL 90 yX9_isLit ∈ bkTB := bk_w 1010 (by decide +kernel) rfl
theorem im_X9_isLit : Cond.instanceMethod yX9_isLit ∈ bkTB := bk_w 1011 (by decide +kernel) rfl
theorem se_X9_isLit : Cond.selects RX9 yX9_isLit yX9_isLit ∈ bkTB := bk_w 1012 (by decide +kernel) rfl
theorem cd_X9_isLit : Cond.code yX9_isLit cX9_isLit 5 (some .int) ∈ bkTB := bk_w 1013 (by decide +kernel) rfl
theorem ml_L_94 : Cond.methodLink RL 94 yX9_why ∈ bkTB := bk_w 1014 (by decide +kernel) rfl
theorem im_X9_why : Cond.instanceMethod yX9_why ∈ bkTB := bk_w 1015 (by decide +kernel) rfl
theorem se_X9_why : Cond.selects RX9 yX9_why yX9_why ∈ bkTB := bk_w 1016 (by decide +kernel) rfl
theorem cd_X9_why : Cond.code yX9_why cX9_why 5 (some .int) ∈ bkTB := bk_w 1017 (by decide +kernel) rfl
theorem ml_L_98 : Cond.methodLink RL 98 yX9_count ∈ bkTB := bk_w 1018 (by decide +kernel) rfl
theorem im_X9_count : Cond.instanceMethod yX9_count ∈ bkTB := bk_w 1019 (by decide +kernel) rfl
theorem se_X9_count : Cond.selects RX9 yX9_count yX9_count ∈ bkTB := bk_w 1020 (by decide +kernel) rfl
theorem cd_X9_count : Cond.code yX9_count cX9_count 2 (some .int) ∈ bkTB := bk_w 1021 (by decide +kernel) rfl
theorem ml_X9_212 : Cond.methodLink RX9 212 yX9_litNow ∈ bkTB := bk_w 1022 (by decide +kernel) rfl
theorem im_X9_litNow : Cond.instanceMethod yX9_litNow ∈ bkTB := bk_w 1024 (by decide +kernel) rfl
theorem cd_X9_litNow : Cond.code yX9_litNow cX9_litNow 4 (some .int) ∈ bkTB := bk_w 1025 (by decide +kernel) rfl
theorem ml_X9_216 : Cond.methodLink RX9 216 yX9_ofAll ∈ bkTB := bk_w 1026 (by decide +kernel) rfl
theorem im_X9_ofAll : Cond.instanceMethod yX9_ofAll ∈ bkTB := bk_w 1028 (by decide +kernel) rfl
theorem cd_X9_ofAll : Cond.code yX9_ofAll cX9_ofAll 4 (some .int) ∈ bkTB := bk_w 1029 (by decide +kernel) rfl
theorem ml_X9_219 : Cond.methodLink RX9 219 yX9_worth ∈ bkTB := bk_w 1030 (by decide +kernel) rfl
theorem im_X9_worth : Cond.instanceMethod yX9_worth ∈ bkTB := bk_w 1032 (by decide +kernel) rfl
theorem cd_X9_worth : Cond.code yX9_worth cX9_worth 4 (some .int) ∈ bkTB := bk_w 1033 (by decide +kernel) rfl
theorem ml_L_103 : Cond.methodLink RL 103 yX9_share ∈ bkTB := bk_w 1034 (by decide +kernel) rfl
theorem im_X9_share : Cond.instanceMethod yX9_share ∈ bkTB := bk_w 1035 (by decide +kernel) rfl
theorem se_X9_share : Cond.selects RX9 yX9_share yX9_share ∈ bkTB := bk_w 1036 (by decide +kernel) rfl
theorem cd_X9_share : Cond.code yX9_share cX9_share 4 (some .float) ∈ bkTB := bk_w 1037 (by decide +kernel) rfl
theorem co_X9_222 : Cond.constantFloat RX9 222 3212836864 ∈ bkTB := bk_w 1038 (by decide +kernel) rfl
theorem ml_X9_223 : Cond.methodLink RX9 223 yX9_isLitThen ∈ bkTB := bk_w 1039 (by decide +kernel) rfl
theorem im_X9_isLitThen : Cond.instanceMethod yX9_isLitThen ∈ bkTB := bk_w 1041 (by decide +kernel) rfl
theorem cd_X9_isLitThen : Cond.code yX9_isLitThen cX9_isLitThen 7 (some .boolean) ∈ bkTB := bk_w 1042 (by decide +kernel) rfl
theorem co_X9_226 : Cond.constantFloat RX9 226 1090519040 ∈ bkTB := bk_w 1043 (by decide +kernel) rfl
theorem ml_L_107 : Cond.methodLink RL 107 yX9_litIn ∈ bkTB := bk_w 1044 (by decide +kernel) rfl
theorem im_X9_litIn : Cond.instanceMethod yX9_litIn ∈ bkTB := bk_w 1045 (by decide +kernel) rfl
theorem se_X9_litIn : Cond.selects RX9 yX9_litIn yX9_litIn ∈ bkTB := bk_w 1046 (by decide +kernel) rfl
theorem cd_X9_litIn : Cond.code yX9_litIn cX9_litIn 3 (some .int) ∈ bkTB := bk_w 1047 (by decide +kernel) rfl
theorem ml_L_111 : Cond.methodLink RL 111 yX9_ifPassed ∈ bkTB := bk_w 1048 (by decide +kernel) rfl
theorem im_X9_ifPassed : Cond.instanceMethod yX9_ifPassed ∈ bkTB := bk_w 1049 (by decide +kernel) rfl
theorem se_X9_ifPassed : Cond.selects RX9 yX9_ifPassed yX9_ifPassed ∈ bkTB := bk_w 1050 (by decide +kernel) rfl
theorem cd_X9_ifPassed : Cond.code yX9_ifPassed cX9_ifPassed 3 (some .int) ∈ bkTB := bk_w 1051 (by decide +kernel) rfl
theorem ml_L_115 : Cond.methodLink RL 115 yX9_bestCard ∈ bkTB := bk_w 1052 (by decide +kernel) rfl
theorem im_X9_bestCard : Cond.instanceMethod yX9_bestCard ∈ bkTB := bk_w 1053 (by decide +kernel) rfl
theorem se_X9_bestCard : Cond.selects RX9 yX9_bestCard yX9_bestCard ∈ bkTB := bk_w 1054 (by decide +kernel) rfl
theorem cd_X9_bestCard : Cond.code yX9_bestCard cX9_bestCard 6 (some .int) ∈ bkTB := bk_w 1055 (by decide +kernel) rfl
theorem se_X1_dropOldest : Cond.selects RX1 yX1_dropOldest yX1_dropOldest ∈ bkTB := bk_w 0 (by decide +kernel) rfl
theorem se_X3_litCells : Cond.selects RX3 yX3_litCells yX3_litCells ∈ bkTB := bk_w 1 (by decide +kernel) rfl
theorem se_X3_reach : Cond.selects RX3 yX3_reach yX3_reach ∈ bkTB := bk_w 2 (by decide +kernel) rfl
theorem se_X3_isDark : Cond.selects RX3 yX3_isDark yX3_isDark ∈ bkTB := bk_w 3 (by decide +kernel) rfl
theorem se_X7_readPart : Cond.selects RX7 yX7_readPart yX7_readPart ∈ bkTB := bk_w 4 (by decide +kernel) rfl
theorem se_X7_readSign : Cond.selects RX7 yX7_readSign yX7_readSign ∈ bkTB := bk_w 5 (by decide +kernel) rfl
theorem se_X7_readCell : Cond.selects RX7 yX7_readCell yX7_readCell ∈ bkTB := bk_w 6 (by decide +kernel) rfl
theorem se_X7_readDigit : Cond.selects RX7 yX7_readDigit yX7_readDigit ∈ bkTB := bk_w 7 (by decide +kernel) rfl
theorem se_X7_readShip : Cond.selects RX7 yX7_readShip yX7_readShip ∈ bkTB := bk_w 8 (by decide +kernel) rfl
theorem se_X7_readNumber : Cond.selects RX7 yX7_readNumber yX7_readNumber ∈ bkTB := bk_w 9 (by decide +kernel) rfl
theorem se_X6_goesToWreck : Cond.selects RX6 yX6_goesToWreck yX6_goesToWreck ∈ bkTB := bk_w 10 (by decide +kernel) rfl
theorem se_X3_cellOnRing : Cond.selects RX3 yX3_cellOnRing yX3_cellOnRing ∈ bkTB := bk_w 11 (by decide +kernel) rfl
theorem se_X8_isWreckedInTrial : Cond.selects RX8 yX8_isWreckedInTrial yX8_isWreckedInTrial ∈ bkTB := bk_w 12 (by decide +kernel) rfl
theorem se_X8_worthWreckedInTrial : Cond.selects RX8 yX8_worthWreckedInTrial yX8_worthWreckedInTrial ∈ bkTB := bk_w 13 (by decide +kernel) rfl
theorem se_X9_records : Cond.selects RX9 yX9_records yX9_records ∈ bkTB := bk_w 14 (by decide +kernel) rfl
theorem se_X9_rocks : Cond.selects RX9 yX9_rocks yX9_rocks ∈ bkTB := bk_w 15 (by decide +kernel) rfl
theorem se_X9_barShip : Cond.selects RX9 yX9_barShip yX9_barShip ∈ bkTB := bk_w 16 (by decide +kernel) rfl
theorem se_X9_shipIn : Cond.selects RX9 yX9_shipIn yX9_shipIn ∈ bkTB := bk_w 17 (by decide +kernel) rfl
theorem se_X9_comes : Cond.selects RX9 yX9_comes yX9_comes ∈ bkTB := bk_w 18 (by decide +kernel) rfl
theorem se_X9_barPass : Cond.selects RX9 yX9_barPass yX9_barPass ∈ bkTB := bk_w 19 (by decide +kernel) rfl
theorem se_X9_passes : Cond.selects RX9 yX9_passes yX9_passes ∈ bkTB := bk_w 20 (by decide +kernel) rfl
theorem se_X9_shipsIn : Cond.selects RX9 yX9_shipsIn yX9_shipsIn ∈ bkTB := bk_w 21 (by decide +kernel) rfl
theorem se_X9_hour : Cond.selects RX9 yX9_hour yX9_hour ∈ bkTB := bk_w 22 (by decide +kernel) rfl
theorem se_X9_rank : Cond.selects RX9 yX9_rank yX9_rank ∈ bkTB := bk_w 23 (by decide +kernel) rfl
theorem se_X9_goes : Cond.selects RX9 yX9_goes yX9_goes ∈ bkTB := bk_w 24 (by decide +kernel) rfl
theorem se_X9_lightsOn : Cond.selects RX9 yX9_lightsOn yX9_lightsOn ∈ bkTB := bk_w 25 (by decide +kernel) rfl
theorem se_X9_litBy : Cond.selects RX9 yX9_litBy yX9_litBy ∈ bkTB := bk_w 26 (by decide +kernel) rfl
theorem se_X9_lights : Cond.selects RX9 yX9_lights yX9_lights ∈ bkTB := bk_w 27 (by decide +kernel) rfl
theorem se_X9_beam : Cond.selects RX9 yX9_beam yX9_beam ∈ bkTB := bk_w 28 (by decide +kernel) rfl
theorem se_X9_isDark : Cond.selects RX9 yX9_isDark yX9_isDark ∈ bkTB := bk_w 29 (by decide +kernel) rfl
theorem se_X9_canLay : Cond.selects RX9 yX9_canLay yX9_canLay ∈ bkTB := bk_w 30 (by decide +kernel) rfl
theorem se_X9_lays : Cond.selects RX9 yX9_lays yX9_lays ∈ bkTB := bk_w 31 (by decide +kernel) rfl
theorem se_X9_parts : Cond.selects RX9 yX9_parts yX9_parts ∈ bkTB := bk_w 32 (by decide +kernel) rfl
theorem se_X9_part : Cond.selects RX9 yX9_part yX9_part ∈ bkTB := bk_w 33 (by decide +kernel) rfl
theorem se_X9_next : Cond.selects RX9 yX9_next yX9_next ∈ bkTB := bk_w 34 (by decide +kernel) rfl
theorem se_X9_cell : Cond.selects RX9 yX9_cell yX9_cell ∈ bkTB := bk_w 35 (by decide +kernel) rfl
theorem se_X9_digit : Cond.selects RX9 yX9_digit yX9_digit ∈ bkTB := bk_w 36 (by decide +kernel) rfl
theorem se_X9_number : Cond.selects RX9 yX9_number yX9_number ∈ bkTB := bk_w 37 (by decide +kernel) rfl
theorem se_X9_sign : Cond.selects RX9 yX9_sign yX9_sign ∈ bkTB := bk_w 38 (by decide +kernel) rfl
theorem se_X9_putAside : Cond.selects RX9 yX9_putAside yX9_putAside ∈ bkTB := bk_w 39 (by decide +kernel) rfl
theorem se_X9_does : Cond.selects RX9 yX9_does yX9_does ∈ bkTB := bk_w 40 (by decide +kernel) rfl
theorem se_X9_putBack : Cond.selects RX9 yX9_putBack yX9_putBack ∈ bkTB := bk_w 41 (by decide +kernel) rfl
theorem se_X9_litCells : Cond.selects RX9 yX9_litCells yX9_litCells ∈ bkTB := bk_w 42 (by decide +kernel) rfl
theorem se_X9_isShip : Cond.selects RX9 yX9_isShip yX9_isShip ∈ bkTB := bk_w 43 (by decide +kernel) rfl
theorem se_X9_litNow : Cond.selects RX9 yX9_litNow yX9_litNow ∈ bkTB := bk_w 44 (by decide +kernel) rfl
theorem se_X9_ofAll : Cond.selects RX9 yX9_ofAll yX9_ofAll ∈ bkTB := bk_w 45 (by decide +kernel) rfl
theorem se_X9_worth : Cond.selects RX9 yX9_worth yX9_worth ∈ bkTB := bk_w 46 (by decide +kernel) rfl
theorem se_X9_isLitThen : Cond.selects RX9 yX9_isLitThen yX9_isLitThen ∈ bkTB := bk_w 47 (by decide +kernel) rfl
theorem la_X0_0 : Cond.laysFinal RX0 "BeamKeepers$Bearings" "winds" "[[I" ∈ bkTB := bk_w 100 (by decide +kernel) rfl
theorem la_X0_1 : Cond.laysFinal RX0 "BeamKeepers$Bearings" "distances" "[[I" ∈ bkTB := bk_w 102 (by decide +kernel) rfl
theorem la_X0_2 : Cond.laysFinal RX0 "BeamKeepers$Bearings" "nearest" "[I" ∈ bkTB := bk_w 104 (by decide +kernel) rfl
theorem inX0 : ∀ w ∈ u_ws RX0 TX0 3, w ∈ bkTB := bk_in fun k hk => match k, hk with
  | 0, _ => la_X0_0
  | 1, _ => la_X0_1
  | 2, _ => la_X0_2
  | k + 3, h => absurd h (by omega)
theorem la_X1_0 : Cond.laysFinal RX1 "BeamKeepers$History" "states" "[LBeamKeepers$State;" ∈ bkTB := bk_w 251 (by decide +kernel) rfl
theorem la_X1_1 : Cond.lays RX1 "BeamKeepers$History" "size" "I" ∈ bkTB := bk_w 253 (by decide +kernel) rfl
theorem inX1 : ∀ w ∈ u_ws RX1 TX1 2, w ∈ bkTB := bk_in fun k hk => match k, hk with
  | 0, _ => la_X1_0
  | 1, _ => la_X1_1
  | k + 2, h => absurd h (by omega)
theorem la_X2_0 : Cond.lays RX2 "BeamKeepers$Keeper" "coins" "I" ∈ bkTB := bk_w 167 (by decide +kernel) rfl
theorem la_X2_1 : Cond.lays RX2 "BeamKeepers$Keeper" "debt" "I" ∈ bkTB := bk_w 169 (by decide +kernel) rfl
theorem la_X2_2 : Cond.lays RX2 "BeamKeepers$Keeper" "cards" "I" ∈ bkTB := bk_w 171 (by decide +kernel) rfl
theorem la_X2_3 : Cond.lays RX2 "BeamKeepers$Keeper" "wrecks" "I" ∈ bkTB := bk_w 173 (by decide +kernel) rfl
theorem la_X2_4 : Cond.lays RX2 "BeamKeepers$Keeper" "paid" "I" ∈ bkTB := bk_w 175 (by decide +kernel) rfl
theorem inX2 : ∀ w ∈ u_ws RX2 TX2 5, w ∈ bkTB := bk_in fun k hk => match k, hk with
  | 0, _ => la_X2_0
  | 1, _ => la_X2_1
  | 2, _ => la_X2_2
  | 3, _ => la_X2_3
  | 4, _ => la_X2_4
  | k + 5, h => absurd h (by omega)
theorem la_X3_0 : Cond.laysFinal RX3 "BeamKeepers$Light" "ownCell" "I" ∈ bkTB := bk_w 136 (by decide +kernel) rfl
theorem la_X3_1 : Cond.laysFinal RX3 "BeamKeepers$Light" "winds" "[I" ∈ bkTB := bk_w 138 (by decide +kernel) rfl
theorem la_X3_2 : Cond.laysFinal RX3 "BeamKeepers$Light" "distances" "[I" ∈ bkTB := bk_w 140 (by decide +kernel) rfl
theorem la_X3_3 : Cond.lays RX3 "BeamKeepers$Light" "start" "I" ∈ bkTB := bk_w 142 (by decide +kernel) rfl
theorem la_X3_4 : Cond.lays RX3 "BeamKeepers$Light" "pace" "I" ∈ bkTB := bk_w 144 (by decide +kernel) rfl
theorem la_X3_5 : Cond.lays RX3 "BeamKeepers$Light" "range" "I" ∈ bkTB := bk_w 146 (by decide +kernel) rfl
theorem la_X3_6 : Cond.lays RX3 "BeamKeepers$Light" "dark" "I" ∈ bkTB := bk_w 148 (by decide +kernel) rfl
theorem la_X3_7 : Cond.lays RX3 "BeamKeepers$Light" "fog" "I" ∈ bkTB := bk_w 150 (by decide +kernel) rfl
theorem inX3 : ∀ w ∈ u_ws RX3 TX3 8, w ∈ bkTB := bk_in fun k hk => match k, hk with
  | 0, _ => la_X3_0
  | 1, _ => la_X3_1
  | 2, _ => la_X3_2
  | 3, _ => la_X3_3
  | 4, _ => la_X3_4
  | 5, _ => la_X3_5
  | 6, _ => la_X3_6
  | 7, _ => la_X3_7
  | k + 8, h => absurd h (by omega)
theorem la_X4_0 : Cond.lays RX4 "BeamKeepers$Part" "kind" "C" ∈ bkTB := bk_w 284 (by decide +kernel) rfl
theorem la_X4_1 : Cond.lays RX4 "BeamKeepers$Part" "number" "I" ∈ bkTB := bk_w 286 (by decide +kernel) rfl
theorem la_X4_2 : Cond.lays RX4 "BeamKeepers$Part" "cell" "I" ∈ bkTB := bk_w 288 (by decide +kernel) rfl
theorem la_X4_3 : Cond.lays RX4 "BeamKeepers$Part" "harbour" "I" ∈ bkTB := bk_w 290 (by decide +kernel) rfl
theorem la_X4_4 : Cond.lays RX4 "BeamKeepers$Part" "wind" "I" ∈ bkTB := bk_w 292 (by decide +kernel) rfl
theorem inX4 : ∀ w ∈ u_ws RX4 TX4 5, w ∈ bkTB := bk_in fun k hk => match k, hk with
  | 0, _ => la_X4_0
  | 1, _ => la_X4_1
  | 2, _ => la_X4_2
  | 3, _ => la_X4_3
  | 4, _ => la_X4_4
  | k + 5, h => absurd h (by omega)
theorem la_X5_0 : Cond.lays RX5 "BeamKeepers$Ship" "worth" "I" ∈ bkTB := bk_w 194 (by decide +kernel) rfl
theorem la_X5_1 : Cond.lays RX5 "BeamKeepers$Ship" "cell" "I" ∈ bkTB := bk_w 196 (by decide +kernel) rfl
theorem la_X5_2 : Cond.lays RX5 "BeamKeepers$Ship" "harbour" "I" ∈ bkTB := bk_w 198 (by decide +kernel) rfl
theorem la_X5_3 : Cond.lays RX5 "BeamKeepers$Ship" "condition" "I" ∈ bkTB := bk_w 200 (by decide +kernel) rfl
theorem la_X5_4 : Cond.lays RX5 "BeamKeepers$Ship" "waited" "I" ∈ bkTB := bk_w 202 (by decide +kernel) rfl
theorem inX5 : ∀ w ∈ u_ws RX5 TX5 5, w ∈ bkTB := bk_in fun k hk => match k, hk with
  | 0, _ => la_X5_0
  | 1, _ => la_X5_1
  | 2, _ => la_X5_2
  | 3, _ => la_X5_3
  | 4, _ => la_X5_4
  | k + 5, h => absurd h (by omega)
theorem la_X6_0 : Cond.laysFinal RX6 "BeamKeepers$State" "bearings" "LBeamKeepers$Bearings;" ∈ bkTB := bk_w 220 (by decide +kernel) rfl
theorem la_X6_1 : Cond.laysFinal RX6 "BeamKeepers$State" "rockRows" "[I" ∈ bkTB := bk_w 222 (by decide +kernel) rfl
theorem la_X6_2 : Cond.laysFinal RX6 "BeamKeepers$State" "lights" "[LBeamKeepers$Light;" ∈ bkTB := bk_w 224 (by decide +kernel) rfl
theorem la_X6_3 : Cond.laysFinal RX6 "BeamKeepers$State" "keepers" "[LBeamKeepers$Keeper;" ∈ bkTB := bk_w 226 (by decide +kernel) rfl
theorem la_X6_4 : Cond.laysFinal RX6 "BeamKeepers$State" "ships" "[LBeamKeepers$Ship;" ∈ bkTB := bk_w 228 (by decide +kernel) rfl
theorem la_X6_5 : Cond.laysFinal RX6 "BeamKeepers$State" "goingOrder" "[I" ∈ bkTB := bk_w 230 (by decide +kernel) rfl
theorem la_X6_6 : Cond.lays RX6 "BeamKeepers$State" "shipCount" "I" ∈ bkTB := bk_w 232 (by decide +kernel) rfl
theorem la_X6_7 : Cond.lays RX6 "BeamKeepers$State" "wage" "I" ∈ bkTB := bk_w 234 (by decide +kernel) rfl
theorem la_X6_8 : Cond.lays RX6 "BeamKeepers$State" "hour" "I" ∈ bkTB := bk_w 236 (by decide +kernel) rfl
theorem inX6 : ∀ w ∈ u_ws RX6 TX6 9, w ∈ bkTB := bk_in fun k hk => match k, hk with
  | 0, _ => la_X6_0
  | 1, _ => la_X6_1
  | 2, _ => la_X6_2
  | 3, _ => la_X6_3
  | 4, _ => la_X6_4
  | 5, _ => la_X6_5
  | 6, _ => la_X6_6
  | 7, _ => la_X6_7
  | 8, _ => la_X6_8
  | k + 9, h => absurd h (by omega)
theorem la_X7_0 : Cond.laysFinal RX7 "BeamKeepers$Text" "characters" "[C" ∈ bkTB := bk_w 304 (by decide +kernel) rfl
theorem la_X7_1 : Cond.lays RX7 "BeamKeepers$Text" "length" "I" ∈ bkTB := bk_w 306 (by decide +kernel) rfl
theorem la_X7_2 : Cond.laysFinal RX7 "BeamKeepers$Text" "parts" "[LBeamKeepers$Part;" ∈ bkTB := bk_w 308 (by decide +kernel) rfl
theorem la_X7_3 : Cond.lays RX7 "BeamKeepers$Text" "partCount" "I" ∈ bkTB := bk_w 310 (by decide +kernel) rfl
theorem la_X7_4 : Cond.lays RX7 "BeamKeepers$Text" "place" "I" ∈ bkTB := bk_w 312 (by decide +kernel) rfl
theorem inX7 : ∀ w ∈ u_ws RX7 TX7 5, w ∈ bkTB := bk_in fun k hk => match k, hk with
  | 0, _ => la_X7_0
  | 1, _ => la_X7_1
  | 2, _ => la_X7_2
  | 3, _ => la_X7_3
  | 4, _ => la_X7_4
  | k + 5, h => absurd h (by omega)
theorem la_X8_0 : Cond.laysFinal RX8 "BeamKeepers" "bearings" "LBeamKeepers$Bearings;" ∈ bkTB := bk_w 322 (by decide +kernel) rfl
theorem la_X8_1 : Cond.laysFinal RX8 "BeamKeepers" "state" "LBeamKeepers$State;" ∈ bkTB := bk_w 324 (by decide +kernel) rfl
theorem la_X8_2 : Cond.laysFinal RX8 "BeamKeepers" "trial" "LBeamKeepers$State;" ∈ bkTB := bk_w 326 (by decide +kernel) rfl
theorem la_X8_3 : Cond.laysFinal RX8 "BeamKeepers" "snapshot" "LBeamKeepers$State;" ∈ bkTB := bk_w 328 (by decide +kernel) rfl
theorem la_X8_4 : Cond.lays RX8 "BeamKeepers" "hasSnapshot" "Z" ∈ bkTB := bk_w 330 (by decide +kernel) rfl
theorem la_X8_5 : Cond.laysFinal RX8 "BeamKeepers" "history" "LBeamKeepers$History;" ∈ bkTB := bk_w 332 (by decide +kernel) rfl
theorem la_X8_6 : Cond.laysFinal RX8 "BeamKeepers" "text" "LBeamKeepers$Text;" ∈ bkTB := bk_w 334 (by decide +kernel) rfl
theorem inX8 : ∀ w ∈ u_ws RX8 TX8 7, w ∈ bkTB := bk_in fun k hk => match k, hk with
  | 0, _ => la_X8_0
  | 1, _ => la_X8_1
  | 2, _ => la_X8_2
  | 3, _ => la_X8_3
  | 4, _ => la_X8_4
  | 5, _ => la_X8_5
  | 6, _ => la_X8_6
  | k + 7, h => absurd h (by omega)
theorem la_X9_0 : Cond.laysFinal RX9 "BeamKeepersModel" "s" "[I" ∈ bkTB := bk_w 743 (by decide +kernel) rfl
theorem la_X9_1 : Cond.laysFinal RX9 "BeamKeepersModel" "aside" "[I" ∈ bkTB := bk_w 745 (by decide +kernel) rfl
theorem la_X9_2 : Cond.laysFinal RX9 "BeamKeepersModel" "past" "[I" ∈ bkTB := bk_w 747 (by decide +kernel) rfl
theorem la_X9_3 : Cond.lays RX9 "BeamKeepersModel" "pasts" "I" ∈ bkTB := bk_w 749 (by decide +kernel) rfl
theorem la_X9_4 : Cond.laysFinal RX9 "BeamKeepersModel" "snapshot" "[I" ∈ bkTB := bk_w 751 (by decide +kernel) rfl
theorem la_X9_5 : Cond.lays RX9 "BeamKeepersModel" "isKept" "Z" ∈ bkTB := bk_w 753 (by decide +kernel) rfl
theorem la_X9_6 : Cond.laysFinal RX9 "BeamKeepersModel" "text" "[C" ∈ bkTB := bk_w 755 (by decide +kernel) rfl
theorem la_X9_7 : Cond.lays RX9 "BeamKeepersModel" "length" "I" ∈ bkTB := bk_w 757 (by decide +kernel) rfl
theorem la_X9_8 : Cond.laysFinal RX9 "BeamKeepersModel" "order" "[I" ∈ bkTB := bk_w 759 (by decide +kernel) rfl
theorem la_X9_9 : Cond.lays RX9 "BeamKeepersModel" "spot" "I" ∈ bkTB := bk_w 761 (by decide +kernel) rfl
theorem la_X9_10 : Cond.lays RX9 "BeamKeepersModel" "isWrong" "Z" ∈ bkTB := bk_w 763 (by decide +kernel) rfl
theorem la_X9_11 : Cond.lays RX9 "BeamKeepersModel" "letter" "I" ∈ bkTB := bk_w 765 (by decide +kernel) rfl
theorem la_X9_12 : Cond.lays RX9 "BeamKeepersModel" "first" "I" ∈ bkTB := bk_w 767 (by decide +kernel) rfl
theorem la_X9_13 : Cond.lays RX9 "BeamKeepersModel" "second" "I" ∈ bkTB := bk_w 769 (by decide +kernel) rfl
theorem la_X9_14 : Cond.lays RX9 "BeamKeepersModel" "third" "I" ∈ bkTB := bk_w 771 (by decide +kernel) rfl
theorem inX9 : ∀ w ∈ u_ws RX9 TX9 15, w ∈ bkTB := bk_in fun k hk => match k, hk with
  | 0, _ => la_X9_0
  | 1, _ => la_X9_1
  | 2, _ => la_X9_2
  | 3, _ => la_X9_3
  | 4, _ => la_X9_4
  | 5, _ => la_X9_5
  | 6, _ => la_X9_6
  | 7, _ => la_X9_7
  | 8, _ => la_X9_8
  | 9, _ => la_X9_9
  | 10, _ => la_X9_10
  | 11, _ => la_X9_11
  | 12, _ => la_X9_12
  | 13, _ => la_X9_13
  | 14, _ => la_X9_14
  | k + 15, h => absurd h (by omega)
end
section
/-! ===== worlds as maps from addresses to cells; a judgement without heaps; rows over it ===== -/
abbrev bkM : Type := Nat → Option va_E
def bku (M : bkM) (a : Nat) (e : va_E) : bkM := fun x => if x = a then some e else M x
theorem bku_at {M : bkM} {a : Nat} {e : va_E} : bku M a e a = some e := if_pos rfl
theorem bku_ne {M : bkM} {a b : Nat} {e : va_E} (h : b ≠ a) : bku M a e b = M b := if_neg h
theorem bku_of {M : bkM} {a b : Nat} {e : va_E} {r : Option va_E} (h : b ≠ a) (g : M b = r) : bku M a e b = r := (bku_ne h).trans g
/-- tables of classes, classes of arrays, first address of ours, addresses of the static arrays -/
abbrev bkG : Type := va_G × (Nat → ClassId) × Nat × (Nat → Nat)
def bkA (G : bkG) : Nat → Prop := fun q => G.2.2.1 ≤ q
def bkT (G : bkG) : List (ClassId × FieldType) := [(G.2.1 0, .int), (G.2.1 1, .char), (G.2.1 2, .array .int), (G.2.1 3, .object RX3), (G.2.1 4, .object RX2), (G.2.1 5, .object RX5), (G.2.1 6, .object RX6), (G.2.1 7, .object RX4)]
def bkLC : Nat → Int32 := fun j => if j = 0 then 22 else if j = 1 then 27 else if j = 2 then 72 else 77
def bkMS : Nat → Int32 := fun j => if j = 0 then 7 else if j = 1 then 3 else if j = 2 then 9 else 255
def bkLS : Nat → Int32 := fun j => if j = 0 then 0 else if j = 1 then 1 else if j = 2 then 1 else 0
def bkS1 (G : bkG) (n : String) (i : Nat) (f : Nat → Int32) (U : State) (H : Heap) : Prop := va_Z RX8 n "[I" (.ref (G.2.2.2 i)) (bkA G) U H ∧ va_T .int (G.2.2.2 i) 4 (fun j => .int (f j)) (bkA G) U H
def bkS (G : bkG) (U : State) (H : Heap) : Prop := bkS1 G "LIGHT_CELLS" 0 bkLC U H ∧ bkS1 G "MOST_SETTING" 1 bkMS U H ∧ bkS1 G "LEAST_SETTING" 2 bkLS U H
/-- a class of arrays of arrays -/
def bkAO (t : FieldType) (U : State) : Prop := (Cond.arrayOver (.array t)).before #[] U = true
theorem bkAO.use {t : FieldType} {A : Array Value} {U : State} (h : bkAO t U) : (Cond.arrayOver (.array t)).before A U = true := h
theorem bkAO.moved {t : FieldType} {u U : State} (hvm : u.vm.Alike U.vm) (h : bkAO t u) : bkAO t U := by
  obtain ⟨comp, c, k, h1, h2, h3, h4, h5⟩ := arrayOverA_spec h
  obtain ⟨k', hk', he⟩ := hvm.2.2 _ _ h3
  have e1 : U.vm.bare = u.vm.bare := by first | exact hvm.bare_eq | exact hvm.bare_eq.symm
  have hi : (U.vm.classes.findIdx? fun (x : Class) => match x.kind with | .array component _ => component == comp | _ => false) = some c := ((va_idx_bare U.vm comp).symm.trans (by rw [e1]; exact va_idx_bare u.vm comp)).trans h2
  have hkind : k'.kind = .array comp (.array t) := by rw [he]; exact h4
  have f1 : U.vm.findClass (FieldType.array t).toString = some comp := by rw [hvm.findClass]; exact h1
  have f2 : U.vm.findClass ("[" ++ (FieldType.array t).toString) = some c := by rw [hvm.findClass]; exact h5
  unfold bkAO Cond.before Cond.holds
  simp only [Cond.value]
  rw [f1, Option.bind_some]
  refine (congrArg (fun o : Option Nat => (o.bind (fun c => (U.vm.classes[c]?).map fun (k : Class) => match k.kind with | .array _ ty => decide (ty = FieldType.array t) && decide (U.vm.findClass ("[" ++ (FieldType.array t).toString) = some c) | _ => false) == some true)) hi).trans ?_
  simp [hk', hkind, f2]
/-- the nest's words, the classes of arrays of objects -/
def bkN (U : State) : Prop := (va_Nw (.methodLinkNest RX0 30 yX8_distanceBetween RX8) U ∧ va_Nw (.methodLinkNest RX5 27 yX8_distanceBetween RX8) U ∧ va_Nw (.methodLinkNest RX6 53 yX2_init RX8) U ∧ va_Nw (.methodLinkNest RX6 54 yX5_init RX8) U ∧ va_Nw (.methodLinkNest RX6 77 yX8_isCell RX8) U ∧ va_Nw (.methodLinkNest RX7 31 yX4_init RX8) U)
  ∧ (va_Nw (.fieldLinkNest RX0 23 RX8 "LIGHT_CELLS" "[I" RX8) U ∧ va_Nw (.fieldLinkNest RX3 24 RX8 "LIGHT_CELLS" "[I" RX8) U ∧ va_Nw (.fieldLinkNest RX6 81 RX8 "LIGHT_CELLS" "[I" RX8) U)
  ∧ (va_AO RX2 U ∧ va_AO RX3 U ∧ va_AO RX4 U ∧ va_AO RX5 U ∧ va_AO RX6 U ∧ bkAO .int U)
def bkK (G : bkG) (U : State) (H : Heap) : Prop := va_K G.1 vwCl (bkT G) U ∧ bkS G U H ∧ bkN U
def bkP (G : bkG) (M : bkM) (H : Heap) : Prop := (∀ a e, M a = some e → va_at G.1 vwCl (a, e) H ∧ G.2.2.1 ≤ a) ∧ G.2.2.1 ≤ H.size
def bkH (G : bkG) (Z : Nat → Prop) (M : bkM) (U : State) : Prop := bkP G M U.heap ∧ Z U.heap.size ∧ bkK G U U.heap
theorem bkN.warm {s U : State} (hW : s.WarmedH U.vm) (h : bkN s) : bkN U := by
  obtain ⟨⟨a1, a2, a3, a4, a5, a6⟩, ⟨b1, b2, b3⟩, ⟨c1, c2, c3, c4, c5, c6⟩⟩ := h
  exact ⟨⟨a1.warmM hW, a2.warmM hW, a3.warmM hW, a4.warmM hW, a5.warmM hW, a6.warmM hW⟩, ⟨b1.warmF hW, b2.warmF hW, b3.warmF hW⟩, ⟨c1.moved hW.alike, c2.moved hW.alike, c3.moved hW.alike, c4.moved hW.alike, c5.moved hW.alike, c6.moved hW.alike⟩⟩
theorem bkS1.go {G : bkG} {n : String} {i : Nat} {f : Nat → Int32} {s U : State} {H H1 : Heap} (hvm : s.vm.Alike U.vm) (hq : ∀ a : Nat, a < H.size → ¬ bkA G a → H1[a]? = H[a]?) (h : bkS1 G n i f s H) : bkS1 G n i f U H1 := ⟨(h.1.moved hvm).kept hq, (h.2.moved hvm).kept hq⟩
theorem bkK.go {G : bkG} {s U : State} {H H1 : Heap} (hW : s.WarmedH U.vm) (hq : ∀ a : Nat, a < H.size → ¬ bkA G a → H1[a]? = H[a]?) (h : bkK G s H) : bkK G U H1 :=
  ⟨h.1.moved hW.alike, ⟨h.2.1.1.go hW.alike hq, h.2.1.2.1.go hW.alike hq, h.2.1.2.2.go hW.alike hq⟩, h.2.2.warm hW⟩
/-- the locals: what is known of each -/
def bkl : List (Option Value) → Nat → Option Value
  | [], _ => none
  | a :: _, 0 => a
  | _ :: l, n + 1 => bkl l n
def bks : List (Option Value) → Nat → Value → List (Option Value)
  | [], _, _ => []
  | _ :: l, 0, v => some v :: l
  | a :: l, n + 1, v => a :: bks l n v
def bkc (L : List (Option Value)) : Nat → Bool
  | 0 => true
  | n + 1 => match bkl L n with | none => true | some v => v.category == 1
def bkw : Nat → List (Option Value) → List (Nat × Value)
  | _, [] => []
  | k, none :: l => bkw (k + 1) l
  | k, some v :: l => (k, v) :: bkw (k + 1) l
theorem bks_len : ∀ (L : List (Option Value)) (i : Nat) (v : Value), (bks L i v).length = L.length
  | [], _, _ => rfl
  | _ :: _, 0, _ => rfl
  | _ :: l, i + 1, v => by show (bks l i v).length + 1 = l.length + 1; rw [bks_len l i v]
theorem bkl_same : ∀ (L : List (Option Value)) (i : Nat) (v : Value), i < L.length → bkl (bks L i v) i = some v
  | [], _, _, h => absurd h (Nat.not_lt_zero _)
  | _ :: _, 0, _, _ => rfl
  | _ :: l, i + 1, v, h => bkl_same l i v (Nat.lt_of_succ_lt_succ h)
theorem bkl_ne : ∀ (L : List (Option Value)) (i j : Nat) (v : Value), j ≠ i → bkl (bks L i v) j = bkl L j
  | [], _, _, _, _ => rfl
  | _ :: _, 0, 0, _, h => absurd rfl h
  | _ :: _, 0, _ + 1, _, _ => rfl
  | _ :: _, _ + 1, 0, _, _ => rfl
  | _ :: l, i + 1, j + 1, v, h => bkl_ne l i j v (fun e => h (by rw [e]))
theorem bkl_lt : ∀ (L : List (Option Value)) (i : Nat) (v : Value), bkl L i = some v → i < L.length
  | [], _, _, h => by cases h
  | _ :: _, 0, _, _ => Nat.zero_lt_succ _
  | _ :: l, i + 1, v, h => Nat.succ_lt_succ (bkl_lt l i v h)
theorem bkw_in : ∀ (L : List (Option Value)) (k i : Nat) (v : Value), bkl L i = some v → (k + i, v) ∈ bkw k L
  | [], _, _, _, h => by cases h
  | none :: _, _, 0, _, h => by cases h
  | some a :: l, k, 0, v, h => by
    cases h
    exact List.mem_cons_self
  | none :: l, k, i + 1, v, h => by
    have := bkw_in l (k + 1) i v h
    rw [show k + (i + 1) = k + 1 + i by omega]
    exact this
  | some a :: l, k, i + 1, v, h => by
    have := bkw_in l (k + 1) i v h
    rw [show k + (i + 1) = k + 1 + i by omega]
    exact List.mem_cons_of_mem _ this
theorem bkw_of : ∀ (L : List (Option Value)) (k : Nat) (q : Nat × Value), q ∈ bkw k L → k ≤ q.1 ∧ bkl L (q.1 - k) = some q.2
  | [], _, _, h => by cases h
  | none :: l, k, q, h => by
    obtain ⟨h1, h2⟩ := bkw_of l (k + 1) q h
    refine ⟨by omega, ?_⟩
    rw [show q.1 - k = (q.1 - (k + 1)) + 1 by omega]
    exact h2
  | some a :: l, k, q, h => by
    rcases List.mem_cons.mp h with rfl | h
    · exact ⟨Nat.le_refl _, by rw [Nat.sub_self]; rfl⟩
    · obtain ⟨h1, h2⟩ := bkw_of l (k + 1) q h
      refine ⟨by omega, ?_⟩
      rw [show q.1 - k = (q.1 - (k + 1)) + 1 by omega]
      exact h2
def bkL (ls : Array Slot) (L : List (Option Value)) : Prop := ls.size = L.length ∧ lv_wf ls ∧ ∀ i v, bkl L i = some v → ls[i]? = some (.val v)
theorem bkL.has {ls : Array Slot} {L : List (Option Value)} (h : bkL ls L) : lv_has ls L.length (bkw 0 L) :=
  ⟨h.1, h.2.1, fun q hq => h.2.2 q.1 q.2 (by have := (bkw_of L 0 q hq).2; rw [Nat.sub_zero] at this; exact this)⟩
theorem bkL.of {ls : Array Slot} {L : List (Option Value)} (h : lv_has ls L.length (bkw 0 L)) : bkL ls L :=
  ⟨h.1, h.2.1, fun i v hv => by have := bkw_in L 0 i v hv; rw [Nat.zero_add] at this; exact h.2.2 (i, v) this⟩
theorem bkL.set {ls : Array Slot} {L : List (Option Value)} {i : Nat} {v : Value} (hi : i < L.length) (hc : bkc L i = true) (h : lv_has ls L.length ((i, v) :: (bkw 0 L).filter (fun q => !(q.1 == i) && !(q.1 + 1 == i && q.2.category == 2)))) : bkL ls (bks L i v) := by
  refine ⟨by rw [bks_len]; exact h.1, h.2.1, fun j u hj => ?_⟩
  by_cases e : j = i
  · subst e
    rw [bkl_same L j v hi] at hj
    cases hj
    exact h.2.2 (j, v) List.mem_cons_self
  · rw [bkl_ne L i j v e] at hj
    have hm := bkw_in L 0 j u hj
    rw [Nat.zero_add] at hm
    refine h.2.2 (j, u) (List.mem_cons_of_mem _ (List.mem_filter.mpr ⟨hm, ?_⟩))
    have h1 : (j == i) = false := by simpa using e
    by_cases e2 : j + 1 = i
    · subst e2
      have hc' : (u.category == 1) = true := by
        have : bkc L (j + 1) = (match bkl L j with | none => true | some v => v.category == 1) := rfl
        rw [this, hj] at hc
        exact hc
      have hu : u.category = 1 := by simpa using hc'
      simp [h1, hu]
    · have h2 : (j + 1 == i) = false := by simpa using e2
      simp [h1, h2]
/-- where a method stands: what doesn't change while it runs -/
abbrev bkEnv : Type := Program × Launch × Env × Room × State × MethodId × Array Value × List Frame × Method × Code × (State → Prop)
abbrev eP (E : bkEnv) : Program := E.1
abbrev eL (E : bkEnv) : Launch := E.2.1
abbrev eE (E : bkEnv) : Env := E.2.2.1
abbrev eR (E : bkEnv) : Room := E.2.2.2.1
abbrev eS (E : bkEnv) : State := E.2.2.2.2.1
abbrev eM (E : bkEnv) : MethodId := E.2.2.2.2.2.1
abbrev eA (E : bkEnv) : Array Value := E.2.2.2.2.2.2.1
abbrev eB (E : bkEnv) : List Frame := E.2.2.2.2.2.2.2.1
abbrev eT (E : bkEnv) : Method := E.2.2.2.2.2.2.2.2.1
abbrev eC (E : bkEnv) : Code := E.2.2.2.2.2.2.2.2.2.1
abbrev eQ (E : bkEnv) : State → Prop := E.2.2.2.2.2.2.2.2.2.2
abbrev bkW (E : bkEnv) (H : Heap) (locs : List Loc) (k n : Nat) (g : JFrame) : Prop := W (eP E) (eL E) (eE E) (eR E) (eS E) (eM E) (eA E) (eB E) (eT E) (eC E) H locs k n (eQ E) g
def bkX (E : bkEnv) (G : bkG) (own : String) (cc : ByteArray) (nL : Nat) (ret : Option FieldType) (R : Room) : Prop :=
  (eP E).tables.exec = Jvm.exec ∧ (eC E).code = cc ∧ (eC E).maxLocals = nL ∧ (eS E).vm.findClass own = some (eM E).cls ∧ (∀ w ∈ bkTB, w.before (eA E) (eS E) = true) ∧ bkK G (eS E) (eS E).heap ∧ (eT E).sig.returnType = ret ∧ (eT E).locks = false ∧ eR E = R
theorem bkX.rm {E : bkEnv} {G : bkG} {own : String} {cc : ByteArray} {nL : Nat} {ret : Option FieldType} {R : Room} (X : bkX E G own cc nL ret R) : eR E = R := X.2.2.2.2.2.2.2.2
def bkV (E : bkEnv) (G : bkG) (Z : Nat → Prop) (k n : Nat) (M : bkM) (pc : Nat) (L : List (Option Value)) (st : List Value) : Prop :=
  ∀ (H : Heap) (locs : List Loc) (ls : Array Slot), bkP G M H → Z H.size → va_S (bkA G) (eS E).heap H locs → bkL ls L → bkW E H locs k n (F0 (eM E) pc ls st)
def bkR (h mc ms : Nat) : Room := { frames := h, cells := mc, slots := ms, locals := 39 * h }
/-- contracts: an int (or boolean), nothing, a float -/
def bkCi (G : bkG) (Z Z' : Nat → Prop) (y : MethodName) (code : ByteArray) (nL : Nat) (ret : Option FieldType) (h mc ms : Nat) (av : List Value) (M : bkM) (post : Int32 → bkM → Prop) : Prop :=
  ∀ l : Launch, Met l y (.code y code nL ret :: bkTB) (bkR h mc ms) (va_Pc av (bkH G Z M)) (va_Qi post (bkH G Z') (bkA G)) mc ms (bkA G)
def bkCv (G : bkG) (Z Z' : Nat → Prop) (y : MethodName) (code : ByteArray) (nL : Nat) (h mc ms : Nat) (av : List Value) (M : bkM) (post : bkM → Prop) : Prop :=
  ∀ l : Launch, Met l y (.code y code nL none :: bkTB) (bkR h mc ms) (va_Pc av (bkH G Z M)) (va_Qv post (bkH G Z') (bkA G)) mc ms (bkA G)
def bkCf (G : bkG) (Z Z' : Nat → Prop) (y : MethodName) (code : ByteArray) (nL : Nat) (h mc ms : Nat) (av : List Value) (M : bkM) (post : UInt32 → bkM → Prop) : Prop :=
  ∀ l : Launch, Met l y (.code y code nL (some .float) :: bkTB) (bkR h mc ms) (va_Pc av (bkH G Z M)) (va_Qf post (bkH G Z') (bkA G)) mc ms (bkA G)
def bkE (av : List Value) (nL : Nat) : List (Option Value) := av.map some ++ List.replicate (nL - av.length) none
theorem bkE_len {av : List Value} {nL : Nat} (h : av.length ≤ nL) : (bkE av nL).length = nL := by
  unfold bkE
  rw [List.length_append, List.length_map, List.length_replicate]
  omega
theorem bkl_none : ∀ (k i : Nat), bkl (List.replicate k none) i = none
  | 0, _ => rfl
  | _ + 1, 0 => rfl
  | k + 1, i + 1 => bkl_none k i
theorem bkl_app : ∀ (av : List Value) (k i : Nat) (v : Value), bkl (av.map some ++ List.replicate k none) i = some v → av[i]? = some v
  | [], k, i, v, h => by
    rw [List.map_nil, List.nil_append, bkl_none] at h
    cases h
  | a :: l, k, 0, v, h => by
    cases h
    rfl
  | a :: l, k, i + 1, v, h => by
    rw [List.getElem?_cons_succ]
    exact bkl_app l k i v h
theorem bk_sl : ∀ (av : List Value), (∀ v ∈ av, v.category = 1) → lg_sl av = av.map Slot.val
  | [], _ => rfl
  | a :: l, h => by
    have h1 := h a List.mem_cons_self
    have ih := bk_sl l (fun v hv => h v (List.mem_cons_of_mem _ hv))
    simp [lg_sl, h1] at ih ⊢
    first | exact ih | simpa using ih | skip
theorem bk_entry {av : List Value} {nL : Nat} (h1 : ∀ v ∈ av, v.category = 1) (h2 : av.length ≤ nL) : bkL ((lg_sl av ++ List.replicate (nL - (lg_sl av).length) Slot.unset).toArray) (bkE av nL) := by
  have hs : lg_sl av = av.map Slot.val := bk_sl av h1
  have hl : (lg_sl av).length = av.length := by rw [hs, List.length_map]
  have hE := lv_entry av (n := nL) (by rw [hl]; exact h2)
  refine ⟨by rw [bkE_len h2]; exact hE.1, hE.2.1, fun i v hv => ?_⟩
  have hv2 := bkl_app av _ i v hv
  have hlt := (List.getElem?_eq_some_iff.mp hv2).1
  rw [hs, List.getElem?_toArray, List.getElem?_append_left (by rw [List.length_map]; exact hlt), List.getElem?_map, hv2]
  rfl


section BKE
variable {G : bkG} {Z Z' : Nat → Prop} {y : MethodName} {code : ByteArray} {nL h mc ms : Nat} {ret : Option FieldType} {av : List Value} {M : bkM}
theorem bk_met {Qc : Array Value → State → Outcome → State → Prop} (L : List (Option Value)) (hL : bkE av nL = L) (hy : plainName y.cls = true) (hc : av.all (fun v => v.category == 1) = true) (ha : Nat.ble av.length nL = true)
    (body : ∀ E : bkEnv, bkX E G y.cls code nL ret (bkR h mc ms) → (eT E).name = y.name → eQ E = MQ (eB E) Qc (eA E) (eS E) mc ms (bkA G) → bkV E G Z 0 0 M 0 L []) :
    ∀ l : Launch, Met l y (.code y code nL ret :: bkTB) (bkR h mc ms) (va_Pc av (bkH G Z M)) Qc mc ms (bkA G) := by
  intro l
  refine Met.ofW (cc := code) (maxL := nL) (ret := ret) hy rfl ?_
  intro p e s m args below meth c s₁ B hml hv
  obtain ⟨rfl, hP, hZ, hK⟩ := hv
  have hts := atoms_spec (ws := .code y code nL ret :: bkTB) B.pre
  have hown : s.vm.findClass y.cls = some m.cls := findClass_of_methodNamed B.named
  have hnm : meth.name = y.name := (name_of_methodNamed B.named B.method).1
  have X : bkX (p, l, e, bkR h mc ms, s, m, av.toArray, below, meth, c, MQ below Qc av.toArray s mc ms (bkA G)) G y.cls code nL ret (bkR h mc ms) := ⟨B.exec, B.bytes, hml, hown, fun w hw => hts w (List.mem_cons_of_mem _ hw), hK, B.returns, B.notSynchronized, rfl⟩
  rw [lg_entry_eq]
  have hl := bk_entry (av := av) (nL := nL) (fun v hv => by simpa using List.all_eq_true.mp hc v hv) (Nat.le_of_ble_eq_true ha)
  rw [hL] at hl
  exact body _ X hnm rfl s.heap [] _ hP hZ va_S.rf hl
end BKE
section BKR
variable {E : bkEnv} {R : Room} {G : bkG} {Z : Nat → Prop} {k n : Nat} {M : bkM} {pc : Nat} {L : List (Option Value)} {st : List Value} {own : String} {cc : ByteArray} {nL : Nat} {ret : Option FieldType}

theorem r_iconst (X : bkX E G own cc nL ret R) {i : Int} {v : Int32} (hv : Int32.ofInt i = v) (d : decode cc pc = .ok (.iconst i, 1)) (kk : bkV E G Z k n M (pc + 1) L (.int v :: st)) : bkV E G Z k n M pc L st := fun H locs ls h1 h2 h3 h4 => lv_iconst X.1 X.2.1 d hv (kk H locs ls h1 h2 h3 h4)
theorem r_bipush (X : bkX E G own cc nL ret R) {i : Int} {v : Int32} (hv : (Int8.ofInt i).toInt32 = v) (d : decode cc pc = .ok (.bipush i, 2)) (kk : bkV E G Z k n M (pc + 2) L (.int v :: st)) : bkV E G Z k n M pc L st := fun H locs ls h1 h2 h3 h4 => lv_bipush X.1 X.2.1 d hv (kk H locs ls h1 h2 h3 h4)
theorem r_sipush (X : bkX E G own cc nL ret R) {i : Int} {v : Int32} (hv : (Int16.ofInt i).toInt32 = v) (d : decode cc pc = .ok (.sipush i, 3)) (kk : bkV E G Z k n M (pc + 3) L (.int v :: st)) : bkV E G Z k n M pc L st := fun H locs ls h1 h2 h3 h4 => lv_sipush X.1 X.2.1 d hv (kk H locs ls h1 h2 h3 h4)
theorem r_ldcw (X : bkX E G own cc nL ret R) {i : Nat} {v : Int32} (hw : Cond.constant own i v ∈ bkTB) (d : decode cc pc = .ok (.ldc_w i, 3)) (kk : bkV E G Z k n M (pc + 3) L (.int v :: st)) : bkV E G Z k n M pc L st := fun H locs ls h1 h2 h3 h4 => lv_ldcw X.1 X.2.1 X.2.2.2.1 (X.2.2.2.2.1 _ hw) d (kk H locs ls h1 h2 h3 h4)
theorem r_ldcf (X : bkX E G own cc nL ret R) {i : Nat} {v : UInt32} (hw : Cond.constantFloat own i v ∈ bkTB) (d : decode cc pc = .ok (.ldc i, 2)) (kk : bkV E G Z k n M (pc + 2) L (.float v :: st)) : bkV E G Z k n M pc L st := fun H locs ls h1 h2 h3 h4 => lv_ldcf X.1 X.2.1 X.2.2.2.1 (X.2.2.2.2.1 _ hw) d (kk H locs ls h1 h2 h3 h4)
theorem r_iload (X : bkX E G own cc nL ret R) {i : Nat} {x : Int32} (hl : bkl L i = some (.int x)) (d : decode cc pc = .ok (.iload i, 2)) (kk : bkV E G Z k n M (pc + 2) L (.int x :: st)) : bkV E G Z k n M pc L st := fun H locs ls h1 h2 h3 h4 => lv_iload X.1 X.2.1 d (h4.2.2 _ _ hl) (kk H locs ls h1 h2 h3 h4)
theorem r_iload_n (X : bkX E G own cc nL ret R) {i : Fin 4} {x : Int32} (hl : bkl L i.val = some (.int x)) (d : decode cc pc = .ok (.iload_n i, 1)) (kk : bkV E G Z k n M (pc + 1) L (.int x :: st)) : bkV E G Z k n M pc L st := fun H locs ls h1 h2 h3 h4 => lv_iload_n X.1 X.2.1 d rfl (h4.2.2 _ _ hl) (kk H locs ls h1 h2 h3 h4)
theorem r_aload (X : bkX E G own cc nL ret R) {i : Nat} {x : Nat} (hl : bkl L i = some (.ref x)) (d : decode cc pc = .ok (.aload i, 2)) (kk : bkV E G Z k n M (pc + 2) L (.ref x :: st)) : bkV E G Z k n M pc L st := fun H locs ls h1 h2 h3 h4 => lv_aload X.1 X.2.1 d (h4.2.2 _ _ hl) (kk H locs ls h1 h2 h3 h4)
theorem r_aload_n (X : bkX E G own cc nL ret R) {i : Fin 4} {x : Nat} (hl : bkl L i.val = some (.ref x)) (d : decode cc pc = .ok (.aload_n i, 1)) (kk : bkV E G Z k n M (pc + 1) L (.ref x :: st)) : bkV E G Z k n M pc L st := fun H locs ls h1 h2 h3 h4 => lv_aload_n X.1 X.2.1 d rfl (h4.2.2 _ _ hl) (kk H locs ls h1 h2 h3 h4)
theorem r_istore (X : bkX E G own cc nL ret R) {i : Nat} {x : Int32} (hi : Nat.blt i L.length = true) (hc : bkc L i = true) (d : decode cc pc = .ok (.istore i, 2)) (kk : bkV E G Z k n M (pc + 2) (bks L i (.int x)) st) : bkV E G Z k n M pc L (.int x :: st) := fun H locs ls h1 h2 h3 h4 => lv_istore X.1 X.2.1 d h4.has (Nat.blt_eq.mp hi) rfl (fun ls2 hl2 => kk H locs ls2 h1 h2 h3 (bkL.set (Nat.blt_eq.mp hi) hc hl2))
theorem r_istore_n (X : bkX E G own cc nL ret R) {i : Fin 4} {x : Int32} (hi : Nat.blt i.val L.length = true) (hc : bkc L i.val = true) (d : decode cc pc = .ok (.istore_n i, 1)) (kk : bkV E G Z k n M (pc + 1) (bks L i.val (.int x)) st) : bkV E G Z k n M pc L (.int x :: st) := fun H locs ls h1 h2 h3 h4 => lv_istore_n X.1 X.2.1 d rfl h4.has (Nat.blt_eq.mp hi) rfl (fun ls2 hl2 => kk H locs ls2 h1 h2 h3 (bkL.set (Nat.blt_eq.mp hi) hc hl2))
theorem r_astore (X : bkX E G own cc nL ret R) {i : Nat} {x : Nat} (hi : Nat.blt i L.length = true) (hc : bkc L i = true) (d : decode cc pc = .ok (.astore i, 2)) (kk : bkV E G Z k n M (pc + 2) (bks L i (.ref x)) st) : bkV E G Z k n M pc L (.ref x :: st) := fun H locs ls h1 h2 h3 h4 => lv_astore X.1 X.2.1 d h4.has (Nat.blt_eq.mp hi) rfl (fun ls2 hl2 => kk H locs ls2 h1 h2 h3 (bkL.set (Nat.blt_eq.mp hi) hc hl2))
theorem r_astore_n (X : bkX E G own cc nL ret R) {i : Fin 4} {x : Nat} (hi : Nat.blt i.val L.length = true) (hc : bkc L i.val = true) (d : decode cc pc = .ok (.astore_n i, 1)) (kk : bkV E G Z k n M (pc + 1) (bks L i.val (.ref x)) st) : bkV E G Z k n M pc L (.ref x :: st) := fun H locs ls h1 h2 h3 h4 => lv_astore_n X.1 X.2.1 d rfl h4.has (Nat.blt_eq.mp hi) rfl (fun ls2 hl2 => kk H locs ls2 h1 h2 h3 (bkL.set (Nat.blt_eq.mp hi) hc hl2))
theorem r_iinc (X : bkX E G own cc nL ret R) {i : Nat} {a : Int} {x v : Int32} (hl : bkl L i = some (.int x)) (hv : x + Int32.ofInt a = v) (hc : bkc L i = true) (d : decode cc pc = .ok (.iinc i a, 3)) (kk : bkV E G Z k n M (pc + 3) (bks L i (.int v)) st) : bkV E G Z k n M pc L st := fun H locs ls h1 h2 h3 h4 => by
  have hi := bkl_lt L i _ hl
  have hm := bkw_in L 0 i _ hl
  rw [Nat.zero_add] at hm
  obtain ⟨j, hj⟩ := List.getElem?_of_mem hm
  exact lv_iinc X.1 X.2.1 d h4.has hj hv hi rfl (fun ls2 hl2 => kk H locs ls2 h1 h2 h3 (bkL.set hi hc hl2))
theorem r_iadd (X : bkX E G own cc nL ret R) {x y : Int32} (d : decode cc pc = .ok (.iadd, 1)) (kk : bkV E G Z k n M (pc + 1) L (.int (x + y) :: st)) : bkV E G Z k n M pc L (.int y :: .int x :: st) := fun H locs ls h1 h2 h3 h4 => lv_iadd X.1 X.2.1 d (kk H locs ls h1 h2 h3 h4)
theorem r_isub (X : bkX E G own cc nL ret R) {x y : Int32} (d : decode cc pc = .ok (.isub, 1)) (kk : bkV E G Z k n M (pc + 1) L (.int (x - y) :: st)) : bkV E G Z k n M pc L (.int y :: .int x :: st) := fun H locs ls h1 h2 h3 h4 => lv_isub X.1 X.2.1 d (kk H locs ls h1 h2 h3 h4)
theorem r_imul (X : bkX E G own cc nL ret R) {x y : Int32} (d : decode cc pc = .ok (.imul, 1)) (kk : bkV E G Z k n M (pc + 1) L (.int (x * y) :: st)) : bkV E G Z k n M pc L (.int y :: .int x :: st) := fun H locs ls h1 h2 h3 h4 => lv_imul X.1 X.2.1 d (kk H locs ls h1 h2 h3 h4)
theorem r_iand (X : bkX E G own cc nL ret R) {x y : Int32} (d : decode cc pc = .ok (.iand, 1)) (kk : bkV E G Z k n M (pc + 1) L (.int (x &&& y) :: st)) : bkV E G Z k n M pc L (.int y :: .int x :: st) := fun H locs ls h1 h2 h3 h4 => lv_iand X.1 X.2.1 d (kk H locs ls h1 h2 h3 h4)
theorem r_ior (X : bkX E G own cc nL ret R) {x y : Int32} (d : decode cc pc = .ok (.ior, 1)) (kk : bkV E G Z k n M (pc + 1) L (.int (x ||| y) :: st)) : bkV E G Z k n M pc L (.int y :: .int x :: st) := fun H locs ls h1 h2 h3 h4 => lv_ior X.1 X.2.1 d (kk H locs ls h1 h2 h3 h4)
theorem r_ixor (X : bkX E G own cc nL ret R) {x y : Int32} (d : decode cc pc = .ok (.ixor, 1)) (kk : bkV E G Z k n M (pc + 1) L (.int (x ^^^ y) :: st)) : bkV E G Z k n M pc L (.int y :: .int x :: st) := fun H locs ls h1 h2 h3 h4 => lv_ixor X.1 X.2.1 d (kk H locs ls h1 h2 h3 h4)
theorem r_ishl (X : bkX E G own cc nL ret R) {x y : Int32} (d : decode cc pc = .ok (.ishl, 1)) (kk : bkV E G Z k n M (pc + 1) L (.int (x <<< (y &&& 31)) :: st)) : bkV E G Z k n M pc L (.int y :: .int x :: st) := fun H locs ls h1 h2 h3 h4 => lv_ishl X.1 X.2.1 d (kk H locs ls h1 h2 h3 h4)
theorem r_ishr (X : bkX E G own cc nL ret R) {x y : Int32} (d : decode cc pc = .ok (.ishr, 1)) (kk : bkV E G Z k n M (pc + 1) L (.int (x >>> (y &&& 31)) :: st)) : bkV E G Z k n M pc L (.int y :: .int x :: st) := fun H locs ls h1 h2 h3 h4 => lv_ishr X.1 X.2.1 d (kk H locs ls h1 h2 h3 h4)
theorem r_iushr (X : bkX E G own cc nL ret R) {x y : Int32} (d : decode cc pc = .ok (.iushr, 1)) (kk : bkV E G Z k n M (pc + 1) L (.int ((x.toUInt32 >>> (y.toUInt32 &&& Int32.toUInt32 31)).toInt32) :: st)) : bkV E G Z k n M pc L (.int y :: .int x :: st) := fun H locs ls h1 h2 h3 h4 => lv_iushr X.1 X.2.1 d rfl (kk H locs ls h1 h2 h3 h4)
theorem r_idiv (X : bkX E G own cc nL ret R) {x y : Int32} (hy : ¬ y = 0) (d : decode cc pc = .ok (.idiv, 1)) (kk : bkV E G Z k n M (pc + 1) L (.int (x / y) :: st)) : bkV E G Z k n M pc L (.int y :: .int x :: st) := fun H locs ls h1 h2 h3 h4 => lv_idiv X.1 X.2.1 d hy (kk H locs ls h1 h2 h3 h4)
theorem r_irem (X : bkX E G own cc nL ret R) {x y : Int32} (hy : ¬ y = 0) (d : decode cc pc = .ok (.irem, 1)) (kk : bkV E G Z k n M (pc + 1) L (.int (x - x / y * y) :: st)) : bkV E G Z k n M pc L (.int y :: .int x :: st) := fun H locs ls h1 h2 h3 h4 => lv_irem X.1 X.2.1 d hy (kk H locs ls h1 h2 h3 h4)
theorem r_ineg (X : bkX E G own cc nL ret R) {x : Int32} (d : decode cc pc = .ok (.ineg, 1)) (kk : bkV E G Z k n M (pc + 1) L (.int (-x) :: st)) : bkV E G Z k n M pc L (.int x :: st) := fun H locs ls h1 h2 h3 h4 => lv_ineg X.1 X.2.1 d (kk H locs ls h1 h2 h3 h4)
theorem r_i2c (X : bkX E G own cc nL ret R) {x : Int32} (d : decode cc pc = .ok (.i2c, 1)) (kk : bkV E G Z k n M (pc + 1) L (.int ((x.toUInt32 % 65536).toInt32) :: st)) : bkV E G Z k n M pc L (.int x :: st) := fun H locs ls h1 h2 h3 h4 => lv_i2c X.1 X.2.1 d rfl (kk H locs ls h1 h2 h3 h4)
theorem r_i2f (X : bkX E G own cc nL ret R) {x : Int32} (d : decode cc pc = .ok (.i2f, 1)) (kk : bkV E G Z k n M (pc + 1) L (.float (FP.i2f x) :: st)) : bkV E G Z k n M pc L (.int x :: st) := fun H locs ls h1 h2 h3 h4 => lv_i2f X.1 X.2.1 d (kk H locs ls h1 h2 h3 h4)
theorem r_fdiv (X : bkX E G own cc nL ret R) {x y : UInt32} (hn : vf_n32 (FP.fdiv x y)) (d : decode cc pc = .ok (.fdiv, 1)) (kk : bkV E G Z k n M (pc + 1) L (.float (FP.fdiv x y) :: st)) : bkV E G Z k n M pc L (.float y :: .float x :: st) := fun H locs ls h1 h2 h3 h4 => lv_fdiv X.1 X.2.1 d hn (kk H locs ls h1 h2 h3 h4)
theorem r_dup (X : bkX E G own cc nL ret R) {v : Value} (hv : v.category = 1) (d : decode cc pc = .ok (.dup, 1)) (kk : bkV E G Z k n M (pc + 1) L (v :: v :: st)) : bkV E G Z k n M pc L (v :: st) := fun H locs ls h1 h2 h3 h4 => lv_dup X.1 X.2.1 d hv (kk H locs ls h1 h2 h3 h4)
theorem r_pop (X : bkX E G own cc nL ret R) {v : Value} (hv : v.category = 1) (d : decode cc pc = .ok (.pop, 1)) (kk : bkV E G Z k n M (pc + 1) L st) : bkV E G Z k n M pc L (v :: st) := fun H locs ls h1 h2 h3 h4 => lv_pop X.1 X.2.1 d hv (kk H locs ls h1 h2 h3 h4)
theorem r_dup2 (X : bkX E G own cc nL ret R) {v u : Value} (hv : v.category = 1) (hu : u.category = 1) (d : decode cc pc = .ok (.dup2, 1)) (kk : bkV E G Z k n M (pc + 1) L (v :: u :: v :: u :: st)) : bkV E G Z k n M pc L (v :: u :: st) := fun H locs ls h1 h2 h3 h4 => lv_dup2_11 X.1 X.2.1 d hv hu (kk H locs ls h1 h2 h3 h4)
theorem r_dup_x1 (X : bkX E G own cc nL ret R) {v u : Value} (hv : v.category = 1) (hu : u.category = 1) (d : decode cc pc = .ok (.dup_x1, 1)) (kk : bkV E G Z k n M (pc + 1) L (v :: u :: v :: st)) : bkV E G Z k n M pc L (v :: u :: st) := fun H locs ls h1 h2 h3 h4 => lv_dup_x1 X.1 X.2.1 d hv hu (kk H locs ls h1 h2 h3 h4)
theorem r_if_eq (X : bkX E G own cc nL ret R) {x : Int32} {off : Int} (tgt : Nat) (ht : (pc : Int) + off = (tgt : Int)) (d : decode cc pc = .ok (.ifCond .eq off, 3)) (kt : x = 0 → bkV E G Z k n M tgt L st) (kf : ¬ x = 0 → bkV E G Z k n M (pc + 3) L st) : bkV E G Z k n M pc L (.int x :: st) := fun H locs ls h1 h2 h3 h4 => lv_if_eq X.1 X.2.1 d ht (fun q => kt q H locs ls h1 h2 h3 h4) (fun q => kf q H locs ls h1 h2 h3 h4)
theorem r_icmp_eq (X : bkX E G own cc nL ret R) {x y : Int32} {off : Int} (tgt : Nat) (ht : (pc : Int) + off = (tgt : Int)) (d : decode cc pc = .ok (.if_icmp .eq off, 3)) (kt : x = y → bkV E G Z k n M tgt L st) (kf : ¬ x = y → bkV E G Z k n M (pc + 3) L st) : bkV E G Z k n M pc L (.int y :: .int x :: st) := fun H locs ls h1 h2 h3 h4 => lv_icmp_eq X.1 X.2.1 d ht (fun q => kt q H locs ls h1 h2 h3 h4) (fun q => kf q H locs ls h1 h2 h3 h4)
theorem r_icmpN_eq (X : bkX E G own cc nL ret R) {x y : Int32} {off : Int} (tgt a b : Nat) (hx : x = nI a) (hy : y = nI b) (ha : a < 2 ^ 31) (hb : b < 2 ^ 31) (ht : (pc : Int) + off = (tgt : Int)) (d : decode cc pc = .ok (.if_icmp .eq off, 3)) (kt : a = b → bkV E G Z k n M tgt L st) (kf : a ≠ b → bkV E G Z k n M (pc + 3) L st) : bkV E G Z k n M pc L (.int y :: .int x :: st) := by
  subst hx
  subst hy
  exact r_icmp_eq X tgt ht d (fun q => kt ((nI_eq ha hb).mp q)) (fun q => kf (fun z => q ((nI_eq ha hb).mpr z)))
theorem r_if_ne (X : bkX E G own cc nL ret R) {x : Int32} {off : Int} (tgt : Nat) (ht : (pc : Int) + off = (tgt : Int)) (d : decode cc pc = .ok (.ifCond .ne off, 3)) (kt : ¬ x = 0 → bkV E G Z k n M tgt L st) (kf : x = 0 → bkV E G Z k n M (pc + 3) L st) : bkV E G Z k n M pc L (.int x :: st) := fun H locs ls h1 h2 h3 h4 => lv_if_ne X.1 X.2.1 d ht (fun q => kt q H locs ls h1 h2 h3 h4) (fun q => kf q H locs ls h1 h2 h3 h4)
theorem r_icmp_ne (X : bkX E G own cc nL ret R) {x y : Int32} {off : Int} (tgt : Nat) (ht : (pc : Int) + off = (tgt : Int)) (d : decode cc pc = .ok (.if_icmp .ne off, 3)) (kt : ¬ x = y → bkV E G Z k n M tgt L st) (kf : x = y → bkV E G Z k n M (pc + 3) L st) : bkV E G Z k n M pc L (.int y :: .int x :: st) := fun H locs ls h1 h2 h3 h4 => lv_icmp_ne X.1 X.2.1 d ht (fun q => kt q H locs ls h1 h2 h3 h4) (fun q => kf q H locs ls h1 h2 h3 h4)
theorem r_icmpN_ne (X : bkX E G own cc nL ret R) {x y : Int32} {off : Int} (tgt a b : Nat) (hx : x = nI a) (hy : y = nI b) (ha : a < 2 ^ 31) (hb : b < 2 ^ 31) (ht : (pc : Int) + off = (tgt : Int)) (d : decode cc pc = .ok (.if_icmp .ne off, 3)) (kt : a ≠ b → bkV E G Z k n M tgt L st) (kf : a = b → bkV E G Z k n M (pc + 3) L st) : bkV E G Z k n M pc L (.int y :: .int x :: st) := by
  subst hx
  subst hy
  exact r_icmp_ne X tgt ht d (fun q => kt (fun z => q ((nI_eq ha hb).mpr z))) (fun q => kf ((nI_eq ha hb).mp q))
theorem r_if_lt (X : bkX E G own cc nL ret R) {x : Int32} {off : Int} (tgt : Nat) (ht : (pc : Int) + off = (tgt : Int)) (d : decode cc pc = .ok (.ifCond .lt off, 3)) (kt : x < 0 → bkV E G Z k n M tgt L st) (kf : ¬ x < 0 → bkV E G Z k n M (pc + 3) L st) : bkV E G Z k n M pc L (.int x :: st) := fun H locs ls h1 h2 h3 h4 => lv_if_lt X.1 X.2.1 d ht (fun q => kt q H locs ls h1 h2 h3 h4) (fun q => kf q H locs ls h1 h2 h3 h4)
theorem r_icmp_lt (X : bkX E G own cc nL ret R) {x y : Int32} {off : Int} (tgt : Nat) (ht : (pc : Int) + off = (tgt : Int)) (d : decode cc pc = .ok (.if_icmp .lt off, 3)) (kt : x < y → bkV E G Z k n M tgt L st) (kf : ¬ x < y → bkV E G Z k n M (pc + 3) L st) : bkV E G Z k n M pc L (.int y :: .int x :: st) := fun H locs ls h1 h2 h3 h4 => lv_icmp_lt X.1 X.2.1 d ht (fun q => kt q H locs ls h1 h2 h3 h4) (fun q => kf q H locs ls h1 h2 h3 h4)
theorem r_icmpN_lt (X : bkX E G own cc nL ret R) {x y : Int32} {off : Int} (tgt a b : Nat) (hx : x = nI a) (hy : y = nI b) (ha : a < 2 ^ 31) (hb : b < 2 ^ 31) (ht : (pc : Int) + off = (tgt : Int)) (d : decode cc pc = .ok (.if_icmp .lt off, 3)) (kt : a < b → bkV E G Z k n M tgt L st) (kf : b ≤ a → bkV E G Z k n M (pc + 3) L st) : bkV E G Z k n M pc L (.int y :: .int x :: st) := by
  subst hx
  subst hy
  exact r_icmp_lt X tgt ht d (fun q => kt ((nI_ltI ha hb).mp q)) (fun q => kf (Nat.not_lt.mp fun z => q ((nI_ltI ha hb).mpr z)))
theorem r_if_ge (X : bkX E G own cc nL ret R) {x : Int32} {off : Int} (tgt : Nat) (ht : (pc : Int) + off = (tgt : Int)) (d : decode cc pc = .ok (.ifCond .ge off, 3)) (kt : 0 ≤ x → bkV E G Z k n M tgt L st) (kf : ¬ 0 ≤ x → bkV E G Z k n M (pc + 3) L st) : bkV E G Z k n M pc L (.int x :: st) := fun H locs ls h1 h2 h3 h4 => lv_if_ge X.1 X.2.1 d ht (fun q => kt q H locs ls h1 h2 h3 h4) (fun q => kf q H locs ls h1 h2 h3 h4)
theorem r_icmp_ge (X : bkX E G own cc nL ret R) {x y : Int32} {off : Int} (tgt : Nat) (ht : (pc : Int) + off = (tgt : Int)) (d : decode cc pc = .ok (.if_icmp .ge off, 3)) (kt : y ≤ x → bkV E G Z k n M tgt L st) (kf : ¬ y ≤ x → bkV E G Z k n M (pc + 3) L st) : bkV E G Z k n M pc L (.int y :: .int x :: st) := fun H locs ls h1 h2 h3 h4 => lv_icmp_ge X.1 X.2.1 d ht (fun q => kt q H locs ls h1 h2 h3 h4) (fun q => kf q H locs ls h1 h2 h3 h4)
theorem r_icmpN_ge (X : bkX E G own cc nL ret R) {x y : Int32} {off : Int} (tgt a b : Nat) (hx : x = nI a) (hy : y = nI b) (ha : a < 2 ^ 31) (hb : b < 2 ^ 31) (ht : (pc : Int) + off = (tgt : Int)) (d : decode cc pc = .ok (.if_icmp .ge off, 3)) (kt : b ≤ a → bkV E G Z k n M tgt L st) (kf : a < b → bkV E G Z k n M (pc + 3) L st) : bkV E G Z k n M pc L (.int y :: .int x :: st) := by
  subst hx
  subst hy
  exact r_icmp_ge X tgt ht d (fun q => kt ((nI_leI hb ha).mp q)) (fun q => kf (Nat.not_le.mp fun z => q ((nI_leI hb ha).mpr z)))
theorem r_if_gt (X : bkX E G own cc nL ret R) {x : Int32} {off : Int} (tgt : Nat) (ht : (pc : Int) + off = (tgt : Int)) (d : decode cc pc = .ok (.ifCond .gt off, 3)) (kt : 0 < x → bkV E G Z k n M tgt L st) (kf : ¬ 0 < x → bkV E G Z k n M (pc + 3) L st) : bkV E G Z k n M pc L (.int x :: st) := fun H locs ls h1 h2 h3 h4 => lv_if_gt X.1 X.2.1 d ht (fun q => kt q H locs ls h1 h2 h3 h4) (fun q => kf q H locs ls h1 h2 h3 h4)
theorem r_icmp_gt (X : bkX E G own cc nL ret R) {x y : Int32} {off : Int} (tgt : Nat) (ht : (pc : Int) + off = (tgt : Int)) (d : decode cc pc = .ok (.if_icmp .gt off, 3)) (kt : y < x → bkV E G Z k n M tgt L st) (kf : ¬ y < x → bkV E G Z k n M (pc + 3) L st) : bkV E G Z k n M pc L (.int y :: .int x :: st) := fun H locs ls h1 h2 h3 h4 => lv_icmp_gt X.1 X.2.1 d ht (fun q => kt q H locs ls h1 h2 h3 h4) (fun q => kf q H locs ls h1 h2 h3 h4)
theorem r_icmpN_gt (X : bkX E G own cc nL ret R) {x y : Int32} {off : Int} (tgt a b : Nat) (hx : x = nI a) (hy : y = nI b) (ha : a < 2 ^ 31) (hb : b < 2 ^ 31) (ht : (pc : Int) + off = (tgt : Int)) (d : decode cc pc = .ok (.if_icmp .gt off, 3)) (kt : b < a → bkV E G Z k n M tgt L st) (kf : a ≤ b → bkV E G Z k n M (pc + 3) L st) : bkV E G Z k n M pc L (.int y :: .int x :: st) := by
  subst hx
  subst hy
  exact r_icmp_gt X tgt ht d (fun q => kt ((nI_ltI hb ha).mp q)) (fun q => kf (Nat.not_lt.mp fun z => q ((nI_ltI hb ha).mpr z)))
theorem r_if_le (X : bkX E G own cc nL ret R) {x : Int32} {off : Int} (tgt : Nat) (ht : (pc : Int) + off = (tgt : Int)) (d : decode cc pc = .ok (.ifCond .le off, 3)) (kt : x ≤ 0 → bkV E G Z k n M tgt L st) (kf : ¬ x ≤ 0 → bkV E G Z k n M (pc + 3) L st) : bkV E G Z k n M pc L (.int x :: st) := fun H locs ls h1 h2 h3 h4 => lv_if_le X.1 X.2.1 d ht (fun q => kt q H locs ls h1 h2 h3 h4) (fun q => kf q H locs ls h1 h2 h3 h4)
theorem r_icmp_le (X : bkX E G own cc nL ret R) {x y : Int32} {off : Int} (tgt : Nat) (ht : (pc : Int) + off = (tgt : Int)) (d : decode cc pc = .ok (.if_icmp .le off, 3)) (kt : x ≤ y → bkV E G Z k n M tgt L st) (kf : ¬ x ≤ y → bkV E G Z k n M (pc + 3) L st) : bkV E G Z k n M pc L (.int y :: .int x :: st) := fun H locs ls h1 h2 h3 h4 => lv_icmp_le X.1 X.2.1 d ht (fun q => kt q H locs ls h1 h2 h3 h4) (fun q => kf q H locs ls h1 h2 h3 h4)
theorem r_icmpN_le (X : bkX E G own cc nL ret R) {x y : Int32} {off : Int} (tgt a b : Nat) (hx : x = nI a) (hy : y = nI b) (ha : a < 2 ^ 31) (hb : b < 2 ^ 31) (ht : (pc : Int) + off = (tgt : Int)) (d : decode cc pc = .ok (.if_icmp .le off, 3)) (kt : a ≤ b → bkV E G Z k n M tgt L st) (kf : b < a → bkV E G Z k n M (pc + 3) L st) : bkV E G Z k n M pc L (.int y :: .int x :: st) := by
  subst hx
  subst hy
  exact r_icmp_le X tgt ht d (fun q => kt ((nI_leI ha hb).mp q)) (fun q => kf (Nat.not_le.mp fun z => q ((nI_leI ha hb).mpr z)))
theorem r_goto (X : bkX E G own cc nL ret R) {off : Int} (tgt : Nat) (ht : (pc : Int) + off = (tgt : Int)) (d : decode cc pc = .ok (.goto off, 3)) (kk : bkV E G Z k n M tgt L st) : bkV E G Z k n M pc L st := fun H locs ls h1 h2 h3 h4 => lv_goto X.1 X.2.1 d ht (kk H locs ls h1 h2 h3 h4)
theorem r_tableIn (X : bkX E G own cc nL ret R) {dflt lo hi : Int} {offs : Array Int} {len : Nat} {x : Int32} {off : Int} (tgt : Nat) (h1 : ¬ x.toInt < lo) (h2 : ¬ hi < x.toInt) (ho : offs[(x.toInt - lo).toNat]? = some off) (ht : (pc : Int) + off = (tgt : Int)) (d : decode cc pc = .ok (.tableswitch dflt lo hi offs, len)) (kk : bkV E G Z k n M tgt L st) : bkV E G Z k n M pc L (.int x :: st) := fun H locs ls g1 g2 g3 g4 => lv_tableIn X.1 X.2.1 d h1 h2 ho ht (kk H locs ls g1 g2 g3 g4)
theorem r_tableOut (X : bkX E G own cc nL ret R) {dflt lo hi : Int} {offs : Array Int} {len : Nat} {x : Int32} (tgt : Nat) (h : x.toInt < lo ∨ hi < x.toInt) (ht : (pc : Int) + dflt = (tgt : Int)) (d : decode cc pc = .ok (.tableswitch dflt lo hi offs, len)) (kk : bkV E G Z k n M tgt L st) : bkV E G Z k n M pc L (.int x :: st) := fun H locs ls g1 g2 g3 g4 => lv_tableOut X.1 X.2.1 d h ht (kk H locs ls g1 g2 g3 g4)
theorem r_lookup (X : bkX E G own cc nL ret R) {dflt : Int} {ps : Array (Int × Int)} {len : Nat} {x : Int32} {off : Int} (tgt : Nat) (hp : (ps.toList.zip (ps.toList.drop 1)).all (fun (a, next) => a.1 < next.1) = true) (ho : Op.lookupswitch.offset ps.toList dflt x.toInt = off) (ht : (pc : Int) + off = (tgt : Int)) (d : decode cc pc = .ok (.lookupswitch dflt ps, len)) (kk : bkV E G Z k n M tgt L st) : bkV E G Z k n M pc L (.int x :: st) := fun H locs ls g1 g2 g3 g4 => lv_lookup X.1 X.2.1 d hp ho ht (kk H locs ls g1 g2 g3 g4)

/-! the heap -/
theorem bkP.one {a : Nat} {ev : va_E} {H : Heap} (h : bkP G M H) (hm : M a = some ev) : va_P G.1 vwCl [(a, ev)] H := by
  intro j q hj
  cases j with
  | zero => cases hj; exact (h.1 a ev hm).1
  | succ j => cases hj
theorem bkP.lt {a : Nat} {ev : va_E} {H : Heap} (h : bkP G M H) (hm : M a = some ev) : a < H.size := (h.1 a ev hm).1.lt
theorem bkP.inA {a : Nat} {ev : va_E} {H : Heap} (h : bkP G M H) (hm : M a = some ev) : bkA G a := (h.1 a ev hm).2
theorem bkP.put {a : Nat} {e0 e1 : va_E} {H H1 : Heap} (h : bkP G M H) (hm : M a = some e0) (he : va_at G.1 vwCl (a, e1) H1) (z : H1.size = H.size) (oq : ∀ q : Nat, q ≠ a → H1[q]? = H[q]?) : bkP G (bku M a e1) H1 := by
  refine ⟨fun b ev hb => ?_, by rw [z]; exact h.2⟩
  by_cases e : b = a
  · subst e
    rw [bku_at] at hb
    cases hb
    exact ⟨he, h.inA hm⟩
  · rw [bku_ne e] at hb
    exact ⟨(h.1 b ev hb).1.kept (oq b e), (h.1 b ev hb).2⟩
theorem bkP.add {a : Nat} {e1 : va_E} {H H1 : Heap} (h : bkP G M H) (ha : H.size = a) (he : va_at G.1 vwCl (a, e1) H1) (z : H1.size = a + 1) (oq : ∀ q : Nat, q < a → H1[q]? = H[q]?) : bkP G (bku M a e1) H1 := by
  refine ⟨fun b ev hb => ?_, by rw [z, ← ha]; exact Nat.le_succ_of_le h.2⟩
  by_cases e : b = a
  · subst e
    rw [bku_at] at hb
    cases hb
    exact ⟨he, by rw [← ha]; exact h.2⟩
  · rw [bku_ne e] at hb
    exact ⟨(h.1 b ev hb).1.kept (oq b (by rw [← ha]; exact h.lt hb)), (h.1 b ev hb).2⟩
theorem bkS_grow {H0 H H1 : Heap} {locs : List Loc} {a : Nat} (h : va_S (bkA G) H0 H locs) (ha : H.size = a) (z : H1.size = a + 1) (oq : ∀ q : Nat, q < a → H1[q]? = H[q]?) : va_S (bkA G) H0 H1 locs :=
  ⟨by rw [z, ← ha]; exact Nat.le_succ_of_le h.1, fun q h1 h2 => (oq q (by rw [← ha]; exact Nat.lt_of_lt_of_le h1 h.1)).trans (h.2.1 q h1 h2), h.2.2⟩
/-- the same cells, told otherwise -/
theorem bkV.ext {M2 : bkM} (h : ∀ a, M2 a = M a) (kk : bkV E G Z k n M2 pc L st) : bkV E G Z k n M pc L st := by
  have e : M2 = M := funext h
  rw [← e]
  exact kk
theorem bkV.sub {M2 : bkM} (h : ∀ a ev, M2 a = some ev → M a = some ev) (kk : bkV E G Z k n M2 pc L st) : bkV E G Z k n M pc L st :=
  fun H locs ls h1 h2 h3 h4 => kk H locs ls ⟨fun a ev hm => h1.1 a ev (h a ev hm), h1.2⟩ h2 h3 h4
theorem bkV.widen {k2 n2 : Nat} (h1 : k ≤ k2) (h2 : n ≤ n2) (kk : bkV E G Z k2 n2 M pc L st) : bkV E G Z k n M pc L st :=
  fun H locs ls g1 g2 g3 g4 => W.widen h1 h2 (kk H locs ls g1 g2 g3 g4)
abbrev aI (G : bkG) (N : Nat) (f : Nat → Int32) : va_E := .inl (G.2.1 0, N, .inl f)
abbrev aC (G : bkG) (N : Nat) (f : Nat → Int32) : va_E := .inl (G.2.1 1, N, .inl f)
abbrev aQ (G : bkG) (t N : Nat) (f : Nat → Option Nat) : va_E := .inl (G.2.1 t, N, .inr (.inr (.inr (.inr f))))
/-- an array's cells beyond its end don't count -/
theorem bk_arrV {cA : ClassId} {N : Nat} {f g : Nat → Value} (h : ∀ j, j < N → f j = g j) : arrV cA N f = arrV cA N g := by
  unfold arrV
  congr 1
  apply Array.ext
  · simp
  · intro i h1 h2
    simp at h1 ⊢
    exact h i h1
theorem bkV.extI {a N : Nat} {cA : ClassId} {f g : Nat → Int32} (hm : M a = some (.inl (cA, N, .inl f))) (h : ∀ j, j < N → f j = g j) (kk : bkV E G Z k n (bku M a (.inl (cA, N, .inl g))) pc L st) : bkV E G Z k n M pc L st := by
  intro H locs ls h1 h2 h3 h4
  refine kk H locs ls (h1.put hm ?_ rfl (fun _ _ => rfl)) h2 h3 h4
  have := (h1.1 a _ hm).1
  show H[a]? = some (vp_cell cA (N, .inl g))
  have e : vp_cell cA (N, .inl g) = vp_cell cA (N, .inl f) := by
    rw [vp_cell_i, vp_cell_i]
    exact bk_arrV fun j hj => by rw [h j hj]
  rw [e]
  exact this

theorem r_get (X : bkX E G own cc nL ret R) {a : Nat} {ci : Nat} {fs : List Value} (hm : M a = some (.inr (ci, fs))) {C : String} {T : u_T} {N : Nat} (hc : vwCl[ci]? = some (C, T, N)) (hin : ∀ w ∈ u_ws C T N, w ∈ bkTB) (f : Nat) (hf : f < N) {idx : Nat} (hl : Cond.fieldLink own idx (T f).1 (T f).2.1 (T f).2.2.1 ∈ bkTB) {v : Value} (hv : fs[f]? = some v) (d : decode cc pc = .ok (.getfield idx, 3)) (kk : bkV E G Z k n M (pc + 3) L (v :: st)) : bkV E G Z k n M pc L (.ref a :: st) := fun H locs ls h1 h2 h3 h4 =>
  va_get (D := G.1) (cl := vwCl) (ws := [(a, .inr (ci, fs))]) X.1 X.2.1 X.2.2.2.2.1 hin X.2.2.2.1 X.2.2.2.2.2.1.1 (h1.one hm) 0 rfl hc f hf (X.2.2.2.2.1 _ hl) (fun _ h9 => h9) hv d (kk H locs ls h1 h2 h3 h4)
theorem r_put (X : bkX E G own cc nL ret R) {a : Nat} {ci : Nat} {fs : List Value} (hm : M a = some (.inr (ci, fs))) {C : String} {T : u_T} {N : Nat} (hc : vwCl[ci]? = some (C, T, N)) (hin : ∀ w ∈ u_ws C T N, w ∈ bkTB) (ty0 : Nat → FieldType) (hty : ∀ k, k < N → parseFieldDescriptor (T k).2.2.1 = some (ty0 k)) (hnm : ∀ a, a < N → ∀ b, b < N → a ≠ b → (T a).2.1 ≠ (T b).2.1) (f : Nat) (hf : f < N) {idx : Nat} (hl : Cond.fieldLink own idx (T f).1 (T f).2.1 (T f).2.2.1 ∈ bkTB) (hfin : (T f).2.2.2 = false ∨ ((T f).2.2.2 = true ∧ (eT E).name = "<init>" ∧ (T f).1 = own)) {v : Value} (hn : narrow (ty0 f) v = v) (hfit : fits (ty0 f) v = true) (hlen : f < fs.length) (d : decode cc pc = .ok (.putfield idx, 3)) (kk : bkV E G Z k n (bku M a (.inr (ci, fs.set f v))) (pc + 3) L st) : bkV E G Z k n M pc L (v :: .ref a :: st) := by
  intro H locs ls h1 h2 h3 h4
  have hts := X.2.2.2.2.1
  have hown := X.2.2.2.1
  have hK := X.2.2.2.2.2.1.1
  have hap := va_apart (own := own) hts hin ty0 hty hnm hK hc
  obtain ⟨r, g1, cell, q1, q2, q3, q4⟩ := (h1.1 a _ hm).1
  have hr : r = (C, T, N) := Option.some.inj (g1.symm.trans hc)
  subst hr
  obtain ⟨hS, hfc, kC, hkC, hkind⟩ := hK.1 ci _ hc
  obtain ⟨cf, kf, fi, f0, hi, hsl⟩ := hS f hf
  have hst := (u_facts hfc hkC (u_lays hts hin hf) hi).1
  have hd := hty f hf
  have done : ∀ H' : Heap, H'[a]? = some (cell.setSlot f0.slot v) → H'.size = H.size → (∀ q, q ≠ a → H'[q]? = H[q]?) → bkW E H' (locs ++ [⟨a, f0.slot⟩]) k n (F0 (eM E) (pc + 3) ls st) := by
    intro H' e1 e2 e3
    rw [hsl] at e1
    refine kk H' _ ls (h1.put hm ⟨_, hc, t_OB.to (V := updV (vp_V fs) f v) ⟨_, e1, q2, q3, t_set q4 hap hf v⟩ (fun j _ => vp_updV_set hlen v j)⟩ e2 e3) (by rw [e2]; exact h2) (h3.put e2 e3 (h1.inA hm)) h4
  have hslot : f0.slot < cell.slots.size := by rw [hsl]; exact k2_hasslot (q4 f hf)
  rcases hfin with hfin | ⟨hfin, hin2, hdecl⟩
  · have hlay := hts _ (hin _ (u_in_lay hf))
    unfold u_lay at hlay
    rw [if_neg (by rw [hfin]; decide)] at hlay
    have h6 := u_store hfc hkC hkind hlay hi hd hn hfit
    exact W.putK X.1 X.2.1 (f := f0) ⟨hown, hts _ hl, ⟨_, _, _, hi⟩, hst⟩ (by rw [q2]; exact h6) q1 q3 hslot rfl rfl d done
  · have hlay := hts _ (hin _ (u_in_lay hf))
    unfold u_lay at hlay
    rw [if_pos hfin] at hlay
    have hcf : (eM E).cls = cf := by
      obtain ⟨_, _, c', _, _, _, -, -, hf', -, -, -, hown2, -⟩ := Cond.laysFinal_spec hlay
      have e1 : c' = cf := by have := hi.symm.trans hf'; simp at this; exact this.1.symm
      rw [hdecl] at hown2
      rw [← e1]; exact Option.some.inj (hown.symm.trans hown2)
    have h6 := u_fits hfc hkC hkind (Or.inr hlay) hi hd hn hfit
    exact W.putFinK X.1 X.2.1 hown (hts _ hl) hi hst hcf hin2 (by rw [q2]; exact h6) q1 q3 hslot rfl rfl d done
theorem bkX.ty {t : Nat} (X : bkX E G own cc nL ret R) {q : ClassId × FieldType} (ht : (bkT G)[t]? = some q) : ArrOfT (eS E) q.1 q.2 ∧ va_RA (eS E) q.1 q.2 := X.2.2.2.2.2.1.1.2 t q ht
theorem r_iald (X : bkX E G own cc nL ret R) {a N : Nat} {f : Nat → Int32} (hm : M a = some (aI G N f)) {i : Int32} (j : Nat) (hi : i = nI j) (hj : j < N) (hN : N < 2 ^ 31) (d : decode cc pc = .ok (.iaload, 1)) (kk : bkV E G Z k n M (pc + 1) L (.int (f j) :: st)) : bkV E G Z k n M pc L (.int i :: .ref a :: st) := by
  subst hi
  intro H locs ls h1 h2 h3 h4
  refine va_iald (D := G.1) (cl := vwCl) (tys := bkT G) X.1 X.2.1 X.2.2.2.2.2.1.1 (h1.one hm) 0 0 rfl rfl (vp_in_nI hj hN) d ?_
  rw [nI_clamp (Nat.lt_trans hj hN)]
  exact (kk H locs ls h1 h2 h3 h4)
theorem r_cald (X : bkX E G own cc nL ret R) {a N : Nat} {f : Nat → Int32} (hm : M a = some (aC G N f)) {i : Int32} (j : Nat) (hi : i = nI j) (hj : j < N) (hN : N < 2 ^ 31) (d : decode cc pc = .ok (.caload, 1)) (kk : bkV E G Z k n M (pc + 1) L (.int (f j) :: st)) : bkV E G Z k n M pc L (.int i :: .ref a :: st) := by
  subst hi
  intro H locs ls h1 h2 h3 h4
  refine va_cald (D := G.1) (cl := vwCl) (tys := bkT G) X.1 X.2.1 X.2.2.2.2.2.1.1 (h1.one hm) 0 1 rfl rfl (vp_in_nI hj hN) d ?_
  rw [nI_clamp (Nat.lt_trans hj hN)]
  exact (kk H locs ls h1 h2 h3 h4)
theorem r_aald (X : bkX E G own cc nL ret R) {a N t b : Nat} {ty : FieldType} {f : Nat → Option Nat} (hm : M a = some (aQ G t N f)) (ht : (bkT G)[t]? = some (G.2.1 t, ty)) (hr : ty.isReference = true) {i : Int32} (j : Nat) (hi : i = nI j) (hj : j < N) (hN : N < 2 ^ 31) (hb : f j = some b) (d : decode cc pc = .ok (.aaload, 1)) (kk : bkV E G Z k n M (pc + 1) L (.ref b :: st)) : bkV E G Z k n M pc L (.int i :: .ref a :: st) := by
  subst hi
  intro H locs ls h1 h2 h3 h4
  have hin := vp_in_nI hj hN
  refine W.aald (v := va_rf (f j)) (ty := ty) X.1 X.2.1 (h1.1 a _ hm).1 ((X.ty ht).1 N (fun j => va_rf (f j))) hr (fun q => by cases q) (by show ¬ (_ ∨ (arrV _ _ _).slots.size ≤ _); rw [arrV_size]; exact hin) (by rw [nI_clamp (Nat.lt_trans hj hN)]; show (arrV _ _ _).slots[_]? = _; rw [arrV_read _ _ hj]) rfl rfl d ?_
  rw [hb]
  exact (kk H locs ls h1 h2 h3 h4)
theorem r_alen (X : bkX E G own cc nL ret R) {a N t : Nat} {cA : ClassId} {x : (Nat → Int32) ⊕ (Nat → Int64) ⊕ (Nat → UInt32) ⊕ (Nat → UInt64) ⊕ (Nat → Option Nat)} {ty : FieldType} (hm : M a = some (.inl (cA, N, x))) (t : Nat) (ht : (bkT G)[t]? = some (cA, ty)) (d : decode cc pc = .ok (.arraylength, 1)) (kk : bkV E G Z k n M (pc + 1) L (.int (nI N) :: st)) : bkV E G Z k n M pc L (.ref a :: st) := fun H locs ls h1 h2 h3 h4 =>
  va_alen (D := G.1) (cl := vwCl) (tys := bkT G) X.1 X.2.1 X.2.2.2.2.2.1.1 (h1.one hm) 0 t rfl ht rfl d (kk H locs ls h1 h2 h3 h4)
theorem r_iast (X : bkX E G own cc nL ret R) {a N : Nat} {f : Nat → Int32} (hm : M a = some (aI G N f)) {i x : Int32} (j : Nat) (hi : i = nI j) (hj : j < N) (hN : N < 2 ^ 31) (d : decode cc pc = .ok (.iastore, 1)) (kk : bkV E G Z k n (bku M a (aI G N (upd f j x))) (pc + 1) L st) : bkV E G Z k n M pc L (.int x :: .int i :: .ref a :: st) := by
  subst hi
  intro H locs ls h1 h2 h3 h4
  refine W.iast X.1 X.2.1 (h1.1 a _ hm).1 ((X.ty (t := 0) rfl).1 N (fun j => .int (f j))) (fun q => by cases q) (by show ¬ (_ ∨ (arrV _ _ _).slots.size ≤ _); rw [arrV_size]; exact vp_in_nI hj hN) rfl rfl d fun H1 e z oq => ?_
  refine kk H1 _ ls (h1.put hm ?_ z oq) (by rw [z]; exact h2) (h3.put z oq (h1.inA hm)) h4
  show H1[a]? = some (vp_cell _ _)
  rw [e, vp_cell_i, vp_cell_i, arrV_store, nI_clamp (Nat.lt_trans hj hN)]
  congr 2
  funext q
  by_cases hq : q = j
  · subst hq
    simp [updV, upd]
  · simp [updV, upd, hq]
theorem r_cast (X : bkX E G own cc nL ret R) {a N : Nat} {f : Nat → Int32} (hm : M a = some (aC G N f)) {i x : Int32} (j : Nat) (hi : i = nI j) (hj : j < N) (hN : N < 2 ^ 31) (d : decode cc pc = .ok (.castore, 1)) (kk : bkV E G Z k n (bku M a (aC G N (upd f j (vp_nar .char x)))) (pc + 1) L st) : bkV E G Z k n M pc L (.int x :: .int i :: .ref a :: st) := by
  subst hi
  intro H locs ls h1 h2 h3 h4
  refine W.cast X.1 X.2.1 (h1.1 a _ hm).1 ((X.ty (t := 1) rfl).1 N (fun j => .int (f j))) (fun q => by cases q) (by show ¬ (_ ∨ (arrV _ _ _).slots.size ≤ _); rw [arrV_size]; exact vp_in_nI hj hN) rfl rfl d fun H1 e z oq => ?_
  refine kk H1 _ ls (h1.put hm ?_ z oq) (by rw [z]; exact h2) (h3.put z oq (h1.inA hm)) h4
  show H1[a]? = some (vp_cell _ _)
  rw [e, vp_cell_i, vp_cell_i, arrV_store, nI_clamp (Nat.lt_trans hj hN)]
  congr 2
  funext q
  by_cases hq : q = j
  · subst hq
    simp [updV, upd, vp_nar]
    try rfl
  · simp [updV, upd, hq]
theorem r_aast (X : bkX E G own cc nL ret R) {a N v t ci : Nat} {C : String} {T : u_T} {nf : Nat} {vs : List Value} {f : Nat → Option Nat} (hm : M a = some (aQ G t N f)) (ht : (bkT G)[t]? = some (G.2.1 t, .object C)) (hmv : M v = some (.inr (ci, vs))) (hc : vwCl[ci]? = some (C, T, nf)) {i : Int32} (j : Nat) (hi : i = nI j) (hj : j < N) (hN : N < 2 ^ 31) (d : decode cc pc = .ok (.aastore, 1)) (kk : bkV E G Z k n (bku M a (aQ G t N (va_up f j (some v)))) (pc + 1) L st) : bkV E G Z k n M pc L (.ref v :: .int i :: .ref a :: st) := by
  subst hi
  intro H locs ls h1 h2 h3 h4
  have hcl := nI_clamp (Nat.lt_trans hj hN)
  have h0 : ¬ nI j < 0 := nI_pos (Nat.lt_trans hj hN)
  obtain ⟨r', hr', cellV, g1, g2, g3, -⟩ := (h1.1 v _ hmv).1
  have hcls := (X.2.2.2.2.2.1.1.1 ci _ hc).2
  obtain ⟨kA, comp, k1, k2, k3, -⟩ := (X.ty ht).2
  have hcomp : comp = G.1.1 ci := Option.some.inj (k3.symm.trans hcls.1)
  subst hcomp
  obtain ⟨kC, hkC, -⟩ := hcls.2
  refine W.aast X.1 X.2.1 (h1.1 a _ hm).1 (fun q h => by cases h) (fun h => by cases h) k1 k2 rfl hkC ⟨h0, by rw [hcl]; show _ < (arrV _ _ _).slots.size; rw [arrV_size]; exact hj⟩ g1 (fun q h => by rw [g3] at h; cases h) (by rw [g2]; exact hkC) (by rw [g2]; exact va_assign hcls) rfl rfl d fun H1 e z oq => ?_
  refine kk H1 _ ls (h1.put hm ?_ z oq) (by rw [z]; exact h2) (h3.put z oq (h1.inA hm)) h4
  show H1[a]? = some (vp_cell _ _)
  rw [e, vp_cell_q, vp_cell_q, arrV_store, hcl]
  congr 2
  funext q
  by_cases hq : q = j
  · subst hq
    simp [updV, va_up, va_rf]
  · simp [updV, va_up, hq]

end BKR
end
section
theorem bk_good {w : Cond} (h : w ∈ bkTB) : w ∈ bkTB ∧ ((w.onTables && w.keeps) = true ∨ ∃ ty, w = .arrayClass ty) := ⟨h, good_of_word (List.mem_filter.mp h).2⟩
theorem bkN.same {u U : State} (h : u.vm = U.vm) (g : bkN u) : bkN U := by
  obtain ⟨⟨a1, a2, a3, a4, a5, a6⟩, ⟨b1, b2, b3⟩, ⟨c1, c2, c3, c4, c5, c6⟩⟩ := g
  have al : u.vm.Alike U.vm := by rw [h]; exact Vm.Alike.refl _
  exact ⟨⟨a1.same rfl h, a2.same rfl h, a3.same rfl h, a4.same rfl h, a5.same rfl h, a6.same rfl h⟩, ⟨b1.same rfl h, b2.same rfl h, b3.same rfl h⟩, ⟨c1.moved al, c2.moved al, c3.moved al, c4.moved al, c5.moved al, c6.moved al⟩⟩
theorem bk_blind {G : bkG} {Z : Nat → Prop} {M : bkM} {av : List Value} : FrameBlind (va_Pc av (bkH G Z M)) := by
  intro a U g mk h
  obtain ⟨e, hP, hZ, hK, hS, hN⟩ := h
  have al : U.vm.Alike (U.calling g mk a).vm := Vm.Alike.refl _
  exact ⟨e, hP, hZ, hK.moved al, ⟨hS.1.go al (fun _ _ _ => rfl), hS.2.1.go al (fun _ _ _ => rfl), hS.2.2.go al (fun _ _ _ => rfl)⟩, hN.same rfl⟩
section BKC
variable {E : bkEnv} {R : Room} {G : bkG} {Z : Nat → Prop} {k n : Nat} {M : bkM} {pc : Nat} {L : List (Option Value)} {st st0 : List Value} {own : String} {cc : ByteArray} {nL : Nat} {ret : Option FieldType}
theorem bkX.pre (X : bkX E G own cc nL ret R) {H : Heap} {locs : List Loc} (h1 : bkP G M H) (h2 : Z H.size) (h3 : va_S (bkA G) (eS E).heap H locs) {U : State} (hU : U.heap = H) (hW : (eS E).WarmedH U.vm) : bkH G Z M U :=
  ⟨by rw [hU]; exact h1, by rw [hU]; exact h2, X.2.2.2.2.2.1.go hW (fun a g1 g2 => by rw [hU]; exact h3.2.1 a g1 g2)⟩
variable {y : MethodName} {code : ByteArray} {nL' h' mc ms idx : Nat} {ret' : Option FieldType} {Z' : Nat → Prop} {b : Nat} {as : List Value}
def bk_dsc (y : MethodName) (j : Nat) : Prop := y.cls ≠ "java/lang/invoke/MethodHandle" ∧ y.cls ≠ "java/lang/invoke/VarHandle" ∧ (parseMethodDescriptor y.desc).map (fun d => d.parameters.length) = some j
def bk_fit (R : Room) (nL' h' k n mc ms : Nat) : Prop := (h' + 1 ≤ R.frames ∧ 8 + (nL' + 11) + 39 * h' ≤ R.locals) ∧ k + mc ≤ R.cells ∧ n + ms ≤ R.slots
theorem bk_gV (hl : Cond.methodLink own idx y ∈ bkTB) (hi : Cond.instanceMethod y ∈ bkTB) (hs : Cond.selects y.cls y y ∈ bkTB) (hini : Cond.initialized y.cls ∈ bkTB) (hcd : Cond.code y code nL' ret' ∈ bkTB) : GoodIn bkTB (wsV own idx y.cls y (.code y code nL' ret' :: bkTB)) := by
  intro w hw
  unfold wsV at hw
  rcases List.mem_append.mp hw with h | h
  · simp only [List.mem_cons, List.not_mem_nil, or_false] at h
    rcases h with rfl | rfl | rfl | rfl
    · exact bk_good hl
    · exact bk_good hi
    · exact bk_good hs
    · exact bk_good hini
  · rcases List.mem_cons.mp h with rfl | h
    · exact bk_good hcd
    · exact bk_good h
theorem bk_gS (hl : Cond.methodLink own idx y ∈ bkTB) (hi : Cond.static y ∈ bkTB) (hini : Cond.initialized y.cls ∈ bkTB) (hcd : Cond.code y code nL' ret' ∈ bkTB) : GoodIn bkTB (va_wsS own idx y (.code y code nL' ret' :: bkTB)) := by
  intro w hw
  unfold va_wsS at hw
  rcases List.mem_append.mp hw with h | h
  · simp only [List.mem_cons, List.not_mem_nil, or_false] at h
    rcases h with rfl | rfl | rfl
    · exact bk_good hl
    · exact bk_good hi
    · exact bk_good hini
  · rcases List.mem_cons.mp h with rfl | h
    · exact bk_good hcd
    · exact bk_good h
theorem bk_gC (hcd : Cond.code y code nL' ret' ∈ bkTB) : GoodIn bkTB (.code y code nL' ret' :: bkTB) := by
  intro w h
  rcases List.mem_cons.mp h with rfl | h
  · exact bk_good hcd
  · exact bk_good h

theorem r_callVi (X : bkX E G own cc nL ret R) {post : Int32 → bkM → Prop} (C : bkCi G Z Z' y code nL' ret' h' mc ms (.ref b :: as) M post) {ci : Nat} {fs : List Value} (hm : M b = some (.inr (ci, fs))) {q : vw_C} (hq : vwCl[ci]? = some q) (hqc : q.1 = y.cls) (hl : Cond.methodLink own idx y ∈ bkTB) (hi : Cond.instanceMethod y ∈ bkTB) (hs : Cond.selects y.cls y y ∈ bkTB) (hini : Cond.initialized y.cls ∈ bkTB) (hcd : Cond.code y code nL' ret' ∈ bkTB) (hd : bk_dsc y as.length) (hR : bk_fit R nL' h' k n mc ms) (hcat : (st.map fun v => v.category).sum ≤ 8) (hlen : L.length = nL) (hst : st0 = as.reverse ++ .ref b :: st) (d : decode cc pc = .ok (.invokevirtual idx, 3)) (kk : ∀ (r : Int32) (M' : bkM), post r M' → bkV E G Z' (k + mc) (n + ms) M' (pc + 3) L (.int r :: st)) : bkV E G Z k n M pc L st0 := by
  subst hst
  intro H locs ls h1 h2 h3 h4
  have hrun := va_runV (p := eP E) (l := eL E) (e := eE E) (R := eR E) (s := eS E) (m := eM E) (args := eA E) (below := eB E) (meth := eT E) (c := eC E) (H := H) (locs := locs) (cells := k) (slots := n) (As := as) (rest := st) (g := F0 (eM E) pc ls (as.reverse ++ .ref b :: st)) (ws := .code y code nL' ret' :: bkTB) (C := y.cls) ⟨X.1, X.2.1, X.2.2.1, X.2.2.2.1, X.2.2.2.2.1⟩ (C (eL E)) (cwV as.length X.2.2.2.2.1 (bk_gV hl hi hs hini hcd) rfl rfl rfl ⟨rfl, hd⟩ (by rw [X.rm]; exact hR.1)) ⟨bk_blind, by rw [← hqc]; exact va_recv (q0 := 0) X.2.2.2.2.2.1.1 (h1.one hm) hq rfl, fun U hU hW => ⟨rfl, X.pre h1 h2 h3 hU hW⟩⟩ rfl rfl (h4.1.trans hlen) rfl (lv_room hcat) d (by rw [X.rm]; exact hR.2)
  exact va_calli hrun h3 (fun q _ h => h) (fun q h => h) (fun r u t H1 locs1 ht hvm hw hB hz hk hS => kk r u hw H1 locs1 ls (by rw [← ht]; exact hB.1) (by rw [← ht]; exact hB.2.1) hS h4)
theorem r_callSi (X : bkX E G own cc nL ret R) {post : Int32 → bkM → Prop} (C : bkCi G Z Z' y code nL' ret' h' mc ms as M post) (hl : Cond.methodLink own idx y ∈ bkTB) (hi : Cond.static y ∈ bkTB) (hini : Cond.initialized y.cls ∈ bkTB) (hcd : Cond.code y code nL' ret' ∈ bkTB) (hd : bk_dsc y as.length) (hR : bk_fit R nL' h' k n mc ms) (hcat : (st.map fun v => v.category).sum ≤ 8) (hlen : L.length = nL) (hst : st0 = as.reverse ++ st) (d : decode cc pc = .ok (.invokestatic idx, 3)) (kk : ∀ (r : Int32) (M' : bkM), post r M' → bkV E G Z' (k + mc) (n + ms) M' (pc + 3) L (.int r :: st)) : bkV E G Z k n M pc L st0 := by
  subst hst
  intro H locs ls h1 h2 h3 h4
  have hrun := va_runS (p := eP E) (l := eL E) (e := eE E) (R := eR E) (s := eS E) (m := eM E) (args := eA E) (below := eB E) (meth := eT E) (c := eC E) (H := H) (locs := locs) (cells := k) (slots := n) (As := as) (rest := st) (g := F0 (eM E) pc ls (as.reverse ++ st)) (ws := .code y code nL' ret' :: bkTB) ⟨X.1, X.2.1, X.2.2.1, X.2.2.2.1, X.2.2.2.2.1⟩ (C (eL E)) (va_cwS as.length X.2.2.2.2.1 (bk_gS hl hi hini hcd) rfl rfl rfl hd (by rw [X.rm]; exact hR.1)) ⟨bk_blind, fun U hU hW => ⟨rfl, X.pre h1 h2 h3 hU hW⟩⟩ rfl rfl (h4.1.trans hlen) rfl (lv_room hcat) d (by rw [X.rm]; exact hR.2)
  exact va_calli hrun h3 (fun q _ h => h) (fun q h => h) (fun r u t H1 locs1 ht hvm hw hB hz hk hS => kk r u hw H1 locs1 ls (by rw [← ht]; exact hB.1) (by rw [← ht]; exact hB.2.1) hS h4)
theorem r_callSNi (X : bkX E G own cc nL ret R) {host : String} {post : Int32 → bkM → Prop} (C : bkCi G Z Z' y code nL' ret' h' mc ms as M post) (hl : va_Nw (.methodLinkNest own idx y host) (eS E)) (hi : Cond.static y ∈ bkTB) (hini : Cond.initialized y.cls ∈ bkTB) (hcd : Cond.code y code nL' ret' ∈ bkTB) (hd : bk_dsc y as.length) (hR : bk_fit R nL' h' k n mc ms) (hcat : (st.map fun v => v.category).sum ≤ 8) (hlen : L.length = nL) (hst : st0 = as.reverse ++ st) (d : decode cc pc = .ok (.invokestatic idx, 3)) (kk : ∀ (r : Int32) (M' : bkM), post r M' → bkV E G Z' (k + mc) (n + ms) M' (pc + 3) L (.int r :: st)) : bkV E G Z k n M pc L st0 := by
  subst hst
  intro H locs ls h1 h2 h3 h4
  have hrun := va_runSN (p := eP E) (l := eL E) (e := eE E) (R := eR E) (s := eS E) (m := eM E) (args := eA E) (below := eB E) (meth := eT E) (c := eC E) (H := H) (locs := locs) (cells := k) (slots := n) (As := as) (rest := st) (g := F0 (eM E) pc ls (as.reverse ++ st)) (ws := .code y code nL' ret' :: bkTB) ⟨X.1, X.2.1, X.2.2.1, X.2.2.2.1, X.2.2.2.2.1⟩ (C (eL E)) ⟨va_cnB as.length X.2.2.2.2.1 (bk_gC hcd) rfl rfl rfl hl (X.2.2.2.2.1 _ hini) hd (by rw [X.rm]; exact hR.1), X.2.2.2.2.1 _ hi, trivial⟩ ⟨bk_blind, fun U hU hW => ⟨rfl, X.pre h1 h2 h3 hU hW⟩⟩ rfl rfl (h4.1.trans hlen) rfl (lv_room hcat) d (by rw [X.rm]; exact hR.2)
  exact va_calli hrun h3 (fun q _ h => h) (fun q h => h) (fun r u t H1 locs1 ht hvm hw hB hz hk hS => kk r u hw H1 locs1 ls (by rw [← ht]; exact hB.1) (by rw [← ht]; exact hB.2.1) hS h4)
theorem r_callVv (X : bkX E G own cc nL ret R) {post : bkM → Prop} (C : bkCv G Z Z' y code nL' h' mc ms (.ref b :: as) M post) {ci : Nat} {fs : List Value} (hm : M b = some (.inr (ci, fs))) {q : vw_C} (hq : vwCl[ci]? = some q) (hqc : q.1 = y.cls) (hl : Cond.methodLink own idx y ∈ bkTB) (hi : Cond.instanceMethod y ∈ bkTB) (hs : Cond.selects y.cls y y ∈ bkTB) (hini : Cond.initialized y.cls ∈ bkTB) (hcd : Cond.code y code nL' none ∈ bkTB) (hd : bk_dsc y as.length) (hR : bk_fit R nL' h' k n mc ms) (hcat : (st.map fun v => v.category).sum ≤ 8) (hlen : L.length = nL) (hst : st0 = as.reverse ++ .ref b :: st) (d : decode cc pc = .ok (.invokevirtual idx, 3)) (kk : ∀ (M' : bkM), post M' → bkV E G Z' (k + mc) (n + ms) M' (pc + 3) L st) : bkV E G Z k n M pc L st0 := by
  subst hst
  intro H locs ls h1 h2 h3 h4
  have hrun := va_runV (p := eP E) (l := eL E) (e := eE E) (R := eR E) (s := eS E) (m := eM E) (args := eA E) (below := eB E) (meth := eT E) (c := eC E) (H := H) (locs := locs) (cells := k) (slots := n) (As := as) (rest := st) (g := F0 (eM E) pc ls (as.reverse ++ .ref b :: st)) (ws := .code y code nL' none :: bkTB) (C := y.cls) ⟨X.1, X.2.1, X.2.2.1, X.2.2.2.1, X.2.2.2.2.1⟩ (C (eL E)) (cwV as.length X.2.2.2.2.1 (bk_gV hl hi hs hini hcd) rfl rfl rfl ⟨rfl, hd⟩ (by rw [X.rm]; exact hR.1)) ⟨bk_blind, by rw [← hqc]; exact va_recv (q0 := 0) X.2.2.2.2.2.1.1 (h1.one hm) hq rfl, fun U hU hW => ⟨rfl, X.pre h1 h2 h3 hU hW⟩⟩ rfl rfl (h4.1.trans hlen) rfl (lv_room hcat) d (by rw [X.rm]; exact hR.2)
  exact va_callv hrun h3 (fun q _ h => h) (fun q h => h) (fun u t H1 locs1 ht hvm hw hB hz hk hS => kk u hw H1 locs1 ls (by rw [← ht]; exact hB.1) (by rw [← ht]; exact hB.2.1) hS h4)
theorem r_callSv (X : bkX E G own cc nL ret R) {post : bkM → Prop} (C : bkCv G Z Z' y code nL' h' mc ms as M post) (hl : Cond.methodLink own idx y ∈ bkTB) (hi : Cond.static y ∈ bkTB) (hini : Cond.initialized y.cls ∈ bkTB) (hcd : Cond.code y code nL' none ∈ bkTB) (hd : bk_dsc y as.length) (hR : bk_fit R nL' h' k n mc ms) (hcat : (st.map fun v => v.category).sum ≤ 8) (hlen : L.length = nL) (hst : st0 = as.reverse ++ st) (d : decode cc pc = .ok (.invokestatic idx, 3)) (kk : ∀ (M' : bkM), post M' → bkV E G Z' (k + mc) (n + ms) M' (pc + 3) L st) : bkV E G Z k n M pc L st0 := by
  subst hst
  intro H locs ls h1 h2 h3 h4
  have hrun := va_runS (p := eP E) (l := eL E) (e := eE E) (R := eR E) (s := eS E) (m := eM E) (args := eA E) (below := eB E) (meth := eT E) (c := eC E) (H := H) (locs := locs) (cells := k) (slots := n) (As := as) (rest := st) (g := F0 (eM E) pc ls (as.reverse ++ st)) (ws := .code y code nL' none :: bkTB) ⟨X.1, X.2.1, X.2.2.1, X.2.2.2.1, X.2.2.2.2.1⟩ (C (eL E)) (va_cwS as.length X.2.2.2.2.1 (bk_gS hl hi hini hcd) rfl rfl rfl hd (by rw [X.rm]; exact hR.1)) ⟨bk_blind, fun U hU hW => ⟨rfl, X.pre h1 h2 h3 hU hW⟩⟩ rfl rfl (h4.1.trans hlen) rfl (lv_room hcat) d (by rw [X.rm]; exact hR.2)
  exact va_callv hrun h3 (fun q _ h => h) (fun q h => h) (fun u t H1 locs1 ht hvm hw hB hz hk hS => kk u hw H1 locs1 ls (by rw [← ht]; exact hB.1) (by rw [← ht]; exact hB.2.1) hS h4)
theorem r_callI (X : bkX E G own cc nL ret R) {post : bkM → Prop} (C : bkCv G Z Z' y code nL' h' mc ms (.ref b :: as) M post) (hnm : y.name = "<init>") (hl : Cond.methodLink own idx y ∈ bkTB) (hi : Cond.instanceMethod y ∈ bkTB) (hini : Cond.initialized y.cls ∈ bkTB) (hcd : Cond.code y code nL' none ∈ bkTB) (hd : bk_dsc y as.length) (hR : bk_fit R nL' h' k n mc ms) (hcat : (st.map fun v => v.category).sum ≤ 8) (hlen : L.length = nL) (hst : st0 = as.reverse ++ .ref b :: st) (d : decode cc pc = .ok (.invokespecial idx, 3)) (kk : ∀ (M' : bkM), post M' → bkV E G Z' (k + mc) (n + ms) M' (pc + 3) L st) : bkV E G Z k n M pc L st0 := by
  subst hst
  intro H locs ls h1 h2 h3 h4
  have hrun := va_runI (p := eP E) (l := eL E) (e := eE E) (R := eR E) (s := eS E) (m := eM E) (args := eA E) (below := eB E) (meth := eT E) (c := eC E) (H := H) (locs := locs) (cells := k) (slots := n) (As := as) (rest := st) (g := F0 (eM E) pc ls (as.reverse ++ .ref b :: st)) (ws := .code y code nL' none :: bkTB) ⟨X.1, X.2.1, X.2.2.1, X.2.2.2.1, X.2.2.2.2.1⟩ (C (eL E)) (cwI as.length X.2.2.2.2.1 (bk_gC hcd) rfl rfl rfl (X.2.2.2.2.1 _ hini) (X.2.2.2.2.1 _ hl) (X.2.2.2.2.1 _ hi) hnm hd (by rw [X.rm]; exact hR.1)) ⟨bk_blind, fun U hU hW => ⟨rfl, X.pre h1 h2 h3 hU hW⟩⟩ rfl rfl (h4.1.trans hlen) rfl (lv_room hcat) d (by rw [X.rm]; exact hR.2)
  exact va_callv hrun h3 (fun q _ h => h) (fun q h => h) (fun u t H1 locs1 ht hvm hw hB hz hk hS => kk u hw H1 locs1 ls (by rw [← ht]; exact hB.1) (by rw [← ht]; exact hB.2.1) hS h4)
theorem r_callIN (X : bkX E G own cc nL ret R) {host : String} {post : bkM → Prop} (C : bkCv G Z Z' y code nL' h' mc ms (.ref b :: as) M post) (hnm : y.name = "<init>") (hl : va_Nw (.methodLinkNest own idx y host) (eS E)) (hi : Cond.instanceMethod y ∈ bkTB) (hini : Cond.initialized y.cls ∈ bkTB) (hcd : Cond.code y code nL' none ∈ bkTB) (hd : bk_dsc y as.length) (hR : bk_fit R nL' h' k n mc ms) (hcat : (st.map fun v => v.category).sum ≤ 8) (hlen : L.length = nL) (hst : st0 = as.reverse ++ .ref b :: st) (d : decode cc pc = .ok (.invokespecial idx, 3)) (kk : ∀ (M' : bkM), post M' → bkV E G Z' (k + mc) (n + ms) M' (pc + 3) L st) : bkV E G Z k n M pc L st0 := by
  subst hst
  intro H locs ls h1 h2 h3 h4
  have hrun := va_runIN (p := eP E) (l := eL E) (e := eE E) (R := eR E) (s := eS E) (m := eM E) (args := eA E) (below := eB E) (meth := eT E) (c := eC E) (H := H) (locs := locs) (cells := k) (slots := n) (As := as) (rest := st) (g := F0 (eM E) pc ls (as.reverse ++ .ref b :: st)) (ws := .code y code nL' none :: bkTB) ⟨X.1, X.2.1, X.2.2.1, X.2.2.2.1, X.2.2.2.2.1⟩ (C (eL E)) ⟨va_cnB as.length X.2.2.2.2.1 (bk_gC hcd) rfl rfl rfl hl (X.2.2.2.2.1 _ hini) hd (by rw [X.rm]; exact hR.1), hnm, X.2.2.2.2.1 _ hi⟩ ⟨bk_blind, fun U hU hW => ⟨rfl, X.pre h1 h2 h3 hU hW⟩⟩ rfl rfl (h4.1.trans hlen) rfl (lv_room hcat) d (by rw [X.rm]; exact hR.2)
  exact va_callv hrun h3 (fun q _ h => h) (fun q h => h) (fun u t H1 locs1 ht hvm hw hB hz hk hS => kk u hw H1 locs1 ls (by rw [← ht]; exact hB.1) (by rw [← ht]; exact hB.2.1) hS h4)
theorem r_callVf (X : bkX E G own cc nL ret R) {post : UInt32 → bkM → Prop} (C : bkCf G Z Z' y code nL' h' mc ms (.ref b :: as) M post) {ci : Nat} {fs : List Value} (hm : M b = some (.inr (ci, fs))) {q : vw_C} (hq : vwCl[ci]? = some q) (hqc : q.1 = y.cls) (hl : Cond.methodLink own idx y ∈ bkTB) (hi : Cond.instanceMethod y ∈ bkTB) (hs : Cond.selects y.cls y y ∈ bkTB) (hini : Cond.initialized y.cls ∈ bkTB) (hcd : Cond.code y code nL' (some .float) ∈ bkTB) (hd : bk_dsc y as.length) (hR : bk_fit R nL' h' k n mc ms) (hcat : (st.map fun v => v.category).sum ≤ 8) (hlen : L.length = nL) (hst : st0 = as.reverse ++ .ref b :: st) (d : decode cc pc = .ok (.invokevirtual idx, 3)) (kk : ∀ (r : UInt32) (M' : bkM), post r M' → bkV E G Z' (k + mc) (n + ms) M' (pc + 3) L (.float r :: st)) : bkV E G Z k n M pc L st0 := by
  subst hst
  intro H locs ls h1 h2 h3 h4
  have hrun := va_runV (p := eP E) (l := eL E) (e := eE E) (R := eR E) (s := eS E) (m := eM E) (args := eA E) (below := eB E) (meth := eT E) (c := eC E) (H := H) (locs := locs) (cells := k) (slots := n) (As := as) (rest := st) (g := F0 (eM E) pc ls (as.reverse ++ .ref b :: st)) (ws := .code y code nL' (some .float) :: bkTB) (C := y.cls) ⟨X.1, X.2.1, X.2.2.1, X.2.2.2.1, X.2.2.2.2.1⟩ (C (eL E)) (cwV as.length X.2.2.2.2.1 (bk_gV hl hi hs hini hcd) rfl rfl rfl ⟨rfl, hd⟩ (by rw [X.rm]; exact hR.1)) ⟨bk_blind, by rw [← hqc]; exact va_recv (q0 := 0) X.2.2.2.2.2.1.1 (h1.one hm) hq rfl, fun U hU hW => ⟨rfl, X.pre h1 h2 h3 hU hW⟩⟩ rfl rfl (h4.1.trans hlen) rfl (lv_room hcat) d (by rw [X.rm]; exact hR.2)
  exact va_callf hrun h3 (fun q _ h => h) (fun q h => h) (fun r u t H1 locs1 ht hvm hw hB hz hk hS => kk r u hw H1 locs1 ls (by rw [← ht]; exact hB.1) (by rw [← ht]; exact hB.2.1) hS h4)

/-! ends -/
theorem r_iret {post : Int32 → bkM → Prop} (X : bkX E G own cc nL (some .int) R) (hQ : eQ E = MQ (eB E) (va_Qi post (bkH G Z) (bkA G)) (eA E) (eS E) k n (bkA G)) {v : Int32} (d : decode cc pc = .ok (.ireturn, 1)) (hp : post v M) : bkV E G Z k n M pc L [.int v] := fun H locs ls h1 h2 h3 h4 => by
  unfold bkW
  rw [hQ]
  exact W.iret X.1 X.2.1 X.2.2.2.2.2.2.1 (fun t ht hW => ⟨⟨v, M, rfl, hp, X.pre h1 h2 h3 ht hW⟩, h3.F ht⟩) h3.2.2 d X.2.2.2.2.2.2.2.1
theorem r_zret {post : Int32 → bkM → Prop} (X : bkX E G own cc nL (some .boolean) R) (hQ : eQ E = MQ (eB E) (va_Qi post (bkH G Z) (bkA G)) (eA E) (eS E) k n (bkA G)) {v : Int32} (d : decode cc pc = .ok (.ireturn, 1)) (hb : v = 0 ∨ v = 1) (hp : post v M) : bkV E G Z k n M pc L [.int v] := fun H locs ls h1 h2 h3 h4 => by
  unfold bkW
  rw [hQ]
  exact W.zret X.1 X.2.1 X.2.2.2.2.2.2.1 (by rcases hb with rfl | rfl <;> rfl) (fun t ht hW => ⟨⟨v, M, rfl, hp, X.pre h1 h2 h3 ht hW⟩, h3.F ht⟩) h3.2.2 d X.2.2.2.2.2.2.2.1
theorem r_vret {post : bkM → Prop} (X : bkX E G own cc nL none R) (hQ : eQ E = MQ (eB E) (va_Qv post (bkH G Z) (bkA G)) (eA E) (eS E) k n (bkA G)) (d : decode cc pc = .ok (.return_, 1)) (hp : post M) : bkV E G Z k n M pc L [] := fun H locs ls h1 h2 h3 h4 => by
  unfold bkW
  rw [hQ]
  exact W.vret X.1 X.2.1 X.2.2.2.2.2.2.1 (fun t ht hW => ⟨⟨M, rfl, hp, X.pre h1 h2 h3 ht hW⟩, h3.F ht⟩) h3.2.2 d X.2.2.2.2.2.2.2.1
theorem r_fret {post : UInt32 → bkM → Prop} (X : bkX E G own cc nL (some .float) R) (hQ : eQ E = MQ (eB E) (va_Qf post (bkH G Z) (bkA G)) (eA E) (eS E) k n (bkA G)) {v : UInt32} (d : decode cc pc = .ok (.freturn, 1)) (hp : post v M) : bkV E G Z k n M pc L [.float v] := fun H locs ls h1 h2 h3 h4 => by
  unfold bkW
  rw [hQ]
  exact W.fret X.1 X.2.1 X.2.2.2.2.2.2.1 (fun t ht hW => ⟨⟨v, M, rfl, hp, X.pre h1 h2 h3 ht hW⟩, h3.F ht⟩) h3.2.2 d X.2.2.2.2.2.2.2.1
end BKC
section BKM
variable {G : bkG} {Z Z' : Nat → Prop} {y : MethodName} {code : ByteArray} {nL h mc ms : Nat} {av : List Value} {M : bkM}
theorem bk_meti {post : Int32 → bkM → Prop} (L : List (Option Value)) (hL : bkE av nL = L) (hy : plainName y.cls = true) (hc : av.all (fun v => v.category == 1) = true) (ha : Nat.ble av.length nL = true)
    (body : ∀ E : bkEnv, bkX E G y.cls code nL (some .int) (bkR h mc ms) → (∀ {M' : bkM} {v : Int32} {pc : Nat} {L' : List (Option Value)}, decode code pc = .ok (.ireturn, 1) → post v M' → bkV E G Z' mc ms M' pc L' [.int v]) → bkV E G Z 0 0 M 0 L []) : bkCi G Z Z' y code nL (some .int) h mc ms av M post :=
  bk_met L hL hy hc ha fun E X hn hQ => body E X fun d hp => r_iret X hQ d hp
theorem bk_metz {post : Int32 → bkM → Prop} (L : List (Option Value)) (hL : bkE av nL = L) (hy : plainName y.cls = true) (hc : av.all (fun v => v.category == 1) = true) (ha : Nat.ble av.length nL = true)
    (body : ∀ E : bkEnv, bkX E G y.cls code nL (some .boolean) (bkR h mc ms) → (∀ {M' : bkM} {v : Int32} {pc : Nat} {L' : List (Option Value)}, decode code pc = .ok (.ireturn, 1) → v = 0 ∨ v = 1 → post v M' → bkV E G Z' mc ms M' pc L' [.int v]) → bkV E G Z 0 0 M 0 L []) : bkCi G Z Z' y code nL (some .boolean) h mc ms av M post :=
  bk_met L hL hy hc ha fun E X hn hQ => body E X fun d hb hp => r_zret X hQ d hb hp
theorem bk_metv {post : bkM → Prop} (L : List (Option Value)) (hL : bkE av nL = L) (hy : plainName y.cls = true) (hc : av.all (fun v => v.category == 1) = true) (ha : Nat.ble av.length nL = true)
    (body : ∀ E : bkEnv, bkX E G y.cls code nL none (bkR h mc ms) → (eT E).name = y.name → (∀ {M' : bkM} {pc : Nat} {L' : List (Option Value)}, decode code pc = .ok (.return_, 1) → post M' → bkV E G Z' mc ms M' pc L' []) → bkV E G Z 0 0 M 0 L []) : bkCv G Z Z' y code nL h mc ms av M post :=
  bk_met L hL hy hc ha fun E X hn hQ => body E X hn fun d hp => r_vret X hQ d hp
theorem bk_metf {post : UInt32 → bkM → Prop} (L : List (Option Value)) (hL : bkE av nL = L) (hy : plainName y.cls = true) (hc : av.all (fun v => v.category == 1) = true) (ha : Nat.ble av.length nL = true)
    (body : ∀ E : bkEnv, bkX E G y.cls code nL (some .float) (bkR h mc ms) → (∀ {M' : bkM} {v : UInt32} {pc : Nat} {L' : List (Option Value)}, decode code pc = .ok (.freturn, 1) → post v M' → bkV E G Z' mc ms M' pc L' [.float v]) → bkV E G Z 0 0 M 0 L []) : bkCf G Z Z' y code nL h mc ms av M post :=
  bk_met L hL hy hc ha fun E X hn hQ => body E X fun d hp => r_fret X hQ d hp
end BKM
section BKD
variable {E : bkEnv} {R : Room} {G : bkG} {Z : Nat → Prop} {k n : Nat} {M : bkM} {pc idx : Nat} {L : List (Option Value)} {st st0 : List Value} {own : String} {cc : ByteArray} {nL : Nat} {ret : Option FieldType}


/-! static arrays, making, copying -/
theorem bkX.sta {i : Nat} (X : bkX E G own cc nL ret R) {nm : String} {f : Nat → Int32} (h : bkS G (eS E) (eS E).heap → bkS1 G nm i f (eS E) (eS E).heap) : bkS1 G nm i f (eS E) (eS E).heap := h X.2.2.2.2.2.1.2.1
theorem r_gets (X : bkX E G own cc nL ret R) {i : Nat} {nm : String} {f : Nat → Int32} (h : bkS G (eS E) (eS E).heap → bkS1 G nm i f (eS E) (eS E).heap) (hl : Cond.fieldLink own idx RX8 nm "[I" ∈ bkTB) (d : decode cc pc = .ok (.getstatic idx, 3)) (kk : bkV E G Z k n M (pc + 3) L (.ref (G.2.2.2 i) :: st)) : bkV E G Z k n M pc L st := fun H locs ls h1 h2 h3 h4 =>
  va_gets X.1 X.2.1 (X.sta h).1 h3 X.2.2.2.1 (X.2.2.2.2.1 _ hl) (fun _ h9 => h9) d (kk H locs ls h1 h2 h3 h4)
theorem r_getsN (X : bkX E G own cc nL ret R) {i : Nat} {nm host : String} {f : Nat → Int32} (h : bkS G (eS E) (eS E).heap → bkS1 G nm i f (eS E) (eS E).heap) (hl : va_Nw (.fieldLinkNest own idx RX8 nm "[I" host) (eS E)) (d : decode cc pc = .ok (.getstatic idx, 3)) (kk : bkV E G Z k n M (pc + 3) L (.ref (G.2.2.2 i) :: st)) : bkV E G Z k n M pc L st := fun H locs ls h1 h2 h3 h4 =>
  va_getsN X.1 X.2.1 (X.sta h).1 h3 X.2.2.2.1 (hl.use rfl) (fun _ h9 => h9) d (kk H locs ls h1 h2 h3 h4)
theorem r_ialdS (X : bkX E G own cc nL ret R) {t : Nat} {nm : String} {f : Nat → Int32} (h : bkS G (eS E) (eS E).heap → bkS1 G nm t f (eS E) (eS E).heap) {i : Int32} (j : Nat) (hi : i = nI j) (hj : j < 4) (d : decode cc pc = .ok (.iaload, 1)) (kk : bkV E G Z k n M (pc + 1) L (.int (f j) :: st)) : bkV E G Z k n M pc L (.int i :: .ref (G.2.2.2 t) :: st) := fun H locs ls h1 h2 h3 h4 =>
  va_ti X.1 X.2.1 (X.sta h).2 h3 (by rw [hi]; exact vp_in_nI hj (by decide)) (by rw [hi, nI_clamp (Nat.lt_trans hj (by decide))]) d (kk H locs ls h1 h2 h3 h4)
theorem r_alenS (X : bkX E G own cc nL ret R) {t : Nat} {nm : String} {f : Nat → Int32} (h : bkS G (eS E) (eS E).heap → bkS1 G nm t f (eS E) (eS E).heap) (d : decode cc pc = .ok (.arraylength, 1)) (kk : bkV E G Z k n M (pc + 1) L (.int 4 :: st)) : bkV E G Z k n M pc L (.ref (G.2.2.2 t) :: st) := fun H locs ls h1 h2 h3 h4 =>
  va_tlen X.1 X.2.1 (X.sta h).2 h3 rfl d (kk H locs ls h1 h2 h3 h4)
theorem r_objInit (X : bkX E G own cc nL ret R) {a : Nat} (hl : Cond.methodLink own idx objectInit ∈ bkTB) (hi : Cond.instanceMethod objectInit ∈ bkTB) (hc : Cond.code objectInit ⟨#[0xb1]⟩ 1 none ∈ bkTB) (hlen : L.length = nL) (hR : 1 ≤ R.frames ∧ 0 + (st.map fun v => v.category).sum + 12 ≤ R.locals) (d : decode cc pc = .ok (.invokespecial idx, 3)) (kk : bkV E G Z k n M (pc + 3) L st) : bkV E G Z k n M pc L (.ref a :: st) := fun H locs ls h1 h2 h3 h4 =>
  W.objInit X.1 X.2.1 X.2.2.2.1 (X.2.2.2.2.1 _ hl) (X.2.2.2.2.1 _ hi) (X.2.2.2.2.1 _ hc) rfl ((h4.1.trans hlen).trans X.2.2.1.symm) rfl d (by rw [X.rm]; exact hR.1) (by rw [X.rm]; exact hR.2) (kk H locs ls h1 h2 h3 h4)
theorem r_new (X : bkX E G own cc nL ret R) {a : Nat} {ci : Nat} {C : String} {T : u_T} {N : Nat} (hc : vwCl[ci]? = some (C, T, N)) (hin : ∀ w ∈ u_ws C T N, w ∈ bkTB) (ty0 : Nat → FieldType) (hty : ∀ k, k < N → parseFieldDescriptor (T k).2.2.1 = some (ty0 k)) (fs : List Value) (hfs : ∀ j, j < N → defaultValue (ty0 j) = vp_V fs j) (hcl : Cond.classLink own idx C ∈ bkTB) (hinst : Cond.instantiable C N ∈ bkTB) (hini : Cond.initialized C ∈ bkTB) (hR : k + 1 ≤ R.cells ∧ n + N ≤ R.slots) (d : decode cc pc = .ok (.new idx, 3)) (kk : bkV E G (fun z => z = a + 1) (k + 1) (n + N) (bku M a (.inr (ci, fs))) (pc + 3) L (.ref a :: st)) : bkV E G (fun z => z = a) k n M pc L st := by
  intro H locs ls h1 h2 h3 h4
  have hts := X.2.2.2.2.1
  have hKn := X.2.2.2.2.2.1.1.1 ci _ hc
  refine W.newcK X.1 X.2.1 X.2.2.2.1 (hts _ hcl) (hts _ hinst) (hts _ hini) rfl d (by rw [X.rm]; exact hR.1) (by rw [X.rm]; exact hR.2) hKn.2.1 h2 fun H1 kC hkC e1 z1 o1 => ?_
  exact kk H1 locs ls (h1.add h2 ⟨_, hc, (u_born ty0 hts hin hKn hkC e1 hty).to hfs⟩ z1 o1) z1 (bkS_grow h3 h2 z1 o1) h4
theorem r_newI (X : bkX E G own cc nL ret R) {a : Nat} {i : Int32} (N : Nat) (hi : i = nI N) (hN : N ≤ 4096) (hw : Cond.arrayClass .int ∈ bkTB) (hR : k + 1 ≤ R.cells ∧ n + N ≤ R.slots) (d : decode cc pc = .ok (.newarray .int, 2)) (kk : bkV E G (fun z => z = a + 1) (k + 1) (n + N) (bku M a (aI G N (fun _ => 0))) (pc + 2) L (.ref a :: st)) : bkV E G (fun z => z = a) k n M pc L (.int i :: st) := by
  subst hi
  intro H locs ls h1 h2 h3 h4
  refine va_newaK X.1 X.2.1 (atype := .int) (X.2.2.2.2.1 _ hw) rfl d rfl (nI_pos (by omega)) (nI_clamp (by omega)) (by show N * 4 ≤ 536870912; omega) (by rw [X.rm]; exact hR.1) (by rw [X.rm]; exact hR.2) h2 fun H1 cA e1 z1 o1 _ hf => ?_
  have hA : (eS E).vm.findClass ("[" ++ FieldType.int.toString) = some (G.2.1 0) := (X.2.2.2.2.2.1.1.2 0 _ rfl).2
  have e : cA = G.2.1 0 := Option.some.inj (hf.symm.trans hA)
  subst e
  exact kk H1 locs ls (h1.add h2 e1 z1 o1) z1 (bkS_grow h3 h2 z1 o1) h4
theorem r_newC (X : bkX E G own cc nL ret R) {a : Nat} {i : Int32} (N : Nat) (hi : i = nI N) (hN : N ≤ 4096) (hw : Cond.arrayClass .char ∈ bkTB) (hR : k + 1 ≤ R.cells ∧ n + N ≤ R.slots) (d : decode cc pc = .ok (.newarray .char, 2)) (kk : bkV E G (fun z => z = a + 1) (k + 1) (n + N) (bku M a (aC G N (fun _ => 0))) (pc + 2) L (.ref a :: st)) : bkV E G (fun z => z = a) k n M pc L (.int i :: st) := by
  subst hi
  intro H locs ls h1 h2 h3 h4
  refine va_newaK X.1 X.2.1 (atype := .char) (X.2.2.2.2.1 _ hw) rfl d rfl (nI_pos (by omega)) (nI_clamp (by omega)) (by show N * 2 ≤ 536870912; omega) (by rw [X.rm]; exact hR.1) (by rw [X.rm]; exact hR.2) h2 fun H1 cA e1 z1 o1 _ hf => ?_
  have hA : (eS E).vm.findClass ("[" ++ FieldType.char.toString) = some (G.2.1 1) := (X.2.2.2.2.2.1.1.2 1 _ rfl).2
  have e : cA = G.2.1 1 := Option.some.inj (hf.symm.trans hA)
  subst e
  exact kk H1 locs ls (h1.add h2 e1 z1 o1) z1 (bkS_grow h3 h2 z1 o1) h4
theorem r_newQ (X : bkX E G own cc nL ret R) {a : Nat} {i : Int32} {t : Nat} {C : String} (N : Nat) (hi : i = nI N) (hN : N ≤ 4096) (hcl : Cond.classLink own idx C ∈ bkTB) (hao : va_AO C (eS E)) (ht : (bkT G)[t]? = some (G.2.1 t, .object C)) (hR : k + 1 ≤ R.cells ∧ n + N ≤ R.slots) (d : decode cc pc = .ok (.anewarray idx, 3)) (kk : bkV E G (fun z => z = a + 1) (k + 1) (n + N) (bku M a (aQ G t N (fun _ => none))) (pc + 3) L (.ref a :: st)) : bkV E G (fun z => z = a) k n M pc L (.int i :: st) := by
  subst hi
  intro H locs ls h1 h2 h3 h4
  have hcl1 : (nI N).toNatClampNeg = N := nI_clamp (by omega)
  refine W.anew X.1 X.2.1 X.2.2.2.1 (X.2.2.2.2.1 _ hcl) hao.use rfl d rfl (nI_pos (by omega)) (by rw [hcl1]; omega) (by rw [X.rm]; exact hR.1) (by rw [hcl1, X.rm]; exact hR.2) fun cA kA comp f1 f2 f3 f4 => ?_
  obtain ⟨_, _, -, -, -, f5⟩ := (X.2.2.2.2.2.1.1.2 t _ ht).2
  have e : cA = G.2.1 t := Option.some.inj (f1.symm.trans f5)
  subst e
  rw [hcl1]
  have h2' : H.size = a := h2
  have z1 : (H.push ({ cls := G.2.1 t, slots := Array.replicate N .null, vm := .none } : Cell)).size = a + 1 := by rw [Array.size_push, h2']
  have e1 : (H.push ({ cls := G.2.1 t, slots := Array.replicate N .null, vm := .none } : Cell))[a]? = some (arrV (G.2.1 t) N (fun _ => .null)) := by rw [← h2', Array.getElem?_push_size, ← arrV_new]
  have o1 : ∀ q : Nat, q < a → (H.push ({ cls := G.2.1 t, slots := Array.replicate N .null, vm := .none } : Cell))[q]? = H[q]? := fun q hq => by rw [Array.getElem?_push, if_neg (by omega)]
  rw [h2']
  exact kk _ locs ls (h1.add h2 e1 z1 o1) z1 (bkS_grow h3 h2 z1 o1) h4
theorem r_copyI (X : bkX E G own cc nL ret R) {a b N0 N1 : Nat} {f g : Nat → Int32} (hma : M a = some (aI G N0 f)) (hmb : M b = some (aI G N1 g)) {i : Int32} (N : Nat) (hi : i = nI N) (hN0 : N ≤ N0) (hN1 : N ≤ N1) (hN : N < 2 ^ 31) (hl : Cond.methodLink own idx arraycopyName ∈ bkTB) (hnat : Cond.native arraycopyName ∈ bkTB) (hstc : Cond.static arraycopyName ∈ bkTB) (hini : Cond.initialized "java/lang/System" ∈ bkTB) (hlen : L.length = nL) (hR : 1 ≤ R.frames ∧ (st.map fun v => v.category).sum + (nativeFrameWords "java/lang/System" "arraycopy" 5 + 11) ≤ R.locals) (d : decode cc pc = .ok (.invokestatic idx, 3)) (kk : bkV E G Z k n (bku M b (aI G N1 (fun j => if j < N then f j else g j))) (pc + 3) L st) : bkV E G Z k n M pc L (.int i :: .int 0 :: .ref b :: .int 0 :: .ref a :: st) := by
  subst hi
  intro H locs ls h1 h2 h3 h4
  intro T hT XS
  have hcN : (nI N).toNatClampNeg = N := nI_clamp hN
  have hpN : ¬ nI N < 0 := nI_pos hN
  have hc0 : H[a]? = some (vp_cell (G.2.1 0) (N0, .inl f)) := (h1.1 a _ hma).1
  have hc1 : H[b]? = some (vp_cell (G.2.1 0) (N1, .inl g)) := (h1.1 b _ hmb).1
  obtain ⟨-, k0, hk0, cm0, hkk0⟩ := (X.ty (t := 0) rfl).1 N0 (fun j => .int (f j))
  obtain ⟨-, k1, hk1, cm1, hkk1⟩ := (X.ty (t := 0) rfl).1 N1 (fun j => .int (g j))
  have hnI : (nI N).toInt = (N : Int) := nI_toInt hN
  obtain ⟨vm', X', step⟩ := XS.arraycopy X.1 X.2.2.2.1 (X.2.2.2.2.1 _ hl) (X.2.2.2.2.1 _ hnat) (X.2.2.2.2.1 _ hstc) (X.2.2.2.2.1 _ hini) (src := a) (dst := b) (cs := vp_cell (G.2.1 0) (N0, .inl f)) (cd := vp_cell (G.2.1 0) (N1, .inl g)) (srcPos := 0) (destPos := 0) (n := nI N) (by rw [hT]; exact hc0) (by rw [hT]; exact hc1)
    (fun _ h => by cases h) (fun _ h => by cases h) (fun h => by cases h) (fun h => by cases h) hk0 hk1 hkk0 hkk1 rfl (by decide) (by decide) hpN
    (by rw [hnI]; show ¬ (0 : Int) + _ > ((arrV (G.2.1 0) N0 (fun j => .int (f j))).slots.size : Int); rw [arrV_size]; omega)
    (by rw [hnI]; show ¬ (0 : Int) + _ > ((arrV (G.2.1 0) N1 (fun j => .int (g j))).slots.size : Int); rw [arrV_size]; omega)
    (fun vm₁ _ i hi => by
      have hi' : i < N := by rw [hcN] at hi; exact hi
      have e : (vp_cell (G.2.1 0) (N0, .inl f)).slots.getD ((0 : Int32).toNatClampNeg + i) .null = .int (f ((0 : Int32).toNatClampNeg + i)) := by
        show (arrV (G.2.1 0) N0 (fun j => .int (f j))).slots.getD _ _ = _
        rw [Array.getD_eq_getD_getElem?, arrV_read _ _ (by rw [show (0 : Int32).toNatClampNeg = 0 from rfl]; omega)]
        rfl
      refine ⟨?_, ?_⟩
      · rw [e]; rfl
      · rw [e]
        exact trivial)
    (g := F0 (eM E) pc ls (.int (nI N) :: .int 0 :: .ref b :: .int 0 :: .ref a :: st)) rfl ((h4.1.trans hlen).trans X.2.2.1.symm) (rest := st) rfl (by rw [X.2.1]; exact d) (by rw [X.rm]; exact hR.1) (by rw [X.rm]; show 2 * 0 + _ + _ ≤ _; have := hR.2; omega)
  have e1 : copied (vp_cell (G.2.1 0) (N0, .inl f)) (vp_cell (G.2.1 0) (N1, .inl g)) 0 0 (nI N) = vp_cell (G.2.1 0) (N1, .inl (va_cpy f g (0 : Int32).toNatClampNeg (0 : Int32).toNatClampNeg (nI N).toNatClampNeg)) := va_copied (fun z => .int z) (G.2.1 0) (G.2.1 0) f g (by rw [hcN]; show 0 + N ≤ N0; omega)
  rw [e1] at X' step
  have e2 : va_cpy f g (0 : Int32).toNatClampNeg (0 : Int32).toNatClampNeg (nI N).toNatClampNeg = (fun j => if j < N then f j else g j) := by
    rw [hcN]
    funext j
    show (if 0 ≤ j ∧ j < 0 + N then f (0 + (j - 0)) else g j) = _
    by_cases hj : j < N
    · rw [if_pos ⟨Nat.zero_le _, by omega⟩, if_pos hj, Nat.sub_zero, Nat.zero_add]
    · rw [if_neg (fun q => hj (by omega)), if_neg hj]
  rw [e2] at X' step
  have hl1 : b < H.size := h1.lt hmb
  have hheap : ((T.setVm vm').setCell b (vp_cell (G.2.1 0) (N1, .inl (fun j => if j < N then f j else g j)))).heap = H.setIfInBounds b (vp_cell (G.2.1 0) (N1, .inl (fun j => if j < N then f j else g j))) := by rw [← hT]; rfl
  have oq : ∀ q : Nat, q ≠ b → (H.setIfInBounds b (vp_cell (G.2.1 0) (N1, .inl (fun j => if j < N then f j else g j))))[q]? = H[q]? := fun q hq => by simp [Array.getElem?_setIfInBounds, Ne.symm hq]
  have z1 : (H.setIfInBounds b (vp_cell (G.2.1 0) (N1, .inl (fun j => if j < N then f j else g j)))).size = H.size := by simp
  obtain ⟨t, a1, b1⟩ := kk _ _ ls (h1.put hmb (show (H.setIfInBounds b _)[b]? = some _ by simp [Array.getElem?_setIfInBounds, hl1]) z1 oq) (by rw [z1]; exact h2) ⟨by rw [z1]; exact h3.1, fun q g1 g2 => by
      rw [oq q (fun e => g2 (by rw [e]; exact h1.inA hmb))]
      exact h3.2.1 q g1 g2, fun q hq => by
      rcases List.mem_append.mp hq with h | h
      · exact h3.2.2 q h
      · obtain ⟨z, -, hz⟩ := List.mem_map.mp h
        rw [← hz]
        exact h1.inA hmb⟩ h4 _ hheap X'
  exact ⟨t, step t a1, b1⟩
/-- new int[N][K]: the outer row at a, the inner ones behind it -/
def bkI (M : bkM) (a N : Nat) (eo ei : va_E) : bkM := fun x => if x = a then some eo else if a < x ∧ x ≤ a + N then some ei else M x
theorem r_newII (X : bkX E G own cc nL ret R) {a : Nat} {i1 i2 : Int32} (N K : Nat) (hi1 : i1 = nI N) (hi2 : i2 = nI K) (hN : N ≤ 4096) (hK : K ≤ 4096) (hcl : Cond.classLink own idx "[[I" ∈ bkTB) (hao : bkAO .int (eS E)) (hw : Cond.arrayClass .int ∈ bkTB) (hR : k + (1 + N) ≤ R.cells ∧ n + (N + N * K) ≤ R.slots) (d : decode cc pc = .ok (.multianewarray idx 2, 4)) (kk : bkV E G (fun z => z = a + 1 + N) (k + 1 + N) (n + N + N * K) (bkI M a N (aQ G 2 N (fun i => if i < N then some (a + 1 + i) else none)) (aI G K (fun _ => 0))) (pc + 4) L (.ref a :: st)) : bkV E G (fun z => z = a) k n M pc L (.int i2 :: .int i1 :: st) := by
  subst hi1
  subst hi2
  intro H locs ls h1 h2 h3 h4 T hT Xs
  have hcN : (nI N).toNatClampNeg = N := nI_clamp (by omega)
  have hcK : (nI K).toNatClampNeg = K := nI_clamp (by omega)
  have h2' : H.size = a := h2
  obtain ⟨vm₁, cA, comp, -, fA, fC, hO, -, X', step⟩ := Xs.multianewarray2F X.1 X.2.2.2.1 (ty := .int) (X.2.2.2.2.1 _ hcl) hao.use (X.2.2.2.2.1 _ hw) (g := F0 (eM E) pc ls (.int (nI K) :: .int (nI N) :: st)) rfl (by rw [X.2.1]; exact d) rfl (nI_pos (by omega)) (nI_pos (by omega)) (by rw [hcN]; omega) (by rw [hcK]; show K * 4 ≤ _; omega) (by rw [hcK]; omega) rfl rfl (by rw [hcN, X.rm]; exact hR.1) (by rw [hcN, hcK, X.rm]; exact hR.2)
  have hA0 : (eS E).vm.findClass ("[" ++ FieldType.int.toString) = some (G.2.1 0) := (X.2.2.2.2.2.1.1.2 0 _ rfl).2
  have hA2 : (eS E).vm.findClass ("[" ++ (FieldType.array .int).toString) = some (G.2.1 2) := (X.2.2.2.2.2.1.1.2 2 _ rfl).2
  have ec : some (G.2.1 0) = some comp := hA0.symm.trans fC
  cases ec
  have ea : some (G.2.1 2) = some cA := hA2.symm.trans fA
  cases ea
  rw [hcN, hcK] at X' step
  generalize hF : Jvm.Free.Multi.fill (T.setVm vm₁) (G.2.1 2) (G.2.1 0) N K (defaultValue .int) N = F at X' step
  have hTh : (T.setVm vm₁).heap = H := hT
  obtain ⟨f1, f2, -, -⟩ := Jvm.Free.Multi.fill_facts (T.setVm vm₁) (G.2.1 2) (G.2.1 0) N K (defaultValue .int) N
  rw [hF, hTh] at f1 f2
  have hold : ∀ x : Nat, x < H.size → F.heap[x]? = H[x]? := fun x hx => by
    have := Jvm.Free.Multi.fill_old (T.setVm vm₁) (G.2.1 2) (G.2.1 0) N K (defaultValue .int) (a := x) (by rw [hTh]; exact hx) N
    rw [hF, hTh] at this
    exact this
  have hrow : ∀ j : Nat, j < N → F.heap[H.size + 1 + j]? = some (vp_cell (G.2.1 0) (K, .inl (fun _ => 0))) := fun j hj => by
    have := Jvm.Free.Multi.fill_inner (T.setVm vm₁) (G.2.1 2) (G.2.1 0) N K (defaultValue .int) N j hj
    rw [hF, hTh] at this
    rw [this]
    refine congrArg some ?_
    rw [vp_cell_i, ← arrV_new]
    rfl
  have hout : Jvm.Free.Multi.outerC (G.2.1 2) N H.size N = vp_cell (G.2.1 2) (N, .inr (.inr (.inr (.inr (fun i => if i < N then some (H.size + 1 + i) else none))))) := by
    rw [vp_cell_q]
    exact vr_outer (G.2.1 2) N H.size N
  rw [hout] at f2
  rw [h2'] at f1 f2 hrow
  have hZ1 : F.heap.size = a + 1 + N := by rw [f1]
  have hTs : T.heap.size = a := by rw [hT]; exact h2'
  obtain ⟨t, a1, b1⟩ := kk F.heap locs ls ⟨fun x ev hx => by
      unfold bkI at hx
      by_cases e0 : x = a
      · subst e0
        rw [if_pos rfl] at hx
        cases hx
        exact ⟨f2, by rw [← h2']; exact h1.2⟩
      · rw [if_neg e0] at hx
        by_cases e1 : a < x ∧ x ≤ a + N
        · rw [if_pos e1] at hx
          cases hx
          have := hrow (x - (a + 1)) (by omega)
          rw [show a + 1 + (x - (a + 1)) = x by omega] at this
          exact ⟨this, Nat.le_trans (by rw [← h2']; exact h1.2) (Nat.le_of_lt e1.1)⟩
        · rw [if_neg e1] at hx
          exact ⟨(h1.1 x ev hx).1.kept (hold x (h1.lt hx)), (h1.1 x ev hx).2⟩, by rw [hZ1]; have := h1.2; omega⟩ hZ1 ⟨by rw [hZ1]; have := h3.1; omega, fun q g1 g2 => (hold q (Nat.lt_of_lt_of_le g1 h3.1)).trans (h3.2.1 q g1 g2), h3.2.2⟩ h4 F rfl (by
      have e : k + 1 + N = k + (1 + N) := by omega
      have e2 : n + N + N * K = n + (N + N * K) := by omega
      first | exact X' | (rw [e, e2]; exact X'))
  refine ⟨t, step t ?_, b1⟩
  rw [hTs]
  exact a1
theorem bkX.nw (X : bkX E G own cc nL ret R) : bkN (eS E) := X.2.2.2.2.2.1.2.2
theorem bk_cat {st : List Value} (h : Nat.ble ((st.map fun v => v.category).sum) 8 = true) : (st.map fun v => v.category).sum ≤ 8 := Nat.le_of_ble_eq_true h
theorem bk_room {nL' h' mc ms : Nat} (h : (Nat.ble (h' + 1) R.frames && Nat.ble (8 + (nL' + 11) + 39 * h') R.locals && Nat.ble (k + mc) R.cells && Nat.ble (n + ms) R.slots) = true) : bk_fit R nL' h' k n mc ms := by
  simp only [Bool.and_eq_true] at h
  exact ⟨⟨Nat.le_of_ble_eq_true h.1.1.1, Nat.le_of_ble_eq_true h.1.1.2⟩, Nat.le_of_ble_eq_true h.1.2, Nat.le_of_ble_eq_true h.2⟩
end BKD
end
