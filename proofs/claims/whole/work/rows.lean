section
-- ===== PART A: goes FIRST, ahead of the names: the tables' words, and 'selects' of the private methods out of them =====
/-- a private method of a class that the tables say can be made, by its rows of tables_1 -/
def lw_okq (q : MethodName × Nat) : Prop := (q.1.cls ≠ "java/lang/invoke/MethodHandle" ∧ q.1.cls ≠ "java/lang/invoke/VarHandle") ∧ Cond.instantiable q.1.cls q.2 ∈ tables_1 ∧ Cond.privateMethod q.1 ∈ tables_1 ∧ Cond.instanceMethod q.1 ∈ tables_1
theorem lw_p0 : lw_okq (⟨"BeamKeepers$History", "dropOldest", "()V"⟩, 2) := ⟨⟨by decide +kernel, by decide +kernel⟩, List.mem_of_getElem? (i := 192) (by decide +kernel), List.mem_of_getElem? (i := 306) (by decide +kernel), List.mem_of_getElem? (i := 307) (by decide +kernel)⟩
theorem lw_p1 : lw_okq (⟨"BeamKeepers$Light", "litCells", "(I)I"⟩, 8) := ⟨⟨by decide +kernel, by decide +kernel⟩, List.mem_of_getElem? (i := 72) (by decide +kernel), List.mem_of_getElem? (i := 365) (by decide +kernel), List.mem_of_getElem? (i := 366) (by decide +kernel)⟩
theorem lw_p2 : lw_okq (⟨"BeamKeepers$Light", "reach", "(I)I"⟩, 8) := ⟨⟨by decide +kernel, by decide +kernel⟩, List.mem_of_getElem? (i := 72) (by decide +kernel), List.mem_of_getElem? (i := 373) (by decide +kernel), List.mem_of_getElem? (i := 374) (by decide +kernel)⟩
theorem lw_p3 : lw_okq (⟨"BeamKeepers$Light", "isDark", "(I)Z"⟩, 8) := ⟨⟨by decide +kernel, by decide +kernel⟩, List.mem_of_getElem? (i := 72) (by decide +kernel), List.mem_of_getElem? (i := 377) (by decide +kernel), List.mem_of_getElem? (i := 378) (by decide +kernel)⟩
theorem lw_p4 : lw_okq (⟨"BeamKeepers$Text", "readPart", "(LBeamKeepers$Part;)Z"⟩, 5) := ⟨⟨by decide +kernel, by decide +kernel⟩, List.mem_of_getElem? (i := 209) (by decide +kernel), List.mem_of_getElem? (i := 417) (by decide +kernel), List.mem_of_getElem? (i := 418) (by decide +kernel)⟩
theorem lw_p5 : lw_okq (⟨"BeamKeepers$Text", "readSign", "(C)Z"⟩, 5) := ⟨⟨by decide +kernel, by decide +kernel⟩, List.mem_of_getElem? (i := 209) (by decide +kernel), List.mem_of_getElem? (i := 421) (by decide +kernel), List.mem_of_getElem? (i := 422) (by decide +kernel)⟩
theorem lw_p6 : lw_okq (⟨"BeamKeepers$Text", "readCell", "()I"⟩, 5) := ⟨⟨by decide +kernel, by decide +kernel⟩, List.mem_of_getElem? (i := 209) (by decide +kernel), List.mem_of_getElem? (i := 425) (by decide +kernel), List.mem_of_getElem? (i := 426) (by decide +kernel)⟩
theorem lw_p7 : lw_okq (⟨"BeamKeepers$Text", "readDigit", "(II)I"⟩, 5) := ⟨⟨by decide +kernel, by decide +kernel⟩, List.mem_of_getElem? (i := 209) (by decide +kernel), List.mem_of_getElem? (i := 429) (by decide +kernel), List.mem_of_getElem? (i := 430) (by decide +kernel)⟩
theorem lw_p8 : lw_okq (⟨"BeamKeepers$Text", "readShip", "(LBeamKeepers$Part;)Z"⟩, 5) := ⟨⟨by decide +kernel, by decide +kernel⟩, List.mem_of_getElem? (i := 209) (by decide +kernel), List.mem_of_getElem? (i := 433) (by decide +kernel), List.mem_of_getElem? (i := 434) (by decide +kernel)⟩
theorem lw_p9 : lw_okq (⟨"BeamKeepers$Text", "readNumber", "(I)I"⟩, 5) := ⟨⟨by decide +kernel, by decide +kernel⟩, List.mem_of_getElem? (i := 209) (by decide +kernel), List.mem_of_getElem? (i := 437) (by decide +kernel), List.mem_of_getElem? (i := 438) (by decide +kernel)⟩
theorem lw_p10 : lw_okq (⟨"BeamKeepers$State", "goesToWreck", "(LBeamKeepers$Ship;)Z"⟩, 9) := ⟨⟨by decide +kernel, by decide +kernel⟩, List.mem_of_getElem? (i := 61) (by decide +kernel), List.mem_of_getElem? (i := 465) (by decide +kernel), List.mem_of_getElem? (i := 466) (by decide +kernel)⟩
theorem lw_p11 : lw_okq (⟨"BeamKeepers$Light", "cellOnRing", "(II)I"⟩, 8) := ⟨⟨by decide +kernel, by decide +kernel⟩, List.mem_of_getElem? (i := 72) (by decide +kernel), List.mem_of_getElem? (i := 599) (by decide +kernel), List.mem_of_getElem? (i := 600) (by decide +kernel)⟩
theorem lw_p12 : lw_okq (⟨"BeamKeepers", "isWreckedInTrial", "(I)Z"⟩, 7) := ⟨⟨by decide +kernel, by decide +kernel⟩, List.mem_of_getElem? (i := 15) (by decide +kernel), List.mem_of_getElem? (i := 657) (by decide +kernel), List.mem_of_getElem? (i := 658) (by decide +kernel)⟩
theorem lw_p13 : lw_okq (⟨"BeamKeepers", "worthWreckedInTrial", "()I"⟩, 7) := ⟨⟨by decide +kernel, by decide +kernel⟩, List.mem_of_getElem? (i := 15) (by decide +kernel), List.mem_of_getElem? (i := 665) (by decide +kernel), List.mem_of_getElem? (i := 666) (by decide +kernel)⟩
theorem lw_p14 : lw_okq (⟨"BeamKeepersModel", "records", "()V"⟩, 15) := ⟨⟨by decide +kernel, by decide +kernel⟩, List.mem_of_getElem? (i := 669) (by decide +kernel), List.mem_of_getElem? (i := 743) (by decide +kernel), List.mem_of_getElem? (i := 744) (by decide +kernel)⟩
theorem lw_p15 : lw_okq (⟨"BeamKeepersModel", "rocks", "()I"⟩, 15) := ⟨⟨by decide +kernel, by decide +kernel⟩, List.mem_of_getElem? (i := 669) (by decide +kernel), List.mem_of_getElem? (i := 747) (by decide +kernel), List.mem_of_getElem? (i := 748) (by decide +kernel)⟩
def lw_privs_1 : List (MethodName × Nat) := [(⟨"BeamKeepers$History", "dropOldest", "()V"⟩, 2), (⟨"BeamKeepers$Light", "litCells", "(I)I"⟩, 8), (⟨"BeamKeepers$Light", "reach", "(I)I"⟩, 8), (⟨"BeamKeepers$Light", "isDark", "(I)Z"⟩, 8), (⟨"BeamKeepers$Text", "readPart", "(LBeamKeepers$Part;)Z"⟩, 5), (⟨"BeamKeepers$Text", "readSign", "(C)Z"⟩, 5), (⟨"BeamKeepers$Text", "readCell", "()I"⟩, 5), (⟨"BeamKeepers$Text", "readDigit", "(II)I"⟩, 5), (⟨"BeamKeepers$Text", "readShip", "(LBeamKeepers$Part;)Z"⟩, 5), (⟨"BeamKeepers$Text", "readNumber", "(I)I"⟩, 5), (⟨"BeamKeepers$State", "goesToWreck", "(LBeamKeepers$Ship;)Z"⟩, 9), (⟨"BeamKeepers$Light", "cellOnRing", "(II)I"⟩, 8), (⟨"BeamKeepers", "isWreckedInTrial", "(I)Z"⟩, 7), (⟨"BeamKeepers", "worthWreckedInTrial", "()I"⟩, 7), (⟨"BeamKeepersModel", "records", "()V"⟩, 15), (⟨"BeamKeepersModel", "rocks", "()I"⟩, 15)]
theorem lw_r1 : ∀ q ∈ lw_privs_1, lw_okq q := List.forall_mem_cons.mpr ⟨lw_p0, List.forall_mem_cons.mpr ⟨lw_p1, List.forall_mem_cons.mpr ⟨lw_p2, List.forall_mem_cons.mpr ⟨lw_p3, List.forall_mem_cons.mpr ⟨lw_p4, List.forall_mem_cons.mpr ⟨lw_p5, List.forall_mem_cons.mpr ⟨lw_p6, List.forall_mem_cons.mpr ⟨lw_p7, List.forall_mem_cons.mpr ⟨lw_p8, List.forall_mem_cons.mpr ⟨lw_p9, List.forall_mem_cons.mpr ⟨lw_p10, List.forall_mem_cons.mpr ⟨lw_p11, List.forall_mem_cons.mpr ⟨lw_p12, List.forall_mem_cons.mpr ⟨lw_p13, List.forall_mem_cons.mpr ⟨lw_p14, List.forall_mem_cons.mpr ⟨lw_p15, fun _ h => absurd h List.not_mem_nil⟩⟩⟩⟩⟩⟩⟩⟩⟩⟩⟩⟩⟩⟩⟩⟩
theorem lw_p16 : lw_okq (⟨"BeamKeepersModel", "barShip", "(III)I"⟩, 15) := ⟨⟨by decide +kernel, by decide +kernel⟩, List.mem_of_getElem? (i := 669) (by decide +kernel), List.mem_of_getElem? (i := 765) (by decide +kernel), List.mem_of_getElem? (i := 766) (by decide +kernel)⟩
theorem lw_p17 : lw_okq (⟨"BeamKeepersModel", "shipIn", "(I)I"⟩, 15) := ⟨⟨by decide +kernel, by decide +kernel⟩, List.mem_of_getElem? (i := 669) (by decide +kernel), List.mem_of_getElem? (i := 769) (by decide +kernel), List.mem_of_getElem? (i := 770) (by decide +kernel)⟩
theorem lw_p18 : lw_okq (⟨"BeamKeepersModel", "comes", "(III)I"⟩, 15) := ⟨⟨by decide +kernel, by decide +kernel⟩, List.mem_of_getElem? (i := 669) (by decide +kernel), List.mem_of_getElem? (i := 776) (by decide +kernel), List.mem_of_getElem? (i := 777) (by decide +kernel)⟩
theorem lw_p19 : lw_okq (⟨"BeamKeepersModel", "barPass", "(I)I"⟩, 15) := ⟨⟨by decide +kernel, by decide +kernel⟩, List.mem_of_getElem? (i := 669) (by decide +kernel), List.mem_of_getElem? (i := 784) (by decide +kernel), List.mem_of_getElem? (i := 785) (by decide +kernel)⟩
theorem lw_p20 : lw_okq (⟨"BeamKeepersModel", "passes", "(I)I"⟩, 15) := ⟨⟨by decide +kernel, by decide +kernel⟩, List.mem_of_getElem? (i := 669) (by decide +kernel), List.mem_of_getElem? (i := 788) (by decide +kernel), List.mem_of_getElem? (i := 789) (by decide +kernel)⟩
theorem lw_p21 : lw_okq (⟨"BeamKeepersModel", "shipsIn", "(I)I"⟩, 15) := ⟨⟨by decide +kernel, by decide +kernel⟩, List.mem_of_getElem? (i := 669) (by decide +kernel), List.mem_of_getElem? (i := 792) (by decide +kernel), List.mem_of_getElem? (i := 793) (by decide +kernel)⟩
theorem lw_p22 : lw_okq (⟨"BeamKeepersModel", "hour", "()V"⟩, 15) := ⟨⟨by decide +kernel, by decide +kernel⟩, List.mem_of_getElem? (i := 669) (by decide +kernel), List.mem_of_getElem? (i := 796) (by decide +kernel), List.mem_of_getElem? (i := 797) (by decide +kernel)⟩
theorem lw_p23 : lw_okq (⟨"BeamKeepersModel", "rank", "(I)I"⟩, 15) := ⟨⟨by decide +kernel, by decide +kernel⟩, List.mem_of_getElem? (i := 669) (by decide +kernel), List.mem_of_getElem? (i := 800) (by decide +kernel), List.mem_of_getElem? (i := 801) (by decide +kernel)⟩
theorem lw_p24 : lw_okq (⟨"BeamKeepersModel", "goes", "(I)V"⟩, 15) := ⟨⟨by decide +kernel, by decide +kernel⟩, List.mem_of_getElem? (i := 669) (by decide +kernel), List.mem_of_getElem? (i := 804) (by decide +kernel), List.mem_of_getElem? (i := 805) (by decide +kernel)⟩
theorem lw_p25 : lw_okq (⟨"BeamKeepersModel", "lightsOn", "(I)I"⟩, 15) := ⟨⟨by decide +kernel, by decide +kernel⟩, List.mem_of_getElem? (i := 669) (by decide +kernel), List.mem_of_getElem? (i := 811) (by decide +kernel), List.mem_of_getElem? (i := 812) (by decide +kernel)⟩
theorem lw_p26 : lw_okq (⟨"BeamKeepersModel", "litBy", "(II)Z"⟩, 15) := ⟨⟨by decide +kernel, by decide +kernel⟩, List.mem_of_getElem? (i := 669) (by decide +kernel), List.mem_of_getElem? (i := 815) (by decide +kernel), List.mem_of_getElem? (i := 816) (by decide +kernel)⟩
theorem lw_p27 : lw_okq (⟨"BeamKeepersModel", "lights", "(IIII)Z"⟩, 15) := ⟨⟨by decide +kernel, by decide +kernel⟩, List.mem_of_getElem? (i := 669) (by decide +kernel), List.mem_of_getElem? (i := 819) (by decide +kernel), List.mem_of_getElem? (i := 820) (by decide +kernel)⟩
theorem lw_p28 : lw_okq (⟨"BeamKeepersModel", "beam", "(II)I"⟩, 15) := ⟨⟨by decide +kernel, by decide +kernel⟩, List.mem_of_getElem? (i := 669) (by decide +kernel), List.mem_of_getElem? (i := 838) (by decide +kernel), List.mem_of_getElem? (i := 839) (by decide +kernel)⟩
theorem lw_p29 : lw_okq (⟨"BeamKeepersModel", "isDark", "(II)Z"⟩, 15) := ⟨⟨by decide +kernel, by decide +kernel⟩, List.mem_of_getElem? (i := 669) (by decide +kernel), List.mem_of_getElem? (i := 842) (by decide +kernel), List.mem_of_getElem? (i := 843) (by decide +kernel)⟩
theorem lw_p30 : lw_okq (⟨"BeamKeepersModel", "canLay", "(II)Z"⟩, 15) := ⟨⟨by decide +kernel, by decide +kernel⟩, List.mem_of_getElem? (i := 669) (by decide +kernel), List.mem_of_getElem? (i := 863) (by decide +kernel), List.mem_of_getElem? (i := 864) (by decide +kernel)⟩
theorem lw_p31 : lw_okq (⟨"BeamKeepersModel", "lays", "(II)V"⟩, 15) := ⟨⟨by decide +kernel, by decide +kernel⟩, List.mem_of_getElem? (i := 669) (by decide +kernel), List.mem_of_getElem? (i := 867) (by decide +kernel), List.mem_of_getElem? (i := 868) (by decide +kernel)⟩
def lw_privs_2 : List (MethodName × Nat) := [(⟨"BeamKeepersModel", "barShip", "(III)I"⟩, 15), (⟨"BeamKeepersModel", "shipIn", "(I)I"⟩, 15), (⟨"BeamKeepersModel", "comes", "(III)I"⟩, 15), (⟨"BeamKeepersModel", "barPass", "(I)I"⟩, 15), (⟨"BeamKeepersModel", "passes", "(I)I"⟩, 15), (⟨"BeamKeepersModel", "shipsIn", "(I)I"⟩, 15), (⟨"BeamKeepersModel", "hour", "()V"⟩, 15), (⟨"BeamKeepersModel", "rank", "(I)I"⟩, 15), (⟨"BeamKeepersModel", "goes", "(I)V"⟩, 15), (⟨"BeamKeepersModel", "lightsOn", "(I)I"⟩, 15), (⟨"BeamKeepersModel", "litBy", "(II)Z"⟩, 15), (⟨"BeamKeepersModel", "lights", "(IIII)Z"⟩, 15), (⟨"BeamKeepersModel", "beam", "(II)I"⟩, 15), (⟨"BeamKeepersModel", "isDark", "(II)Z"⟩, 15), (⟨"BeamKeepersModel", "canLay", "(II)Z"⟩, 15), (⟨"BeamKeepersModel", "lays", "(II)V"⟩, 15)]
theorem lw_r2 : ∀ q ∈ lw_privs_2, lw_okq q := List.forall_mem_cons.mpr ⟨lw_p16, List.forall_mem_cons.mpr ⟨lw_p17, List.forall_mem_cons.mpr ⟨lw_p18, List.forall_mem_cons.mpr ⟨lw_p19, List.forall_mem_cons.mpr ⟨lw_p20, List.forall_mem_cons.mpr ⟨lw_p21, List.forall_mem_cons.mpr ⟨lw_p22, List.forall_mem_cons.mpr ⟨lw_p23, List.forall_mem_cons.mpr ⟨lw_p24, List.forall_mem_cons.mpr ⟨lw_p25, List.forall_mem_cons.mpr ⟨lw_p26, List.forall_mem_cons.mpr ⟨lw_p27, List.forall_mem_cons.mpr ⟨lw_p28, List.forall_mem_cons.mpr ⟨lw_p29, List.forall_mem_cons.mpr ⟨lw_p30, List.forall_mem_cons.mpr ⟨lw_p31, fun _ h => absurd h List.not_mem_nil⟩⟩⟩⟩⟩⟩⟩⟩⟩⟩⟩⟩⟩⟩⟩⟩
theorem lw_p32 : lw_okq (⟨"BeamKeepersModel", "parts", "()I"⟩, 15) := ⟨⟨by decide +kernel, by decide +kernel⟩, List.mem_of_getElem? (i := 669) (by decide +kernel), List.mem_of_getElem? (i := 883) (by decide +kernel), List.mem_of_getElem? (i := 884) (by decide +kernel)⟩
theorem lw_p33 : lw_okq (⟨"BeamKeepersModel", "part", "()V"⟩, 15) := ⟨⟨by decide +kernel, by decide +kernel⟩, List.mem_of_getElem? (i := 669) (by decide +kernel), List.mem_of_getElem? (i := 887) (by decide +kernel), List.mem_of_getElem? (i := 888) (by decide +kernel)⟩
theorem lw_p34 : lw_okq (⟨"BeamKeepersModel", "next", "()I"⟩, 15) := ⟨⟨by decide +kernel, by decide +kernel⟩, List.mem_of_getElem? (i := 669) (by decide +kernel), List.mem_of_getElem? (i := 891) (by decide +kernel), List.mem_of_getElem? (i := 892) (by decide +kernel)⟩
theorem lw_p35 : lw_okq (⟨"BeamKeepersModel", "cell", "()I"⟩, 15) := ⟨⟨by decide +kernel, by decide +kernel⟩, List.mem_of_getElem? (i := 669) (by decide +kernel), List.mem_of_getElem? (i := 895) (by decide +kernel), List.mem_of_getElem? (i := 896) (by decide +kernel)⟩
theorem lw_p36 : lw_okq (⟨"BeamKeepersModel", "digit", "(II)I"⟩, 15) := ⟨⟨by decide +kernel, by decide +kernel⟩, List.mem_of_getElem? (i := 669) (by decide +kernel), List.mem_of_getElem? (i := 899) (by decide +kernel), List.mem_of_getElem? (i := 900) (by decide +kernel)⟩
theorem lw_p37 : lw_okq (⟨"BeamKeepersModel", "number", "(I)I"⟩, 15) := ⟨⟨by decide +kernel, by decide +kernel⟩, List.mem_of_getElem? (i := 669) (by decide +kernel), List.mem_of_getElem? (i := 903) (by decide +kernel), List.mem_of_getElem? (i := 904) (by decide +kernel)⟩
theorem lw_p38 : lw_okq (⟨"BeamKeepersModel", "sign", "(I)V"⟩, 15) := ⟨⟨by decide +kernel, by decide +kernel⟩, List.mem_of_getElem? (i := 669) (by decide +kernel), List.mem_of_getElem? (i := 907) (by decide +kernel), List.mem_of_getElem? (i := 908) (by decide +kernel)⟩
theorem lw_p39 : lw_okq (⟨"BeamKeepersModel", "putAside", "()V"⟩, 15) := ⟨⟨by decide +kernel, by decide +kernel⟩, List.mem_of_getElem? (i := 669) (by decide +kernel), List.mem_of_getElem? (i := 915) (by decide +kernel), List.mem_of_getElem? (i := 916) (by decide +kernel)⟩
theorem lw_p40 : lw_okq (⟨"BeamKeepersModel", "does", "()I"⟩, 15) := ⟨⟨by decide +kernel, by decide +kernel⟩, List.mem_of_getElem? (i := 669) (by decide +kernel), List.mem_of_getElem? (i := 919) (by decide +kernel), List.mem_of_getElem? (i := 920) (by decide +kernel)⟩
theorem lw_p41 : lw_okq (⟨"BeamKeepersModel", "putBack", "()V"⟩, 15) := ⟨⟨by decide +kernel, by decide +kernel⟩, List.mem_of_getElem? (i := 669) (by decide +kernel), List.mem_of_getElem? (i := 923) (by decide +kernel), List.mem_of_getElem? (i := 924) (by decide +kernel)⟩
theorem lw_p42 : lw_okq (⟨"BeamKeepersModel", "litCells", "(I)I"⟩, 15) := ⟨⟨by decide +kernel, by decide +kernel⟩, List.mem_of_getElem? (i := 669) (by decide +kernel), List.mem_of_getElem? (i := 947) (by decide +kernel), List.mem_of_getElem? (i := 948) (by decide +kernel)⟩
theorem lw_p43 : lw_okq (⟨"BeamKeepersModel", "isShip", "(I)Z"⟩, 15) := ⟨⟨by decide +kernel, by decide +kernel⟩, List.mem_of_getElem? (i := 669) (by decide +kernel), List.mem_of_getElem? (i := 959) (by decide +kernel), List.mem_of_getElem? (i := 960) (by decide +kernel)⟩
theorem lw_p44 : lw_okq (⟨"BeamKeepersModel", "litNow", "(Z)I"⟩, 15) := ⟨⟨by decide +kernel, by decide +kernel⟩, List.mem_of_getElem? (i := 669) (by decide +kernel), List.mem_of_getElem? (i := 975) (by decide +kernel), List.mem_of_getElem? (i := 976) (by decide +kernel)⟩
theorem lw_p45 : lw_okq (⟨"BeamKeepersModel", "ofAll", "(I)I"⟩, 15) := ⟨⟨by decide +kernel, by decide +kernel⟩, List.mem_of_getElem? (i := 669) (by decide +kernel), List.mem_of_getElem? (i := 979) (by decide +kernel), List.mem_of_getElem? (i := 980) (by decide +kernel)⟩
theorem lw_p46 : lw_okq (⟨"BeamKeepersModel", "worth", "(I)I"⟩, 15) := ⟨⟨by decide +kernel, by decide +kernel⟩, List.mem_of_getElem? (i := 669) (by decide +kernel), List.mem_of_getElem? (i := 983) (by decide +kernel), List.mem_of_getElem? (i := 984) (by decide +kernel)⟩
theorem lw_p47 : lw_okq (⟨"BeamKeepersModel", "isLitThen", "(III)Z"⟩, 15) := ⟨⟨by decide +kernel, by decide +kernel⟩, List.mem_of_getElem? (i := 669) (by decide +kernel), List.mem_of_getElem? (i := 992) (by decide +kernel), List.mem_of_getElem? (i := 993) (by decide +kernel)⟩
def lw_privs_3 : List (MethodName × Nat) := [(⟨"BeamKeepersModel", "parts", "()I"⟩, 15), (⟨"BeamKeepersModel", "part", "()V"⟩, 15), (⟨"BeamKeepersModel", "next", "()I"⟩, 15), (⟨"BeamKeepersModel", "cell", "()I"⟩, 15), (⟨"BeamKeepersModel", "digit", "(II)I"⟩, 15), (⟨"BeamKeepersModel", "number", "(I)I"⟩, 15), (⟨"BeamKeepersModel", "sign", "(I)V"⟩, 15), (⟨"BeamKeepersModel", "putAside", "()V"⟩, 15), (⟨"BeamKeepersModel", "does", "()I"⟩, 15), (⟨"BeamKeepersModel", "putBack", "()V"⟩, 15), (⟨"BeamKeepersModel", "litCells", "(I)I"⟩, 15), (⟨"BeamKeepersModel", "isShip", "(I)Z"⟩, 15), (⟨"BeamKeepersModel", "litNow", "(Z)I"⟩, 15), (⟨"BeamKeepersModel", "ofAll", "(I)I"⟩, 15), (⟨"BeamKeepersModel", "worth", "(I)I"⟩, 15), (⟨"BeamKeepersModel", "isLitThen", "(III)Z"⟩, 15)]
theorem lw_r3 : ∀ q ∈ lw_privs_3, lw_okq q := List.forall_mem_cons.mpr ⟨lw_p32, List.forall_mem_cons.mpr ⟨lw_p33, List.forall_mem_cons.mpr ⟨lw_p34, List.forall_mem_cons.mpr ⟨lw_p35, List.forall_mem_cons.mpr ⟨lw_p36, List.forall_mem_cons.mpr ⟨lw_p37, List.forall_mem_cons.mpr ⟨lw_p38, List.forall_mem_cons.mpr ⟨lw_p39, List.forall_mem_cons.mpr ⟨lw_p40, List.forall_mem_cons.mpr ⟨lw_p41, List.forall_mem_cons.mpr ⟨lw_p42, List.forall_mem_cons.mpr ⟨lw_p43, List.forall_mem_cons.mpr ⟨lw_p44, List.forall_mem_cons.mpr ⟨lw_p45, List.forall_mem_cons.mpr ⟨lw_p46, List.forall_mem_cons.mpr ⟨lw_p47, fun _ h => absurd h List.not_mem_nil⟩⟩⟩⟩⟩⟩⟩⟩⟩⟩⟩⟩⟩⟩⟩⟩
def lw_privs : List (MethodName × Nat) := lw_privs_1 ++ (lw_privs_2 ++ (lw_privs_3))
def lw_tbl : List Cond := k2_sels lw_privs ++ tables_1
theorem lw_privs_ok : ∀ q ∈ lw_privs, lw_okq q := by
  show ∀ q ∈ lw_privs_1 ++ (lw_privs_2 ++ (lw_privs_3)), lw_okq q
  exact List.forall_mem_append.mpr ⟨lw_r1, List.forall_mem_append.mpr ⟨lw_r2, lw_r3⟩⟩
/-- the streams that the claim lets the run draw from -/
abbrev lw_cs : List Choice := [Jvm.Choice.named "NaN.bits"]
theorem lw_bits : nanBits ∈ lw_cs := by first | decide | exact List.mem_cons_self | simp [lw_cs, nanBits]
end
section
theorem vr_outer (c : ClassId) (N h0 : Nat) : ∀ i : Nat, Jvm.Free.Multi.outerC c N h0 i = arrV c N (fun j => va_rf (if j < i then some (h0 + 1 + j) else none))
  | 0 => by
    show ({ cls := c, slots := Array.replicate N .null, vm := .none } : Cell) = _
    rw [arrV_new]
    refine congrArg (arrV c N) (funext fun j => ?_)
    simp [va_rf]
  | i + 1 => by
    show (Jvm.Free.Multi.outerC c N h0 i).setSlot i (.ref (h0 + 1 + i)) = _
    rw [vr_outer c N h0 i, arrV_store]
    refine congrArg (arrV c N) (funext fun j => ?_)
    by_cases e : j = i
    · subst e
      simp [updV, va_rf]
    · by_cases h : j < i
      · simp [updV, e, h, Nat.lt_succ_of_lt h]
      · simp [updV, e, h, show ¬ j < i + 1 by omega]
def RX0 : String := "BeamKeepers$Bearings"
def TX0 : u_T := fun k => match k with
  | 0 => ("BeamKeepers$Bearings", "winds", "[[I", true)
  | 1 => ("BeamKeepers$Bearings", "distances", "[[I", true)
  | _ => ("BeamKeepers$Bearings", "nearest", "[I", true)
def tyX0 : Nat → FieldType := fun k => match k with
  | 0 => .array (.array .int)
  | 1 => .array (.array .int)
  | _ => .array .int
theorem nmX0 : ∀ a, a < 3 → ∀ b, b < 3 → a ≠ b → (TX0 a).2.1 ≠ (TX0 b).2.1 := by decide +kernel
theorem tyX0_ok : ∀ k, k < 3 → parseFieldDescriptor (TX0 k).2.2.1 = some (tyX0 k) := by decide +kernel
abbrev cX0_init : ByteArray := prog_2_method_1_code
def yX0_init : MethodName := ⟨RX0, "<init>", "()V"⟩
abbrev cX0_windOf : ByteArray := prog_2_method_2_code
def yX0_windOf : MethodName := ⟨RX0, "windOf", "(II)I"⟩
def RX1 : String := "BeamKeepers$History"
def TX1 : u_T := fun k => match k with
  | 0 => ("BeamKeepers$History", "states", "[LBeamKeepers$State;", true)
  | _ => ("BeamKeepers$History", "size", "I", false)
def tyX1 : Nat → FieldType := fun k => match k with
  | 0 => .array (.object "BeamKeepers$State")
  | _ => .int
theorem nmX1 : ∀ a, a < 2 → ∀ b, b < 2 → a ≠ b → (TX1 a).2.1 ≠ (TX1 b).2.1 := by decide +kernel
theorem tyX1_ok : ∀ k, k < 2 → parseFieldDescriptor (TX1 k).2.2.1 = some (tyX1 k) := by decide +kernel
abbrev cX1_init : ByteArray := prog_3_method_1_code
def yX1_init : MethodName := ⟨RX1, "<init>", "(LBeamKeepers$Bearings;)V"⟩
abbrev cX1_record : ByteArray := prog_3_method_2_code
def yX1_record : MethodName := ⟨RX1, "record", "(LBeamKeepers$State;)V"⟩
abbrev cX1_dropOldest : ByteArray := prog_3_method_3_code
def yX1_dropOldest : MethodName := ⟨RX1, "dropOldest", "()V"⟩
abbrev cX1_takeBack : ByteArray := prog_3_method_4_code
def yX1_takeBack : MethodName := ⟨RX1, "takeBack", "(LBeamKeepers$State;)I"⟩
def RX2 : String := "BeamKeepers$Keeper"
def TX2 : u_T := fun k => match k with
  | 0 => ("BeamKeepers$Keeper", "coins", "I", false)
  | 1 => ("BeamKeepers$Keeper", "debt", "I", false)
  | 2 => ("BeamKeepers$Keeper", "cards", "I", false)
  | 3 => ("BeamKeepers$Keeper", "wrecks", "I", false)
  | _ => ("BeamKeepers$Keeper", "paid", "I", false)
def tyX2 : Nat → FieldType := fun k => match k with
  | 0 => .int
  | 1 => .int
  | 2 => .int
  | 3 => .int
  | _ => .int
theorem nmX2 : ∀ a, a < 5 → ∀ b, b < 5 → a ≠ b → (TX2 a).2.1 ≠ (TX2 b).2.1 := by decide +kernel
theorem tyX2_ok : ∀ k, k < 5 → parseFieldDescriptor (TX2 k).2.2.1 = some (tyX2 k) := by decide +kernel
abbrev cX2_init : ByteArray := prog_4_method_1_code
def yX2_init : MethodName := ⟨RX2, "<init>", "()V"⟩
abbrev cX2_copyFrom : ByteArray := prog_4_method_2_code
def yX2_copyFrom : MethodName := ⟨RX2, "copyFrom", "(LBeamKeepers$Keeper;)V"⟩
abbrev cX2_told : ByteArray := prog_4_method_3_code
def yX2_told : MethodName := ⟨RX2, "told", "(I)I"⟩
abbrev cX2_oweWreck : ByteArray := prog_4_method_4_code
def yX2_oweWreck : MethodName := ⟨RX2, "oweWreck", "(I)V"⟩
abbrev cX2_earn : ByteArray := prog_4_method_5_code
def yX2_earn : MethodName := ⟨RX2, "earn", "(I)V"⟩
def RX3 : String := "BeamKeepers$Light"
def TX3 : u_T := fun k => match k with
  | 0 => ("BeamKeepers$Light", "ownCell", "I", true)
  | 1 => ("BeamKeepers$Light", "winds", "[I", true)
  | 2 => ("BeamKeepers$Light", "distances", "[I", true)
  | 3 => ("BeamKeepers$Light", "start", "I", false)
  | 4 => ("BeamKeepers$Light", "pace", "I", false)
  | 5 => ("BeamKeepers$Light", "range", "I", false)
  | 6 => ("BeamKeepers$Light", "dark", "I", false)
  | _ => ("BeamKeepers$Light", "fog", "I", false)
def tyX3 : Nat → FieldType := fun k => match k with
  | 0 => .int
  | 1 => .array .int
  | 2 => .array .int
  | 3 => .int
  | 4 => .int
  | 5 => .int
  | 6 => .int
  | _ => .int
theorem nmX3 : ∀ a, a < 8 → ∀ b, b < 8 → a ≠ b → (TX3 a).2.1 ≠ (TX3 b).2.1 := by decide +kernel
theorem tyX3_ok : ∀ k, k < 8 → parseFieldDescriptor (TX3 k).2.2.1 = some (tyX3 k) := by decide +kernel
abbrev cX3_init : ByteArray := prog_5_method_1_code
def yX3_init : MethodName := ⟨RX3, "<init>", "(ILBeamKeepers$Bearings;)V"⟩
abbrev cX3_copyFrom : ByteArray := prog_5_method_2_code
def yX3_copyFrom : MethodName := ⟨RX3, "copyFrom", "(LBeamKeepers$Light;)V"⟩
abbrev cX3_told : ByteArray := prog_5_method_3_code
def yX3_told : MethodName := ⟨RX3, "told", "(II)I"⟩
abbrev cX3_set : ByteArray := prog_5_method_4_code
def yX3_set : MethodName := ⟨RX3, "set", "(II)V"⟩
abbrev cX3_turnDark : ByteArray := prog_5_method_5_code
def yX3_turnDark : MethodName := ⟨RX3, "turnDark", "(I)V"⟩
abbrev cX3_layCard : ByteArray := prog_5_method_6_code
def yX3_layCard : MethodName := ⟨RX3, "layCard", "()V"⟩
abbrev cX3_thinFog : ByteArray := prog_5_method_7_code
def yX3_thinFog : MethodName := ⟨RX3, "thinFog", "()V"⟩
abbrev cX3_beamWind : ByteArray := prog_5_method_8_code
def yX3_beamWind : MethodName := ⟨RX3, "beamWind", "(I)I"⟩
abbrev cX3_isDark : ByteArray := prog_5_method_9_code
def yX3_isDark : MethodName := ⟨RX3, "isDark", "(I)Z"⟩
abbrev cX3_reach : ByteArray := prog_5_method_10_code
def yX3_reach : MethodName := ⟨RX3, "reach", "(I)I"⟩
abbrev cX3_lightsCell : ByteArray := prog_5_method_11_code
def yX3_lightsCell : MethodName := ⟨RX3, "lightsCell", "(III)Z"⟩
abbrev cX3_meetsOnWalk : ByteArray := prog_5_method_12_code
def yX3_meetsOnWalk : MethodName := ⟨RX3, "meetsOnWalk", "(II)Z"⟩
abbrev cX3_cellOnRing : ByteArray := prog_5_method_13_code
def yX3_cellOnRing : MethodName := ⟨RX3, "cellOnRing", "(II)I"⟩
abbrev cX3_eastOnRing : ByteArray := prog_5_method_14_code
def yX3_eastOnRing : MethodName := ⟨RX3, "eastOnRing", "(II)I"⟩
abbrev cX3_litCells : ByteArray := prog_5_method_15_code
def yX3_litCells : MethodName := ⟨RX3, "litCells", "(I)I"⟩
abbrev cX3_whyDark : ByteArray := prog_5_method_16_code
def yX3_whyDark : MethodName := ⟨RX3, "whyDark", "(II)I"⟩
def RX4 : String := "BeamKeepers$Part"
def TX4 : u_T := fun k => match k with
  | 0 => ("BeamKeepers$Part", "kind", "C", false)
  | 1 => ("BeamKeepers$Part", "number", "I", false)
  | 2 => ("BeamKeepers$Part", "cell", "I", false)
  | 3 => ("BeamKeepers$Part", "harbour", "I", false)
  | _ => ("BeamKeepers$Part", "wind", "I", false)
def tyX4 : Nat → FieldType := fun k => match k with
  | 0 => .char
  | 1 => .int
  | 2 => .int
  | 3 => .int
  | _ => .int
theorem nmX4 : ∀ a, a < 5 → ∀ b, b < 5 → a ≠ b → (TX4 a).2.1 ≠ (TX4 b).2.1 := by decide +kernel
theorem tyX4_ok : ∀ k, k < 5 → parseFieldDescriptor (TX4 k).2.2.1 = some (tyX4 k) := by decide +kernel
abbrev cX4_init : ByteArray := prog_6_method_1_code
def yX4_init : MethodName := ⟨RX4, "<init>", "()V"⟩
def RX5 : String := "BeamKeepers$Ship"
def TX5 : u_T := fun k => match k with
  | 0 => ("BeamKeepers$Ship", "worth", "I", false)
  | 1 => ("BeamKeepers$Ship", "cell", "I", false)
  | 2 => ("BeamKeepers$Ship", "harbour", "I", false)
  | 3 => ("BeamKeepers$Ship", "condition", "I", false)
  | _ => ("BeamKeepers$Ship", "waited", "I", false)
def tyX5 : Nat → FieldType := fun k => match k with
  | 0 => .int
  | 1 => .int
  | 2 => .int
  | 3 => .int
  | _ => .int
theorem nmX5 : ∀ a, a < 5 → ∀ b, b < 5 → a ≠ b → (TX5 a).2.1 ≠ (TX5 b).2.1 := by decide +kernel
theorem tyX5_ok : ∀ k, k < 5 → parseFieldDescriptor (TX5 k).2.2.1 = some (tyX5 k) := by decide +kernel
abbrev cX5_init : ByteArray := prog_7_method_1_code
def yX5_init : MethodName := ⟨RX5, "<init>", "()V"⟩
abbrev cX5_copyFrom : ByteArray := prog_7_method_2_code
def yX5_copyFrom : MethodName := ⟨RX5, "copyFrom", "(LBeamKeepers$Ship;)V"⟩
abbrev cX5_begin : ByteArray := prog_7_method_3_code
def yX5_begin : MethodName := ⟨RX5, "begin", "(III)V"⟩
abbrev cX5_told : ByteArray := prog_7_method_4_code
def yX5_told : MethodName := ⟨RX5, "told", "(I)I"⟩
abbrev cX5_nextCell : ByteArray := prog_7_method_5_code
def yX5_nextCell : MethodName := ⟨RX5, "nextCell", "()I"⟩
abbrev cX5_comeTo : ByteArray := prog_7_method_6_code
def yX5_comeTo : MethodName := ⟨RX5, "comeTo", "(I)V"⟩
abbrev cX5_breakIn : ByteArray := prog_7_method_7_code
def yX5_breakIn : MethodName := ⟨RX5, "breakIn", "(I)V"⟩
def RX6 : String := "BeamKeepers$State"
def TX6 : u_T := fun k => match k with
  | 0 => ("BeamKeepers$State", "bearings", "LBeamKeepers$Bearings;", true)
  | 1 => ("BeamKeepers$State", "rockRows", "[I", true)
  | 2 => ("BeamKeepers$State", "lights", "[LBeamKeepers$Light;", true)
  | 3 => ("BeamKeepers$State", "keepers", "[LBeamKeepers$Keeper;", true)
  | 4 => ("BeamKeepers$State", "ships", "[LBeamKeepers$Ship;", true)
  | 5 => ("BeamKeepers$State", "goingOrder", "[I", true)
  | 6 => ("BeamKeepers$State", "shipCount", "I", false)
  | 7 => ("BeamKeepers$State", "wage", "I", false)
  | _ => ("BeamKeepers$State", "hour", "I", false)
def tyX6 : Nat → FieldType := fun k => match k with
  | 0 => .object "BeamKeepers$Bearings"
  | 1 => .array .int
  | 2 => .array (.object "BeamKeepers$Light")
  | 3 => .array (.object "BeamKeepers$Keeper")
  | 4 => .array (.object "BeamKeepers$Ship")
  | 5 => .array .int
  | 6 => .int
  | 7 => .int
  | _ => .int
theorem nmX6 : ∀ a, a < 9 → ∀ b, b < 9 → a ≠ b → (TX6 a).2.1 ≠ (TX6 b).2.1 := by decide +kernel
theorem tyX6_ok : ∀ k, k < 9 → parseFieldDescriptor (TX6 k).2.2.1 = some (tyX6 k) := by decide +kernel
abbrev cX6_init : ByteArray := prog_8_method_1_code
def yX6_init : MethodName := ⟨RX6, "<init>", "(LBeamKeepers$Bearings;)V"⟩
abbrev cX6_copyFrom : ByteArray := prog_8_method_2_code
def yX6_copyFrom : MethodName := ⟨RX6, "copyFrom", "(LBeamKeepers$State;)V"⟩
abbrev cX6_hasRock : ByteArray := prog_8_method_3_code
def yX6_hasRock : MethodName := ⟨RX6, "hasRock", "(I)Z"⟩
abbrev cX6_rocks : ByteArray := prog_8_method_4_code
def yX6_rocks : MethodName := ⟨RX6, "rocks", "()I"⟩
abbrev cX6_rockError : ByteArray := prog_8_method_5_code
def yX6_rockError : MethodName := ⟨RX6, "rockError", "(I)I"⟩
abbrev cX6_turnRock : ByteArray := prog_8_method_6_code
def yX6_turnRock : MethodName := ⟨RX6, "turnRock", "(I)V"⟩
abbrev cX6_shipError : ByteArray := prog_8_method_7_code
def yX6_shipError : MethodName := ⟨RX6, "shipError", "(III)I"⟩
abbrev cX6_addShip : ByteArray := prog_8_method_8_code
def yX6_addShip : MethodName := ⟨RX6, "addShip", "(III)I"⟩
abbrev cX6_shipAtSeaIn : ByteArray := prog_8_method_9_code
def yX6_shipAtSeaIn : MethodName := ⟨RX6, "shipAtSeaIn", "(I)I"⟩
abbrev cX6_shipsThatAre : ByteArray := prog_8_method_10_code
def yX6_shipsThatAre : MethodName := ⟨RX6, "shipsThatAre", "(I)I"⟩
abbrev cX6_worthHome : ByteArray := prog_8_method_11_code
def yX6_worthHome : MethodName := ⟨RX6, "worthHome", "()I"⟩
abbrev cX6_placeOf : ByteArray := prog_8_method_12_code
def yX6_placeOf : MethodName := ⟨RX6, "placeOf", "(I)I"⟩
abbrev cX6_canLayCard : ByteArray := prog_8_method_13_code
def yX6_canLayCard : MethodName := ⟨RX6, "canLayCard", "(II)Z"⟩
abbrev cX6_debts : ByteArray := prog_8_method_14_code
def yX6_debts : MethodName := ⟨RX6, "debts", "()I"⟩
abbrev cX6_paid : ByteArray := prog_8_method_15_code
def yX6_paid : MethodName := ⟨RX6, "paid", "()I"⟩
abbrev cX6_litBy : ByteArray := prog_8_method_16_code
def yX6_litBy : MethodName := ⟨RX6, "litBy", "(III)I"⟩
abbrev cX6_litCells : ByteArray := prog_8_method_17_code
def yX6_litCells : MethodName := ⟨RX6, "litCells", "(Z)I"⟩
abbrev cX6_passError : ByteArray := prog_8_method_18_code
def yX6_passError : MethodName := ⟨RX6, "passError", "(I)I"⟩
abbrev cX6_passHours : ByteArray := prog_8_method_19_code
def yX6_passHours : MethodName := ⟨RX6, "passHours", "(I)I"⟩
abbrev cX6_goesToWreck : ByteArray := prog_8_method_20_code
def yX6_goesToWreck : MethodName := ⟨RX6, "goesToWreck", "(LBeamKeepers$Ship;)Z"⟩
abbrev cX6_doPart : ByteArray := prog_8_method_21_code
def yX6_doPart : MethodName := ⟨RX6, "doPart", "(LBeamKeepers$Part;)I"⟩
def RX7 : String := "BeamKeepers$Text"
def TX7 : u_T := fun k => match k with
  | 0 => ("BeamKeepers$Text", "characters", "[C", true)
  | 1 => ("BeamKeepers$Text", "length", "I", false)
  | 2 => ("BeamKeepers$Text", "parts", "[LBeamKeepers$Part;", true)
  | 3 => ("BeamKeepers$Text", "partCount", "I", false)
  | _ => ("BeamKeepers$Text", "place", "I", false)
def tyX7 : Nat → FieldType := fun k => match k with
  | 0 => .array .char
  | 1 => .int
  | 2 => .array (.object "BeamKeepers$Part")
  | 3 => .int
  | _ => .int
theorem nmX7 : ∀ a, a < 5 → ∀ b, b < 5 → a ≠ b → (TX7 a).2.1 ≠ (TX7 b).2.1 := by decide +kernel
theorem tyX7_ok : ∀ k, k < 5 → parseFieldDescriptor (TX7 k).2.2.1 = some (tyX7 k) := by decide +kernel
abbrev cX7_init : ByteArray := prog_9_method_1_code
def yX7_init : MethodName := ⟨RX7, "<init>", "()V"⟩
abbrev cX7_append : ByteArray := prog_9_method_2_code
def yX7_append : MethodName := ⟨RX7, "append", "(C)I"⟩
abbrev cX7_read : ByteArray := prog_9_method_3_code
def yX7_read : MethodName := ⟨RX7, "read", "()I"⟩
abbrev cX7_readPart : ByteArray := prog_9_method_4_code
def yX7_readPart : MethodName := ⟨RX7, "readPart", "(LBeamKeepers$Part;)Z"⟩
abbrev cX7_readShip : ByteArray := prog_9_method_5_code
def yX7_readShip : MethodName := ⟨RX7, "readShip", "(LBeamKeepers$Part;)Z"⟩
abbrev cX7_readSign : ByteArray := prog_9_method_6_code
def yX7_readSign : MethodName := ⟨RX7, "readSign", "(C)Z"⟩
abbrev cX7_readCell : ByteArray := prog_9_method_7_code
def yX7_readCell : MethodName := ⟨RX7, "readCell", "()I"⟩
abbrev cX7_readNumber : ByteArray := prog_9_method_8_code
def yX7_readNumber : MethodName := ⟨RX7, "readNumber", "(I)I"⟩
abbrev cX7_readDigit : ByteArray := prog_9_method_9_code
def yX7_readDigit : MethodName := ⟨RX7, "readDigit", "(II)I"⟩
def RX8 : String := "BeamKeepers"
def TX8 : u_T := fun k => match k with
  | 0 => ("BeamKeepers", "bearings", "LBeamKeepers$Bearings;", true)
  | 1 => ("BeamKeepers", "state", "LBeamKeepers$State;", true)
  | 2 => ("BeamKeepers", "trial", "LBeamKeepers$State;", true)
  | 3 => ("BeamKeepers", "snapshot", "LBeamKeepers$State;", true)
  | 4 => ("BeamKeepers", "hasSnapshot", "Z", false)
  | 5 => ("BeamKeepers", "history", "LBeamKeepers$History;", true)
  | _ => ("BeamKeepers", "text", "LBeamKeepers$Text;", true)
def tyX8 : Nat → FieldType := fun k => match k with
  | 0 => .object "BeamKeepers$Bearings"
  | 1 => .object "BeamKeepers$State"
  | 2 => .object "BeamKeepers$State"
  | 3 => .object "BeamKeepers$State"
  | 4 => .boolean
  | 5 => .object "BeamKeepers$History"
  | _ => .object "BeamKeepers$Text"
theorem nmX8 : ∀ a, a < 7 → ∀ b, b < 7 → a ≠ b → (TX8 a).2.1 ≠ (TX8 b).2.1 := by decide +kernel
theorem tyX8_ok : ∀ k, k < 7 → parseFieldDescriptor (TX8 k).2.2.1 = some (tyX8 k) := by decide +kernel
abbrev cX8_init : ByteArray := prog_1_method_1_code
def yX8_init : MethodName := ⟨RX8, "<init>", "()V"⟩
abbrev cX8_rock : ByteArray := prog_1_method_2_code
def yX8_rock : MethodName := ⟨RX8, "rock", "(I)I"⟩
abbrev cX8_light : ByteArray := prog_1_method_3_code
def yX8_light : MethodName := ⟨RX8, "light", "(III)I"⟩
abbrev cX8_ship : ByteArray := prog_1_method_4_code
def yX8_ship : MethodName := ⟨RX8, "ship", "(III)I"⟩
abbrev cX8_doAll : ByteArray := prog_1_method_5_code
def yX8_doAll : MethodName := ⟨RX8, "doAll", "()I"⟩
abbrev cX8_card : ByteArray := prog_1_method_6_code
def yX8_card : MethodName := ⟨RX8, "card", "(II)I"⟩
abbrev cX8_pass : ByteArray := prog_1_method_7_code
def yX8_pass : MethodName := ⟨RX8, "pass", "(I)I"⟩
abbrev cX8_wage : ByteArray := prog_1_method_8_code
def yX8_wage : MethodName := ⟨RX8, "wage", "(I)I"⟩
abbrev cX8_type : ByteArray := prog_1_method_9_code
def yX8_type : MethodName := ⟨RX8, "type", "(C)I"⟩
abbrev cX8_clearText : ByteArray := prog_1_method_10_code
def yX8_clearText : MethodName := ⟨RX8, "clearText", "()I"⟩
abbrev cX8_fault : ByteArray := prog_1_method_11_code
def yX8_fault : MethodName := ⟨RX8, "fault", "()I"⟩
abbrev cX8_undo : ByteArray := prog_1_method_12_code
def yX8_undo : MethodName := ⟨RX8, "undo", "()I"⟩
abbrev cX8_keep : ByteArray := prog_1_method_13_code
def yX8_keep : MethodName := ⟨RX8, "keep", "()I"⟩
abbrev cX8_restore : ByteArray := prog_1_method_14_code
def yX8_restore : MethodName := ⟨RX8, "restore", "()I"⟩
abbrev cX8_cellOf : ByteArray := prog_1_method_15_code
def yX8_cellOf : MethodName := ⟨RX8, "cellOf", "(II)I"⟩
abbrev cX8_lightOf : ByteArray := prog_1_method_16_code
def yX8_lightOf : MethodName := ⟨RX8, "lightOf", "(II)I"⟩
abbrev cX8_keeperOf : ByteArray := prog_1_method_17_code
def yX8_keeperOf : MethodName := ⟨RX8, "keeperOf", "(II)I"⟩
abbrev cX8_shipOf : ByteArray := prog_1_method_18_code
def yX8_shipOf : MethodName := ⟨RX8, "shipOf", "(II)I"⟩
abbrev cX8_isLit : ByteArray := prog_1_method_19_code
def yX8_isLit : MethodName := ⟨RX8, "isLit", "(IIII)I"⟩
abbrev cX8_why : ByteArray := prog_1_method_20_code
def yX8_why : MethodName := ⟨RX8, "why", "(II)I"⟩
abbrev cX8_count : ByteArray := prog_1_method_21_code
def yX8_count : MethodName := ⟨RX8, "count", "(I)I"⟩
abbrev cX8_share : ByteArray := prog_1_method_22_code
def yX8_share : MethodName := ⟨RX8, "share", "(I)F"⟩
abbrev cX8_litIn : ByteArray := prog_1_method_23_code
def yX8_litIn : MethodName := ⟨RX8, "litIn", "(I)I"⟩
abbrev cX8_ifPassed : ByteArray := prog_1_method_24_code
def yX8_ifPassed : MethodName := ⟨RX8, "ifPassed", "(I)I"⟩
abbrev cX8_bestCard : ByteArray := prog_1_method_25_code
def yX8_bestCard : MethodName := ⟨RX8, "bestCard", "(I)I"⟩
abbrev cX8_worthWreckedInTrial : ByteArray := prog_1_method_26_code
def yX8_worthWreckedInTrial : MethodName := ⟨RX8, "worthWreckedInTrial", "()I"⟩
abbrev cX8_isWreckedInTrial : ByteArray := prog_1_method_27_code
def yX8_isWreckedInTrial : MethodName := ⟨RX8, "isWreckedInTrial", "(I)Z"⟩
abbrev cX8_isCell : ByteArray := prog_1_method_28_code
def yX8_isCell : MethodName := ⟨RX8, "isCell", "(I)Z"⟩
abbrev cX8_isLight : ByteArray := prog_1_method_29_code
def yX8_isLight : MethodName := ⟨RX8, "isLight", "(I)Z"⟩
abbrev cX8_isSetting : ByteArray := prog_1_method_30_code
def yX8_isSetting : MethodName := ⟨RX8, "isSetting", "(II)Z"⟩
abbrev cX8_distanceBetween : ByteArray := prog_1_method_31_code
def yX8_distanceBetween : MethodName := ⟨RX8, "distanceBetween", "(II)I"⟩
def RX9 : String := "BeamKeepersModel"
def TX9 : u_T := fun k => match k with
  | 0 => ("BeamKeepersModel", "s", "[I", true)
  | 1 => ("BeamKeepersModel", "aside", "[I", true)
  | 2 => ("BeamKeepersModel", "past", "[I", true)
  | 3 => ("BeamKeepersModel", "pasts", "I", false)
  | 4 => ("BeamKeepersModel", "snapshot", "[I", true)
  | 5 => ("BeamKeepersModel", "isKept", "Z", false)
  | 6 => ("BeamKeepersModel", "text", "[C", true)
  | 7 => ("BeamKeepersModel", "length", "I", false)
  | 8 => ("BeamKeepersModel", "order", "[I", true)
  | 9 => ("BeamKeepersModel", "spot", "I", false)
  | 10 => ("BeamKeepersModel", "isWrong", "Z", false)
  | 11 => ("BeamKeepersModel", "letter", "I", false)
  | 12 => ("BeamKeepersModel", "first", "I", false)
  | 13 => ("BeamKeepersModel", "second", "I", false)
  | _ => ("BeamKeepersModel", "third", "I", false)
def tyX9 : Nat → FieldType := fun k => match k with
  | 0 => .array .int
  | 1 => .array .int
  | 2 => .array .int
  | 3 => .int
  | 4 => .array .int
  | 5 => .boolean
  | 6 => .array .char
  | 7 => .int
  | 8 => .array .int
  | 9 => .int
  | 10 => .boolean
  | 11 => .int
  | 12 => .int
  | 13 => .int
  | _ => .int
theorem nmX9 : ∀ a, a < 15 → ∀ b, b < 15 → a ≠ b → (TX9 a).2.1 ≠ (TX9 b).2.1 := by decide +kernel
theorem tyX9_ok : ∀ k, k < 15 → parseFieldDescriptor (TX9 k).2.2.1 = some (tyX9 k) := by decide +kernel
abbrev cX9_init : ByteArray := prog_11_method_1_code
def yX9_init : MethodName := ⟨RX9, "<init>", "()V"⟩
abbrev cX9_in : ByteArray := prog_11_method_3_code
def yX9_in : MethodName := ⟨RX9, "in", "(III)Z"⟩
abbrev cX9_isCell : ByteArray := prog_11_method_4_code
def yX9_isCell : MethodName := ⟨RX9, "isCell", "(I)Z"⟩
abbrev cX9_isLight : ByteArray := prog_11_method_5_code
def yX9_isLight : MethodName := ⟨RX9, "isLight", "(I)Z"⟩
abbrev cX9_isShip : ByteArray := prog_11_method_6_code
def yX9_isShip : MethodName := ⟨RX9, "isShip", "(I)Z"⟩
abbrev cX9_ofL : ByteArray := prog_11_method_7_code
def yX9_ofL : MethodName := ⟨RX9, "ofL", "(II)I"⟩
abbrev cX9_ofK : ByteArray := prog_11_method_8_code
def yX9_ofK : MethodName := ⟨RX9, "ofK", "(II)I"⟩
abbrev cX9_ofS : ByteArray := prog_11_method_9_code
def yX9_ofS : MethodName := ⟨RX9, "ofS", "(II)I"⟩
abbrev cX9_records : ByteArray := prog_11_method_10_code
def yX9_records : MethodName := ⟨RX9, "records", "()V"⟩
abbrev cX9_putAside : ByteArray := prog_11_method_11_code
def yX9_putAside : MethodName := ⟨RX9, "putAside", "()V"⟩
abbrev cX9_putBack : ByteArray := prog_11_method_12_code
def yX9_putBack : MethodName := ⟨RX9, "putBack", "()V"⟩
abbrev cX9_home : ByteArray := prog_11_method_13_code
def yX9_home : MethodName := ⟨RX9, "home", "(I)I"⟩
abbrev cX9_isHome : ByteArray := prog_11_method_14_code
def yX9_isHome : MethodName := ⟨RX9, "isHome", "(I)Z"⟩
abbrev cX9_size : ByteArray := prog_11_method_15_code
def yX9_size : MethodName := ⟨RX9, "size", "(I)I"⟩
abbrev cX9_east : ByteArray := prog_11_method_16_code
def yX9_east : MethodName := ⟨RX9, "east", "(II)I"⟩
abbrev cX9_south : ByteArray := prog_11_method_17_code
def yX9_south : MethodName := ⟨RX9, "south", "(II)I"⟩
abbrev cX9_distance : ByteArray := prog_11_method_18_code
def yX9_distance : MethodName := ⟨RX9, "distance", "(II)I"⟩
abbrev cX9_wind : ByteArray := prog_11_method_19_code
def yX9_wind : MethodName := ⟨RX9, "wind", "(II)I"⟩
abbrev cX9_beam : ByteArray := prog_11_method_20_code
def yX9_beam : MethodName := ⟨RX9, "beam", "(II)I"⟩
abbrev cX9_isDark : ByteArray := prog_11_method_21_code
def yX9_isDark : MethodName := ⟨RX9, "isDark", "(II)Z"⟩
abbrev cX9_lights : ByteArray := prog_11_method_22_code
def yX9_lights : MethodName := ⟨RX9, "lights", "(IIII)Z"⟩
abbrev cX9_litBy : ByteArray := prog_11_method_23_code
def yX9_litBy : MethodName := ⟨RX9, "litBy", "(II)Z"⟩
abbrev cX9_lightsOn : ByteArray := prog_11_method_24_code
def yX9_lightsOn : MethodName := ⟨RX9, "lightsOn", "(I)I"⟩
abbrev cX9_nearest : ByteArray := prog_11_method_25_code
def yX9_nearest : MethodName := ⟨RX9, "nearest", "(I)I"⟩
abbrev cX9_rocks : ByteArray := prog_11_method_26_code
def yX9_rocks : MethodName := ⟨RX9, "rocks", "()I"⟩
abbrev cX9_barRock : ByteArray := prog_11_method_27_code
def yX9_barRock : MethodName := ⟨RX9, "barRock", "(I)I"⟩
abbrev cX9_rock : ByteArray := prog_11_method_28_code
def yX9_rock : MethodName := ⟨RX9, "rock", "(I)I"⟩
abbrev cX9_fits : ByteArray := prog_11_method_29_code
def yX9_fits : MethodName := ⟨RX9, "fits", "(II)Z"⟩
abbrev cX9_light : ByteArray := prog_11_method_30_code
def yX9_light : MethodName := ⟨RX9, "light", "(III)I"⟩
abbrev cX9_shipIn : ByteArray := prog_11_method_31_code
def yX9_shipIn : MethodName := ⟨RX9, "shipIn", "(I)I"⟩
abbrev cX9_barShip : ByteArray := prog_11_method_32_code
def yX9_barShip : MethodName := ⟨RX9, "barShip", "(III)I"⟩
abbrev cX9_comes : ByteArray := prog_11_method_33_code
def yX9_comes : MethodName := ⟨RX9, "comes", "(III)I"⟩
abbrev cX9_ship : ByteArray := prog_11_method_34_code
def yX9_ship : MethodName := ⟨RX9, "ship", "(III)I"⟩
abbrev cX9_rank : ByteArray := prog_11_method_35_code
def yX9_rank : MethodName := ⟨RX9, "rank", "(I)I"⟩
abbrev cX9_towards : ByteArray := prog_11_method_36_code
def yX9_towards : MethodName := ⟨RX9, "towards", "(II)I"⟩
abbrev cX9_goes : ByteArray := prog_11_method_37_code
def yX9_goes : MethodName := ⟨RX9, "goes", "(I)V"⟩
abbrev cX9_hour : ByteArray := prog_11_method_38_code
def yX9_hour : MethodName := ⟨RX9, "hour", "()V"⟩
abbrev cX9_shipsIn : ByteArray := prog_11_method_39_code
def yX9_shipsIn : MethodName := ⟨RX9, "shipsIn", "(I)I"⟩
abbrev cX9_many : ByteArray := prog_11_method_40_code
def yX9_many : MethodName := ⟨RX9, "many", "(I)I"⟩
abbrev cX9_passes : ByteArray := prog_11_method_41_code
def yX9_passes : MethodName := ⟨RX9, "passes", "(I)I"⟩
abbrev cX9_barPass : ByteArray := prog_11_method_42_code
def yX9_barPass : MethodName := ⟨RX9, "barPass", "(I)I"⟩
abbrev cX9_pass : ByteArray := prog_11_method_43_code
def yX9_pass : MethodName := ⟨RX9, "pass", "(I)I"⟩
abbrev cX9_wage : ByteArray := prog_11_method_44_code
def yX9_wage : MethodName := ⟨RX9, "wage", "(I)I"⟩
abbrev cX9_canLay : ByteArray := prog_11_method_45_code
def yX9_canLay : MethodName := ⟨RX9, "canLay", "(II)Z"⟩
abbrev cX9_lays : ByteArray := prog_11_method_46_code
def yX9_lays : MethodName := ⟨RX9, "lays", "(II)V"⟩
abbrev cX9_card : ByteArray := prog_11_method_47_code
def yX9_card : MethodName := ⟨RX9, "card", "(II)I"⟩
abbrev cX9_type : ByteArray := prog_11_method_48_code
def yX9_type : MethodName := ⟨RX9, "type", "(C)I"⟩
abbrev cX9_clearText : ByteArray := prog_11_method_49_code
def yX9_clearText : MethodName := ⟨RX9, "clearText", "()I"⟩
abbrev cX9_next : ByteArray := prog_11_method_50_code
def yX9_next : MethodName := ⟨RX9, "next", "()I"⟩
abbrev cX9_sign : ByteArray := prog_11_method_51_code
def yX9_sign : MethodName := ⟨RX9, "sign", "(I)V"⟩
abbrev cX9_digit : ByteArray := prog_11_method_52_code
def yX9_digit : MethodName := ⟨RX9, "digit", "(II)I"⟩
abbrev cX9_cell : ByteArray := prog_11_method_53_code
def yX9_cell : MethodName := ⟨RX9, "cell", "()I"⟩
abbrev cX9_number : ByteArray := prog_11_method_54_code
def yX9_number : MethodName := ⟨RX9, "number", "(I)I"⟩
abbrev cX9_part : ByteArray := prog_11_method_55_code
def yX9_part : MethodName := ⟨RX9, "part", "()V"⟩
abbrev cX9_parts : ByteArray := prog_11_method_56_code
def yX9_parts : MethodName := ⟨RX9, "parts", "()I"⟩
abbrev cX9_fault : ByteArray := prog_11_method_57_code
def yX9_fault : MethodName := ⟨RX9, "fault", "()I"⟩
abbrev cX9_does : ByteArray := prog_11_method_58_code
def yX9_does : MethodName := ⟨RX9, "does", "()I"⟩
abbrev cX9_doAll : ByteArray := prog_11_method_59_code
def yX9_doAll : MethodName := ⟨RX9, "doAll", "()I"⟩
abbrev cX9_undo : ByteArray := prog_11_method_60_code
def yX9_undo : MethodName := ⟨RX9, "undo", "()I"⟩
abbrev cX9_keep : ByteArray := prog_11_method_61_code
def yX9_keep : MethodName := ⟨RX9, "keep", "()I"⟩
abbrev cX9_restore : ByteArray := prog_11_method_62_code
def yX9_restore : MethodName := ⟨RX9, "restore", "()I"⟩
abbrev cX9_cellOf : ByteArray := prog_11_method_63_code
def yX9_cellOf : MethodName := ⟨RX9, "cellOf", "(II)I"⟩
abbrev cX9_litCells : ByteArray := prog_11_method_64_code
def yX9_litCells : MethodName := ⟨RX9, "litCells", "(I)I"⟩
abbrev cX9_lightOf : ByteArray := prog_11_method_65_code
def yX9_lightOf : MethodName := ⟨RX9, "lightOf", "(II)I"⟩
abbrev cX9_keeperOf : ByteArray := prog_11_method_66_code
def yX9_keeperOf : MethodName := ⟨RX9, "keeperOf", "(II)I"⟩
abbrev cX9_shipOf : ByteArray := prog_11_method_67_code
def yX9_shipOf : MethodName := ⟨RX9, "shipOf", "(II)I"⟩
abbrev cX9_isLit : ByteArray := prog_11_method_68_code
def yX9_isLit : MethodName := ⟨RX9, "isLit", "(IIII)I"⟩
abbrev cX9_why : ByteArray := prog_11_method_69_code
def yX9_why : MethodName := ⟨RX9, "why", "(II)I"⟩
abbrev cX9_litNow : ByteArray := prog_11_method_70_code
def yX9_litNow : MethodName := ⟨RX9, "litNow", "(Z)I"⟩
abbrev cX9_ofAll : ByteArray := prog_11_method_71_code
def yX9_ofAll : MethodName := ⟨RX9, "ofAll", "(I)I"⟩
abbrev cX9_worth : ByteArray := prog_11_method_72_code
def yX9_worth : MethodName := ⟨RX9, "worth", "(I)I"⟩
abbrev cX9_count : ByteArray := prog_11_method_73_code
def yX9_count : MethodName := ⟨RX9, "count", "(I)I"⟩
abbrev cX9_isLitThen : ByteArray := prog_11_method_74_code
def yX9_isLitThen : MethodName := ⟨RX9, "isLitThen", "(III)Z"⟩
abbrev cX9_share : ByteArray := prog_11_method_75_code
def yX9_share : MethodName := ⟨RX9, "share", "(I)F"⟩
abbrev cX9_litIn : ByteArray := prog_11_method_76_code
def yX9_litIn : MethodName := ⟨RX9, "litIn", "(I)I"⟩
abbrev cX9_ifPassed : ByteArray := prog_11_method_77_code
def yX9_ifPassed : MethodName := ⟨RX9, "ifPassed", "(I)I"⟩
abbrev cX9_bestCard : ByteArray := prog_11_method_78_code
def yX9_bestCard : MethodName := ⟨RX9, "bestCard", "(I)I"⟩
def RJ6 : String := "java/lang/Integer"
def TJ6 : u_T := fun k => match k with
  | _ => ("", "", "", false)
def tyJ6 : Nat → FieldType := fun k => match k with
  | _ => .int
theorem nmJ6 : ∀ a, a < 0 → ∀ b, b < 0 → a ≠ b → (TJ6 a).2.1 ≠ (TJ6 b).2.1 := by decide +kernel
theorem tyJ6_ok : ∀ k, k < 0 → parseFieldDescriptor (TJ6 k).2.2.1 = some (tyJ6 k) := by decide +kernel
abbrev cJ6_compare_7cf53 : ByteArray := prog_12_method_40_code
def yJ6_compare_7cf53 : MethodName := ⟨RJ6, "compare", "(II)I"⟩
abbrev cJ6_bitCount_0f7a4 : ByteArray := prog_12_method_49_code
def yJ6_bitCount_0f7a4 : MethodName := ⟨RJ6, "bitCount", "(I)I"⟩
def RJ9 : String := "java/lang/Math"
def TJ9 : u_T := fun k => match k with
  | _ => ("", "", "", false)
def tyJ9 : Nat → FieldType := fun k => match k with
  | _ => .int
theorem nmJ9 : ∀ a, a < 0 → ∀ b, b < 0 → a ≠ b → (TJ9 a).2.1 ≠ (TJ9 b).2.1 := by decide +kernel
theorem tyJ9_ok : ∀ k, k < 0 → parseFieldDescriptor (TJ9 k).2.2.1 = some (tyJ9 k) := by decide +kernel
abbrev cJ9_floorMod_7cf53 : ByteArray := prog_13_method_50_code
def yJ9_floorMod_7cf53 : MethodName := ⟨RJ9, "floorMod", "(II)I"⟩
abbrev cJ9_abs_0f7a4 : ByteArray := prog_13_method_59_code
def yJ9_abs_0f7a4 : MethodName := ⟨RJ9, "abs", "(I)I"⟩
abbrev cJ9_max_7cf53 : ByteArray := prog_13_method_65_code
def yJ9_max_7cf53 : MethodName := ⟨RJ9, "max", "(II)I"⟩
abbrev cJ9_min_7cf53 : ByteArray := prog_13_method_69_code
def yJ9_min_7cf53 : MethodName := ⟨RJ9, "min", "(II)I"⟩
def RJ10 : String := "java/lang/System"
def TJ10 : u_T := fun k => match k with
  | _ => ("", "", "", false)
def tyJ10 : Nat → FieldType := fun k => match k with
  | _ => .int
theorem nmJ10 : ∀ a, a < 0 → ∀ b, b < 0 → a ≠ b → (TJ10 a).2.1 ≠ (TJ10 b).2.1 := by decide +kernel
theorem tyJ10_ok : ∀ k, k < 0 → parseFieldDescriptor (TJ10 k).2.2.1 = some (tyJ10 k) := by decide +kernel
def RL : String := "BeamKeepersLaw"
abbrev cL_law : ByteArray := code
def yL_law : MethodName := ⟨RL, "law", "([I)Z"⟩
abbrev vwCl : List vw_C := [(RX0, TX0, 3), (RX1, TX1, 2), (RX2, TX2, 5), (RX3, TX3, 8), (RX4, TX4, 5), (RX5, TX5, 5), (RX6, TX6, 9), (RX7, TX7, 5), (RX8, TX8, 7), (RX9, TX9, 15)]
end
section
theorem dX9_init_0 : decode cX9_init 0 = .ok (.aload_n 0, 1) := by decide +kernel
theorem dX9_init_1 : decode cX9_init 1 = .ok (.invokespecial 1, 3) := by decide +kernel
theorem dX9_init_4 : decode cX9_init 4 = .ok (.aload_n 0, 1) := by decide +kernel
theorem dX9_init_5 : decode cX9_init 5 = .ok (.sipush 183, 3) := by decide +kernel
theorem dX9_init_8 : decode cX9_init 8 = .ok (.newarray .int, 2) := by decide +kernel
theorem dX9_init_10 : decode cX9_init 10 = .ok (.putfield 7, 3) := by decide +kernel
theorem dX9_init_13 : decode cX9_init 13 = .ok (.aload_n 0, 1) := by decide +kernel
theorem dX9_init_14 : decode cX9_init 14 = .ok (.sipush 183, 3) := by decide +kernel
theorem dX9_init_17 : decode cX9_init 17 = .ok (.newarray .int, 2) := by decide +kernel
theorem dX9_init_19 : decode cX9_init 19 = .ok (.putfield 13, 3) := by decide +kernel
theorem dX9_init_22 : decode cX9_init 22 = .ok (.aload_n 0, 1) := by decide +kernel
theorem dX9_init_23 : decode cX9_init 23 = .ok (.sipush 732, 3) := by decide +kernel
theorem dX9_init_26 : decode cX9_init 26 = .ok (.newarray .int, 2) := by decide +kernel
theorem dX9_init_28 : decode cX9_init 28 = .ok (.putfield 16, 3) := by decide +kernel
theorem dX9_init_31 : decode cX9_init 31 = .ok (.aload_n 0, 1) := by decide +kernel
theorem dX9_init_32 : decode cX9_init 32 = .ok (.sipush 183, 3) := by decide +kernel
theorem dX9_init_35 : decode cX9_init 35 = .ok (.newarray .int, 2) := by decide +kernel
theorem dX9_init_37 : decode cX9_init 37 = .ok (.putfield 19, 3) := by decide +kernel
theorem dX9_init_40 : decode cX9_init 40 = .ok (.aload_n 0, 1) := by decide +kernel
theorem dX9_init_41 : decode cX9_init 41 = .ok (.bipush 60, 2) := by decide +kernel
theorem dX9_init_43 : decode cX9_init 43 = .ok (.newarray .char, 2) := by decide +kernel
theorem dX9_init_45 : decode cX9_init 45 = .ok (.putfield 22, 3) := by decide +kernel
theorem dX9_init_48 : decode cX9_init 48 = .ok (.aload_n 0, 1) := by decide +kernel
theorem dX9_init_49 : decode cX9_init 49 = .ok (.bipush 8, 2) := by decide +kernel
theorem dX9_init_51 : decode cX9_init 51 = .ok (.newarray .int, 2) := by decide +kernel
theorem dX9_init_53 : decode cX9_init 53 = .ok (.putfield 26, 3) := by decide +kernel
theorem dX9_init_56 : decode cX9_init 56 = .ok (.iconst 0, 1) := by decide +kernel
theorem dX9_init_57 : decode cX9_init 57 = .ok (.istore_n 1, 1) := by decide +kernel
theorem dX9_init_58 : decode cX9_init 58 = .ok (.iload_n 1, 1) := by decide +kernel
theorem dX9_init_59 : decode cX9_init 59 = .ok (.iconst 4, 1) := by decide +kernel
theorem dX9_init_60 : decode cX9_init 60 = .ok (.if_icmp .ge 53, 3) := by decide +kernel
theorem dX9_init_63 : decode cX9_init 63 = .ok (.aload_n 0, 1) := by decide +kernel
theorem dX9_init_64 : decode cX9_init 64 = .ok (.getfield 7, 3) := by decide +kernel
theorem dX9_init_67 : decode cX9_init 67 = .ok (.iload_n 1, 1) := by decide +kernel
theorem dX9_init_68 : decode cX9_init 68 = .ok (.iconst 0, 1) := by decide +kernel
theorem dX9_init_69 : decode cX9_init 69 = .ok (.invokestatic 29, 3) := by decide +kernel
theorem dX9_init_72 : decode cX9_init 72 = .ok (.iload_n 1, 1) := by decide +kernel
theorem dX9_init_73 : decode cX9_init 73 = .ok (.iastore, 1) := by decide +kernel
theorem dX9_init_74 : decode cX9_init 74 = .ok (.aload_n 0, 1) := by decide +kernel
theorem dX9_init_75 : decode cX9_init 75 = .ok (.getfield 7, 3) := by decide +kernel
theorem dX9_init_78 : decode cX9_init 78 = .ok (.iload_n 1, 1) := by decide +kernel
theorem dX9_init_79 : decode cX9_init 79 = .ok (.iconst 1, 1) := by decide +kernel
theorem dX9_init_80 : decode cX9_init 80 = .ok (.invokestatic 29, 3) := by decide +kernel
theorem dX9_init_83 : decode cX9_init 83 = .ok (.iconst 1, 1) := by decide +kernel
theorem dX9_init_84 : decode cX9_init 84 = .ok (.iastore, 1) := by decide +kernel
theorem dX9_init_85 : decode cX9_init 85 = .ok (.aload_n 0, 1) := by decide +kernel
theorem dX9_init_86 : decode cX9_init 86 = .ok (.getfield 7, 3) := by decide +kernel
theorem dX9_init_89 : decode cX9_init 89 = .ok (.iload_n 1, 1) := by decide +kernel
theorem dX9_init_90 : decode cX9_init 90 = .ok (.iconst 2, 1) := by decide +kernel
theorem dX9_init_91 : decode cX9_init 91 = .ok (.invokestatic 29, 3) := by decide +kernel
theorem dX9_init_94 : decode cX9_init 94 = .ok (.iconst 5, 1) := by decide +kernel
theorem dX9_init_95 : decode cX9_init 95 = .ok (.iastore, 1) := by decide +kernel
theorem dX9_init_96 : decode cX9_init 96 = .ok (.aload_n 0, 1) := by decide +kernel
theorem dX9_init_97 : decode cX9_init 97 = .ok (.getfield 7, 3) := by decide +kernel
theorem dX9_init_100 : decode cX9_init 100 = .ok (.iload_n 1, 1) := by decide +kernel
theorem dX9_init_101 : decode cX9_init 101 = .ok (.iconst 2, 1) := by decide +kernel
theorem dX9_init_102 : decode cX9_init 102 = .ok (.invokestatic 33, 3) := by decide +kernel
theorem dX9_init_105 : decode cX9_init 105 = .ok (.iconst 3, 1) := by decide +kernel
theorem dX9_init_106 : decode cX9_init 106 = .ok (.iastore, 1) := by decide +kernel
theorem dX9_init_107 : decode cX9_init 107 = .ok (.iinc 1 1, 3) := by decide +kernel
theorem dX9_init_110 : decode cX9_init 110 = .ok (.goto (-52), 3) := by decide +kernel
theorem dX9_init_113 : decode cX9_init 113 = .ok (.aload_n 0, 1) := by decide +kernel
theorem dX9_init_114 : decode cX9_init 114 = .ok (.getfield 7, 3) := by decide +kernel
theorem dX9_init_117 : decode cX9_init 117 = .ok (.sipush 182, 3) := by decide +kernel
theorem dX9_init_120 : decode cX9_init 120 = .ok (.iconst 2, 1) := by decide +kernel
theorem dX9_init_121 : decode cX9_init 121 = .ok (.iastore, 1) := by decide +kernel
theorem dX9_init_122 : decode cX9_init 122 = .ok (.return_, 1) := by decide +kernel
theorem dX9_in_0 : decode cX9_in 0 = .ok (.iload_n 0, 1) := by decide +kernel
theorem dX9_in_1 : decode cX9_in 1 = .ok (.iload_n 1, 1) := by decide +kernel
theorem dX9_in_2 : decode cX9_in 2 = .ok (.if_icmp .lt 12, 3) := by decide +kernel
theorem dX9_in_5 : decode cX9_in 5 = .ok (.iload_n 0, 1) := by decide +kernel
theorem dX9_in_6 : decode cX9_in 6 = .ok (.iload_n 2, 1) := by decide +kernel
theorem dX9_in_7 : decode cX9_in 7 = .ok (.if_icmp .gt 7, 3) := by decide +kernel
theorem dX9_in_10 : decode cX9_in 10 = .ok (.iconst 1, 1) := by decide +kernel
theorem dX9_in_11 : decode cX9_in 11 = .ok (.goto 4, 3) := by decide +kernel
theorem dX9_in_14 : decode cX9_in 14 = .ok (.iconst 0, 1) := by decide +kernel
theorem dX9_in_15 : decode cX9_in 15 = .ok (.ireturn, 1) := by decide +kernel
theorem dX9_isCell_0 : decode cX9_isCell 0 = .ok (.iload_n 0, 1) := by decide +kernel
theorem dX9_isCell_1 : decode cX9_isCell 1 = .ok (.iconst 0, 1) := by decide +kernel
theorem dX9_isCell_2 : decode cX9_isCell 2 = .ok (.bipush 99, 2) := by decide +kernel
theorem dX9_isCell_4 : decode cX9_isCell 4 = .ok (.invokestatic 36, 3) := by decide +kernel
theorem dX9_isCell_7 : decode cX9_isCell 7 = .ok (.ireturn, 1) := by decide +kernel
theorem dX9_isLight_0 : decode cX9_isLight 0 = .ok (.iload_n 0, 1) := by decide +kernel
theorem dX9_isLight_1 : decode cX9_isLight 1 = .ok (.iconst 0, 1) := by decide +kernel
theorem dX9_isLight_2 : decode cX9_isLight 2 = .ok (.iconst 3, 1) := by decide +kernel
theorem dX9_isLight_3 : decode cX9_isLight 3 = .ok (.invokestatic 36, 3) := by decide +kernel
theorem dX9_isLight_6 : decode cX9_isLight 6 = .ok (.ireturn, 1) := by decide +kernel
theorem dX9_isShip_0 : decode cX9_isShip 0 = .ok (.iload_n 1, 1) := by decide +kernel
theorem dX9_isShip_1 : decode cX9_isShip 1 = .ok (.iconst 0, 1) := by decide +kernel
theorem dX9_isShip_2 : decode cX9_isShip 2 = .ok (.aload_n 0, 1) := by decide +kernel
theorem dX9_isShip_3 : decode cX9_isShip 3 = .ok (.getfield 7, 3) := by decide +kernel
theorem dX9_isShip_6 : decode cX9_isShip 6 = .ok (.sipush 180, 3) := by decide +kernel
theorem dX9_isShip_9 : decode cX9_isShip 9 = .ok (.iaload, 1) := by decide +kernel
theorem dX9_isShip_10 : decode cX9_isShip 10 = .ok (.iconst 1, 1) := by decide +kernel
theorem dX9_isShip_11 : decode cX9_isShip 11 = .ok (.isub, 1) := by decide +kernel
theorem dX9_isShip_12 : decode cX9_isShip 12 = .ok (.invokestatic 36, 3) := by decide +kernel
theorem dX9_isShip_15 : decode cX9_isShip 15 = .ok (.ireturn, 1) := by decide +kernel
theorem dX9_ofL_0 : decode cX9_ofL 0 = .ok (.bipush 100, 2) := by decide +kernel
theorem dX9_ofL_2 : decode cX9_ofL 2 = .ok (.iconst 5, 1) := by decide +kernel
theorem dX9_ofL_3 : decode cX9_ofL 3 = .ok (.iload_n 0, 1) := by decide +kernel
theorem dX9_ofL_4 : decode cX9_ofL 4 = .ok (.imul, 1) := by decide +kernel
theorem dX9_ofL_5 : decode cX9_ofL 5 = .ok (.iadd, 1) := by decide +kernel
theorem dX9_ofL_6 : decode cX9_ofL 6 = .ok (.iload_n 1, 1) := by decide +kernel
theorem dX9_ofL_7 : decode cX9_ofL 7 = .ok (.iadd, 1) := by decide +kernel
theorem dX9_ofL_8 : decode cX9_ofL 8 = .ok (.ireturn, 1) := by decide +kernel
theorem dX9_ofK_0 : decode cX9_ofK 0 = .ok (.bipush 120, 2) := by decide +kernel
theorem dX9_ofK_2 : decode cX9_ofK 2 = .ok (.iconst 5, 1) := by decide +kernel
theorem dX9_ofK_3 : decode cX9_ofK 3 = .ok (.iload_n 0, 1) := by decide +kernel
theorem dX9_ofK_4 : decode cX9_ofK 4 = .ok (.imul, 1) := by decide +kernel
theorem dX9_ofK_5 : decode cX9_ofK 5 = .ok (.iadd, 1) := by decide +kernel
theorem dX9_ofK_6 : decode cX9_ofK 6 = .ok (.iload_n 1, 1) := by decide +kernel
theorem dX9_ofK_7 : decode cX9_ofK 7 = .ok (.iadd, 1) := by decide +kernel
theorem dX9_ofK_8 : decode cX9_ofK 8 = .ok (.ireturn, 1) := by decide +kernel
theorem dX9_ofS_0 : decode cX9_ofS 0 = .ok (.sipush 140, 3) := by decide +kernel
theorem dX9_ofS_3 : decode cX9_ofS 3 = .ok (.iconst 5, 1) := by decide +kernel
theorem dX9_ofS_4 : decode cX9_ofS 4 = .ok (.iload_n 0, 1) := by decide +kernel
theorem dX9_ofS_5 : decode cX9_ofS 5 = .ok (.imul, 1) := by decide +kernel
theorem dX9_ofS_6 : decode cX9_ofS 6 = .ok (.iadd, 1) := by decide +kernel
theorem dX9_ofS_7 : decode cX9_ofS 7 = .ok (.iload_n 1, 1) := by decide +kernel
theorem dX9_ofS_8 : decode cX9_ofS 8 = .ok (.iadd, 1) := by decide +kernel
theorem dX9_ofS_9 : decode cX9_ofS 9 = .ok (.ireturn, 1) := by decide +kernel
theorem dX9_records_0 : decode cX9_records 0 = .ok (.aload_n 0, 1) := by decide +kernel
theorem dX9_records_1 : decode cX9_records 1 = .ok (.getfield 40, 3) := by decide +kernel
theorem dX9_records_4 : decode cX9_records 4 = .ok (.iconst 4, 1) := by decide +kernel
theorem dX9_records_5 : decode cX9_records 5 = .ok (.if_icmp .ne 44, 3) := by decide +kernel
theorem dX9_records_8 : decode cX9_records 8 = .ok (.iconst 0, 1) := by decide +kernel
theorem dX9_records_9 : decode cX9_records 9 = .ok (.istore_n 1, 1) := by decide +kernel
theorem dX9_records_10 : decode cX9_records 10 = .ok (.iload_n 1, 1) := by decide +kernel
theorem dX9_records_11 : decode cX9_records 11 = .ok (.sipush 549, 3) := by decide +kernel
theorem dX9_records_14 : decode cX9_records 14 = .ok (.if_icmp .ge 25, 3) := by decide +kernel
theorem dX9_records_17 : decode cX9_records 17 = .ok (.aload_n 0, 1) := by decide +kernel
theorem dX9_records_18 : decode cX9_records 18 = .ok (.getfield 16, 3) := by decide +kernel
theorem dX9_records_21 : decode cX9_records 21 = .ok (.iload_n 1, 1) := by decide +kernel
theorem dX9_records_22 : decode cX9_records 22 = .ok (.aload_n 0, 1) := by decide +kernel
theorem dX9_records_23 : decode cX9_records 23 = .ok (.getfield 16, 3) := by decide +kernel
theorem dX9_records_26 : decode cX9_records 26 = .ok (.sipush 183, 3) := by decide +kernel
theorem dX9_records_29 : decode cX9_records 29 = .ok (.iload_n 1, 1) := by decide +kernel
theorem dX9_records_30 : decode cX9_records 30 = .ok (.iadd, 1) := by decide +kernel
theorem dX9_records_31 : decode cX9_records 31 = .ok (.iaload, 1) := by decide +kernel
theorem dX9_records_32 : decode cX9_records 32 = .ok (.iastore, 1) := by decide +kernel
theorem dX9_records_33 : decode cX9_records 33 = .ok (.iinc 1 1, 3) := by decide +kernel
theorem dX9_records_36 : decode cX9_records 36 = .ok (.goto (-26), 3) := by decide +kernel
theorem dX9_records_39 : decode cX9_records 39 = .ok (.aload_n 0, 1) := by decide +kernel
theorem dX9_records_40 : decode cX9_records 40 = .ok (.dup, 1) := by decide +kernel
theorem dX9_records_41 : decode cX9_records 41 = .ok (.getfield 40, 3) := by decide +kernel
theorem dX9_records_44 : decode cX9_records 44 = .ok (.iconst 1, 1) := by decide +kernel
theorem dX9_records_45 : decode cX9_records 45 = .ok (.isub, 1) := by decide +kernel
theorem dX9_records_46 : decode cX9_records 46 = .ok (.putfield 40, 3) := by decide +kernel
theorem dX9_records_49 : decode cX9_records 49 = .ok (.iconst 0, 1) := by decide +kernel
theorem dX9_records_50 : decode cX9_records 50 = .ok (.istore_n 1, 1) := by decide +kernel
theorem dX9_records_51 : decode cX9_records 51 = .ok (.iload_n 1, 1) := by decide +kernel
theorem dX9_records_52 : decode cX9_records 52 = .ok (.sipush 183, 3) := by decide +kernel
theorem dX9_records_55 : decode cX9_records 55 = .ok (.if_icmp .ge 30, 3) := by decide +kernel
theorem dX9_records_58 : decode cX9_records 58 = .ok (.aload_n 0, 1) := by decide +kernel
theorem dX9_records_59 : decode cX9_records 59 = .ok (.getfield 16, 3) := by decide +kernel
theorem dX9_records_62 : decode cX9_records 62 = .ok (.sipush 183, 3) := by decide +kernel
theorem dX9_records_65 : decode cX9_records 65 = .ok (.aload_n 0, 1) := by decide +kernel
theorem dX9_records_66 : decode cX9_records 66 = .ok (.getfield 40, 3) := by decide +kernel
theorem dX9_records_69 : decode cX9_records 69 = .ok (.imul, 1) := by decide +kernel
theorem dX9_records_70 : decode cX9_records 70 = .ok (.iload_n 1, 1) := by decide +kernel
theorem dX9_records_71 : decode cX9_records 71 = .ok (.iadd, 1) := by decide +kernel
theorem dX9_records_72 : decode cX9_records 72 = .ok (.aload_n 0, 1) := by decide +kernel
theorem dX9_records_73 : decode cX9_records 73 = .ok (.getfield 7, 3) := by decide +kernel
theorem dX9_records_76 : decode cX9_records 76 = .ok (.iload_n 1, 1) := by decide +kernel
theorem dX9_records_77 : decode cX9_records 77 = .ok (.iaload, 1) := by decide +kernel
theorem dX9_records_78 : decode cX9_records 78 = .ok (.iastore, 1) := by decide +kernel
theorem dX9_records_79 : decode cX9_records 79 = .ok (.iinc 1 1, 3) := by decide +kernel
theorem dX9_records_82 : decode cX9_records 82 = .ok (.goto (-31), 3) := by decide +kernel
theorem dX9_records_85 : decode cX9_records 85 = .ok (.aload_n 0, 1) := by decide +kernel
theorem dX9_records_86 : decode cX9_records 86 = .ok (.dup, 1) := by decide +kernel
theorem dX9_records_87 : decode cX9_records 87 = .ok (.getfield 40, 3) := by decide +kernel
theorem dX9_records_90 : decode cX9_records 90 = .ok (.iconst 1, 1) := by decide +kernel
theorem dX9_records_91 : decode cX9_records 91 = .ok (.iadd, 1) := by decide +kernel
theorem dX9_records_92 : decode cX9_records 92 = .ok (.putfield 40, 3) := by decide +kernel
theorem dX9_records_95 : decode cX9_records 95 = .ok (.return_, 1) := by decide +kernel
theorem dX9_putAside_0 : decode cX9_putAside 0 = .ok (.iconst 0, 1) := by decide +kernel
theorem dX9_putAside_1 : decode cX9_putAside 1 = .ok (.istore_n 1, 1) := by decide +kernel
theorem dX9_putAside_2 : decode cX9_putAside 2 = .ok (.iload_n 1, 1) := by decide +kernel
theorem dX9_putAside_3 : decode cX9_putAside 3 = .ok (.sipush 183, 3) := by decide +kernel
theorem dX9_putAside_6 : decode cX9_putAside 6 = .ok (.if_icmp .ge 21, 3) := by decide +kernel
theorem dX9_putAside_9 : decode cX9_putAside 9 = .ok (.aload_n 0, 1) := by decide +kernel
theorem dX9_putAside_10 : decode cX9_putAside 10 = .ok (.getfield 13, 3) := by decide +kernel
theorem dX9_putAside_13 : decode cX9_putAside 13 = .ok (.iload_n 1, 1) := by decide +kernel
theorem dX9_putAside_14 : decode cX9_putAside 14 = .ok (.aload_n 0, 1) := by decide +kernel
theorem dX9_putAside_15 : decode cX9_putAside 15 = .ok (.getfield 7, 3) := by decide +kernel
theorem dX9_putAside_18 : decode cX9_putAside 18 = .ok (.iload_n 1, 1) := by decide +kernel
theorem dX9_putAside_19 : decode cX9_putAside 19 = .ok (.iaload, 1) := by decide +kernel
theorem dX9_putAside_20 : decode cX9_putAside 20 = .ok (.iastore, 1) := by decide +kernel
theorem dX9_putAside_21 : decode cX9_putAside 21 = .ok (.iinc 1 1, 3) := by decide +kernel
theorem dX9_putAside_24 : decode cX9_putAside 24 = .ok (.goto (-22), 3) := by decide +kernel
theorem dX9_putAside_27 : decode cX9_putAside 27 = .ok (.return_, 1) := by decide +kernel
theorem dX9_putBack_0 : decode cX9_putBack 0 = .ok (.iconst 0, 1) := by decide +kernel
theorem dX9_putBack_1 : decode cX9_putBack 1 = .ok (.istore_n 1, 1) := by decide +kernel
theorem dX9_putBack_2 : decode cX9_putBack 2 = .ok (.iload_n 1, 1) := by decide +kernel
theorem dX9_putBack_3 : decode cX9_putBack 3 = .ok (.sipush 183, 3) := by decide +kernel
theorem dX9_putBack_6 : decode cX9_putBack 6 = .ok (.if_icmp .ge 21, 3) := by decide +kernel
theorem dX9_putBack_9 : decode cX9_putBack 9 = .ok (.aload_n 0, 1) := by decide +kernel
theorem dX9_putBack_10 : decode cX9_putBack 10 = .ok (.getfield 7, 3) := by decide +kernel
theorem dX9_putBack_13 : decode cX9_putBack 13 = .ok (.iload_n 1, 1) := by decide +kernel
theorem dX9_putBack_14 : decode cX9_putBack 14 = .ok (.aload_n 0, 1) := by decide +kernel
theorem dX9_putBack_15 : decode cX9_putBack 15 = .ok (.getfield 13, 3) := by decide +kernel
theorem dX9_putBack_18 : decode cX9_putBack 18 = .ok (.iload_n 1, 1) := by decide +kernel
theorem dX9_putBack_19 : decode cX9_putBack 19 = .ok (.iaload, 1) := by decide +kernel
theorem dX9_putBack_20 : decode cX9_putBack 20 = .ok (.iastore, 1) := by decide +kernel
theorem dX9_putBack_21 : decode cX9_putBack 21 = .ok (.iinc 1 1, 3) := by decide +kernel
theorem dX9_putBack_24 : decode cX9_putBack 24 = .ok (.goto (-22), 3) := by decide +kernel
theorem dX9_putBack_27 : decode cX9_putBack 27 = .ok (.return_, 1) := by decide +kernel
theorem dX9_home_0 : decode cX9_home 0 = .ok (.iload_n 0, 1) := by decide +kernel
theorem dX9_home_1 : decode cX9_home 1 = .ok (.ifCond .ne 8, 3) := by decide +kernel
theorem dX9_home_4 : decode cX9_home 4 = .ok (.bipush 22, 2) := by decide +kernel
theorem dX9_home_6 : decode cX9_home 6 = .ok (.goto 25, 3) := by decide +kernel
theorem dX9_home_9 : decode cX9_home 9 = .ok (.iload_n 0, 1) := by decide +kernel
theorem dX9_home_10 : decode cX9_home 10 = .ok (.iconst 1, 1) := by decide +kernel
theorem dX9_home_11 : decode cX9_home 11 = .ok (.if_icmp .ne 8, 3) := by decide +kernel
theorem dX9_home_14 : decode cX9_home 14 = .ok (.bipush 27, 2) := by decide +kernel
theorem dX9_home_16 : decode cX9_home 16 = .ok (.goto 15, 3) := by decide +kernel
theorem dX9_home_19 : decode cX9_home 19 = .ok (.iload_n 0, 1) := by decide +kernel
theorem dX9_home_20 : decode cX9_home 20 = .ok (.iconst 2, 1) := by decide +kernel
theorem dX9_home_21 : decode cX9_home 21 = .ok (.if_icmp .ne 8, 3) := by decide +kernel
theorem dX9_home_24 : decode cX9_home 24 = .ok (.bipush 72, 2) := by decide +kernel
theorem dX9_home_26 : decode cX9_home 26 = .ok (.goto 5, 3) := by decide +kernel
theorem dX9_home_29 : decode cX9_home 29 = .ok (.bipush 77, 2) := by decide +kernel
theorem dX9_home_31 : decode cX9_home 31 = .ok (.ireturn, 1) := by decide +kernel
theorem dX9_isHome_0 : decode cX9_isHome 0 = .ok (.iload_n 0, 1) := by decide +kernel
theorem dX9_isHome_1 : decode cX9_isHome 1 = .ok (.bipush 22, 2) := by decide +kernel
theorem dX9_isHome_3 : decode cX9_isHome 3 = .ok (.if_icmp .eq 21, 3) := by decide +kernel
theorem dX9_isHome_6 : decode cX9_isHome 6 = .ok (.iload_n 0, 1) := by decide +kernel
theorem dX9_isHome_7 : decode cX9_isHome 7 = .ok (.bipush 27, 2) := by decide +kernel
theorem dX9_isHome_9 : decode cX9_isHome 9 = .ok (.if_icmp .eq 15, 3) := by decide +kernel
theorem dX9_isHome_12 : decode cX9_isHome 12 = .ok (.iload_n 0, 1) := by decide +kernel
theorem dX9_isHome_13 : decode cX9_isHome 13 = .ok (.bipush 72, 2) := by decide +kernel
theorem dX9_isHome_15 : decode cX9_isHome 15 = .ok (.if_icmp .eq 9, 3) := by decide +kernel
theorem dX9_isHome_18 : decode cX9_isHome 18 = .ok (.iload_n 0, 1) := by decide +kernel
theorem dX9_isHome_19 : decode cX9_isHome 19 = .ok (.bipush 77, 2) := by decide +kernel
theorem dX9_isHome_21 : decode cX9_isHome 21 = .ok (.if_icmp .ne 7, 3) := by decide +kernel
theorem dX9_isHome_24 : decode cX9_isHome 24 = .ok (.iconst 1, 1) := by decide +kernel
theorem dX9_isHome_25 : decode cX9_isHome 25 = .ok (.goto 4, 3) := by decide +kernel
theorem dX9_isHome_28 : decode cX9_isHome 28 = .ok (.iconst 0, 1) := by decide +kernel
theorem dX9_isHome_29 : decode cX9_isHome 29 = .ok (.ireturn, 1) := by decide +kernel
theorem dX9_size_0 : decode cX9_size 0 = .ok (.iload_n 0, 1) := by decide +kernel
theorem dX9_size_1 : decode cX9_size 1 = .ok (.ifCond .ge 8, 3) := by decide +kernel
theorem dX9_size_4 : decode cX9_size 4 = .ok (.iload_n 0, 1) := by decide +kernel
theorem dX9_size_5 : decode cX9_size 5 = .ok (.ineg, 1) := by decide +kernel
theorem dX9_size_6 : decode cX9_size 6 = .ok (.goto 4, 3) := by decide +kernel
theorem dX9_size_9 : decode cX9_size 9 = .ok (.iload_n 0, 1) := by decide +kernel
theorem dX9_size_10 : decode cX9_size 10 = .ok (.ireturn, 1) := by decide +kernel
theorem dX9_east_0 : decode cX9_east 0 = .ok (.iload_n 1, 1) := by decide +kernel
theorem dX9_east_1 : decode cX9_east 1 = .ok (.bipush 10, 2) := by decide +kernel
theorem dX9_east_3 : decode cX9_east 3 = .ok (.irem, 1) := by decide +kernel
theorem dX9_east_4 : decode cX9_east 4 = .ok (.iload_n 0, 1) := by decide +kernel
theorem dX9_east_5 : decode cX9_east 5 = .ok (.bipush 10, 2) := by decide +kernel
theorem dX9_east_7 : decode cX9_east 7 = .ok (.irem, 1) := by decide +kernel
theorem dX9_east_8 : decode cX9_east 8 = .ok (.isub, 1) := by decide +kernel
theorem dX9_east_9 : decode cX9_east 9 = .ok (.ireturn, 1) := by decide +kernel
theorem dX9_south_0 : decode cX9_south 0 = .ok (.iload_n 1, 1) := by decide +kernel
theorem dX9_south_1 : decode cX9_south 1 = .ok (.bipush 10, 2) := by decide +kernel
theorem dX9_south_3 : decode cX9_south 3 = .ok (.idiv, 1) := by decide +kernel
theorem dX9_south_4 : decode cX9_south 4 = .ok (.iload_n 0, 1) := by decide +kernel
theorem dX9_south_5 : decode cX9_south 5 = .ok (.bipush 10, 2) := by decide +kernel
theorem dX9_south_7 : decode cX9_south 7 = .ok (.idiv, 1) := by decide +kernel
theorem dX9_south_8 : decode cX9_south 8 = .ok (.isub, 1) := by decide +kernel
theorem dX9_south_9 : decode cX9_south 9 = .ok (.ireturn, 1) := by decide +kernel
theorem dX9_distance_0 : decode cX9_distance 0 = .ok (.iload_n 0, 1) := by decide +kernel
theorem dX9_distance_1 : decode cX9_distance 1 = .ok (.iload_n 1, 1) := by decide +kernel
theorem dX9_distance_2 : decode cX9_distance 2 = .ok (.invokestatic 44, 3) := by decide +kernel
theorem dX9_distance_5 : decode cX9_distance 5 = .ok (.invokestatic 47, 3) := by decide +kernel
theorem dX9_distance_8 : decode cX9_distance 8 = .ok (.istore_n 2, 1) := by decide +kernel
theorem dX9_distance_9 : decode cX9_distance 9 = .ok (.iload_n 0, 1) := by decide +kernel
theorem dX9_distance_10 : decode cX9_distance 10 = .ok (.iload_n 1, 1) := by decide +kernel
theorem dX9_distance_11 : decode cX9_distance 11 = .ok (.invokestatic 51, 3) := by decide +kernel
theorem dX9_distance_14 : decode cX9_distance 14 = .ok (.invokestatic 47, 3) := by decide +kernel
theorem dX9_distance_17 : decode cX9_distance 17 = .ok (.istore_n 3, 1) := by decide +kernel
theorem dX9_distance_18 : decode cX9_distance 18 = .ok (.iload_n 2, 1) := by decide +kernel
theorem dX9_distance_19 : decode cX9_distance 19 = .ok (.iload_n 3, 1) := by decide +kernel
theorem dX9_distance_20 : decode cX9_distance 20 = .ok (.if_icmp .le 7, 3) := by decide +kernel
theorem dX9_distance_23 : decode cX9_distance 23 = .ok (.iload_n 2, 1) := by decide +kernel
theorem dX9_distance_24 : decode cX9_distance 24 = .ok (.goto 4, 3) := by decide +kernel
theorem dX9_distance_27 : decode cX9_distance 27 = .ok (.iload_n 3, 1) := by decide +kernel
theorem dX9_distance_28 : decode cX9_distance 28 = .ok (.ireturn, 1) := by decide +kernel
theorem dX9_wind_0 : decode cX9_wind 0 = .ok (.iload_n 0, 1) := by decide +kernel
theorem dX9_wind_1 : decode cX9_wind 1 = .ok (.invokestatic 54, 3) := by decide +kernel
theorem dX9_wind_4 : decode cX9_wind 4 = .ok (.iload_n 1, 1) := by decide +kernel
theorem dX9_wind_5 : decode cX9_wind 5 = .ok (.invokestatic 44, 3) := by decide +kernel
theorem dX9_wind_8 : decode cX9_wind 8 = .ok (.istore_n 2, 1) := by decide +kernel
theorem dX9_wind_9 : decode cX9_wind 9 = .ok (.iload_n 0, 1) := by decide +kernel
theorem dX9_wind_10 : decode cX9_wind 10 = .ok (.invokestatic 54, 3) := by decide +kernel
theorem dX9_wind_13 : decode cX9_wind 13 = .ok (.iload_n 1, 1) := by decide +kernel
theorem dX9_wind_14 : decode cX9_wind 14 = .ok (.invokestatic 51, 3) := by decide +kernel
theorem dX9_wind_17 : decode cX9_wind 17 = .ok (.istore_n 3, 1) := by decide +kernel
theorem dX9_wind_18 : decode cX9_wind 18 = .ok (.iload_n 2, 1) := by decide +kernel
theorem dX9_wind_19 : decode cX9_wind 19 = .ok (.ifCond .ne 10, 3) := by decide +kernel
theorem dX9_wind_22 : decode cX9_wind 22 = .ok (.iload_n 3, 1) := by decide +kernel
theorem dX9_wind_23 : decode cX9_wind 23 = .ok (.ifCond .ne 6, 3) := by decide +kernel
theorem dX9_wind_26 : decode cX9_wind 26 = .ok (.bipush (-5), 2) := by decide +kernel
theorem dX9_wind_28 : decode cX9_wind 28 = .ok (.ireturn, 1) := by decide +kernel
theorem dX9_wind_29 : decode cX9_wind 29 = .ok (.iconst 2, 1) := by decide +kernel
theorem dX9_wind_30 : decode cX9_wind 30 = .ok (.iload_n 3, 1) := by decide +kernel
theorem dX9_wind_31 : decode cX9_wind 31 = .ok (.invokestatic 47, 3) := by decide +kernel
theorem dX9_wind_34 : decode cX9_wind 34 = .ok (.imul, 1) := by decide +kernel
theorem dX9_wind_35 : decode cX9_wind 35 = .ok (.iload_n 2, 1) := by decide +kernel
theorem dX9_wind_36 : decode cX9_wind 36 = .ok (.invokestatic 47, 3) := by decide +kernel
theorem dX9_wind_39 : decode cX9_wind 39 = .ok (.if_icmp .gt 13, 3) := by decide +kernel
theorem dX9_wind_42 : decode cX9_wind 42 = .ok (.iload_n 2, 1) := by decide +kernel
theorem dX9_wind_43 : decode cX9_wind 43 = .ok (.ifCond .le 7, 3) := by decide +kernel
theorem dX9_wind_46 : decode cX9_wind 46 = .ok (.iconst 0, 1) := by decide +kernel
theorem dX9_wind_47 : decode cX9_wind 47 = .ok (.goto 4, 3) := by decide +kernel
theorem dX9_wind_50 : decode cX9_wind 50 = .ok (.iconst 4, 1) := by decide +kernel
theorem dX9_wind_51 : decode cX9_wind 51 = .ok (.ireturn, 1) := by decide +kernel
theorem dX9_wind_52 : decode cX9_wind 52 = .ok (.iconst 2, 1) := by decide +kernel
theorem dX9_wind_53 : decode cX9_wind 53 = .ok (.iload_n 2, 1) := by decide +kernel
theorem dX9_wind_54 : decode cX9_wind 54 = .ok (.invokestatic 47, 3) := by decide +kernel
theorem dX9_wind_57 : decode cX9_wind 57 = .ok (.imul, 1) := by decide +kernel
theorem dX9_wind_58 : decode cX9_wind 58 = .ok (.iload_n 3, 1) := by decide +kernel
theorem dX9_wind_59 : decode cX9_wind 59 = .ok (.invokestatic 47, 3) := by decide +kernel
theorem dX9_wind_62 : decode cX9_wind 62 = .ok (.if_icmp .gt 14, 3) := by decide +kernel
theorem dX9_wind_65 : decode cX9_wind 65 = .ok (.iload_n 3, 1) := by decide +kernel
theorem dX9_wind_66 : decode cX9_wind 66 = .ok (.ifCond .le 7, 3) := by decide +kernel
theorem dX9_wind_69 : decode cX9_wind 69 = .ok (.iconst 2, 1) := by decide +kernel
theorem dX9_wind_70 : decode cX9_wind 70 = .ok (.goto 5, 3) := by decide +kernel
theorem dX9_wind_73 : decode cX9_wind 73 = .ok (.bipush 6, 2) := by decide +kernel
theorem dX9_wind_75 : decode cX9_wind 75 = .ok (.ireturn, 1) := by decide +kernel
theorem dX9_wind_76 : decode cX9_wind 76 = .ok (.iload_n 3, 1) := by decide +kernel
theorem dX9_wind_77 : decode cX9_wind 77 = .ok (.ifCond .le 15, 3) := by decide +kernel
theorem dX9_wind_80 : decode cX9_wind 80 = .ok (.iload_n 2, 1) := by decide +kernel
theorem dX9_wind_81 : decode cX9_wind 81 = .ok (.ifCond .le 7, 3) := by decide +kernel
theorem dX9_wind_84 : decode cX9_wind 84 = .ok (.iconst 1, 1) := by decide +kernel
theorem dX9_wind_85 : decode cX9_wind 85 = .ok (.goto 17, 3) := by decide +kernel
theorem dX9_wind_88 : decode cX9_wind 88 = .ok (.iconst 3, 1) := by decide +kernel
theorem dX9_wind_89 : decode cX9_wind 89 = .ok (.goto 13, 3) := by decide +kernel
theorem dX9_wind_92 : decode cX9_wind 92 = .ok (.iload_n 2, 1) := by decide +kernel
theorem dX9_wind_93 : decode cX9_wind 93 = .ok (.ifCond .le 8, 3) := by decide +kernel
theorem dX9_wind_96 : decode cX9_wind 96 = .ok (.bipush 7, 2) := by decide +kernel
theorem dX9_wind_98 : decode cX9_wind 98 = .ok (.goto 4, 3) := by decide +kernel
theorem dX9_wind_101 : decode cX9_wind 101 = .ok (.iconst 5, 1) := by decide +kernel
theorem dX9_wind_102 : decode cX9_wind 102 = .ok (.ireturn, 1) := by decide +kernel
theorem dX9_beam_0 : decode cX9_beam 0 = .ok (.aload_n 0, 1) := by decide +kernel
theorem dX9_beam_1 : decode cX9_beam 1 = .ok (.getfield 7, 3) := by decide +kernel
theorem dX9_beam_4 : decode cX9_beam 4 = .ok (.iload_n 1, 1) := by decide +kernel
theorem dX9_beam_5 : decode cX9_beam 5 = .ok (.iconst 0, 1) := by decide +kernel
theorem dX9_beam_6 : decode cX9_beam 6 = .ok (.invokestatic 29, 3) := by decide +kernel
theorem dX9_beam_9 : decode cX9_beam 9 = .ok (.iaload, 1) := by decide +kernel
theorem dX9_beam_10 : decode cX9_beam 10 = .ok (.iload_n 2, 1) := by decide +kernel
theorem dX9_beam_11 : decode cX9_beam 11 = .ok (.aload_n 0, 1) := by decide +kernel
theorem dX9_beam_12 : decode cX9_beam 12 = .ok (.getfield 7, 3) := by decide +kernel
theorem dX9_beam_15 : decode cX9_beam 15 = .ok (.iload_n 1, 1) := by decide +kernel
theorem dX9_beam_16 : decode cX9_beam 16 = .ok (.iconst 1, 1) := by decide +kernel
theorem dX9_beam_17 : decode cX9_beam 17 = .ok (.invokestatic 29, 3) := by decide +kernel
theorem dX9_beam_20 : decode cX9_beam 20 = .ok (.iaload, 1) := by decide +kernel
theorem dX9_beam_21 : decode cX9_beam 21 = .ok (.imul, 1) := by decide +kernel
theorem dX9_beam_22 : decode cX9_beam 22 = .ok (.iadd, 1) := by decide +kernel
theorem dX9_beam_23 : decode cX9_beam 23 = .ok (.bipush 8, 2) := by decide +kernel
theorem dX9_beam_25 : decode cX9_beam 25 = .ok (.irem, 1) := by decide +kernel
theorem dX9_beam_26 : decode cX9_beam 26 = .ok (.ireturn, 1) := by decide +kernel
theorem dX9_isDark_0 : decode cX9_isDark 0 = .ok (.aload_n 0, 1) := by decide +kernel
theorem dX9_isDark_1 : decode cX9_isDark 1 = .ok (.getfield 7, 3) := by decide +kernel
theorem dX9_isDark_4 : decode cX9_isDark 4 = .ok (.iload_n 1, 1) := by decide +kernel
theorem dX9_isDark_5 : decode cX9_isDark 5 = .ok (.iconst 3, 1) := by decide +kernel
theorem dX9_isDark_6 : decode cX9_isDark 6 = .ok (.invokestatic 29, 3) := by decide +kernel
theorem dX9_isDark_9 : decode cX9_isDark 9 = .ok (.iaload, 1) := by decide +kernel
theorem dX9_isDark_10 : decode cX9_isDark 10 = .ok (.iload_n 2, 1) := by decide +kernel
theorem dX9_isDark_11 : decode cX9_isDark 11 = .ok (.ishr, 1) := by decide +kernel
theorem dX9_isDark_12 : decode cX9_isDark 12 = .ok (.iconst 1, 1) := by decide +kernel
theorem dX9_isDark_13 : decode cX9_isDark 13 = .ok (.iand, 1) := by decide +kernel
theorem dX9_isDark_14 : decode cX9_isDark 14 = .ok (.iconst 1, 1) := by decide +kernel
theorem dX9_isDark_15 : decode cX9_isDark 15 = .ok (.if_icmp .ne 7, 3) := by decide +kernel
theorem dX9_isDark_18 : decode cX9_isDark 18 = .ok (.iconst 1, 1) := by decide +kernel
theorem dX9_isDark_19 : decode cX9_isDark 19 = .ok (.goto 4, 3) := by decide +kernel
theorem dX9_isDark_22 : decode cX9_isDark 22 = .ok (.iconst 0, 1) := by decide +kernel
theorem dX9_isDark_23 : decode cX9_isDark 23 = .ok (.ireturn, 1) := by decide +kernel
theorem dX9_lights_0 : decode cX9_lights 0 = .ok (.iload_n 1, 1) := by decide +kernel
theorem dX9_lights_1 : decode cX9_lights 1 = .ok (.iload_n 2, 1) := by decide +kernel
theorem dX9_lights_2 : decode cX9_lights 2 = .ok (.invokestatic 57, 3) := by decide +kernel
theorem dX9_lights_5 : decode cX9_lights 5 = .ok (.istore 5, 2) := by decide +kernel
theorem dX9_lights_7 : decode cX9_lights 7 = .ok (.iload 5, 2) := by decide +kernel
theorem dX9_lights_9 : decode cX9_lights 9 = .ok (.bipush (-5), 2) := by decide +kernel
theorem dX9_lights_11 : decode cX9_lights 11 = .ok (.if_icmp .eq 48, 3) := by decide +kernel
theorem dX9_lights_14 : decode cX9_lights 14 = .ok (.iload 5, 2) := by decide +kernel
theorem dX9_lights_16 : decode cX9_lights 16 = .ok (.aload_n 0, 1) := by decide +kernel
theorem dX9_lights_17 : decode cX9_lights 17 = .ok (.iload_n 1, 1) := by decide +kernel
theorem dX9_lights_18 : decode cX9_lights 18 = .ok (.iload_n 3, 1) := by decide +kernel
theorem dX9_lights_19 : decode cX9_lights 19 = .ok (.invokevirtual 60, 3) := by decide +kernel
theorem dX9_lights_22 : decode cX9_lights 22 = .ok (.if_icmp .ne 41, 3) := by decide +kernel
theorem dX9_lights_25 : decode cX9_lights 25 = .ok (.aload_n 0, 1) := by decide +kernel
theorem dX9_lights_26 : decode cX9_lights 26 = .ok (.iload_n 1, 1) := by decide +kernel
theorem dX9_lights_27 : decode cX9_lights 27 = .ok (.iload 5, 2) := by decide +kernel
theorem dX9_lights_29 : decode cX9_lights 29 = .ok (.invokevirtual 63, 3) := by decide +kernel
theorem dX9_lights_32 : decode cX9_lights 32 = .ok (.ifCond .ne 31, 3) := by decide +kernel
theorem dX9_lights_35 : decode cX9_lights 35 = .ok (.iload_n 1, 1) := by decide +kernel
theorem dX9_lights_36 : decode cX9_lights 36 = .ok (.invokestatic 54, 3) := by decide +kernel
theorem dX9_lights_39 : decode cX9_lights 39 = .ok (.iload_n 2, 1) := by decide +kernel
theorem dX9_lights_40 : decode cX9_lights 40 = .ok (.invokestatic 67, 3) := by decide +kernel
theorem dX9_lights_43 : decode cX9_lights 43 = .ok (.aload_n 0, 1) := by decide +kernel
theorem dX9_lights_44 : decode cX9_lights 44 = .ok (.getfield 7, 3) := by decide +kernel
theorem dX9_lights_47 : decode cX9_lights 47 = .ok (.iload_n 1, 1) := by decide +kernel
theorem dX9_lights_48 : decode cX9_lights 48 = .ok (.iconst 2, 1) := by decide +kernel
theorem dX9_lights_49 : decode cX9_lights 49 = .ok (.invokestatic 29, 3) := by decide +kernel
theorem dX9_lights_52 : decode cX9_lights 52 = .ok (.iaload, 1) := by decide +kernel
theorem dX9_lights_53 : decode cX9_lights 53 = .ok (.iload 4, 2) := by decide +kernel
theorem dX9_lights_55 : decode cX9_lights 55 = .ok (.isub, 1) := by decide +kernel
theorem dX9_lights_56 : decode cX9_lights 56 = .ok (.if_icmp .gt 7, 3) := by decide +kernel
theorem dX9_lights_59 : decode cX9_lights 59 = .ok (.iconst 1, 1) := by decide +kernel
theorem dX9_lights_60 : decode cX9_lights 60 = .ok (.goto 4, 3) := by decide +kernel
theorem dX9_lights_63 : decode cX9_lights 63 = .ok (.iconst 0, 1) := by decide +kernel
theorem dX9_lights_64 : decode cX9_lights 64 = .ok (.ireturn, 1) := by decide +kernel
theorem dX9_litBy_0 : decode cX9_litBy 0 = .ok (.aload_n 0, 1) := by decide +kernel
theorem dX9_litBy_1 : decode cX9_litBy 1 = .ok (.iload_n 1, 1) := by decide +kernel
theorem dX9_litBy_2 : decode cX9_litBy 2 = .ok (.iload_n 2, 1) := by decide +kernel
theorem dX9_litBy_3 : decode cX9_litBy 3 = .ok (.aload_n 0, 1) := by decide +kernel
theorem dX9_litBy_4 : decode cX9_litBy 4 = .ok (.getfield 7, 3) := by decide +kernel
theorem dX9_litBy_7 : decode cX9_litBy 7 = .ok (.sipush 181, 3) := by decide +kernel
theorem dX9_litBy_10 : decode cX9_litBy 10 = .ok (.iaload, 1) := by decide +kernel
theorem dX9_litBy_11 : decode cX9_litBy 11 = .ok (.aload_n 0, 1) := by decide +kernel
theorem dX9_litBy_12 : decode cX9_litBy 12 = .ok (.getfield 7, 3) := by decide +kernel
theorem dX9_litBy_15 : decode cX9_litBy 15 = .ok (.iload_n 1, 1) := by decide +kernel
theorem dX9_litBy_16 : decode cX9_litBy 16 = .ok (.iconst 4, 1) := by decide +kernel
theorem dX9_litBy_17 : decode cX9_litBy 17 = .ok (.invokestatic 29, 3) := by decide +kernel
theorem dX9_litBy_20 : decode cX9_litBy 20 = .ok (.iaload, 1) := by decide +kernel
theorem dX9_litBy_21 : decode cX9_litBy 21 = .ok (.invokevirtual 70, 3) := by decide +kernel
theorem dX9_litBy_24 : decode cX9_litBy 24 = .ok (.ireturn, 1) := by decide +kernel
theorem dX9_lightsOn_0 : decode cX9_lightsOn 0 = .ok (.iconst 0, 1) := by decide +kernel
theorem dX9_lightsOn_1 : decode cX9_lightsOn 1 = .ok (.istore_n 2, 1) := by decide +kernel
theorem dX9_lightsOn_2 : decode cX9_lightsOn 2 = .ok (.iconst 0, 1) := by decide +kernel
theorem dX9_lightsOn_3 : decode cX9_lightsOn 3 = .ok (.istore_n 3, 1) := by decide +kernel
theorem dX9_lightsOn_4 : decode cX9_lightsOn 4 = .ok (.iload_n 3, 1) := by decide +kernel
theorem dX9_lightsOn_5 : decode cX9_lightsOn 5 = .ok (.iconst 4, 1) := by decide +kernel
theorem dX9_lightsOn_6 : decode cX9_lightsOn 6 = .ok (.if_icmp .ge 28, 3) := by decide +kernel
theorem dX9_lightsOn_9 : decode cX9_lightsOn 9 = .ok (.iload_n 2, 1) := by decide +kernel
theorem dX9_lightsOn_10 : decode cX9_lightsOn 10 = .ok (.aload_n 0, 1) := by decide +kernel
theorem dX9_lightsOn_11 : decode cX9_lightsOn 11 = .ok (.iload_n 3, 1) := by decide +kernel
theorem dX9_lightsOn_12 : decode cX9_lightsOn 12 = .ok (.iload_n 1, 1) := by decide +kernel
theorem dX9_lightsOn_13 : decode cX9_lightsOn 13 = .ok (.invokevirtual 74, 3) := by decide +kernel
theorem dX9_lightsOn_16 : decode cX9_lightsOn 16 = .ok (.ifCond .eq 9, 3) := by decide +kernel
theorem dX9_lightsOn_19 : decode cX9_lightsOn 19 = .ok (.iconst 1, 1) := by decide +kernel
theorem dX9_lightsOn_20 : decode cX9_lightsOn 20 = .ok (.iload_n 3, 1) := by decide +kernel
theorem dX9_lightsOn_21 : decode cX9_lightsOn 21 = .ok (.ishl, 1) := by decide +kernel
theorem dX9_lightsOn_22 : decode cX9_lightsOn 22 = .ok (.goto 4, 3) := by decide +kernel
theorem dX9_lightsOn_25 : decode cX9_lightsOn 25 = .ok (.iconst 0, 1) := by decide +kernel
theorem dX9_lightsOn_26 : decode cX9_lightsOn 26 = .ok (.ior, 1) := by decide +kernel
theorem dX9_lightsOn_27 : decode cX9_lightsOn 27 = .ok (.istore_n 2, 1) := by decide +kernel
theorem dX9_lightsOn_28 : decode cX9_lightsOn 28 = .ok (.iinc 3 1, 3) := by decide +kernel
theorem dX9_lightsOn_31 : decode cX9_lightsOn 31 = .ok (.goto (-27), 3) := by decide +kernel
theorem dX9_lightsOn_34 : decode cX9_lightsOn 34 = .ok (.iload_n 2, 1) := by decide +kernel
theorem dX9_lightsOn_35 : decode cX9_lightsOn 35 = .ok (.ireturn, 1) := by decide +kernel
theorem dX9_nearest_0 : decode cX9_nearest 0 = .ok (.iconst 0, 1) := by decide +kernel
theorem dX9_nearest_1 : decode cX9_nearest 1 = .ok (.istore_n 1, 1) := by decide +kernel
theorem dX9_nearest_2 : decode cX9_nearest 2 = .ok (.iconst 1, 1) := by decide +kernel
theorem dX9_nearest_3 : decode cX9_nearest 3 = .ok (.istore_n 2, 1) := by decide +kernel
theorem dX9_nearest_4 : decode cX9_nearest 4 = .ok (.iload_n 2, 1) := by decide +kernel
theorem dX9_nearest_5 : decode cX9_nearest 5 = .ok (.iconst 4, 1) := by decide +kernel
theorem dX9_nearest_6 : decode cX9_nearest 6 = .ok (.if_icmp .ge 34, 3) := by decide +kernel
theorem dX9_nearest_9 : decode cX9_nearest 9 = .ok (.iload_n 2, 1) := by decide +kernel
theorem dX9_nearest_10 : decode cX9_nearest 10 = .ok (.invokestatic 54, 3) := by decide +kernel
theorem dX9_nearest_13 : decode cX9_nearest 13 = .ok (.iload_n 0, 1) := by decide +kernel
theorem dX9_nearest_14 : decode cX9_nearest 14 = .ok (.invokestatic 67, 3) := by decide +kernel
theorem dX9_nearest_17 : decode cX9_nearest 17 = .ok (.iload_n 1, 1) := by decide +kernel
theorem dX9_nearest_18 : decode cX9_nearest 18 = .ok (.invokestatic 54, 3) := by decide +kernel
theorem dX9_nearest_21 : decode cX9_nearest 21 = .ok (.iload_n 0, 1) := by decide +kernel
theorem dX9_nearest_22 : decode cX9_nearest 22 = .ok (.invokestatic 67, 3) := by decide +kernel
theorem dX9_nearest_25 : decode cX9_nearest 25 = .ok (.if_icmp .ge 7, 3) := by decide +kernel
theorem dX9_nearest_28 : decode cX9_nearest 28 = .ok (.iload_n 2, 1) := by decide +kernel
theorem dX9_nearest_29 : decode cX9_nearest 29 = .ok (.goto 4, 3) := by decide +kernel
theorem dX9_nearest_32 : decode cX9_nearest 32 = .ok (.iload_n 1, 1) := by decide +kernel
theorem dX9_nearest_33 : decode cX9_nearest 33 = .ok (.istore_n 1, 1) := by decide +kernel
theorem dX9_nearest_34 : decode cX9_nearest 34 = .ok (.iinc 2 1, 3) := by decide +kernel
theorem dX9_nearest_37 : decode cX9_nearest 37 = .ok (.goto (-33), 3) := by decide +kernel
theorem dX9_nearest_40 : decode cX9_nearest 40 = .ok (.iload_n 1, 1) := by decide +kernel
theorem dX9_nearest_41 : decode cX9_nearest 41 = .ok (.ireturn, 1) := by decide +kernel
theorem dX9_rocks_0 : decode cX9_rocks 0 = .ok (.iconst 0, 1) := by decide +kernel
theorem dX9_rocks_1 : decode cX9_rocks 1 = .ok (.istore_n 1, 1) := by decide +kernel
theorem dX9_rocks_2 : decode cX9_rocks 2 = .ok (.iconst 0, 1) := by decide +kernel
theorem dX9_rocks_3 : decode cX9_rocks 3 = .ok (.istore_n 2, 1) := by decide +kernel
theorem dX9_rocks_4 : decode cX9_rocks 4 = .ok (.iload_n 2, 1) := by decide +kernel
theorem dX9_rocks_5 : decode cX9_rocks 5 = .ok (.bipush 100, 2) := by decide +kernel
theorem dX9_rocks_7 : decode cX9_rocks 7 = .ok (.if_icmp .ge 20, 3) := by decide +kernel
theorem dX9_rocks_10 : decode cX9_rocks 10 = .ok (.iload_n 1, 1) := by decide +kernel
theorem dX9_rocks_11 : decode cX9_rocks 11 = .ok (.aload_n 0, 1) := by decide +kernel
theorem dX9_rocks_12 : decode cX9_rocks 12 = .ok (.getfield 7, 3) := by decide +kernel
theorem dX9_rocks_15 : decode cX9_rocks 15 = .ok (.iconst 0, 1) := by decide +kernel
theorem dX9_rocks_16 : decode cX9_rocks 16 = .ok (.iload_n 2, 1) := by decide +kernel
theorem dX9_rocks_17 : decode cX9_rocks 17 = .ok (.iadd, 1) := by decide +kernel
theorem dX9_rocks_18 : decode cX9_rocks 18 = .ok (.iaload, 1) := by decide +kernel
theorem dX9_rocks_19 : decode cX9_rocks 19 = .ok (.iadd, 1) := by decide +kernel
theorem dX9_rocks_20 : decode cX9_rocks 20 = .ok (.istore_n 1, 1) := by decide +kernel
theorem dX9_rocks_21 : decode cX9_rocks 21 = .ok (.iinc 2 1, 3) := by decide +kernel
theorem dX9_rocks_24 : decode cX9_rocks 24 = .ok (.goto (-20), 3) := by decide +kernel
theorem dX9_rocks_27 : decode cX9_rocks 27 = .ok (.iload_n 1, 1) := by decide +kernel
theorem dX9_rocks_28 : decode cX9_rocks 28 = .ok (.ireturn, 1) := by decide +kernel
theorem dX9_barRock_0 : decode cX9_barRock 0 = .ok (.iload_n 0, 1) := by decide +kernel
theorem dX9_barRock_1 : decode cX9_barRock 1 = .ok (.invokestatic 77, 3) := by decide +kernel
theorem dX9_barRock_4 : decode cX9_barRock 4 = .ok (.ifCond .ne 7, 3) := by decide +kernel
theorem dX9_barRock_7 : decode cX9_barRock 7 = .ok (.iconst (-1), 1) := by decide +kernel
theorem dX9_barRock_8 : decode cX9_barRock 8 = .ok (.goto 16, 3) := by decide +kernel
theorem dX9_barRock_11 : decode cX9_barRock 11 = .ok (.iload_n 0, 1) := by decide +kernel
theorem dX9_barRock_12 : decode cX9_barRock 12 = .ok (.invokestatic 81, 3) := by decide +kernel
theorem dX9_barRock_15 : decode cX9_barRock 15 = .ok (.ifCond .eq 8, 3) := by decide +kernel
theorem dX9_barRock_18 : decode cX9_barRock 18 = .ok (.bipush (-4), 2) := by decide +kernel
theorem dX9_barRock_20 : decode cX9_barRock 20 = .ok (.goto 4, 3) := by decide +kernel
theorem dX9_barRock_23 : decode cX9_barRock 23 = .ok (.iconst 0, 1) := by decide +kernel
theorem dX9_barRock_24 : decode cX9_barRock 24 = .ok (.ireturn, 1) := by decide +kernel
theorem dX9_rock_0 : decode cX9_rock 0 = .ok (.iload_n 1, 1) := by decide +kernel
theorem dX9_rock_1 : decode cX9_rock 1 = .ok (.invokestatic 84, 3) := by decide +kernel
theorem dX9_rock_4 : decode cX9_rock 4 = .ok (.istore_n 2, 1) := by decide +kernel
theorem dX9_rock_5 : decode cX9_rock 5 = .ok (.iload_n 2, 1) := by decide +kernel
theorem dX9_rock_6 : decode cX9_rock 6 = .ok (.ifCond .ge 5, 3) := by decide +kernel
theorem dX9_rock_9 : decode cX9_rock 9 = .ok (.iload_n 2, 1) := by decide +kernel
theorem dX9_rock_10 : decode cX9_rock 10 = .ok (.ireturn, 1) := by decide +kernel
theorem dX9_rock_11 : decode cX9_rock 11 = .ok (.aload_n 0, 1) := by decide +kernel
theorem dX9_rock_12 : decode cX9_rock 12 = .ok (.invokevirtual 87, 3) := by decide +kernel
theorem dX9_rock_15 : decode cX9_rock 15 = .ok (.aload_n 0, 1) := by decide +kernel
theorem dX9_rock_16 : decode cX9_rock 16 = .ok (.getfield 7, 3) := by decide +kernel
theorem dX9_rock_19 : decode cX9_rock 19 = .ok (.iconst 0, 1) := by decide +kernel
theorem dX9_rock_20 : decode cX9_rock 20 = .ok (.iload_n 1, 1) := by decide +kernel
theorem dX9_rock_21 : decode cX9_rock 21 = .ok (.iadd, 1) := by decide +kernel
theorem dX9_rock_22 : decode cX9_rock 22 = .ok (.iconst 1, 1) := by decide +kernel
theorem dX9_rock_23 : decode cX9_rock 23 = .ok (.aload_n 0, 1) := by decide +kernel
theorem dX9_rock_24 : decode cX9_rock 24 = .ok (.getfield 7, 3) := by decide +kernel
theorem dX9_rock_27 : decode cX9_rock 27 = .ok (.iconst 0, 1) := by decide +kernel
theorem dX9_rock_28 : decode cX9_rock 28 = .ok (.iload_n 1, 1) := by decide +kernel
theorem dX9_rock_29 : decode cX9_rock 29 = .ok (.iadd, 1) := by decide +kernel
theorem dX9_rock_30 : decode cX9_rock 30 = .ok (.iaload, 1) := by decide +kernel
theorem dX9_rock_31 : decode cX9_rock 31 = .ok (.isub, 1) := by decide +kernel
theorem dX9_rock_32 : decode cX9_rock 32 = .ok (.iastore, 1) := by decide +kernel
theorem dX9_rock_33 : decode cX9_rock 33 = .ok (.aload_n 0, 1) := by decide +kernel
theorem dX9_rock_34 : decode cX9_rock 34 = .ok (.invokevirtual 90, 3) := by decide +kernel
theorem dX9_rock_37 : decode cX9_rock 37 = .ok (.ireturn, 1) := by decide +kernel
theorem dX9_fits_0 : decode cX9_fits 0 = .ok (.iload_n 0, 1) := by decide +kernel
theorem dX9_fits_1 : decode cX9_fits 1 = .ok (.ifCond .ne 13, 3) := by decide +kernel
theorem dX9_fits_4 : decode cX9_fits 4 = .ok (.iload_n 1, 1) := by decide +kernel
theorem dX9_fits_5 : decode cX9_fits 5 = .ok (.iconst 0, 1) := by decide +kernel
theorem dX9_fits_6 : decode cX9_fits 6 = .ok (.bipush 7, 2) := by decide +kernel
theorem dX9_fits_8 : decode cX9_fits 8 = .ok (.invokestatic 36, 3) := by decide +kernel
theorem dX9_fits_11 : decode cX9_fits 11 = .ok (.goto 53, 3) := by decide +kernel
theorem dX9_fits_14 : decode cX9_fits 14 = .ok (.iload_n 0, 1) := by decide +kernel
theorem dX9_fits_15 : decode cX9_fits 15 = .ok (.iconst 1, 1) := by decide +kernel
theorem dX9_fits_16 : decode cX9_fits 16 = .ok (.if_icmp .ne 12, 3) := by decide +kernel
theorem dX9_fits_19 : decode cX9_fits 19 = .ok (.iload_n 1, 1) := by decide +kernel
theorem dX9_fits_20 : decode cX9_fits 20 = .ok (.iconst 1, 1) := by decide +kernel
theorem dX9_fits_21 : decode cX9_fits 21 = .ok (.iconst 3, 1) := by decide +kernel
theorem dX9_fits_22 : decode cX9_fits 22 = .ok (.invokestatic 36, 3) := by decide +kernel
theorem dX9_fits_25 : decode cX9_fits 25 = .ok (.goto 39, 3) := by decide +kernel
theorem dX9_fits_28 : decode cX9_fits 28 = .ok (.iload_n 0, 1) := by decide +kernel
theorem dX9_fits_29 : decode cX9_fits 29 = .ok (.iconst 2, 1) := by decide +kernel
theorem dX9_fits_30 : decode cX9_fits 30 = .ok (.if_icmp .ne 13, 3) := by decide +kernel
theorem dX9_fits_33 : decode cX9_fits 33 = .ok (.iload_n 1, 1) := by decide +kernel
theorem dX9_fits_34 : decode cX9_fits 34 = .ok (.iconst 1, 1) := by decide +kernel
theorem dX9_fits_35 : decode cX9_fits 35 = .ok (.bipush 9, 2) := by decide +kernel
theorem dX9_fits_37 : decode cX9_fits 37 = .ok (.invokestatic 36, 3) := by decide +kernel
theorem dX9_fits_40 : decode cX9_fits 40 = .ok (.goto 24, 3) := by decide +kernel
theorem dX9_fits_43 : decode cX9_fits 43 = .ok (.iload_n 0, 1) := by decide +kernel
theorem dX9_fits_44 : decode cX9_fits 44 = .ok (.iconst 3, 1) := by decide +kernel
theorem dX9_fits_45 : decode cX9_fits 45 = .ok (.if_icmp .ne 18, 3) := by decide +kernel
theorem dX9_fits_48 : decode cX9_fits 48 = .ok (.iload_n 1, 1) := by decide +kernel
theorem dX9_fits_49 : decode cX9_fits 49 = .ok (.iconst 0, 1) := by decide +kernel
theorem dX9_fits_50 : decode cX9_fits 50 = .ok (.sipush 255, 3) := by decide +kernel
theorem dX9_fits_53 : decode cX9_fits 53 = .ok (.invokestatic 36, 3) := by decide +kernel
theorem dX9_fits_56 : decode cX9_fits 56 = .ok (.ifCond .eq 7, 3) := by decide +kernel
theorem dX9_fits_59 : decode cX9_fits 59 = .ok (.iconst 1, 1) := by decide +kernel
theorem dX9_fits_60 : decode cX9_fits 60 = .ok (.goto 4, 3) := by decide +kernel
theorem dX9_fits_63 : decode cX9_fits 63 = .ok (.iconst 0, 1) := by decide +kernel
theorem dX9_fits_64 : decode cX9_fits 64 = .ok (.ireturn, 1) := by decide +kernel
theorem dX9_light_0 : decode cX9_light 0 = .ok (.iload_n 1, 1) := by decide +kernel
theorem dX9_light_1 : decode cX9_light 1 = .ok (.invokestatic 94, 3) := by decide +kernel
theorem dX9_light_4 : decode cX9_light 4 = .ok (.ifCond .ne 5, 3) := by decide +kernel
theorem dX9_light_7 : decode cX9_light 7 = .ok (.iconst (-1), 1) := by decide +kernel
theorem dX9_light_8 : decode cX9_light 8 = .ok (.ireturn, 1) := by decide +kernel
theorem dX9_light_9 : decode cX9_light 9 = .ok (.iload_n 2, 1) := by decide +kernel
theorem dX9_light_10 : decode cX9_light 10 = .ok (.iload_n 3, 1) := by decide +kernel
theorem dX9_light_11 : decode cX9_light 11 = .ok (.invokestatic 97, 3) := by decide +kernel
theorem dX9_light_14 : decode cX9_light 14 = .ok (.ifCond .ne 6, 3) := by decide +kernel
theorem dX9_light_17 : decode cX9_light 17 = .ok (.bipush (-2), 2) := by decide +kernel
theorem dX9_light_19 : decode cX9_light 19 = .ok (.ireturn, 1) := by decide +kernel
theorem dX9_light_20 : decode cX9_light 20 = .ok (.aload_n 0, 1) := by decide +kernel
theorem dX9_light_21 : decode cX9_light 21 = .ok (.getfield 7, 3) := by decide +kernel
theorem dX9_light_24 : decode cX9_light 24 = .ok (.iload_n 1, 1) := by decide +kernel
theorem dX9_light_25 : decode cX9_light 25 = .ok (.iload_n 2, 1) := by decide +kernel
theorem dX9_light_26 : decode cX9_light 26 = .ok (.invokestatic 29, 3) := by decide +kernel
theorem dX9_light_29 : decode cX9_light 29 = .ok (.iaload, 1) := by decide +kernel
theorem dX9_light_30 : decode cX9_light 30 = .ok (.istore 4, 2) := by decide +kernel
theorem dX9_light_32 : decode cX9_light 32 = .ok (.iload 4, 2) := by decide +kernel
theorem dX9_light_34 : decode cX9_light 34 = .ok (.iload_n 3, 1) := by decide +kernel
theorem dX9_light_35 : decode cX9_light 35 = .ok (.if_icmp .ne 6, 3) := by decide +kernel
theorem dX9_light_38 : decode cX9_light 38 = .ok (.bipush (-5), 2) := by decide +kernel
theorem dX9_light_40 : decode cX9_light 40 = .ok (.ireturn, 1) := by decide +kernel
theorem dX9_light_41 : decode cX9_light 41 = .ok (.aload_n 0, 1) := by decide +kernel
theorem dX9_light_42 : decode cX9_light 42 = .ok (.invokevirtual 87, 3) := by decide +kernel
theorem dX9_light_45 : decode cX9_light 45 = .ok (.aload_n 0, 1) := by decide +kernel
theorem dX9_light_46 : decode cX9_light 46 = .ok (.getfield 7, 3) := by decide +kernel
theorem dX9_light_49 : decode cX9_light 49 = .ok (.iload_n 1, 1) := by decide +kernel
theorem dX9_light_50 : decode cX9_light 50 = .ok (.iload_n 2, 1) := by decide +kernel
theorem dX9_light_51 : decode cX9_light 51 = .ok (.invokestatic 29, 3) := by decide +kernel
theorem dX9_light_54 : decode cX9_light 54 = .ok (.iload_n 3, 1) := by decide +kernel
theorem dX9_light_55 : decode cX9_light 55 = .ok (.iastore, 1) := by decide +kernel
theorem dX9_light_56 : decode cX9_light 56 = .ok (.iload 4, 2) := by decide +kernel
theorem dX9_light_58 : decode cX9_light 58 = .ok (.ireturn, 1) := by decide +kernel
theorem dX9_shipIn_0 : decode cX9_shipIn 0 = .ok (.iconst 0, 1) := by decide +kernel
theorem dX9_shipIn_1 : decode cX9_shipIn 1 = .ok (.istore_n 2, 1) := by decide +kernel
theorem dX9_shipIn_2 : decode cX9_shipIn 2 = .ok (.iload_n 2, 1) := by decide +kernel
theorem dX9_shipIn_3 : decode cX9_shipIn 3 = .ok (.aload_n 0, 1) := by decide +kernel
theorem dX9_shipIn_4 : decode cX9_shipIn 4 = .ok (.getfield 7, 3) := by decide +kernel
theorem dX9_shipIn_7 : decode cX9_shipIn 7 = .ok (.sipush 180, 3) := by decide +kernel
theorem dX9_shipIn_10 : decode cX9_shipIn 10 = .ok (.iaload, 1) := by decide +kernel
theorem dX9_shipIn_11 : decode cX9_shipIn 11 = .ok (.if_icmp .ge 38, 3) := by decide +kernel
theorem dX9_shipIn_14 : decode cX9_shipIn 14 = .ok (.aload_n 0, 1) := by decide +kernel
theorem dX9_shipIn_15 : decode cX9_shipIn 15 = .ok (.getfield 7, 3) := by decide +kernel
theorem dX9_shipIn_18 : decode cX9_shipIn 18 = .ok (.iload_n 2, 1) := by decide +kernel
theorem dX9_shipIn_19 : decode cX9_shipIn 19 = .ok (.iconst 3, 1) := by decide +kernel
theorem dX9_shipIn_20 : decode cX9_shipIn 20 = .ok (.invokestatic 100, 3) := by decide +kernel
theorem dX9_shipIn_23 : decode cX9_shipIn 23 = .ok (.iaload, 1) := by decide +kernel
theorem dX9_shipIn_24 : decode cX9_shipIn 24 = .ok (.ifCond .ne 19, 3) := by decide +kernel
theorem dX9_shipIn_27 : decode cX9_shipIn 27 = .ok (.aload_n 0, 1) := by decide +kernel
theorem dX9_shipIn_28 : decode cX9_shipIn 28 = .ok (.getfield 7, 3) := by decide +kernel
theorem dX9_shipIn_31 : decode cX9_shipIn 31 = .ok (.iload_n 2, 1) := by decide +kernel
theorem dX9_shipIn_32 : decode cX9_shipIn 32 = .ok (.iconst 1, 1) := by decide +kernel
theorem dX9_shipIn_33 : decode cX9_shipIn 33 = .ok (.invokestatic 100, 3) := by decide +kernel
theorem dX9_shipIn_36 : decode cX9_shipIn 36 = .ok (.iaload, 1) := by decide +kernel
theorem dX9_shipIn_37 : decode cX9_shipIn 37 = .ok (.iload_n 1, 1) := by decide +kernel
theorem dX9_shipIn_38 : decode cX9_shipIn 38 = .ok (.if_icmp .ne 5, 3) := by decide +kernel
theorem dX9_shipIn_41 : decode cX9_shipIn 41 = .ok (.iload_n 2, 1) := by decide +kernel
theorem dX9_shipIn_42 : decode cX9_shipIn 42 = .ok (.ireturn, 1) := by decide +kernel
theorem dX9_shipIn_43 : decode cX9_shipIn 43 = .ok (.iinc 2 1, 3) := by decide +kernel
theorem dX9_shipIn_46 : decode cX9_shipIn 46 = .ok (.goto (-44), 3) := by decide +kernel
theorem dX9_shipIn_49 : decode cX9_shipIn 49 = .ok (.bipush (-5), 2) := by decide +kernel
theorem dX9_shipIn_51 : decode cX9_shipIn 51 = .ok (.ireturn, 1) := by decide +kernel
theorem dX9_barShip_0 : decode cX9_barShip 0 = .ok (.iload_n 2, 1) := by decide +kernel
theorem dX9_barShip_1 : decode cX9_barShip 1 = .ok (.invokestatic 77, 3) := by decide +kernel
theorem dX9_barShip_4 : decode cX9_barShip 4 = .ok (.ifCond .eq 10, 3) := by decide +kernel
theorem dX9_barShip_7 : decode cX9_barShip 7 = .ok (.iload_n 3, 1) := by decide +kernel
theorem dX9_barShip_8 : decode cX9_barShip 8 = .ok (.invokestatic 77, 3) := by decide +kernel
theorem dX9_barShip_11 : decode cX9_barShip 11 = .ok (.ifCond .ne 5, 3) := by decide +kernel
theorem dX9_barShip_14 : decode cX9_barShip 14 = .ok (.iconst (-1), 1) := by decide +kernel
theorem dX9_barShip_15 : decode cX9_barShip 15 = .ok (.ireturn, 1) := by decide +kernel
theorem dX9_barShip_16 : decode cX9_barShip 16 = .ok (.iload_n 1, 1) := by decide +kernel
theorem dX9_barShip_17 : decode cX9_barShip 17 = .ok (.iconst 1, 1) := by decide +kernel
theorem dX9_barShip_18 : decode cX9_barShip 18 = .ok (.bipush 99, 2) := by decide +kernel
theorem dX9_barShip_20 : decode cX9_barShip 20 = .ok (.invokestatic 36, 3) := by decide +kernel
theorem dX9_barShip_23 : decode cX9_barShip 23 = .ok (.ifCond .ne 6, 3) := by decide +kernel
theorem dX9_barShip_26 : decode cX9_barShip 26 = .ok (.bipush (-2), 2) := by decide +kernel
theorem dX9_barShip_28 : decode cX9_barShip 28 = .ok (.ireturn, 1) := by decide +kernel
theorem dX9_barShip_29 : decode cX9_barShip 29 = .ok (.iload_n 2, 1) := by decide +kernel
theorem dX9_barShip_30 : decode cX9_barShip 30 = .ok (.iload_n 3, 1) := by decide +kernel
theorem dX9_barShip_31 : decode cX9_barShip 31 = .ok (.if_icmp .eq 39, 3) := by decide +kernel
theorem dX9_barShip_34 : decode cX9_barShip 34 = .ok (.aload_n 0, 1) := by decide +kernel
theorem dX9_barShip_35 : decode cX9_barShip 35 = .ok (.getfield 7, 3) := by decide +kernel
theorem dX9_barShip_38 : decode cX9_barShip 38 = .ok (.iconst 0, 1) := by decide +kernel
theorem dX9_barShip_39 : decode cX9_barShip 39 = .ok (.iload_n 2, 1) := by decide +kernel
theorem dX9_barShip_40 : decode cX9_barShip 40 = .ok (.iadd, 1) := by decide +kernel
theorem dX9_barShip_41 : decode cX9_barShip 41 = .ok (.iaload, 1) := by decide +kernel
theorem dX9_barShip_42 : decode cX9_barShip 42 = .ok (.ifCond .ne 28, 3) := by decide +kernel
theorem dX9_barShip_45 : decode cX9_barShip 45 = .ok (.aload_n 0, 1) := by decide +kernel
theorem dX9_barShip_46 : decode cX9_barShip 46 = .ok (.getfield 7, 3) := by decide +kernel
theorem dX9_barShip_49 : decode cX9_barShip 49 = .ok (.iconst 0, 1) := by decide +kernel
theorem dX9_barShip_50 : decode cX9_barShip 50 = .ok (.iload_n 3, 1) := by decide +kernel
theorem dX9_barShip_51 : decode cX9_barShip 51 = .ok (.iadd, 1) := by decide +kernel
theorem dX9_barShip_52 : decode cX9_barShip 52 = .ok (.iaload, 1) := by decide +kernel
theorem dX9_barShip_53 : decode cX9_barShip 53 = .ok (.ifCond .ne 17, 3) := by decide +kernel
theorem dX9_barShip_56 : decode cX9_barShip 56 = .ok (.aload_n 0, 1) := by decide +kernel
theorem dX9_barShip_57 : decode cX9_barShip 57 = .ok (.iload_n 2, 1) := by decide +kernel
theorem dX9_barShip_58 : decode cX9_barShip 58 = .ok (.invokevirtual 103, 3) := by decide +kernel
theorem dX9_barShip_61 : decode cX9_barShip 61 = .ok (.bipush (-5), 2) := by decide +kernel
theorem dX9_barShip_63 : decode cX9_barShip 63 = .ok (.if_icmp .ne 7, 3) := by decide +kernel
theorem dX9_barShip_66 : decode cX9_barShip 66 = .ok (.iconst 1, 1) := by decide +kernel
theorem dX9_barShip_67 : decode cX9_barShip 67 = .ok (.goto 4, 3) := by decide +kernel
theorem dX9_barShip_70 : decode cX9_barShip 70 = .ok (.iconst 0, 1) := by decide +kernel
theorem dX9_barShip_71 : decode cX9_barShip 71 = .ok (.istore 4, 2) := by decide +kernel
theorem dX9_barShip_73 : decode cX9_barShip 73 = .ok (.iload 4, 2) := by decide +kernel
theorem dX9_barShip_75 : decode cX9_barShip 75 = .ok (.ifCond .ne 8, 3) := by decide +kernel
theorem dX9_barShip_78 : decode cX9_barShip 78 = .ok (.bipush (-4), 2) := by decide +kernel
theorem dX9_barShip_80 : decode cX9_barShip 80 = .ok (.goto 22, 3) := by decide +kernel
theorem dX9_barShip_83 : decode cX9_barShip 83 = .ok (.aload_n 0, 1) := by decide +kernel
theorem dX9_barShip_84 : decode cX9_barShip 84 = .ok (.getfield 7, 3) := by decide +kernel
theorem dX9_barShip_87 : decode cX9_barShip 87 = .ok (.sipush 180, 3) := by decide +kernel
theorem dX9_barShip_90 : decode cX9_barShip 90 = .ok (.iaload, 1) := by decide +kernel
theorem dX9_barShip_91 : decode cX9_barShip 91 = .ok (.bipush 8, 2) := by decide +kernel
theorem dX9_barShip_93 : decode cX9_barShip 93 = .ok (.if_icmp .ne 8, 3) := by decide +kernel
theorem dX9_barShip_96 : decode cX9_barShip 96 = .ok (.bipush (-3), 2) := by decide +kernel
theorem dX9_barShip_98 : decode cX9_barShip 98 = .ok (.goto 4, 3) := by decide +kernel
theorem dX9_barShip_101 : decode cX9_barShip 101 = .ok (.iconst 0, 1) := by decide +kernel
theorem dX9_barShip_102 : decode cX9_barShip 102 = .ok (.ireturn, 1) := by decide +kernel
theorem dX9_comes_0 : decode cX9_comes 0 = .ok (.aload_n 0, 1) := by decide +kernel
theorem dX9_comes_1 : decode cX9_comes 1 = .ok (.getfield 7, 3) := by decide +kernel
theorem dX9_comes_4 : decode cX9_comes 4 = .ok (.sipush 180, 3) := by decide +kernel
theorem dX9_comes_7 : decode cX9_comes 7 = .ok (.iaload, 1) := by decide +kernel
theorem dX9_comes_8 : decode cX9_comes 8 = .ok (.istore 4, 2) := by decide +kernel
theorem dX9_comes_10 : decode cX9_comes 10 = .ok (.aload_n 0, 1) := by decide +kernel
theorem dX9_comes_11 : decode cX9_comes 11 = .ok (.getfield 7, 3) := by decide +kernel
theorem dX9_comes_14 : decode cX9_comes 14 = .ok (.iload 4, 2) := by decide +kernel
theorem dX9_comes_16 : decode cX9_comes 16 = .ok (.iconst 0, 1) := by decide +kernel
theorem dX9_comes_17 : decode cX9_comes 17 = .ok (.invokestatic 100, 3) := by decide +kernel
theorem dX9_comes_20 : decode cX9_comes 20 = .ok (.iload_n 1, 1) := by decide +kernel
theorem dX9_comes_21 : decode cX9_comes 21 = .ok (.iastore, 1) := by decide +kernel
theorem dX9_comes_22 : decode cX9_comes 22 = .ok (.aload_n 0, 1) := by decide +kernel
theorem dX9_comes_23 : decode cX9_comes 23 = .ok (.getfield 7, 3) := by decide +kernel
theorem dX9_comes_26 : decode cX9_comes 26 = .ok (.iload 4, 2) := by decide +kernel
theorem dX9_comes_28 : decode cX9_comes 28 = .ok (.iconst 1, 1) := by decide +kernel
theorem dX9_comes_29 : decode cX9_comes 29 = .ok (.invokestatic 100, 3) := by decide +kernel
theorem dX9_comes_32 : decode cX9_comes 32 = .ok (.iload_n 2, 1) := by decide +kernel
theorem dX9_comes_33 : decode cX9_comes 33 = .ok (.iastore, 1) := by decide +kernel
theorem dX9_comes_34 : decode cX9_comes 34 = .ok (.aload_n 0, 1) := by decide +kernel
theorem dX9_comes_35 : decode cX9_comes 35 = .ok (.getfield 7, 3) := by decide +kernel
theorem dX9_comes_38 : decode cX9_comes 38 = .ok (.iload 4, 2) := by decide +kernel
theorem dX9_comes_40 : decode cX9_comes 40 = .ok (.iconst 2, 1) := by decide +kernel
theorem dX9_comes_41 : decode cX9_comes 41 = .ok (.invokestatic 100, 3) := by decide +kernel
theorem dX9_comes_44 : decode cX9_comes 44 = .ok (.iload_n 3, 1) := by decide +kernel
theorem dX9_comes_45 : decode cX9_comes 45 = .ok (.iastore, 1) := by decide +kernel
theorem dX9_comes_46 : decode cX9_comes 46 = .ok (.aload_n 0, 1) := by decide +kernel
theorem dX9_comes_47 : decode cX9_comes 47 = .ok (.getfield 7, 3) := by decide +kernel
theorem dX9_comes_50 : decode cX9_comes 50 = .ok (.iload 4, 2) := by decide +kernel
theorem dX9_comes_52 : decode cX9_comes 52 = .ok (.iconst 3, 1) := by decide +kernel
theorem dX9_comes_53 : decode cX9_comes 53 = .ok (.invokestatic 100, 3) := by decide +kernel
theorem dX9_comes_56 : decode cX9_comes 56 = .ok (.iconst 0, 1) := by decide +kernel
theorem dX9_comes_57 : decode cX9_comes 57 = .ok (.iastore, 1) := by decide +kernel
theorem dX9_comes_58 : decode cX9_comes 58 = .ok (.aload_n 0, 1) := by decide +kernel
theorem dX9_comes_59 : decode cX9_comes 59 = .ok (.getfield 7, 3) := by decide +kernel
theorem dX9_comes_62 : decode cX9_comes 62 = .ok (.iload 4, 2) := by decide +kernel
theorem dX9_comes_64 : decode cX9_comes 64 = .ok (.iconst 4, 1) := by decide +kernel
theorem dX9_comes_65 : decode cX9_comes 65 = .ok (.invokestatic 100, 3) := by decide +kernel
theorem dX9_comes_68 : decode cX9_comes 68 = .ok (.iconst 0, 1) := by decide +kernel
theorem dX9_comes_69 : decode cX9_comes 69 = .ok (.iastore, 1) := by decide +kernel
theorem dX9_comes_70 : decode cX9_comes 70 = .ok (.aload_n 0, 1) := by decide +kernel
theorem dX9_comes_71 : decode cX9_comes 71 = .ok (.getfield 7, 3) := by decide +kernel
theorem dX9_comes_74 : decode cX9_comes 74 = .ok (.sipush 180, 3) := by decide +kernel
theorem dX9_comes_77 : decode cX9_comes 77 = .ok (.dup2, 1) := by decide +kernel
theorem dX9_comes_78 : decode cX9_comes 78 = .ok (.iaload, 1) := by decide +kernel
theorem dX9_comes_79 : decode cX9_comes 79 = .ok (.iconst 1, 1) := by decide +kernel
theorem dX9_comes_80 : decode cX9_comes 80 = .ok (.iadd, 1) := by decide +kernel
theorem dX9_comes_81 : decode cX9_comes 81 = .ok (.iastore, 1) := by decide +kernel
theorem dX9_comes_82 : decode cX9_comes 82 = .ok (.iload 4, 2) := by decide +kernel
theorem dX9_comes_84 : decode cX9_comes 84 = .ok (.ireturn, 1) := by decide +kernel
theorem dX9_ship_0 : decode cX9_ship 0 = .ok (.aload_n 0, 1) := by decide +kernel
theorem dX9_ship_1 : decode cX9_ship 1 = .ok (.iload_n 1, 1) := by decide +kernel
theorem dX9_ship_2 : decode cX9_ship 2 = .ok (.iload_n 2, 1) := by decide +kernel
theorem dX9_ship_3 : decode cX9_ship 3 = .ok (.iload_n 3, 1) := by decide +kernel
theorem dX9_ship_4 : decode cX9_ship 4 = .ok (.invokevirtual 106, 3) := by decide +kernel
theorem dX9_ship_7 : decode cX9_ship 7 = .ok (.istore 4, 2) := by decide +kernel
theorem dX9_ship_9 : decode cX9_ship 9 = .ok (.iload 4, 2) := by decide +kernel
theorem dX9_ship_11 : decode cX9_ship 11 = .ok (.ifCond .ge 6, 3) := by decide +kernel
theorem dX9_ship_14 : decode cX9_ship 14 = .ok (.iload 4, 2) := by decide +kernel
theorem dX9_ship_16 : decode cX9_ship 16 = .ok (.ireturn, 1) := by decide +kernel
theorem dX9_ship_17 : decode cX9_ship 17 = .ok (.aload_n 0, 1) := by decide +kernel
theorem dX9_ship_18 : decode cX9_ship 18 = .ok (.invokevirtual 87, 3) := by decide +kernel
theorem dX9_ship_21 : decode cX9_ship 21 = .ok (.aload_n 0, 1) := by decide +kernel
theorem dX9_ship_22 : decode cX9_ship 22 = .ok (.iload_n 1, 1) := by decide +kernel
theorem dX9_ship_23 : decode cX9_ship 23 = .ok (.iload_n 2, 1) := by decide +kernel
theorem dX9_ship_24 : decode cX9_ship 24 = .ok (.iload_n 3, 1) := by decide +kernel
theorem dX9_ship_25 : decode cX9_ship 25 = .ok (.invokevirtual 110, 3) := by decide +kernel
theorem dX9_ship_28 : decode cX9_ship 28 = .ok (.ireturn, 1) := by decide +kernel
theorem dX9_rank_0 : decode cX9_rank 0 = .ok (.iconst 0, 1) := by decide +kernel
theorem dX9_rank_1 : decode cX9_rank 1 = .ok (.istore_n 2, 1) := by decide +kernel
theorem dX9_rank_2 : decode cX9_rank 2 = .ok (.iconst 0, 1) := by decide +kernel
theorem dX9_rank_3 : decode cX9_rank 3 = .ok (.istore_n 3, 1) := by decide +kernel
theorem dX9_rank_4 : decode cX9_rank 4 = .ok (.iload_n 3, 1) := by decide +kernel
theorem dX9_rank_5 : decode cX9_rank 5 = .ok (.aload_n 0, 1) := by decide +kernel
theorem dX9_rank_6 : decode cX9_rank 6 = .ok (.getfield 7, 3) := by decide +kernel
theorem dX9_rank_9 : decode cX9_rank 9 = .ok (.sipush 180, 3) := by decide +kernel
theorem dX9_rank_12 : decode cX9_rank 12 = .ok (.iaload, 1) := by decide +kernel
theorem dX9_rank_13 : decode cX9_rank 13 = .ok (.if_icmp .ge 68, 3) := by decide +kernel
theorem dX9_rank_16 : decode cX9_rank 16 = .ok (.aload_n 0, 1) := by decide +kernel
theorem dX9_rank_17 : decode cX9_rank 17 = .ok (.getfield 7, 3) := by decide +kernel
theorem dX9_rank_20 : decode cX9_rank 20 = .ok (.iload_n 3, 1) := by decide +kernel
theorem dX9_rank_21 : decode cX9_rank 21 = .ok (.iconst 0, 1) := by decide +kernel
theorem dX9_rank_22 : decode cX9_rank 22 = .ok (.invokestatic 100, 3) := by decide +kernel
theorem dX9_rank_25 : decode cX9_rank 25 = .ok (.iaload, 1) := by decide +kernel
theorem dX9_rank_26 : decode cX9_rank 26 = .ok (.aload_n 0, 1) := by decide +kernel
theorem dX9_rank_27 : decode cX9_rank 27 = .ok (.getfield 7, 3) := by decide +kernel
theorem dX9_rank_30 : decode cX9_rank 30 = .ok (.iload_n 1, 1) := by decide +kernel
theorem dX9_rank_31 : decode cX9_rank 31 = .ok (.iconst 0, 1) := by decide +kernel
theorem dX9_rank_32 : decode cX9_rank 32 = .ok (.invokestatic 100, 3) := by decide +kernel
theorem dX9_rank_35 : decode cX9_rank 35 = .ok (.iaload, 1) := by decide +kernel
theorem dX9_rank_36 : decode cX9_rank 36 = .ok (.isub, 1) := by decide +kernel
theorem dX9_rank_37 : decode cX9_rank 37 = .ok (.istore 4, 2) := by decide +kernel
theorem dX9_rank_39 : decode cX9_rank 39 = .ok (.iload_n 2, 1) := by decide +kernel
theorem dX9_rank_40 : decode cX9_rank 40 = .ok (.aload_n 0, 1) := by decide +kernel
theorem dX9_rank_41 : decode cX9_rank 41 = .ok (.getfield 7, 3) := by decide +kernel
theorem dX9_rank_44 : decode cX9_rank 44 = .ok (.iload_n 3, 1) := by decide +kernel
theorem dX9_rank_45 : decode cX9_rank 45 = .ok (.iconst 3, 1) := by decide +kernel
theorem dX9_rank_46 : decode cX9_rank 46 = .ok (.invokestatic 100, 3) := by decide +kernel
theorem dX9_rank_49 : decode cX9_rank 49 = .ok (.iaload, 1) := by decide +kernel
theorem dX9_rank_50 : decode cX9_rank 50 = .ok (.ifCond .ne 22, 3) := by decide +kernel
theorem dX9_rank_53 : decode cX9_rank 53 = .ok (.iload 4, 2) := by decide +kernel
theorem dX9_rank_55 : decode cX9_rank 55 = .ok (.ifCond .gt 13, 3) := by decide +kernel
theorem dX9_rank_58 : decode cX9_rank 58 = .ok (.iload 4, 2) := by decide +kernel
theorem dX9_rank_60 : decode cX9_rank 60 = .ok (.ifCond .ne 12, 3) := by decide +kernel
theorem dX9_rank_63 : decode cX9_rank 63 = .ok (.iload_n 3, 1) := by decide +kernel
theorem dX9_rank_64 : decode cX9_rank 64 = .ok (.iload_n 1, 1) := by decide +kernel
theorem dX9_rank_65 : decode cX9_rank 65 = .ok (.if_icmp .ge 7, 3) := by decide +kernel
theorem dX9_rank_68 : decode cX9_rank 68 = .ok (.iconst 1, 1) := by decide +kernel
theorem dX9_rank_69 : decode cX9_rank 69 = .ok (.goto 4, 3) := by decide +kernel
theorem dX9_rank_72 : decode cX9_rank 72 = .ok (.iconst 0, 1) := by decide +kernel
theorem dX9_rank_73 : decode cX9_rank 73 = .ok (.iadd, 1) := by decide +kernel
theorem dX9_rank_74 : decode cX9_rank 74 = .ok (.istore_n 2, 1) := by decide +kernel
theorem dX9_rank_75 : decode cX9_rank 75 = .ok (.iinc 3 1, 3) := by decide +kernel
theorem dX9_rank_78 : decode cX9_rank 78 = .ok (.goto (-74), 3) := by decide +kernel
theorem dX9_rank_81 : decode cX9_rank 81 = .ok (.iload_n 2, 1) := by decide +kernel
theorem dX9_rank_82 : decode cX9_rank 82 = .ok (.ireturn, 1) := by decide +kernel
theorem dX9_towards_0 : decode cX9_towards 0 = .ok (.iload_n 1, 1) := by decide +kernel
theorem dX9_towards_1 : decode cX9_towards 1 = .ok (.iload_n 0, 1) := by decide +kernel
theorem dX9_towards_2 : decode cX9_towards 2 = .ok (.if_icmp .le 7, 3) := by decide +kernel
theorem dX9_towards_5 : decode cX9_towards 5 = .ok (.iconst 1, 1) := by decide +kernel
theorem dX9_towards_6 : decode cX9_towards 6 = .ok (.goto 13, 3) := by decide +kernel
theorem dX9_towards_9 : decode cX9_towards 9 = .ok (.iload_n 1, 1) := by decide +kernel
theorem dX9_towards_10 : decode cX9_towards 10 = .ok (.iload_n 0, 1) := by decide +kernel
theorem dX9_towards_11 : decode cX9_towards 11 = .ok (.if_icmp .ge 7, 3) := by decide +kernel
theorem dX9_towards_14 : decode cX9_towards 14 = .ok (.iconst (-1), 1) := by decide +kernel
theorem dX9_towards_15 : decode cX9_towards 15 = .ok (.goto 4, 3) := by decide +kernel
theorem dX9_towards_18 : decode cX9_towards 18 = .ok (.iconst 0, 1) := by decide +kernel
theorem dX9_towards_19 : decode cX9_towards 19 = .ok (.ireturn, 1) := by decide +kernel
theorem dX9_goes_0 : decode cX9_goes 0 = .ok (.aload_n 0, 1) := by decide +kernel
theorem dX9_goes_1 : decode cX9_goes 1 = .ok (.getfield 7, 3) := by decide +kernel
theorem dX9_goes_4 : decode cX9_goes 4 = .ok (.iload_n 1, 1) := by decide +kernel
theorem dX9_goes_5 : decode cX9_goes 5 = .ok (.iconst 1, 1) := by decide +kernel
theorem dX9_goes_6 : decode cX9_goes 6 = .ok (.invokestatic 100, 3) := by decide +kernel
theorem dX9_goes_9 : decode cX9_goes 9 = .ok (.iaload, 1) := by decide +kernel
theorem dX9_goes_10 : decode cX9_goes 10 = .ok (.istore_n 2, 1) := by decide +kernel
theorem dX9_goes_11 : decode cX9_goes 11 = .ok (.aload_n 0, 1) := by decide +kernel
theorem dX9_goes_12 : decode cX9_goes 12 = .ok (.getfield 7, 3) := by decide +kernel
theorem dX9_goes_15 : decode cX9_goes 15 = .ok (.iload_n 1, 1) := by decide +kernel
theorem dX9_goes_16 : decode cX9_goes 16 = .ok (.iconst 2, 1) := by decide +kernel
theorem dX9_goes_17 : decode cX9_goes 17 = .ok (.invokestatic 100, 3) := by decide +kernel
theorem dX9_goes_20 : decode cX9_goes 20 = .ok (.iaload, 1) := by decide +kernel
theorem dX9_goes_21 : decode cX9_goes 21 = .ok (.istore_n 3, 1) := by decide +kernel
theorem dX9_goes_22 : decode cX9_goes 22 = .ok (.iload_n 2, 1) := by decide +kernel
theorem dX9_goes_23 : decode cX9_goes 23 = .ok (.iload_n 2, 1) := by decide +kernel
theorem dX9_goes_24 : decode cX9_goes 24 = .ok (.bipush 10, 2) := by decide +kernel
theorem dX9_goes_26 : decode cX9_goes 26 = .ok (.irem, 1) := by decide +kernel
theorem dX9_goes_27 : decode cX9_goes 27 = .ok (.iload_n 3, 1) := by decide +kernel
theorem dX9_goes_28 : decode cX9_goes 28 = .ok (.bipush 10, 2) := by decide +kernel
theorem dX9_goes_30 : decode cX9_goes 30 = .ok (.irem, 1) := by decide +kernel
theorem dX9_goes_31 : decode cX9_goes 31 = .ok (.invokestatic 113, 3) := by decide +kernel
theorem dX9_goes_34 : decode cX9_goes 34 = .ok (.iadd, 1) := by decide +kernel
theorem dX9_goes_35 : decode cX9_goes 35 = .ok (.bipush 10, 2) := by decide +kernel
theorem dX9_goes_37 : decode cX9_goes 37 = .ok (.iload_n 2, 1) := by decide +kernel
theorem dX9_goes_38 : decode cX9_goes 38 = .ok (.bipush 10, 2) := by decide +kernel
theorem dX9_goes_40 : decode cX9_goes 40 = .ok (.idiv, 1) := by decide +kernel
theorem dX9_goes_41 : decode cX9_goes 41 = .ok (.iload_n 3, 1) := by decide +kernel
theorem dX9_goes_42 : decode cX9_goes 42 = .ok (.bipush 10, 2) := by decide +kernel
theorem dX9_goes_44 : decode cX9_goes 44 = .ok (.idiv, 1) := by decide +kernel
theorem dX9_goes_45 : decode cX9_goes 45 = .ok (.invokestatic 113, 3) := by decide +kernel
theorem dX9_goes_48 : decode cX9_goes 48 = .ok (.imul, 1) := by decide +kernel
theorem dX9_goes_49 : decode cX9_goes 49 = .ok (.iadd, 1) := by decide +kernel
theorem dX9_goes_50 : decode cX9_goes 50 = .ok (.istore 4, 2) := by decide +kernel
theorem dX9_goes_52 : decode cX9_goes 52 = .ok (.aload_n 0, 1) := by decide +kernel
theorem dX9_goes_53 : decode cX9_goes 53 = .ok (.iload 4, 2) := by decide +kernel
theorem dX9_goes_55 : decode cX9_goes 55 = .ok (.invokevirtual 103, 3) := by decide +kernel
theorem dX9_goes_58 : decode cX9_goes 58 = .ok (.istore 5, 2) := by decide +kernel
theorem dX9_goes_60 : decode cX9_goes 60 = .ok (.iload 5, 2) := by decide +kernel
theorem dX9_goes_62 : decode cX9_goes 62 = .ok (.bipush (-5), 2) := by decide +kernel
theorem dX9_goes_64 : decode cX9_goes 64 = .ok (.if_icmp .ne 25, 3) := by decide +kernel
theorem dX9_goes_67 : decode cX9_goes 67 = .ok (.aload_n 0, 1) := by decide +kernel
theorem dX9_goes_68 : decode cX9_goes 68 = .ok (.getfield 7, 3) := by decide +kernel
theorem dX9_goes_71 : decode cX9_goes 71 = .ok (.iconst 0, 1) := by decide +kernel
theorem dX9_goes_72 : decode cX9_goes 72 = .ok (.iload 4, 2) := by decide +kernel
theorem dX9_goes_74 : decode cX9_goes 74 = .ok (.iadd, 1) := by decide +kernel
theorem dX9_goes_75 : decode cX9_goes 75 = .ok (.iaload, 1) := by decide +kernel
theorem dX9_goes_76 : decode cX9_goes 76 = .ok (.iconst 1, 1) := by decide +kernel
theorem dX9_goes_77 : decode cX9_goes 77 = .ok (.if_icmp .ne 29, 3) := by decide +kernel
theorem dX9_goes_80 : decode cX9_goes 80 = .ok (.aload_n 0, 1) := by decide +kernel
theorem dX9_goes_81 : decode cX9_goes 81 = .ok (.iload 4, 2) := by decide +kernel
theorem dX9_goes_83 : decode cX9_goes 83 = .ok (.invokevirtual 116, 3) := by decide +kernel
theorem dX9_goes_86 : decode cX9_goes 86 = .ok (.ifCond .eq 20, 3) := by decide +kernel
theorem dX9_goes_89 : decode cX9_goes 89 = .ok (.aload_n 0, 1) := by decide +kernel
theorem dX9_goes_90 : decode cX9_goes 90 = .ok (.getfield 7, 3) := by decide +kernel
theorem dX9_goes_93 : decode cX9_goes 93 = .ok (.iload_n 1, 1) := by decide +kernel
theorem dX9_goes_94 : decode cX9_goes 94 = .ok (.iconst 4, 1) := by decide +kernel
theorem dX9_goes_95 : decode cX9_goes 95 = .ok (.invokestatic 100, 3) := by decide +kernel
theorem dX9_goes_98 : decode cX9_goes 98 = .ok (.dup2, 1) := by decide +kernel
theorem dX9_goes_99 : decode cX9_goes 99 = .ok (.iaload, 1) := by decide +kernel
theorem dX9_goes_100 : decode cX9_goes 100 = .ok (.iconst 1, 1) := by decide +kernel
theorem dX9_goes_101 : decode cX9_goes 101 = .ok (.iadd, 1) := by decide +kernel
theorem dX9_goes_102 : decode cX9_goes 102 = .ok (.iastore, 1) := by decide +kernel
theorem dX9_goes_103 : decode cX9_goes 103 = .ok (.goto 121, 3) := by decide +kernel
theorem dX9_goes_106 : decode cX9_goes 106 = .ok (.aload_n 0, 1) := by decide +kernel
theorem dX9_goes_107 : decode cX9_goes 107 = .ok (.getfield 7, 3) := by decide +kernel
theorem dX9_goes_110 : decode cX9_goes 110 = .ok (.iconst 0, 1) := by decide +kernel
theorem dX9_goes_111 : decode cX9_goes 111 = .ok (.iload 4, 2) := by decide +kernel
theorem dX9_goes_113 : decode cX9_goes 113 = .ok (.iadd, 1) := by decide +kernel
theorem dX9_goes_114 : decode cX9_goes 114 = .ok (.iaload, 1) := by decide +kernel
theorem dX9_goes_115 : decode cX9_goes 115 = .ok (.iconst 1, 1) := by decide +kernel
theorem dX9_goes_116 : decode cX9_goes 116 = .ok (.if_icmp .ne 75, 3) := by decide +kernel
theorem dX9_goes_119 : decode cX9_goes 119 = .ok (.aload_n 0, 1) := by decide +kernel
theorem dX9_goes_120 : decode cX9_goes 120 = .ok (.getfield 7, 3) := by decide +kernel
theorem dX9_goes_123 : decode cX9_goes 123 = .ok (.iload_n 1, 1) := by decide +kernel
theorem dX9_goes_124 : decode cX9_goes 124 = .ok (.iconst 1, 1) := by decide +kernel
theorem dX9_goes_125 : decode cX9_goes 125 = .ok (.invokestatic 100, 3) := by decide +kernel
theorem dX9_goes_128 : decode cX9_goes 128 = .ok (.iload 4, 2) := by decide +kernel
theorem dX9_goes_130 : decode cX9_goes 130 = .ok (.iastore, 1) := by decide +kernel
theorem dX9_goes_131 : decode cX9_goes 131 = .ok (.aload_n 0, 1) := by decide +kernel
theorem dX9_goes_132 : decode cX9_goes 132 = .ok (.getfield 7, 3) := by decide +kernel
theorem dX9_goes_135 : decode cX9_goes 135 = .ok (.iload_n 1, 1) := by decide +kernel
theorem dX9_goes_136 : decode cX9_goes 136 = .ok (.iconst 3, 1) := by decide +kernel
theorem dX9_goes_137 : decode cX9_goes 137 = .ok (.invokestatic 100, 3) := by decide +kernel
theorem dX9_goes_140 : decode cX9_goes 140 = .ok (.iconst 2, 1) := by decide +kernel
theorem dX9_goes_141 : decode cX9_goes 141 = .ok (.iastore, 1) := by decide +kernel
theorem dX9_goes_142 : decode cX9_goes 142 = .ok (.iload 4, 2) := by decide +kernel
theorem dX9_goes_144 : decode cX9_goes 144 = .ok (.invokestatic 119, 3) := by decide +kernel
theorem dX9_goes_147 : decode cX9_goes 147 = .ok (.istore 6, 2) := by decide +kernel
theorem dX9_goes_149 : decode cX9_goes 149 = .ok (.aload_n 0, 1) := by decide +kernel
theorem dX9_goes_150 : decode cX9_goes 150 = .ok (.getfield 7, 3) := by decide +kernel
theorem dX9_goes_153 : decode cX9_goes 153 = .ok (.iload 6, 2) := by decide +kernel
theorem dX9_goes_155 : decode cX9_goes 155 = .ok (.iconst 1, 1) := by decide +kernel
theorem dX9_goes_156 : decode cX9_goes 156 = .ok (.invokestatic 33, 3) := by decide +kernel
theorem dX9_goes_159 : decode cX9_goes 159 = .ok (.dup2, 1) := by decide +kernel
theorem dX9_goes_160 : decode cX9_goes 160 = .ok (.iaload, 1) := by decide +kernel
theorem dX9_goes_161 : decode cX9_goes 161 = .ok (.aload_n 0, 1) := by decide +kernel
theorem dX9_goes_162 : decode cX9_goes 162 = .ok (.getfield 7, 3) := by decide +kernel
theorem dX9_goes_165 : decode cX9_goes 165 = .ok (.iload_n 1, 1) := by decide +kernel
theorem dX9_goes_166 : decode cX9_goes 166 = .ok (.iconst 0, 1) := by decide +kernel
theorem dX9_goes_167 : decode cX9_goes 167 = .ok (.invokestatic 100, 3) := by decide +kernel
theorem dX9_goes_170 : decode cX9_goes 170 = .ok (.iaload, 1) := by decide +kernel
theorem dX9_goes_171 : decode cX9_goes 171 = .ok (.iadd, 1) := by decide +kernel
theorem dX9_goes_172 : decode cX9_goes 172 = .ok (.iastore, 1) := by decide +kernel
theorem dX9_goes_173 : decode cX9_goes 173 = .ok (.aload_n 0, 1) := by decide +kernel
theorem dX9_goes_174 : decode cX9_goes 174 = .ok (.getfield 7, 3) := by decide +kernel
theorem dX9_goes_177 : decode cX9_goes 177 = .ok (.iload 6, 2) := by decide +kernel
theorem dX9_goes_179 : decode cX9_goes 179 = .ok (.iconst 3, 1) := by decide +kernel
theorem dX9_goes_180 : decode cX9_goes 180 = .ok (.invokestatic 33, 3) := by decide +kernel
theorem dX9_goes_183 : decode cX9_goes 183 = .ok (.dup2, 1) := by decide +kernel
theorem dX9_goes_184 : decode cX9_goes 184 = .ok (.iaload, 1) := by decide +kernel
theorem dX9_goes_185 : decode cX9_goes 185 = .ok (.iconst 1, 1) := by decide +kernel
theorem dX9_goes_186 : decode cX9_goes 186 = .ok (.iadd, 1) := by decide +kernel
theorem dX9_goes_187 : decode cX9_goes 187 = .ok (.iastore, 1) := by decide +kernel
theorem dX9_goes_188 : decode cX9_goes 188 = .ok (.goto 36, 3) := by decide +kernel
theorem dX9_goes_191 : decode cX9_goes 191 = .ok (.aload_n 0, 1) := by decide +kernel
theorem dX9_goes_192 : decode cX9_goes 192 = .ok (.getfield 7, 3) := by decide +kernel
theorem dX9_goes_195 : decode cX9_goes 195 = .ok (.iload_n 1, 1) := by decide +kernel
theorem dX9_goes_196 : decode cX9_goes 196 = .ok (.iconst 1, 1) := by decide +kernel
theorem dX9_goes_197 : decode cX9_goes 197 = .ok (.invokestatic 100, 3) := by decide +kernel
theorem dX9_goes_200 : decode cX9_goes 200 = .ok (.iload 4, 2) := by decide +kernel
theorem dX9_goes_202 : decode cX9_goes 202 = .ok (.iastore, 1) := by decide +kernel
theorem dX9_goes_203 : decode cX9_goes 203 = .ok (.aload_n 0, 1) := by decide +kernel
theorem dX9_goes_204 : decode cX9_goes 204 = .ok (.getfield 7, 3) := by decide +kernel
theorem dX9_goes_207 : decode cX9_goes 207 = .ok (.iload_n 1, 1) := by decide +kernel
theorem dX9_goes_208 : decode cX9_goes 208 = .ok (.iconst 3, 1) := by decide +kernel
theorem dX9_goes_209 : decode cX9_goes 209 = .ok (.invokestatic 100, 3) := by decide +kernel
theorem dX9_goes_212 : decode cX9_goes 212 = .ok (.iload 4, 2) := by decide +kernel
theorem dX9_goes_214 : decode cX9_goes 214 = .ok (.iload_n 3, 1) := by decide +kernel
theorem dX9_goes_215 : decode cX9_goes 215 = .ok (.if_icmp .ne 7, 3) := by decide +kernel
theorem dX9_goes_218 : decode cX9_goes 218 = .ok (.iconst 1, 1) := by decide +kernel
theorem dX9_goes_219 : decode cX9_goes 219 = .ok (.goto 4, 3) := by decide +kernel
theorem dX9_goes_222 : decode cX9_goes 222 = .ok (.iconst 0, 1) := by decide +kernel
theorem dX9_goes_223 : decode cX9_goes 223 = .ok (.iastore, 1) := by decide +kernel
theorem dX9_goes_224 : decode cX9_goes 224 = .ok (.return_, 1) := by decide +kernel
theorem dX9_hour_0 : decode cX9_hour 0 = .ok (.iconst 0, 1) := by decide +kernel
theorem dX9_hour_1 : decode cX9_hour 1 = .ok (.istore_n 1, 1) := by decide +kernel
theorem dX9_hour_2 : decode cX9_hour 2 = .ok (.iconst 0, 1) := by decide +kernel
theorem dX9_hour_3 : decode cX9_hour 3 = .ok (.istore_n 2, 1) := by decide +kernel
theorem dX9_hour_4 : decode cX9_hour 4 = .ok (.iload_n 2, 1) := by decide +kernel
theorem dX9_hour_5 : decode cX9_hour 5 = .ok (.aload_n 0, 1) := by decide +kernel
theorem dX9_hour_6 : decode cX9_hour 6 = .ok (.getfield 7, 3) := by decide +kernel
theorem dX9_hour_9 : decode cX9_hour 9 = .ok (.sipush 180, 3) := by decide +kernel
theorem dX9_hour_12 : decode cX9_hour 12 = .ok (.iaload, 1) := by decide +kernel
theorem dX9_hour_13 : decode cX9_hour 13 = .ok (.if_icmp .ge 36, 3) := by decide +kernel
theorem dX9_hour_16 : decode cX9_hour 16 = .ok (.aload_n 0, 1) := by decide +kernel
theorem dX9_hour_17 : decode cX9_hour 17 = .ok (.getfield 7, 3) := by decide +kernel
theorem dX9_hour_20 : decode cX9_hour 20 = .ok (.iload_n 2, 1) := by decide +kernel
theorem dX9_hour_21 : decode cX9_hour 21 = .ok (.iconst 3, 1) := by decide +kernel
theorem dX9_hour_22 : decode cX9_hour 22 = .ok (.invokestatic 100, 3) := by decide +kernel
theorem dX9_hour_25 : decode cX9_hour 25 = .ok (.iaload, 1) := by decide +kernel
theorem dX9_hour_26 : decode cX9_hour 26 = .ok (.ifCond .ne 17, 3) := by decide +kernel
theorem dX9_hour_29 : decode cX9_hour 29 = .ok (.aload_n 0, 1) := by decide +kernel
theorem dX9_hour_30 : decode cX9_hour 30 = .ok (.getfield 26, 3) := by decide +kernel
theorem dX9_hour_33 : decode cX9_hour 33 = .ok (.aload_n 0, 1) := by decide +kernel
theorem dX9_hour_34 : decode cX9_hour 34 = .ok (.iload_n 2, 1) := by decide +kernel
theorem dX9_hour_35 : decode cX9_hour 35 = .ok (.invokevirtual 122, 3) := by decide +kernel
theorem dX9_hour_38 : decode cX9_hour 38 = .ok (.iload_n 2, 1) := by decide +kernel
theorem dX9_hour_39 : decode cX9_hour 39 = .ok (.iastore, 1) := by decide +kernel
theorem dX9_hour_40 : decode cX9_hour 40 = .ok (.iinc 1 1, 3) := by decide +kernel
theorem dX9_hour_43 : decode cX9_hour 43 = .ok (.iinc 2 1, 3) := by decide +kernel
theorem dX9_hour_46 : decode cX9_hour 46 = .ok (.goto (-42), 3) := by decide +kernel
theorem dX9_hour_49 : decode cX9_hour 49 = .ok (.iconst 0, 1) := by decide +kernel
theorem dX9_hour_50 : decode cX9_hour 50 = .ok (.istore_n 2, 1) := by decide +kernel
theorem dX9_hour_51 : decode cX9_hour 51 = .ok (.iload_n 2, 1) := by decide +kernel
theorem dX9_hour_52 : decode cX9_hour 52 = .ok (.iload_n 1, 1) := by decide +kernel
theorem dX9_hour_53 : decode cX9_hour 53 = .ok (.if_icmp .ge 19, 3) := by decide +kernel
theorem dX9_hour_56 : decode cX9_hour 56 = .ok (.aload_n 0, 1) := by decide +kernel
theorem dX9_hour_57 : decode cX9_hour 57 = .ok (.aload_n 0, 1) := by decide +kernel
theorem dX9_hour_58 : decode cX9_hour 58 = .ok (.getfield 26, 3) := by decide +kernel
theorem dX9_hour_61 : decode cX9_hour 61 = .ok (.iload_n 2, 1) := by decide +kernel
theorem dX9_hour_62 : decode cX9_hour 62 = .ok (.iaload, 1) := by decide +kernel
theorem dX9_hour_63 : decode cX9_hour 63 = .ok (.invokevirtual 125, 3) := by decide +kernel
theorem dX9_hour_66 : decode cX9_hour 66 = .ok (.iinc 2 1, 3) := by decide +kernel
theorem dX9_hour_69 : decode cX9_hour 69 = .ok (.goto (-18), 3) := by decide +kernel
theorem dX9_hour_72 : decode cX9_hour 72 = .ok (.iconst 0, 1) := by decide +kernel
theorem dX9_hour_73 : decode cX9_hour 73 = .ok (.istore_n 2, 1) := by decide +kernel
theorem dX9_hour_74 : decode cX9_hour 74 = .ok (.iload_n 2, 1) := by decide +kernel
theorem dX9_hour_75 : decode cX9_hour 75 = .ok (.iconst 4, 1) := by decide +kernel
theorem dX9_hour_76 : decode cX9_hour 76 = .ok (.if_icmp .ge 134, 3) := by decide +kernel
theorem dX9_hour_79 : decode cX9_hour 79 = .ok (.aload_n 0, 1) := by decide +kernel
theorem dX9_hour_80 : decode cX9_hour 80 = .ok (.getfield 7, 3) := by decide +kernel
theorem dX9_hour_83 : decode cX9_hour 83 = .ok (.iload_n 2, 1) := by decide +kernel
theorem dX9_hour_84 : decode cX9_hour 84 = .ok (.iconst 0, 1) := by decide +kernel
theorem dX9_hour_85 : decode cX9_hour 85 = .ok (.invokestatic 33, 3) := by decide +kernel
theorem dX9_hour_88 : decode cX9_hour 88 = .ok (.iaload, 1) := by decide +kernel
theorem dX9_hour_89 : decode cX9_hour 89 = .ok (.aload_n 0, 1) := by decide +kernel
theorem dX9_hour_90 : decode cX9_hour 90 = .ok (.getfield 7, 3) := by decide +kernel
theorem dX9_hour_93 : decode cX9_hour 93 = .ok (.sipush 182, 3) := by decide +kernel
theorem dX9_hour_96 : decode cX9_hour 96 = .ok (.iaload, 1) := by decide +kernel
theorem dX9_hour_97 : decode cX9_hour 97 = .ok (.iadd, 1) := by decide +kernel
theorem dX9_hour_98 : decode cX9_hour 98 = .ok (.istore_n 3, 1) := by decide +kernel
theorem dX9_hour_99 : decode cX9_hour 99 = .ok (.iload_n 3, 1) := by decide +kernel
theorem dX9_hour_100 : decode cX9_hour 100 = .ok (.aload_n 0, 1) := by decide +kernel
theorem dX9_hour_101 : decode cX9_hour 101 = .ok (.getfield 7, 3) := by decide +kernel
theorem dX9_hour_104 : decode cX9_hour 104 = .ok (.iload_n 2, 1) := by decide +kernel
theorem dX9_hour_105 : decode cX9_hour 105 = .ok (.iconst 1, 1) := by decide +kernel
theorem dX9_hour_106 : decode cX9_hour 106 = .ok (.invokestatic 33, 3) := by decide +kernel
theorem dX9_hour_109 : decode cX9_hour 109 = .ok (.iaload, 1) := by decide +kernel
theorem dX9_hour_110 : decode cX9_hour 110 = .ok (.if_icmp .ge 7, 3) := by decide +kernel
theorem dX9_hour_113 : decode cX9_hour 113 = .ok (.iload_n 3, 1) := by decide +kernel
theorem dX9_hour_114 : decode cX9_hour 114 = .ok (.goto 13, 3) := by decide +kernel
theorem dX9_hour_117 : decode cX9_hour 117 = .ok (.aload_n 0, 1) := by decide +kernel
theorem dX9_hour_118 : decode cX9_hour 118 = .ok (.getfield 7, 3) := by decide +kernel
theorem dX9_hour_121 : decode cX9_hour 121 = .ok (.iload_n 2, 1) := by decide +kernel
theorem dX9_hour_122 : decode cX9_hour 122 = .ok (.iconst 1, 1) := by decide +kernel
theorem dX9_hour_123 : decode cX9_hour 123 = .ok (.invokestatic 33, 3) := by decide +kernel
theorem dX9_hour_126 : decode cX9_hour 126 = .ok (.iaload, 1) := by decide +kernel
theorem dX9_hour_127 : decode cX9_hour 127 = .ok (.istore 4, 2) := by decide +kernel
theorem dX9_hour_129 : decode cX9_hour 129 = .ok (.aload_n 0, 1) := by decide +kernel
theorem dX9_hour_130 : decode cX9_hour 130 = .ok (.getfield 7, 3) := by decide +kernel
theorem dX9_hour_133 : decode cX9_hour 133 = .ok (.iload_n 2, 1) := by decide +kernel
theorem dX9_hour_134 : decode cX9_hour 134 = .ok (.iconst 0, 1) := by decide +kernel
theorem dX9_hour_135 : decode cX9_hour 135 = .ok (.invokestatic 33, 3) := by decide +kernel
theorem dX9_hour_138 : decode cX9_hour 138 = .ok (.iload_n 3, 1) := by decide +kernel
theorem dX9_hour_139 : decode cX9_hour 139 = .ok (.iload 4, 2) := by decide +kernel
theorem dX9_hour_141 : decode cX9_hour 141 = .ok (.isub, 1) := by decide +kernel
theorem dX9_hour_142 : decode cX9_hour 142 = .ok (.iastore, 1) := by decide +kernel
theorem dX9_hour_143 : decode cX9_hour 143 = .ok (.aload_n 0, 1) := by decide +kernel
theorem dX9_hour_144 : decode cX9_hour 144 = .ok (.getfield 7, 3) := by decide +kernel
theorem dX9_hour_147 : decode cX9_hour 147 = .ok (.iload_n 2, 1) := by decide +kernel
theorem dX9_hour_148 : decode cX9_hour 148 = .ok (.iconst 1, 1) := by decide +kernel
theorem dX9_hour_149 : decode cX9_hour 149 = .ok (.invokestatic 33, 3) := by decide +kernel
theorem dX9_hour_152 : decode cX9_hour 152 = .ok (.dup2, 1) := by decide +kernel
theorem dX9_hour_153 : decode cX9_hour 153 = .ok (.iaload, 1) := by decide +kernel
theorem dX9_hour_154 : decode cX9_hour 154 = .ok (.iload 4, 2) := by decide +kernel
theorem dX9_hour_156 : decode cX9_hour 156 = .ok (.isub, 1) := by decide +kernel
theorem dX9_hour_157 : decode cX9_hour 157 = .ok (.iastore, 1) := by decide +kernel
theorem dX9_hour_158 : decode cX9_hour 158 = .ok (.aload_n 0, 1) := by decide +kernel
theorem dX9_hour_159 : decode cX9_hour 159 = .ok (.getfield 7, 3) := by decide +kernel
theorem dX9_hour_162 : decode cX9_hour 162 = .ok (.iload_n 2, 1) := by decide +kernel
theorem dX9_hour_163 : decode cX9_hour 163 = .ok (.iconst 4, 1) := by decide +kernel
theorem dX9_hour_164 : decode cX9_hour 164 = .ok (.invokestatic 33, 3) := by decide +kernel
theorem dX9_hour_167 : decode cX9_hour 167 = .ok (.dup2, 1) := by decide +kernel
theorem dX9_hour_168 : decode cX9_hour 168 = .ok (.iaload, 1) := by decide +kernel
theorem dX9_hour_169 : decode cX9_hour 169 = .ok (.iload 4, 2) := by decide +kernel
theorem dX9_hour_171 : decode cX9_hour 171 = .ok (.iadd, 1) := by decide +kernel
theorem dX9_hour_172 : decode cX9_hour 172 = .ok (.iastore, 1) := by decide +kernel
theorem dX9_hour_173 : decode cX9_hour 173 = .ok (.aload_n 0, 1) := by decide +kernel
theorem dX9_hour_174 : decode cX9_hour 174 = .ok (.getfield 7, 3) := by decide +kernel
theorem dX9_hour_177 : decode cX9_hour 177 = .ok (.iload_n 2, 1) := by decide +kernel
theorem dX9_hour_178 : decode cX9_hour 178 = .ok (.iconst 4, 1) := by decide +kernel
theorem dX9_hour_179 : decode cX9_hour 179 = .ok (.invokestatic 29, 3) := by decide +kernel
theorem dX9_hour_182 : decode cX9_hour 182 = .ok (.dup2, 1) := by decide +kernel
theorem dX9_hour_183 : decode cX9_hour 183 = .ok (.iaload, 1) := by decide +kernel
theorem dX9_hour_184 : decode cX9_hour 184 = .ok (.aload_n 0, 1) := by decide +kernel
theorem dX9_hour_185 : decode cX9_hour 185 = .ok (.getfield 7, 3) := by decide +kernel
theorem dX9_hour_188 : decode cX9_hour 188 = .ok (.iload_n 2, 1) := by decide +kernel
theorem dX9_hour_189 : decode cX9_hour 189 = .ok (.iconst 4, 1) := by decide +kernel
theorem dX9_hour_190 : decode cX9_hour 190 = .ok (.invokestatic 29, 3) := by decide +kernel
theorem dX9_hour_193 : decode cX9_hour 193 = .ok (.iaload, 1) := by decide +kernel
theorem dX9_hour_194 : decode cX9_hour 194 = .ok (.ifCond .le 7, 3) := by decide +kernel
theorem dX9_hour_197 : decode cX9_hour 197 = .ok (.iconst 1, 1) := by decide +kernel
theorem dX9_hour_198 : decode cX9_hour 198 = .ok (.goto 4, 3) := by decide +kernel
theorem dX9_hour_201 : decode cX9_hour 201 = .ok (.iconst 0, 1) := by decide +kernel
theorem dX9_hour_202 : decode cX9_hour 202 = .ok (.isub, 1) := by decide +kernel
theorem dX9_hour_203 : decode cX9_hour 203 = .ok (.iastore, 1) := by decide +kernel
theorem dX9_hour_204 : decode cX9_hour 204 = .ok (.iinc 2 1, 3) := by decide +kernel
theorem dX9_hour_207 : decode cX9_hour 207 = .ok (.goto (-133), 3) := by decide +kernel
theorem dX9_hour_210 : decode cX9_hour 210 = .ok (.aload_n 0, 1) := by decide +kernel
theorem dX9_hour_211 : decode cX9_hour 211 = .ok (.getfield 7, 3) := by decide +kernel
theorem dX9_hour_214 : decode cX9_hour 214 = .ok (.sipush 181, 3) := by decide +kernel
theorem dX9_hour_217 : decode cX9_hour 217 = .ok (.dup2, 1) := by decide +kernel
theorem dX9_hour_218 : decode cX9_hour 218 = .ok (.iaload, 1) := by decide +kernel
theorem dX9_hour_219 : decode cX9_hour 219 = .ok (.iconst 1, 1) := by decide +kernel
theorem dX9_hour_220 : decode cX9_hour 220 = .ok (.iadd, 1) := by decide +kernel
theorem dX9_hour_221 : decode cX9_hour 221 = .ok (.iastore, 1) := by decide +kernel
theorem dX9_hour_222 : decode cX9_hour 222 = .ok (.return_, 1) := by decide +kernel
theorem dX9_shipsIn_0 : decode cX9_shipsIn 0 = .ok (.iconst 0, 1) := by decide +kernel
theorem dX9_shipsIn_1 : decode cX9_shipsIn 1 = .ok (.istore_n 2, 1) := by decide +kernel
theorem dX9_shipsIn_2 : decode cX9_shipsIn 2 = .ok (.iconst 0, 1) := by decide +kernel
theorem dX9_shipsIn_3 : decode cX9_shipsIn 3 = .ok (.istore_n 3, 1) := by decide +kernel
theorem dX9_shipsIn_4 : decode cX9_shipsIn 4 = .ok (.iload_n 3, 1) := by decide +kernel
theorem dX9_shipsIn_5 : decode cX9_shipsIn 5 = .ok (.aload_n 0, 1) := by decide +kernel
theorem dX9_shipsIn_6 : decode cX9_shipsIn 6 = .ok (.getfield 7, 3) := by decide +kernel
theorem dX9_shipsIn_9 : decode cX9_shipsIn 9 = .ok (.sipush 180, 3) := by decide +kernel
theorem dX9_shipsIn_12 : decode cX9_shipsIn 12 = .ok (.iaload, 1) := by decide +kernel
theorem dX9_shipsIn_13 : decode cX9_shipsIn 13 = .ok (.if_icmp .ge 33, 3) := by decide +kernel
theorem dX9_shipsIn_16 : decode cX9_shipsIn 16 = .ok (.iload_n 2, 1) := by decide +kernel
theorem dX9_shipsIn_17 : decode cX9_shipsIn 17 = .ok (.aload_n 0, 1) := by decide +kernel
theorem dX9_shipsIn_18 : decode cX9_shipsIn 18 = .ok (.getfield 7, 3) := by decide +kernel
theorem dX9_shipsIn_21 : decode cX9_shipsIn 21 = .ok (.iload_n 3, 1) := by decide +kernel
theorem dX9_shipsIn_22 : decode cX9_shipsIn 22 = .ok (.iconst 3, 1) := by decide +kernel
theorem dX9_shipsIn_23 : decode cX9_shipsIn 23 = .ok (.invokestatic 100, 3) := by decide +kernel
theorem dX9_shipsIn_26 : decode cX9_shipsIn 26 = .ok (.iaload, 1) := by decide +kernel
theorem dX9_shipsIn_27 : decode cX9_shipsIn 27 = .ok (.iload_n 1, 1) := by decide +kernel
theorem dX9_shipsIn_28 : decode cX9_shipsIn 28 = .ok (.if_icmp .ne 9, 3) := by decide +kernel
theorem dX9_shipsIn_31 : decode cX9_shipsIn 31 = .ok (.iconst 1, 1) := by decide +kernel
theorem dX9_shipsIn_32 : decode cX9_shipsIn 32 = .ok (.iload_n 3, 1) := by decide +kernel
theorem dX9_shipsIn_33 : decode cX9_shipsIn 33 = .ok (.ishl, 1) := by decide +kernel
theorem dX9_shipsIn_34 : decode cX9_shipsIn 34 = .ok (.goto 4, 3) := by decide +kernel
theorem dX9_shipsIn_37 : decode cX9_shipsIn 37 = .ok (.iconst 0, 1) := by decide +kernel
theorem dX9_shipsIn_38 : decode cX9_shipsIn 38 = .ok (.ior, 1) := by decide +kernel
theorem dX9_shipsIn_39 : decode cX9_shipsIn 39 = .ok (.istore_n 2, 1) := by decide +kernel
theorem dX9_shipsIn_40 : decode cX9_shipsIn 40 = .ok (.iinc 3 1, 3) := by decide +kernel
theorem dX9_shipsIn_43 : decode cX9_shipsIn 43 = .ok (.goto (-39), 3) := by decide +kernel
theorem dX9_shipsIn_46 : decode cX9_shipsIn 46 = .ok (.iload_n 2, 1) := by decide +kernel
theorem dX9_shipsIn_47 : decode cX9_shipsIn 47 = .ok (.ireturn, 1) := by decide +kernel
theorem dX9_many_0 : decode cX9_many 0 = .ok (.iconst 0, 1) := by decide +kernel
theorem dX9_many_1 : decode cX9_many 1 = .ok (.istore_n 1, 1) := by decide +kernel
theorem dX9_many_2 : decode cX9_many 2 = .ok (.iload_n 0, 1) := by decide +kernel
theorem dX9_many_3 : decode cX9_many 3 = .ok (.istore_n 2, 1) := by decide +kernel
theorem dX9_many_4 : decode cX9_many 4 = .ok (.iload_n 2, 1) := by decide +kernel
theorem dX9_many_5 : decode cX9_many 5 = .ok (.ifCond .le 16, 3) := by decide +kernel
theorem dX9_many_8 : decode cX9_many 8 = .ok (.iload_n 1, 1) := by decide +kernel
theorem dX9_many_9 : decode cX9_many 9 = .ok (.iload_n 2, 1) := by decide +kernel
theorem dX9_many_10 : decode cX9_many 10 = .ok (.iconst 1, 1) := by decide +kernel
theorem dX9_many_11 : decode cX9_many 11 = .ok (.iand, 1) := by decide +kernel
theorem dX9_many_12 : decode cX9_many 12 = .ok (.iadd, 1) := by decide +kernel
theorem dX9_many_13 : decode cX9_many 13 = .ok (.istore_n 1, 1) := by decide +kernel
theorem dX9_many_14 : decode cX9_many 14 = .ok (.iload_n 2, 1) := by decide +kernel
theorem dX9_many_15 : decode cX9_many 15 = .ok (.iconst 1, 1) := by decide +kernel
theorem dX9_many_16 : decode cX9_many 16 = .ok (.ishr, 1) := by decide +kernel
theorem dX9_many_17 : decode cX9_many 17 = .ok (.istore_n 2, 1) := by decide +kernel
theorem dX9_many_18 : decode cX9_many 18 = .ok (.goto (-14), 3) := by decide +kernel
theorem dX9_many_21 : decode cX9_many 21 = .ok (.iload_n 1, 1) := by decide +kernel
theorem dX9_many_22 : decode cX9_many 22 = .ok (.ireturn, 1) := by decide +kernel
theorem dX9_passes_0 : decode cX9_passes 0 = .ok (.aload_n 0, 1) := by decide +kernel
theorem dX9_passes_1 : decode cX9_passes 1 = .ok (.iconst 2, 1) := by decide +kernel
theorem dX9_passes_2 : decode cX9_passes 2 = .ok (.invokevirtual 129, 3) := by decide +kernel
theorem dX9_passes_5 : decode cX9_passes 5 = .ok (.istore_n 2, 1) := by decide +kernel
theorem dX9_passes_6 : decode cX9_passes 6 = .ok (.iconst 0, 1) := by decide +kernel
theorem dX9_passes_7 : decode cX9_passes 7 = .ok (.istore_n 3, 1) := by decide +kernel
theorem dX9_passes_8 : decode cX9_passes 8 = .ok (.iload_n 3, 1) := by decide +kernel
theorem dX9_passes_9 : decode cX9_passes 9 = .ok (.iload_n 1, 1) := by decide +kernel
theorem dX9_passes_10 : decode cX9_passes 10 = .ok (.if_icmp .ge 13, 3) := by decide +kernel
theorem dX9_passes_13 : decode cX9_passes 13 = .ok (.aload_n 0, 1) := by decide +kernel
theorem dX9_passes_14 : decode cX9_passes 14 = .ok (.invokevirtual 132, 3) := by decide +kernel
theorem dX9_passes_17 : decode cX9_passes 17 = .ok (.iinc 3 1, 3) := by decide +kernel
theorem dX9_passes_20 : decode cX9_passes 20 = .ok (.goto (-12), 3) := by decide +kernel
theorem dX9_passes_23 : decode cX9_passes 23 = .ok (.aload_n 0, 1) := by decide +kernel
theorem dX9_passes_24 : decode cX9_passes 24 = .ok (.iconst 2, 1) := by decide +kernel
theorem dX9_passes_25 : decode cX9_passes 25 = .ok (.invokevirtual 129, 3) := by decide +kernel
theorem dX9_passes_28 : decode cX9_passes 28 = .ok (.iload_n 2, 1) := by decide +kernel
theorem dX9_passes_29 : decode cX9_passes 29 = .ok (.iconst (-1), 1) := by decide +kernel
theorem dX9_passes_30 : decode cX9_passes 30 = .ok (.ixor, 1) := by decide +kernel
theorem dX9_passes_31 : decode cX9_passes 31 = .ok (.iand, 1) := by decide +kernel
theorem dX9_passes_32 : decode cX9_passes 32 = .ok (.ireturn, 1) := by decide +kernel
theorem dX9_barPass_0 : decode cX9_barPass 0 = .ok (.iload_n 1, 1) := by decide +kernel
theorem dX9_barPass_1 : decode cX9_barPass 1 = .ok (.iconst 1, 1) := by decide +kernel
theorem dX9_barPass_2 : decode cX9_barPass 2 = .ok (.bipush 20, 2) := by decide +kernel
theorem dX9_barPass_4 : decode cX9_barPass 4 = .ok (.invokestatic 36, 3) := by decide +kernel
theorem dX9_barPass_7 : decode cX9_barPass 7 = .ok (.ifCond .ne 8, 3) := by decide +kernel
theorem dX9_barPass_10 : decode cX9_barPass 10 = .ok (.bipush (-2), 2) := by decide +kernel
theorem dX9_barPass_12 : decode cX9_barPass 12 = .ok (.goto 25, 3) := by decide +kernel
theorem dX9_barPass_15 : decode cX9_barPass 15 = .ok (.aload_n 0, 1) := by decide +kernel
theorem dX9_barPass_16 : decode cX9_barPass 16 = .ok (.getfield 7, 3) := by decide +kernel
theorem dX9_barPass_19 : decode cX9_barPass 19 = .ok (.sipush 181, 3) := by decide +kernel
theorem dX9_barPass_22 : decode cX9_barPass 22 = .ok (.iaload, 1) := by decide +kernel
theorem dX9_barPass_23 : decode cX9_barPass 23 = .ok (.iload_n 1, 1) := by decide +kernel
theorem dX9_barPass_24 : decode cX9_barPass 24 = .ok (.iadd, 1) := by decide +kernel
theorem dX9_barPass_25 : decode cX9_barPass 25 = .ok (.sipush 9999, 3) := by decide +kernel
theorem dX9_barPass_28 : decode cX9_barPass 28 = .ok (.if_icmp .le 8, 3) := by decide +kernel
theorem dX9_barPass_31 : decode cX9_barPass 31 = .ok (.bipush (-3), 2) := by decide +kernel
theorem dX9_barPass_33 : decode cX9_barPass 33 = .ok (.goto 4, 3) := by decide +kernel
theorem dX9_barPass_36 : decode cX9_barPass 36 = .ok (.iconst 0, 1) := by decide +kernel
theorem dX9_barPass_37 : decode cX9_barPass 37 = .ok (.ireturn, 1) := by decide +kernel
theorem dX9_pass_0 : decode cX9_pass 0 = .ok (.aload_n 0, 1) := by decide +kernel
theorem dX9_pass_1 : decode cX9_pass 1 = .ok (.iload_n 1, 1) := by decide +kernel
theorem dX9_pass_2 : decode cX9_pass 2 = .ok (.invokevirtual 135, 3) := by decide +kernel
theorem dX9_pass_5 : decode cX9_pass 5 = .ok (.istore_n 2, 1) := by decide +kernel
theorem dX9_pass_6 : decode cX9_pass 6 = .ok (.iload_n 2, 1) := by decide +kernel
theorem dX9_pass_7 : decode cX9_pass 7 = .ok (.ifCond .ge 5, 3) := by decide +kernel
theorem dX9_pass_10 : decode cX9_pass 10 = .ok (.iload_n 2, 1) := by decide +kernel
theorem dX9_pass_11 : decode cX9_pass 11 = .ok (.ireturn, 1) := by decide +kernel
theorem dX9_pass_12 : decode cX9_pass 12 = .ok (.aload_n 0, 1) := by decide +kernel
theorem dX9_pass_13 : decode cX9_pass 13 = .ok (.invokevirtual 87, 3) := by decide +kernel
theorem dX9_pass_16 : decode cX9_pass 16 = .ok (.aload_n 0, 1) := by decide +kernel
theorem dX9_pass_17 : decode cX9_pass 17 = .ok (.iload_n 1, 1) := by decide +kernel
theorem dX9_pass_18 : decode cX9_pass 18 = .ok (.invokevirtual 138, 3) := by decide +kernel
theorem dX9_pass_21 : decode cX9_pass 21 = .ok (.invokestatic 141, 3) := by decide +kernel
theorem dX9_pass_24 : decode cX9_pass 24 = .ok (.ireturn, 1) := by decide +kernel
theorem dX9_wage_0 : decode cX9_wage 0 = .ok (.iload_n 1, 1) := by decide +kernel
theorem dX9_wage_1 : decode cX9_wage 1 = .ok (.iconst 0, 1) := by decide +kernel
theorem dX9_wage_2 : decode cX9_wage 2 = .ok (.bipush 9, 2) := by decide +kernel
theorem dX9_wage_4 : decode cX9_wage 4 = .ok (.invokestatic 36, 3) := by decide +kernel
theorem dX9_wage_7 : decode cX9_wage 7 = .ok (.ifCond .ne 6, 3) := by decide +kernel
theorem dX9_wage_10 : decode cX9_wage 10 = .ok (.bipush (-2), 2) := by decide +kernel
theorem dX9_wage_12 : decode cX9_wage 12 = .ok (.ireturn, 1) := by decide +kernel
theorem dX9_wage_13 : decode cX9_wage 13 = .ok (.aload_n 0, 1) := by decide +kernel
theorem dX9_wage_14 : decode cX9_wage 14 = .ok (.getfield 7, 3) := by decide +kernel
theorem dX9_wage_17 : decode cX9_wage 17 = .ok (.sipush 182, 3) := by decide +kernel
theorem dX9_wage_20 : decode cX9_wage 20 = .ok (.iaload, 1) := by decide +kernel
theorem dX9_wage_21 : decode cX9_wage 21 = .ok (.iload_n 1, 1) := by decide +kernel
theorem dX9_wage_22 : decode cX9_wage 22 = .ok (.if_icmp .ne 6, 3) := by decide +kernel
theorem dX9_wage_25 : decode cX9_wage 25 = .ok (.bipush (-5), 2) := by decide +kernel
theorem dX9_wage_27 : decode cX9_wage 27 = .ok (.ireturn, 1) := by decide +kernel
theorem dX9_wage_28 : decode cX9_wage 28 = .ok (.aload_n 0, 1) := by decide +kernel
theorem dX9_wage_29 : decode cX9_wage 29 = .ok (.invokevirtual 87, 3) := by decide +kernel
theorem dX9_wage_32 : decode cX9_wage 32 = .ok (.aload_n 0, 1) := by decide +kernel
theorem dX9_wage_33 : decode cX9_wage 33 = .ok (.getfield 7, 3) := by decide +kernel
theorem dX9_wage_36 : decode cX9_wage 36 = .ok (.sipush 182, 3) := by decide +kernel
theorem dX9_wage_39 : decode cX9_wage 39 = .ok (.iaload, 1) := by decide +kernel
theorem dX9_wage_40 : decode cX9_wage 40 = .ok (.istore_n 2, 1) := by decide +kernel
end
section
theorem dX9_wage_41 : decode cX9_wage 41 = .ok (.aload_n 0, 1) := by decide +kernel
theorem dX9_wage_42 : decode cX9_wage 42 = .ok (.getfield 7, 3) := by decide +kernel
theorem dX9_wage_45 : decode cX9_wage 45 = .ok (.sipush 182, 3) := by decide +kernel
theorem dX9_wage_48 : decode cX9_wage 48 = .ok (.iload_n 1, 1) := by decide +kernel
theorem dX9_wage_49 : decode cX9_wage 49 = .ok (.iastore, 1) := by decide +kernel
theorem dX9_wage_50 : decode cX9_wage 50 = .ok (.iload_n 2, 1) := by decide +kernel
theorem dX9_wage_51 : decode cX9_wage 51 = .ok (.ireturn, 1) := by decide +kernel
theorem dX9_canLay_0 : decode cX9_canLay 0 = .ok (.iload_n 1, 1) := by decide +kernel
theorem dX9_canLay_1 : decode cX9_canLay 1 = .ok (.iload_n 2, 1) := by decide +kernel
theorem dX9_canLay_2 : decode cX9_canLay 2 = .ok (.if_icmp .eq 35, 3) := by decide +kernel
theorem dX9_canLay_5 : decode cX9_canLay 5 = .ok (.aload_n 0, 1) := by decide +kernel
theorem dX9_canLay_6 : decode cX9_canLay 6 = .ok (.getfield 7, 3) := by decide +kernel
theorem dX9_canLay_9 : decode cX9_canLay 9 = .ok (.iload_n 1, 1) := by decide +kernel
theorem dX9_canLay_10 : decode cX9_canLay 10 = .ok (.iconst 2, 1) := by decide +kernel
theorem dX9_canLay_11 : decode cX9_canLay 11 = .ok (.invokestatic 33, 3) := by decide +kernel
theorem dX9_canLay_14 : decode cX9_canLay 14 = .ok (.iaload, 1) := by decide +kernel
theorem dX9_canLay_15 : decode cX9_canLay 15 = .ok (.ifCond .le 22, 3) := by decide +kernel
theorem dX9_canLay_18 : decode cX9_canLay 18 = .ok (.aload_n 0, 1) := by decide +kernel
theorem dX9_canLay_19 : decode cX9_canLay 19 = .ok (.getfield 7, 3) := by decide +kernel
theorem dX9_canLay_22 : decode cX9_canLay 22 = .ok (.iload_n 2, 1) := by decide +kernel
theorem dX9_canLay_23 : decode cX9_canLay 23 = .ok (.iconst 4, 1) := by decide +kernel
theorem dX9_canLay_24 : decode cX9_canLay 24 = .ok (.invokestatic 29, 3) := by decide +kernel
theorem dX9_canLay_27 : decode cX9_canLay 27 = .ok (.iaload, 1) := by decide +kernel
theorem dX9_canLay_28 : decode cX9_canLay 28 = .ok (.bipush 9, 2) := by decide +kernel
theorem dX9_canLay_30 : decode cX9_canLay 30 = .ok (.if_icmp .ge 7, 3) := by decide +kernel
theorem dX9_canLay_33 : decode cX9_canLay 33 = .ok (.iconst 1, 1) := by decide +kernel
theorem dX9_canLay_34 : decode cX9_canLay 34 = .ok (.goto 4, 3) := by decide +kernel
theorem dX9_canLay_37 : decode cX9_canLay 37 = .ok (.iconst 0, 1) := by decide +kernel
theorem dX9_canLay_38 : decode cX9_canLay 38 = .ok (.ireturn, 1) := by decide +kernel
theorem dX9_lays_0 : decode cX9_lays 0 = .ok (.aload_n 0, 1) := by decide +kernel
theorem dX9_lays_1 : decode cX9_lays 1 = .ok (.getfield 7, 3) := by decide +kernel
theorem dX9_lays_4 : decode cX9_lays 4 = .ok (.iload_n 2, 1) := by decide +kernel
theorem dX9_lays_5 : decode cX9_lays 5 = .ok (.iconst 4, 1) := by decide +kernel
theorem dX9_lays_6 : decode cX9_lays 6 = .ok (.invokestatic 29, 3) := by decide +kernel
theorem dX9_lays_9 : decode cX9_lays 9 = .ok (.iaload, 1) := by decide +kernel
theorem dX9_lays_10 : decode cX9_lays 10 = .ok (.iconst 3, 1) := by decide +kernel
theorem dX9_lays_11 : decode cX9_lays 11 = .ok (.iadd, 1) := by decide +kernel
theorem dX9_lays_12 : decode cX9_lays 12 = .ok (.istore_n 3, 1) := by decide +kernel
theorem dX9_lays_13 : decode cX9_lays 13 = .ok (.aload_n 0, 1) := by decide +kernel
theorem dX9_lays_14 : decode cX9_lays 14 = .ok (.getfield 7, 3) := by decide +kernel
theorem dX9_lays_17 : decode cX9_lays 17 = .ok (.iload_n 2, 1) := by decide +kernel
theorem dX9_lays_18 : decode cX9_lays 18 = .ok (.iconst 4, 1) := by decide +kernel
theorem dX9_lays_19 : decode cX9_lays 19 = .ok (.invokestatic 29, 3) := by decide +kernel
theorem dX9_lays_22 : decode cX9_lays 22 = .ok (.iload_n 3, 1) := by decide +kernel
theorem dX9_lays_23 : decode cX9_lays 23 = .ok (.bipush 9, 2) := by decide +kernel
theorem dX9_lays_25 : decode cX9_lays 25 = .ok (.if_icmp .le 8, 3) := by decide +kernel
theorem dX9_lays_28 : decode cX9_lays 28 = .ok (.bipush 9, 2) := by decide +kernel
theorem dX9_lays_30 : decode cX9_lays 30 = .ok (.goto 4, 3) := by decide +kernel
theorem dX9_lays_33 : decode cX9_lays 33 = .ok (.iload_n 3, 1) := by decide +kernel
theorem dX9_lays_34 : decode cX9_lays 34 = .ok (.iastore, 1) := by decide +kernel
theorem dX9_lays_35 : decode cX9_lays 35 = .ok (.aload_n 0, 1) := by decide +kernel
theorem dX9_lays_36 : decode cX9_lays 36 = .ok (.getfield 7, 3) := by decide +kernel
theorem dX9_lays_39 : decode cX9_lays 39 = .ok (.iload_n 1, 1) := by decide +kernel
theorem dX9_lays_40 : decode cX9_lays 40 = .ok (.iconst 2, 1) := by decide +kernel
theorem dX9_lays_41 : decode cX9_lays 41 = .ok (.invokestatic 33, 3) := by decide +kernel
theorem dX9_lays_44 : decode cX9_lays 44 = .ok (.dup2, 1) := by decide +kernel
theorem dX9_lays_45 : decode cX9_lays 45 = .ok (.iaload, 1) := by decide +kernel
theorem dX9_lays_46 : decode cX9_lays 46 = .ok (.iconst 1, 1) := by decide +kernel
theorem dX9_lays_47 : decode cX9_lays 47 = .ok (.isub, 1) := by decide +kernel
theorem dX9_lays_48 : decode cX9_lays 48 = .ok (.iastore, 1) := by decide +kernel
theorem dX9_lays_49 : decode cX9_lays 49 = .ok (.return_, 1) := by decide +kernel
theorem dX9_card_0 : decode cX9_card 0 = .ok (.iload_n 1, 1) := by decide +kernel
theorem dX9_card_1 : decode cX9_card 1 = .ok (.invokestatic 94, 3) := by decide +kernel
theorem dX9_card_4 : decode cX9_card 4 = .ok (.ifCond .eq 10, 3) := by decide +kernel
theorem dX9_card_7 : decode cX9_card 7 = .ok (.iload_n 2, 1) := by decide +kernel
theorem dX9_card_8 : decode cX9_card 8 = .ok (.invokestatic 94, 3) := by decide +kernel
theorem dX9_card_11 : decode cX9_card 11 = .ok (.ifCond .ne 5, 3) := by decide +kernel
theorem dX9_card_14 : decode cX9_card 14 = .ok (.iconst (-1), 1) := by decide +kernel
theorem dX9_card_15 : decode cX9_card 15 = .ok (.ireturn, 1) := by decide +kernel
theorem dX9_card_16 : decode cX9_card 16 = .ok (.aload_n 0, 1) := by decide +kernel
theorem dX9_card_17 : decode cX9_card 17 = .ok (.iload_n 1, 1) := by decide +kernel
theorem dX9_card_18 : decode cX9_card 18 = .ok (.iload_n 2, 1) := by decide +kernel
theorem dX9_card_19 : decode cX9_card 19 = .ok (.invokevirtual 144, 3) := by decide +kernel
theorem dX9_card_22 : decode cX9_card 22 = .ok (.ifCond .ne 6, 3) := by decide +kernel
theorem dX9_card_25 : decode cX9_card 25 = .ok (.bipush (-4), 2) := by decide +kernel
theorem dX9_card_27 : decode cX9_card 27 = .ok (.ireturn, 1) := by decide +kernel
theorem dX9_card_28 : decode cX9_card 28 = .ok (.aload_n 0, 1) := by decide +kernel
theorem dX9_card_29 : decode cX9_card 29 = .ok (.invokevirtual 87, 3) := by decide +kernel
theorem dX9_card_32 : decode cX9_card 32 = .ok (.aload_n 0, 1) := by decide +kernel
theorem dX9_card_33 : decode cX9_card 33 = .ok (.iload_n 1, 1) := by decide +kernel
theorem dX9_card_34 : decode cX9_card 34 = .ok (.iload_n 2, 1) := by decide +kernel
theorem dX9_card_35 : decode cX9_card 35 = .ok (.invokevirtual 147, 3) := by decide +kernel
theorem dX9_card_38 : decode cX9_card 38 = .ok (.aload_n 0, 1) := by decide +kernel
theorem dX9_card_39 : decode cX9_card 39 = .ok (.getfield 7, 3) := by decide +kernel
theorem dX9_card_42 : decode cX9_card 42 = .ok (.iload_n 2, 1) := by decide +kernel
theorem dX9_card_43 : decode cX9_card 43 = .ok (.iconst 4, 1) := by decide +kernel
theorem dX9_card_44 : decode cX9_card 44 = .ok (.invokestatic 29, 3) := by decide +kernel
theorem dX9_card_47 : decode cX9_card 47 = .ok (.iaload, 1) := by decide +kernel
theorem dX9_card_48 : decode cX9_card 48 = .ok (.ireturn, 1) := by decide +kernel
theorem dX9_type_0 : decode cX9_type 0 = .ok (.aload_n 0, 1) := by decide +kernel
theorem dX9_type_1 : decode cX9_type 1 = .ok (.getfield 151, 3) := by decide +kernel
theorem dX9_type_4 : decode cX9_type 4 = .ok (.bipush 60, 2) := by decide +kernel
theorem dX9_type_6 : decode cX9_type 6 = .ok (.if_icmp .ne 6, 3) := by decide +kernel
theorem dX9_type_9 : decode cX9_type 9 = .ok (.bipush (-3), 2) := by decide +kernel
theorem dX9_type_11 : decode cX9_type 11 = .ok (.ireturn, 1) := by decide +kernel
theorem dX9_type_12 : decode cX9_type 12 = .ok (.aload_n 0, 1) := by decide +kernel
theorem dX9_type_13 : decode cX9_type 13 = .ok (.getfield 22, 3) := by decide +kernel
theorem dX9_type_16 : decode cX9_type 16 = .ok (.aload_n 0, 1) := by decide +kernel
theorem dX9_type_17 : decode cX9_type 17 = .ok (.getfield 151, 3) := by decide +kernel
theorem dX9_type_20 : decode cX9_type 20 = .ok (.iload_n 1, 1) := by decide +kernel
theorem dX9_type_21 : decode cX9_type 21 = .ok (.castore, 1) := by decide +kernel
theorem dX9_type_22 : decode cX9_type 22 = .ok (.aload_n 0, 1) := by decide +kernel
theorem dX9_type_23 : decode cX9_type 23 = .ok (.dup, 1) := by decide +kernel
theorem dX9_type_24 : decode cX9_type 24 = .ok (.getfield 151, 3) := by decide +kernel
theorem dX9_type_27 : decode cX9_type 27 = .ok (.iconst 1, 1) := by decide +kernel
theorem dX9_type_28 : decode cX9_type 28 = .ok (.iadd, 1) := by decide +kernel
theorem dX9_type_29 : decode cX9_type 29 = .ok (.putfield 151, 3) := by decide +kernel
theorem dX9_type_32 : decode cX9_type 32 = .ok (.aload_n 0, 1) := by decide +kernel
theorem dX9_type_33 : decode cX9_type 33 = .ok (.getfield 151, 3) := by decide +kernel
theorem dX9_type_36 : decode cX9_type 36 = .ok (.ireturn, 1) := by decide +kernel
theorem dX9_clearText_0 : decode cX9_clearText 0 = .ok (.aload_n 0, 1) := by decide +kernel
theorem dX9_clearText_1 : decode cX9_clearText 1 = .ok (.getfield 151, 3) := by decide +kernel
theorem dX9_clearText_4 : decode cX9_clearText 4 = .ok (.istore_n 1, 1) := by decide +kernel
theorem dX9_clearText_5 : decode cX9_clearText 5 = .ok (.aload_n 0, 1) := by decide +kernel
theorem dX9_clearText_6 : decode cX9_clearText 6 = .ok (.iconst 0, 1) := by decide +kernel
theorem dX9_clearText_7 : decode cX9_clearText 7 = .ok (.putfield 151, 3) := by decide +kernel
theorem dX9_clearText_10 : decode cX9_clearText 10 = .ok (.iload_n 1, 1) := by decide +kernel
theorem dX9_clearText_11 : decode cX9_clearText 11 = .ok (.ireturn, 1) := by decide +kernel
theorem dX9_next_0 : decode cX9_next 0 = .ok (.aload_n 0, 1) := by decide +kernel
theorem dX9_next_1 : decode cX9_next 1 = .ok (.getfield 154, 3) := by decide +kernel
theorem dX9_next_4 : decode cX9_next 4 = .ok (.aload_n 0, 1) := by decide +kernel
theorem dX9_next_5 : decode cX9_next 5 = .ok (.getfield 151, 3) := by decide +kernel
theorem dX9_next_8 : decode cX9_next 8 = .ok (.if_icmp .ge 15, 3) := by decide +kernel
theorem dX9_next_11 : decode cX9_next 11 = .ok (.aload_n 0, 1) := by decide +kernel
theorem dX9_next_12 : decode cX9_next 12 = .ok (.getfield 22, 3) := by decide +kernel
theorem dX9_next_15 : decode cX9_next 15 = .ok (.aload_n 0, 1) := by decide +kernel
theorem dX9_next_16 : decode cX9_next 16 = .ok (.getfield 154, 3) := by decide +kernel
theorem dX9_next_19 : decode cX9_next 19 = .ok (.caload, 1) := by decide +kernel
theorem dX9_next_20 : decode cX9_next 20 = .ok (.goto 4, 3) := by decide +kernel
theorem dX9_next_23 : decode cX9_next 23 = .ok (.iconst (-1), 1) := by decide +kernel
theorem dX9_next_24 : decode cX9_next 24 = .ok (.ireturn, 1) := by decide +kernel
theorem dX9_sign_0 : decode cX9_sign 0 = .ok (.aload_n 0, 1) := by decide +kernel
theorem dX9_sign_1 : decode cX9_sign 1 = .ok (.aload_n 0, 1) := by decide +kernel
theorem dX9_sign_2 : decode cX9_sign 2 = .ok (.getfield 157, 3) := by decide +kernel
theorem dX9_sign_5 : decode cX9_sign 5 = .ok (.ifCond .ne 11, 3) := by decide +kernel
theorem dX9_sign_8 : decode cX9_sign 8 = .ok (.aload_n 0, 1) := by decide +kernel
theorem dX9_sign_9 : decode cX9_sign 9 = .ok (.invokevirtual 161, 3) := by decide +kernel
theorem dX9_sign_12 : decode cX9_sign 12 = .ok (.iload_n 1, 1) := by decide +kernel
theorem dX9_sign_13 : decode cX9_sign 13 = .ok (.if_icmp .eq 7, 3) := by decide +kernel
theorem dX9_sign_16 : decode cX9_sign 16 = .ok (.iconst 1, 1) := by decide +kernel
theorem dX9_sign_17 : decode cX9_sign 17 = .ok (.goto 4, 3) := by decide +kernel
theorem dX9_sign_20 : decode cX9_sign 20 = .ok (.iconst 0, 1) := by decide +kernel
theorem dX9_sign_21 : decode cX9_sign 21 = .ok (.putfield 157, 3) := by decide +kernel
theorem dX9_sign_24 : decode cX9_sign 24 = .ok (.aload_n 0, 1) := by decide +kernel
theorem dX9_sign_25 : decode cX9_sign 25 = .ok (.dup, 1) := by decide +kernel
theorem dX9_sign_26 : decode cX9_sign 26 = .ok (.getfield 154, 3) := by decide +kernel
theorem dX9_sign_29 : decode cX9_sign 29 = .ok (.aload_n 0, 1) := by decide +kernel
theorem dX9_sign_30 : decode cX9_sign 30 = .ok (.getfield 157, 3) := by decide +kernel
theorem dX9_sign_33 : decode cX9_sign 33 = .ok (.ifCond .eq 7, 3) := by decide +kernel
theorem dX9_sign_36 : decode cX9_sign 36 = .ok (.iconst 0, 1) := by decide +kernel
theorem dX9_sign_37 : decode cX9_sign 37 = .ok (.goto 4, 3) := by decide +kernel
theorem dX9_sign_40 : decode cX9_sign 40 = .ok (.iconst 1, 1) := by decide +kernel
theorem dX9_sign_41 : decode cX9_sign 41 = .ok (.iadd, 1) := by decide +kernel
theorem dX9_sign_42 : decode cX9_sign 42 = .ok (.putfield 154, 3) := by decide +kernel
theorem dX9_sign_45 : decode cX9_sign 45 = .ok (.return_, 1) := by decide +kernel
theorem dX9_digit_0 : decode cX9_digit 0 = .ok (.aload_n 0, 1) := by decide +kernel
theorem dX9_digit_1 : decode cX9_digit 1 = .ok (.invokevirtual 161, 3) := by decide +kernel
theorem dX9_digit_4 : decode cX9_digit 4 = .ok (.bipush 48, 2) := by decide +kernel
theorem dX9_digit_6 : decode cX9_digit 6 = .ok (.isub, 1) := by decide +kernel
theorem dX9_digit_7 : decode cX9_digit 7 = .ok (.istore_n 3, 1) := by decide +kernel
theorem dX9_digit_8 : decode cX9_digit 8 = .ok (.aload_n 0, 1) := by decide +kernel
theorem dX9_digit_9 : decode cX9_digit 9 = .ok (.aload_n 0, 1) := by decide +kernel
theorem dX9_digit_10 : decode cX9_digit 10 = .ok (.getfield 157, 3) := by decide +kernel
theorem dX9_digit_13 : decode cX9_digit 13 = .ok (.ifCond .ne 12, 3) := by decide +kernel
theorem dX9_digit_16 : decode cX9_digit 16 = .ok (.iload_n 3, 1) := by decide +kernel
theorem dX9_digit_17 : decode cX9_digit 17 = .ok (.iload_n 1, 1) := by decide +kernel
theorem dX9_digit_18 : decode cX9_digit 18 = .ok (.iload_n 2, 1) := by decide +kernel
theorem dX9_digit_19 : decode cX9_digit 19 = .ok (.invokestatic 36, 3) := by decide +kernel
theorem dX9_digit_22 : decode cX9_digit 22 = .ok (.ifCond .ne 7, 3) := by decide +kernel
theorem dX9_digit_25 : decode cX9_digit 25 = .ok (.iconst 1, 1) := by decide +kernel
theorem dX9_digit_26 : decode cX9_digit 26 = .ok (.goto 4, 3) := by decide +kernel
theorem dX9_digit_29 : decode cX9_digit 29 = .ok (.iconst 0, 1) := by decide +kernel
theorem dX9_digit_30 : decode cX9_digit 30 = .ok (.putfield 157, 3) := by decide +kernel
theorem dX9_digit_33 : decode cX9_digit 33 = .ok (.aload_n 0, 1) := by decide +kernel
theorem dX9_digit_34 : decode cX9_digit 34 = .ok (.dup, 1) := by decide +kernel
theorem dX9_digit_35 : decode cX9_digit 35 = .ok (.getfield 154, 3) := by decide +kernel
theorem dX9_digit_38 : decode cX9_digit 38 = .ok (.aload_n 0, 1) := by decide +kernel
theorem dX9_digit_39 : decode cX9_digit 39 = .ok (.getfield 157, 3) := by decide +kernel
theorem dX9_digit_42 : decode cX9_digit 42 = .ok (.ifCond .eq 7, 3) := by decide +kernel
theorem dX9_digit_45 : decode cX9_digit 45 = .ok (.iconst 0, 1) := by decide +kernel
theorem dX9_digit_46 : decode cX9_digit 46 = .ok (.goto 4, 3) := by decide +kernel
theorem dX9_digit_49 : decode cX9_digit 49 = .ok (.iconst 1, 1) := by decide +kernel
theorem dX9_digit_50 : decode cX9_digit 50 = .ok (.iadd, 1) := by decide +kernel
theorem dX9_digit_51 : decode cX9_digit 51 = .ok (.putfield 154, 3) := by decide +kernel
theorem dX9_digit_54 : decode cX9_digit 54 = .ok (.iload_n 3, 1) := by decide +kernel
theorem dX9_digit_55 : decode cX9_digit 55 = .ok (.ireturn, 1) := by decide +kernel
theorem dX9_cell_0 : decode cX9_cell 0 = .ok (.aload_n 0, 1) := by decide +kernel
theorem dX9_cell_1 : decode cX9_cell 1 = .ok (.iconst 0, 1) := by decide +kernel
theorem dX9_cell_2 : decode cX9_cell 2 = .ok (.bipush 9, 2) := by decide +kernel
theorem dX9_cell_4 : decode cX9_cell 4 = .ok (.invokevirtual 164, 3) := by decide +kernel
theorem dX9_cell_7 : decode cX9_cell 7 = .ok (.istore_n 1, 1) := by decide +kernel
theorem dX9_cell_8 : decode cX9_cell 8 = .ok (.aload_n 0, 1) := by decide +kernel
theorem dX9_cell_9 : decode cX9_cell 9 = .ok (.iconst 0, 1) := by decide +kernel
theorem dX9_cell_10 : decode cX9_cell 10 = .ok (.bipush 9, 2) := by decide +kernel
theorem dX9_cell_12 : decode cX9_cell 12 = .ok (.invokevirtual 164, 3) := by decide +kernel
theorem dX9_cell_15 : decode cX9_cell 15 = .ok (.istore_n 2, 1) := by decide +kernel
theorem dX9_cell_16 : decode cX9_cell 16 = .ok (.bipush 10, 2) := by decide +kernel
theorem dX9_cell_18 : decode cX9_cell 18 = .ok (.iload_n 2, 1) := by decide +kernel
theorem dX9_cell_19 : decode cX9_cell 19 = .ok (.imul, 1) := by decide +kernel
theorem dX9_cell_20 : decode cX9_cell 20 = .ok (.iload_n 1, 1) := by decide +kernel
theorem dX9_cell_21 : decode cX9_cell 21 = .ok (.iadd, 1) := by decide +kernel
theorem dX9_cell_22 : decode cX9_cell 22 = .ok (.ireturn, 1) := by decide +kernel
theorem dX9_number_0 : decode cX9_number 0 = .ok (.aload_n 0, 1) := by decide +kernel
theorem dX9_number_1 : decode cX9_number 1 = .ok (.iconst 1, 1) := by decide +kernel
theorem dX9_number_2 : decode cX9_number 2 = .ok (.bipush 9, 2) := by decide +kernel
theorem dX9_number_4 : decode cX9_number 4 = .ok (.invokevirtual 164, 3) := by decide +kernel
theorem dX9_number_7 : decode cX9_number 7 = .ok (.istore_n 2, 1) := by decide +kernel
theorem dX9_number_8 : decode cX9_number 8 = .ok (.bipush 10, 2) := by decide +kernel
theorem dX9_number_10 : decode cX9_number 10 = .ok (.iload_n 2, 1) := by decide +kernel
theorem dX9_number_11 : decode cX9_number 11 = .ok (.imul, 1) := by decide +kernel
theorem dX9_number_12 : decode cX9_number 12 = .ok (.aload_n 0, 1) := by decide +kernel
theorem dX9_number_13 : decode cX9_number 13 = .ok (.invokevirtual 161, 3) := by decide +kernel
theorem dX9_number_16 : decode cX9_number 16 = .ok (.iadd, 1) := by decide +kernel
theorem dX9_number_17 : decode cX9_number 17 = .ok (.bipush 48, 2) := by decide +kernel
theorem dX9_number_19 : decode cX9_number 19 = .ok (.isub, 1) := by decide +kernel
theorem dX9_number_20 : decode cX9_number 20 = .ok (.istore_n 3, 1) := by decide +kernel
theorem dX9_number_21 : decode cX9_number 21 = .ok (.aload_n 0, 1) := by decide +kernel
theorem dX9_number_22 : decode cX9_number 22 = .ok (.getfield 157, 3) := by decide +kernel
theorem dX9_number_25 : decode cX9_number 25 = .ok (.ifCond .ne 34, 3) := by decide +kernel
theorem dX9_number_28 : decode cX9_number 28 = .ok (.aload_n 0, 1) := by decide +kernel
theorem dX9_number_29 : decode cX9_number 29 = .ok (.invokevirtual 161, 3) := by decide +kernel
theorem dX9_number_32 : decode cX9_number 32 = .ok (.bipush 48, 2) := by decide +kernel
theorem dX9_number_34 : decode cX9_number 34 = .ok (.bipush 57, 2) := by decide +kernel
theorem dX9_number_36 : decode cX9_number 36 = .ok (.invokestatic 36, 3) := by decide +kernel
theorem dX9_number_39 : decode cX9_number 39 = .ok (.ifCond .eq 20, 3) := by decide +kernel
theorem dX9_number_42 : decode cX9_number 42 = .ok (.iload_n 3, 1) := by decide +kernel
theorem dX9_number_43 : decode cX9_number 43 = .ok (.iload_n 1, 1) := by decide +kernel
theorem dX9_number_44 : decode cX9_number 44 = .ok (.if_icmp .gt 15, 3) := by decide +kernel
theorem dX9_number_47 : decode cX9_number 47 = .ok (.aload_n 0, 1) := by decide +kernel
theorem dX9_number_48 : decode cX9_number 48 = .ok (.dup, 1) := by decide +kernel
theorem dX9_number_49 : decode cX9_number 49 = .ok (.getfield 154, 3) := by decide +kernel
theorem dX9_number_52 : decode cX9_number 52 = .ok (.iconst 1, 1) := by decide +kernel
theorem dX9_number_53 : decode cX9_number 53 = .ok (.iadd, 1) := by decide +kernel
theorem dX9_number_54 : decode cX9_number 54 = .ok (.putfield 154, 3) := by decide +kernel
theorem dX9_number_57 : decode cX9_number 57 = .ok (.iload_n 3, 1) := by decide +kernel
theorem dX9_number_58 : decode cX9_number 58 = .ok (.ireturn, 1) := by decide +kernel
theorem dX9_number_59 : decode cX9_number 59 = .ok (.iload_n 2, 1) := by decide +kernel
theorem dX9_number_60 : decode cX9_number 60 = .ok (.ireturn, 1) := by decide +kernel
theorem dX9_part_0 : decode cX9_part 0 = .ok (.aload_n 0, 1) := by decide +kernel
theorem dX9_part_1 : decode cX9_part 1 = .ok (.aload_n 0, 1) := by decide +kernel
theorem dX9_part_2 : decode cX9_part 2 = .ok (.getfield 157, 3) := by decide +kernel
theorem dX9_part_5 : decode cX9_part 5 = .ok (.ifCond .eq 7, 3) := by decide +kernel
theorem dX9_part_8 : decode cX9_part 8 = .ok (.iconst (-1), 1) := by decide +kernel
theorem dX9_part_9 : decode cX9_part 9 = .ok (.goto 7, 3) := by decide +kernel
theorem dX9_part_12 : decode cX9_part 12 = .ok (.aload_n 0, 1) := by decide +kernel
theorem dX9_part_13 : decode cX9_part 13 = .ok (.invokevirtual 161, 3) := by decide +kernel
theorem dX9_part_16 : decode cX9_part 16 = .ok (.putfield 167, 3) := by decide +kernel
theorem dX9_part_19 : decode cX9_part 19 = .ok (.aload_n 0, 1) := by decide +kernel
theorem dX9_part_20 : decode cX9_part 20 = .ok (.aload_n 0, 1) := by decide +kernel
theorem dX9_part_21 : decode cX9_part 21 = .ok (.getfield 157, 3) := by decide +kernel
theorem dX9_part_24 : decode cX9_part 24 = .ok (.ifCond .ne 39, 3) := by decide +kernel
theorem dX9_part_27 : decode cX9_part 27 = .ok (.aload_n 0, 1) := by decide +kernel
theorem dX9_part_28 : decode cX9_part 28 = .ok (.getfield 167, 3) := by decide +kernel
theorem dX9_part_31 : decode cX9_part 31 = .ok (.bipush 114, 2) := by decide +kernel
theorem dX9_part_33 : decode cX9_part 33 = .ok (.if_icmp .eq 34, 3) := by decide +kernel
theorem dX9_part_36 : decode cX9_part 36 = .ok (.aload_n 0, 1) := by decide +kernel
theorem dX9_part_37 : decode cX9_part 37 = .ok (.getfield 167, 3) := by decide +kernel
theorem dX9_part_40 : decode cX9_part 40 = .ok (.bipush 115, 2) := by decide +kernel
theorem dX9_part_42 : decode cX9_part 42 = .ok (.if_icmp .eq 25, 3) := by decide +kernel
theorem dX9_part_45 : decode cX9_part 45 = .ok (.aload_n 0, 1) := by decide +kernel
theorem dX9_part_46 : decode cX9_part 46 = .ok (.getfield 167, 3) := by decide +kernel
theorem dX9_part_49 : decode cX9_part 49 = .ok (.bipush 100, 2) := by decide +kernel
theorem dX9_part_51 : decode cX9_part 51 = .ok (.if_icmp .eq 16, 3) := by decide +kernel
theorem dX9_part_54 : decode cX9_part 54 = .ok (.aload_n 0, 1) := by decide +kernel
theorem dX9_part_55 : decode cX9_part 55 = .ok (.getfield 167, 3) := by decide +kernel
theorem dX9_part_58 : decode cX9_part 58 = .ok (.bipush 104, 2) := by decide +kernel
theorem dX9_part_60 : decode cX9_part 60 = .ok (.if_icmp .eq 7, 3) := by decide +kernel
theorem dX9_part_63 : decode cX9_part 63 = .ok (.iconst 1, 1) := by decide +kernel
theorem dX9_part_64 : decode cX9_part 64 = .ok (.goto 4, 3) := by decide +kernel
theorem dX9_part_67 : decode cX9_part 67 = .ok (.iconst 0, 1) := by decide +kernel
theorem dX9_part_68 : decode cX9_part 68 = .ok (.putfield 157, 3) := by decide +kernel
theorem dX9_part_71 : decode cX9_part 71 = .ok (.aload_n 0, 1) := by decide +kernel
theorem dX9_part_72 : decode cX9_part 72 = .ok (.dup, 1) := by decide +kernel
theorem dX9_part_73 : decode cX9_part 73 = .ok (.getfield 154, 3) := by decide +kernel
theorem dX9_part_76 : decode cX9_part 76 = .ok (.aload_n 0, 1) := by decide +kernel
theorem dX9_part_77 : decode cX9_part 77 = .ok (.getfield 157, 3) := by decide +kernel
theorem dX9_part_80 : decode cX9_part 80 = .ok (.ifCond .eq 7, 3) := by decide +kernel
theorem dX9_part_83 : decode cX9_part 83 = .ok (.iconst 0, 1) := by decide +kernel
theorem dX9_part_84 : decode cX9_part 84 = .ok (.goto 4, 3) := by decide +kernel
theorem dX9_part_87 : decode cX9_part 87 = .ok (.iconst 1, 1) := by decide +kernel
theorem dX9_part_88 : decode cX9_part 88 = .ok (.iadd, 1) := by decide +kernel
theorem dX9_part_89 : decode cX9_part 89 = .ok (.putfield 154, 3) := by decide +kernel
theorem dX9_part_92 : decode cX9_part 92 = .ok (.aload_n 0, 1) := by decide +kernel
theorem dX9_part_93 : decode cX9_part 93 = .ok (.getfield 167, 3) := by decide +kernel
theorem dX9_part_96 : decode cX9_part 96 = .ok (.lookupswitch 112 #[(100, 88), (114, 36), (115, 47)], 36) := by decide +kernel
theorem dX9_part_132 : decode cX9_part 132 = .ok (.aload_n 0, 1) := by decide +kernel
theorem dX9_part_133 : decode cX9_part 133 = .ok (.aload_n 0, 1) := by decide +kernel
theorem dX9_part_134 : decode cX9_part 134 = .ok (.invokevirtual 170, 3) := by decide +kernel
theorem dX9_part_137 : decode cX9_part 137 = .ok (.putfield 173, 3) := by decide +kernel
theorem dX9_part_140 : decode cX9_part 140 = .ok (.goto 78, 3) := by decide +kernel
theorem dX9_part_143 : decode cX9_part 143 = .ok (.aload_n 0, 1) := by decide +kernel
theorem dX9_part_144 : decode cX9_part 144 = .ok (.aload_n 0, 1) := by decide +kernel
theorem dX9_part_145 : decode cX9_part 145 = .ok (.bipush 99, 2) := by decide +kernel
theorem dX9_part_147 : decode cX9_part 147 = .ok (.invokevirtual 176, 3) := by decide +kernel
theorem dX9_part_150 : decode cX9_part 150 = .ok (.putfield 173, 3) := by decide +kernel
theorem dX9_part_153 : decode cX9_part 153 = .ok (.aload_n 0, 1) := by decide +kernel
theorem dX9_part_154 : decode cX9_part 154 = .ok (.bipush 58, 2) := by decide +kernel
theorem dX9_part_156 : decode cX9_part 156 = .ok (.invokevirtual 179, 3) := by decide +kernel
theorem dX9_part_159 : decode cX9_part 159 = .ok (.aload_n 0, 1) := by decide +kernel
theorem dX9_part_160 : decode cX9_part 160 = .ok (.aload_n 0, 1) := by decide +kernel
theorem dX9_part_161 : decode cX9_part 161 = .ok (.invokevirtual 170, 3) := by decide +kernel
theorem dX9_part_164 : decode cX9_part 164 = .ok (.putfield 182, 3) := by decide +kernel
theorem dX9_part_167 : decode cX9_part 167 = .ok (.aload_n 0, 1) := by decide +kernel
theorem dX9_part_168 : decode cX9_part 168 = .ok (.bipush 62, 2) := by decide +kernel
theorem dX9_part_170 : decode cX9_part 170 = .ok (.invokevirtual 179, 3) := by decide +kernel
theorem dX9_part_173 : decode cX9_part 173 = .ok (.aload_n 0, 1) := by decide +kernel
theorem dX9_part_174 : decode cX9_part 174 = .ok (.aload_n 0, 1) := by decide +kernel
theorem dX9_part_175 : decode cX9_part 175 = .ok (.invokevirtual 170, 3) := by decide +kernel
theorem dX9_part_178 : decode cX9_part 178 = .ok (.putfield 185, 3) := by decide +kernel
theorem dX9_part_181 : decode cX9_part 181 = .ok (.goto 37, 3) := by decide +kernel
theorem dX9_part_184 : decode cX9_part 184 = .ok (.aload_n 0, 1) := by decide +kernel
theorem dX9_part_185 : decode cX9_part 185 = .ok (.aload_n 0, 1) := by decide +kernel
theorem dX9_part_186 : decode cX9_part 186 = .ok (.iconst 0, 1) := by decide +kernel
theorem dX9_part_187 : decode cX9_part 187 = .ok (.iconst 3, 1) := by decide +kernel
theorem dX9_part_188 : decode cX9_part 188 = .ok (.invokevirtual 164, 3) := by decide +kernel
theorem dX9_part_191 : decode cX9_part 191 = .ok (.putfield 173, 3) := by decide +kernel
theorem dX9_part_194 : decode cX9_part 194 = .ok (.aload_n 0, 1) := by decide +kernel
theorem dX9_part_195 : decode cX9_part 195 = .ok (.aload_n 0, 1) := by decide +kernel
theorem dX9_part_196 : decode cX9_part 196 = .ok (.iconst 0, 1) := by decide +kernel
theorem dX9_part_197 : decode cX9_part 197 = .ok (.bipush 7, 2) := by decide +kernel
theorem dX9_part_199 : decode cX9_part 199 = .ok (.invokevirtual 164, 3) := by decide +kernel
theorem dX9_part_202 : decode cX9_part 202 = .ok (.putfield 182, 3) := by decide +kernel
theorem dX9_part_205 : decode cX9_part 205 = .ok (.goto 13, 3) := by decide +kernel
theorem dX9_part_208 : decode cX9_part 208 = .ok (.aload_n 0, 1) := by decide +kernel
theorem dX9_part_209 : decode cX9_part 209 = .ok (.aload_n 0, 1) := by decide +kernel
theorem dX9_part_210 : decode cX9_part 210 = .ok (.bipush 20, 2) := by decide +kernel
theorem dX9_part_212 : decode cX9_part 212 = .ok (.invokevirtual 176, 3) := by decide +kernel
theorem dX9_part_215 : decode cX9_part 215 = .ok (.putfield 173, 3) := by decide +kernel
theorem dX9_part_218 : decode cX9_part 218 = .ok (.return_, 1) := by decide +kernel
theorem dX9_parts_0 : decode cX9_parts 0 = .ok (.aload_n 0, 1) := by decide +kernel
theorem dX9_parts_1 : decode cX9_parts 1 = .ok (.iconst 0, 1) := by decide +kernel
theorem dX9_parts_2 : decode cX9_parts 2 = .ok (.putfield 154, 3) := by decide +kernel
theorem dX9_parts_5 : decode cX9_parts 5 = .ok (.aload_n 0, 1) := by decide +kernel
theorem dX9_parts_6 : decode cX9_parts 6 = .ok (.iconst 0, 1) := by decide +kernel
theorem dX9_parts_7 : decode cX9_parts 7 = .ok (.putfield 157, 3) := by decide +kernel
theorem dX9_parts_10 : decode cX9_parts 10 = .ok (.iconst 0, 1) := by decide +kernel
theorem dX9_parts_11 : decode cX9_parts 11 = .ok (.istore_n 1, 1) := by decide +kernel
theorem dX9_parts_12 : decode cX9_parts 12 = .ok (.iconst 1, 1) := by decide +kernel
theorem dX9_parts_13 : decode cX9_parts 13 = .ok (.istore_n 2, 1) := by decide +kernel
theorem dX9_parts_14 : decode cX9_parts 14 = .ok (.iload_n 2, 1) := by decide +kernel
theorem dX9_parts_15 : decode cX9_parts 15 = .ok (.ifCond .eq 60, 3) := by decide +kernel
theorem dX9_parts_18 : decode cX9_parts 18 = .ok (.aload_n 0, 1) := by decide +kernel
theorem dX9_parts_19 : decode cX9_parts 19 = .ok (.invokevirtual 188, 3) := by decide +kernel
theorem dX9_parts_22 : decode cX9_parts 22 = .ok (.iinc 1 1, 3) := by decide +kernel
theorem dX9_parts_25 : decode cX9_parts 25 = .ok (.aload_n 0, 1) := by decide +kernel
theorem dX9_parts_26 : decode cX9_parts 26 = .ok (.getfield 157, 3) := by decide +kernel
theorem dX9_parts_29 : decode cX9_parts 29 = .ok (.ifCond .ne 18, 3) := by decide +kernel
theorem dX9_parts_32 : decode cX9_parts 32 = .ok (.aload_n 0, 1) := by decide +kernel
theorem dX9_parts_33 : decode cX9_parts 33 = .ok (.getfield 154, 3) := by decide +kernel
theorem dX9_parts_36 : decode cX9_parts 36 = .ok (.aload_n 0, 1) := by decide +kernel
theorem dX9_parts_37 : decode cX9_parts 37 = .ok (.getfield 151, 3) := by decide +kernel
theorem dX9_parts_40 : decode cX9_parts 40 = .ok (.if_icmp .ge 7, 3) := by decide +kernel
theorem dX9_parts_43 : decode cX9_parts 43 = .ok (.iconst 1, 1) := by decide +kernel
theorem dX9_parts_44 : decode cX9_parts 44 = .ok (.goto 4, 3) := by decide +kernel
theorem dX9_parts_47 : decode cX9_parts 47 = .ok (.iconst 0, 1) := by decide +kernel
theorem dX9_parts_48 : decode cX9_parts 48 = .ok (.istore_n 2, 1) := by decide +kernel
theorem dX9_parts_49 : decode cX9_parts 49 = .ok (.iload_n 2, 1) := by decide +kernel
theorem dX9_parts_50 : decode cX9_parts 50 = .ok (.ifCond .eq (-36), 3) := by decide +kernel
theorem dX9_parts_53 : decode cX9_parts 53 = .ok (.aload_n 0, 1) := by decide +kernel
theorem dX9_parts_54 : decode cX9_parts 54 = .ok (.bipush 59, 2) := by decide +kernel
theorem dX9_parts_56 : decode cX9_parts 56 = .ok (.invokevirtual 179, 3) := by decide +kernel
theorem dX9_parts_59 : decode cX9_parts 59 = .ok (.aload_n 0, 1) := by decide +kernel
theorem dX9_parts_60 : decode cX9_parts 60 = .ok (.getfield 157, 3) := by decide +kernel
theorem dX9_parts_63 : decode cX9_parts 63 = .ok (.ifCond .ne 7, 3) := by decide +kernel
theorem dX9_parts_66 : decode cX9_parts 66 = .ok (.iconst 1, 1) := by decide +kernel
theorem dX9_parts_67 : decode cX9_parts 67 = .ok (.goto 4, 3) := by decide +kernel
theorem dX9_parts_70 : decode cX9_parts 70 = .ok (.iconst 0, 1) := by decide +kernel
theorem dX9_parts_71 : decode cX9_parts 71 = .ok (.istore_n 2, 1) := by decide +kernel
theorem dX9_parts_72 : decode cX9_parts 72 = .ok (.goto (-58), 3) := by decide +kernel
theorem dX9_parts_75 : decode cX9_parts 75 = .ok (.aload_n 0, 1) := by decide +kernel
theorem dX9_parts_76 : decode cX9_parts 76 = .ok (.getfield 157, 3) := by decide +kernel
theorem dX9_parts_79 : decode cX9_parts 79 = .ok (.ifCond .eq 8, 3) := by decide +kernel
theorem dX9_parts_82 : decode cX9_parts 82 = .ok (.bipush (-5), 2) := by decide +kernel
theorem dX9_parts_84 : decode cX9_parts 84 = .ok (.goto 4, 3) := by decide +kernel
theorem dX9_parts_87 : decode cX9_parts 87 = .ok (.iload_n 1, 1) := by decide +kernel
theorem dX9_parts_88 : decode cX9_parts 88 = .ok (.ireturn, 1) := by decide +kernel
theorem dX9_fault_0 : decode cX9_fault 0 = .ok (.aload_n 0, 1) := by decide +kernel
theorem dX9_fault_1 : decode cX9_fault 1 = .ok (.invokevirtual 191, 3) := by decide +kernel
theorem dX9_fault_4 : decode cX9_fault 4 = .ok (.ifCond .ge 10, 3) := by decide +kernel
theorem dX9_fault_7 : decode cX9_fault 7 = .ok (.aload_n 0, 1) := by decide +kernel
theorem dX9_fault_8 : decode cX9_fault 8 = .ok (.getfield 154, 3) := by decide +kernel
theorem dX9_fault_11 : decode cX9_fault 11 = .ok (.goto 5, 3) := by decide +kernel
theorem dX9_fault_14 : decode cX9_fault 14 = .ok (.bipush (-5), 2) := by decide +kernel
theorem dX9_fault_16 : decode cX9_fault 16 = .ok (.ireturn, 1) := by decide +kernel
theorem dX9_does_0 : decode cX9_does 0 = .ok (.aload_n 0, 1) := by decide +kernel
theorem dX9_does_1 : decode cX9_does 1 = .ok (.getfield 167, 3) := by decide +kernel
theorem dX9_does_4 : decode cX9_does 4 = .ok (.bipush 114, 2) := by decide +kernel
theorem dX9_does_6 : decode cX9_does 6 = .ok (.if_icmp .ne 13, 3) := by decide +kernel
theorem dX9_does_9 : decode cX9_does 9 = .ok (.aload_n 0, 1) := by decide +kernel
theorem dX9_does_10 : decode cX9_does 10 = .ok (.getfield 173, 3) := by decide +kernel
theorem dX9_does_13 : decode cX9_does 13 = .ok (.invokestatic 84, 3) := by decide +kernel
theorem dX9_does_16 : decode cX9_does 16 = .ok (.goto 52, 3) := by decide +kernel
theorem dX9_does_19 : decode cX9_does 19 = .ok (.aload_n 0, 1) := by decide +kernel
theorem dX9_does_20 : decode cX9_does 20 = .ok (.getfield 167, 3) := by decide +kernel
theorem dX9_does_23 : decode cX9_does 23 = .ok (.bipush 115, 2) := by decide +kernel
theorem dX9_does_25 : decode cX9_does 25 = .ok (.if_icmp .ne 22, 3) := by decide +kernel
theorem dX9_does_28 : decode cX9_does 28 = .ok (.aload_n 0, 1) := by decide +kernel
theorem dX9_does_29 : decode cX9_does 29 = .ok (.aload_n 0, 1) := by decide +kernel
theorem dX9_does_30 : decode cX9_does 30 = .ok (.getfield 173, 3) := by decide +kernel
theorem dX9_does_33 : decode cX9_does 33 = .ok (.aload_n 0, 1) := by decide +kernel
theorem dX9_does_34 : decode cX9_does 34 = .ok (.getfield 182, 3) := by decide +kernel
theorem dX9_does_37 : decode cX9_does 37 = .ok (.aload_n 0, 1) := by decide +kernel
theorem dX9_does_38 : decode cX9_does 38 = .ok (.getfield 185, 3) := by decide +kernel
theorem dX9_does_41 : decode cX9_does 41 = .ok (.invokevirtual 106, 3) := by decide +kernel
theorem dX9_does_44 : decode cX9_does 44 = .ok (.goto 24, 3) := by decide +kernel
theorem dX9_does_47 : decode cX9_does 47 = .ok (.aload_n 0, 1) := by decide +kernel
theorem dX9_does_48 : decode cX9_does 48 = .ok (.getfield 167, 3) := by decide +kernel
theorem dX9_does_51 : decode cX9_does 51 = .ok (.bipush 104, 2) := by decide +kernel
theorem dX9_does_53 : decode cX9_does 53 = .ok (.if_icmp .ne 14, 3) := by decide +kernel
theorem dX9_does_56 : decode cX9_does 56 = .ok (.aload_n 0, 1) := by decide +kernel
theorem dX9_does_57 : decode cX9_does 57 = .ok (.aload_n 0, 1) := by decide +kernel
theorem dX9_does_58 : decode cX9_does 58 = .ok (.getfield 173, 3) := by decide +kernel
theorem dX9_does_61 : decode cX9_does 61 = .ok (.invokevirtual 135, 3) := by decide +kernel
theorem dX9_does_64 : decode cX9_does 64 = .ok (.goto 4, 3) := by decide +kernel
theorem dX9_does_67 : decode cX9_does 67 = .ok (.iconst 0, 1) := by decide +kernel
theorem dX9_does_68 : decode cX9_does 68 = .ok (.istore_n 1, 1) := by decide +kernel
theorem dX9_does_69 : decode cX9_does 69 = .ok (.iload_n 1, 1) := by decide +kernel
theorem dX9_does_70 : decode cX9_does 70 = .ok (.ifCond .ge 5, 3) := by decide +kernel
theorem dX9_does_73 : decode cX9_does 73 = .ok (.iload_n 1, 1) := by decide +kernel
theorem dX9_does_74 : decode cX9_does 74 = .ok (.ireturn, 1) := by decide +kernel
theorem dX9_does_75 : decode cX9_does 75 = .ok (.aload_n 0, 1) := by decide +kernel
theorem dX9_does_76 : decode cX9_does 76 = .ok (.getfield 167, 3) := by decide +kernel
theorem dX9_does_79 : decode cX9_does 79 = .ok (.lookupswitch 105 #[(100, 80), (114, 33), (115, 60)], 33) := by decide +kernel
theorem dX9_does_112 : decode cX9_does 112 = .ok (.aload_n 0, 1) := by decide +kernel
theorem dX9_does_113 : decode cX9_does 113 = .ok (.getfield 7, 3) := by decide +kernel
theorem dX9_does_116 : decode cX9_does 116 = .ok (.iconst 0, 1) := by decide +kernel
theorem dX9_does_117 : decode cX9_does 117 = .ok (.aload_n 0, 1) := by decide +kernel
theorem dX9_does_118 : decode cX9_does 118 = .ok (.getfield 173, 3) := by decide +kernel
theorem dX9_does_121 : decode cX9_does 121 = .ok (.iadd, 1) := by decide +kernel
theorem dX9_does_122 : decode cX9_does 122 = .ok (.iconst 1, 1) := by decide +kernel
theorem dX9_does_123 : decode cX9_does 123 = .ok (.aload_n 0, 1) := by decide +kernel
theorem dX9_does_124 : decode cX9_does 124 = .ok (.getfield 7, 3) := by decide +kernel
theorem dX9_does_127 : decode cX9_does 127 = .ok (.iconst 0, 1) := by decide +kernel
theorem dX9_does_128 : decode cX9_does 128 = .ok (.aload_n 0, 1) := by decide +kernel
theorem dX9_does_129 : decode cX9_does 129 = .ok (.getfield 173, 3) := by decide +kernel
theorem dX9_does_132 : decode cX9_does 132 = .ok (.iadd, 1) := by decide +kernel
theorem dX9_does_133 : decode cX9_does 133 = .ok (.iaload, 1) := by decide +kernel
theorem dX9_does_134 : decode cX9_does 134 = .ok (.isub, 1) := by decide +kernel
theorem dX9_does_135 : decode cX9_does 135 = .ok (.iastore, 1) := by decide +kernel
theorem dX9_does_136 : decode cX9_does 136 = .ok (.goto 57, 3) := by decide +kernel
theorem dX9_does_139 : decode cX9_does 139 = .ok (.aload_n 0, 1) := by decide +kernel
theorem dX9_does_140 : decode cX9_does 140 = .ok (.aload_n 0, 1) := by decide +kernel
theorem dX9_does_141 : decode cX9_does 141 = .ok (.getfield 173, 3) := by decide +kernel
theorem dX9_does_144 : decode cX9_does 144 = .ok (.aload_n 0, 1) := by decide +kernel
theorem dX9_does_145 : decode cX9_does 145 = .ok (.getfield 182, 3) := by decide +kernel
theorem dX9_does_148 : decode cX9_does 148 = .ok (.aload_n 0, 1) := by decide +kernel
theorem dX9_does_149 : decode cX9_does 149 = .ok (.getfield 185, 3) := by decide +kernel
theorem dX9_does_152 : decode cX9_does 152 = .ok (.invokevirtual 110, 3) := by decide +kernel
theorem dX9_does_155 : decode cX9_does 155 = .ok (.istore_n 2, 1) := by decide +kernel
theorem dX9_does_156 : decode cX9_does 156 = .ok (.goto 37, 3) := by decide +kernel
theorem dX9_does_159 : decode cX9_does 159 = .ok (.aload_n 0, 1) := by decide +kernel
theorem dX9_does_160 : decode cX9_does 160 = .ok (.getfield 7, 3) := by decide +kernel
theorem dX9_does_163 : decode cX9_does 163 = .ok (.aload_n 0, 1) := by decide +kernel
theorem dX9_does_164 : decode cX9_does 164 = .ok (.getfield 173, 3) := by decide +kernel
theorem dX9_does_167 : decode cX9_does 167 = .ok (.iconst 3, 1) := by decide +kernel
theorem dX9_does_168 : decode cX9_does 168 = .ok (.invokestatic 29, 3) := by decide +kernel
theorem dX9_does_171 : decode cX9_does 171 = .ok (.dup2, 1) := by decide +kernel
theorem dX9_does_172 : decode cX9_does 172 = .ok (.iaload, 1) := by decide +kernel
theorem dX9_does_173 : decode cX9_does 173 = .ok (.iconst 1, 1) := by decide +kernel
theorem dX9_does_174 : decode cX9_does 174 = .ok (.aload_n 0, 1) := by decide +kernel
theorem dX9_does_175 : decode cX9_does 175 = .ok (.getfield 182, 3) := by decide +kernel
theorem dX9_does_178 : decode cX9_does 178 = .ok (.ishl, 1) := by decide +kernel
theorem dX9_does_179 : decode cX9_does 179 = .ok (.ixor, 1) := by decide +kernel
theorem dX9_does_180 : decode cX9_does 180 = .ok (.iastore, 1) := by decide +kernel
theorem dX9_does_181 : decode cX9_does 181 = .ok (.goto 12, 3) := by decide +kernel
theorem dX9_does_184 : decode cX9_does 184 = .ok (.aload_n 0, 1) := by decide +kernel
theorem dX9_does_185 : decode cX9_does 185 = .ok (.aload_n 0, 1) := by decide +kernel
theorem dX9_does_186 : decode cX9_does 186 = .ok (.getfield 173, 3) := by decide +kernel
theorem dX9_does_189 : decode cX9_does 189 = .ok (.invokevirtual 138, 3) := by decide +kernel
theorem dX9_does_192 : decode cX9_does 192 = .ok (.istore_n 3, 1) := by decide +kernel
theorem dX9_does_193 : decode cX9_does 193 = .ok (.iconst 0, 1) := by decide +kernel
theorem dX9_does_194 : decode cX9_does 194 = .ok (.ireturn, 1) := by decide +kernel
theorem dX9_doAll_0 : decode cX9_doAll 0 = .ok (.aload_n 0, 1) := by decide +kernel
theorem dX9_doAll_1 : decode cX9_doAll 1 = .ok (.invokevirtual 191, 3) := by decide +kernel
theorem dX9_doAll_4 : decode cX9_doAll 4 = .ok (.istore_n 1, 1) := by decide +kernel
theorem dX9_doAll_5 : decode cX9_doAll 5 = .ok (.iload_n 1, 1) := by decide +kernel
theorem dX9_doAll_6 : decode cX9_doAll 6 = .ok (.ifCond .ge 11, 3) := by decide +kernel
theorem dX9_doAll_9 : decode cX9_doAll 9 = .ok (.bipush (-100), 2) := by decide +kernel
theorem dX9_doAll_11 : decode cX9_doAll 11 = .ok (.aload_n 0, 1) := by decide +kernel
theorem dX9_doAll_12 : decode cX9_doAll 12 = .ok (.getfield 154, 3) := by decide +kernel
theorem dX9_doAll_15 : decode cX9_doAll 15 = .ok (.isub, 1) := by decide +kernel
theorem dX9_doAll_16 : decode cX9_doAll 16 = .ok (.ireturn, 1) := by decide +kernel
theorem dX9_doAll_17 : decode cX9_doAll 17 = .ok (.aload_n 0, 1) := by decide +kernel
theorem dX9_doAll_18 : decode cX9_doAll 18 = .ok (.invokevirtual 194, 3) := by decide +kernel
theorem dX9_doAll_21 : decode cX9_doAll 21 = .ok (.aload_n 0, 1) := by decide +kernel
theorem dX9_doAll_22 : decode cX9_doAll 22 = .ok (.iconst 0, 1) := by decide +kernel
theorem dX9_doAll_23 : decode cX9_doAll 23 = .ok (.putfield 154, 3) := by decide +kernel
theorem dX9_doAll_26 : decode cX9_doAll 26 = .ok (.iconst 0, 1) := by decide +kernel
theorem dX9_doAll_27 : decode cX9_doAll 27 = .ok (.istore_n 2, 1) := by decide +kernel
theorem dX9_doAll_28 : decode cX9_doAll 28 = .ok (.iconst 0, 1) := by decide +kernel
theorem dX9_doAll_29 : decode cX9_doAll 29 = .ok (.istore_n 3, 1) := by decide +kernel
theorem dX9_doAll_30 : decode cX9_doAll 30 = .ok (.iload_n 3, 1) := by decide +kernel
theorem dX9_doAll_31 : decode cX9_doAll 31 = .ok (.iload_n 1, 1) := by decide +kernel
theorem dX9_doAll_32 : decode cX9_doAll 32 = .ok (.if_icmp .ge 32, 3) := by decide +kernel
theorem dX9_doAll_35 : decode cX9_doAll 35 = .ok (.iload_n 2, 1) := by decide +kernel
theorem dX9_doAll_36 : decode cX9_doAll 36 = .ok (.ifCond .ne 28, 3) := by decide +kernel
theorem dX9_doAll_39 : decode cX9_doAll 39 = .ok (.aload_n 0, 1) := by decide +kernel
theorem dX9_doAll_40 : decode cX9_doAll 40 = .ok (.invokevirtual 188, 3) := by decide +kernel
theorem dX9_doAll_43 : decode cX9_doAll 43 = .ok (.aload_n 0, 1) := by decide +kernel
theorem dX9_doAll_44 : decode cX9_doAll 44 = .ok (.dup, 1) := by decide +kernel
theorem dX9_doAll_45 : decode cX9_doAll 45 = .ok (.getfield 154, 3) := by decide +kernel
theorem dX9_doAll_48 : decode cX9_doAll 48 = .ok (.iconst 1, 1) := by decide +kernel
theorem dX9_doAll_49 : decode cX9_doAll 49 = .ok (.iadd, 1) := by decide +kernel
theorem dX9_doAll_50 : decode cX9_doAll 50 = .ok (.putfield 154, 3) := by decide +kernel
theorem dX9_doAll_53 : decode cX9_doAll 53 = .ok (.aload_n 0, 1) := by decide +kernel
theorem dX9_doAll_54 : decode cX9_doAll 54 = .ok (.invokevirtual 197, 3) := by decide +kernel
theorem dX9_doAll_57 : decode cX9_doAll 57 = .ok (.istore_n 2, 1) := by decide +kernel
theorem dX9_doAll_58 : decode cX9_doAll 58 = .ok (.iinc 3 1, 3) := by decide +kernel
theorem dX9_doAll_61 : decode cX9_doAll 61 = .ok (.goto (-31), 3) := by decide +kernel
theorem dX9_doAll_64 : decode cX9_doAll 64 = .ok (.iconst 0, 1) := by decide +kernel
theorem dX9_doAll_65 : decode cX9_doAll 65 = .ok (.istore_n 3, 1) := by decide +kernel
theorem dX9_doAll_66 : decode cX9_doAll 66 = .ok (.iload_n 3, 1) := by decide +kernel
theorem dX9_doAll_67 : decode cX9_doAll 67 = .ok (.sipush 183, 3) := by decide +kernel
theorem dX9_doAll_70 : decode cX9_doAll 70 = .ok (.if_icmp .ge 37, 3) := by decide +kernel
theorem dX9_doAll_73 : decode cX9_doAll 73 = .ok (.aload_n 0, 1) := by decide +kernel
theorem dX9_doAll_74 : decode cX9_doAll 74 = .ok (.getfield 7, 3) := by decide +kernel
theorem dX9_doAll_77 : decode cX9_doAll 77 = .ok (.iload_n 3, 1) := by decide +kernel
theorem dX9_doAll_78 : decode cX9_doAll 78 = .ok (.iaload, 1) := by decide +kernel
theorem dX9_doAll_79 : decode cX9_doAll 79 = .ok (.istore 4, 2) := by decide +kernel
theorem dX9_doAll_81 : decode cX9_doAll 81 = .ok (.aload_n 0, 1) := by decide +kernel
theorem dX9_doAll_82 : decode cX9_doAll 82 = .ok (.getfield 7, 3) := by decide +kernel
theorem dX9_doAll_85 : decode cX9_doAll 85 = .ok (.iload_n 3, 1) := by decide +kernel
theorem dX9_doAll_86 : decode cX9_doAll 86 = .ok (.aload_n 0, 1) := by decide +kernel
theorem dX9_doAll_87 : decode cX9_doAll 87 = .ok (.getfield 13, 3) := by decide +kernel
theorem dX9_doAll_90 : decode cX9_doAll 90 = .ok (.iload_n 3, 1) := by decide +kernel
theorem dX9_doAll_91 : decode cX9_doAll 91 = .ok (.iaload, 1) := by decide +kernel
theorem dX9_doAll_92 : decode cX9_doAll 92 = .ok (.iastore, 1) := by decide +kernel
theorem dX9_doAll_93 : decode cX9_doAll 93 = .ok (.aload_n 0, 1) := by decide +kernel
theorem dX9_doAll_94 : decode cX9_doAll 94 = .ok (.getfield 13, 3) := by decide +kernel
theorem dX9_doAll_97 : decode cX9_doAll 97 = .ok (.iload_n 3, 1) := by decide +kernel
theorem dX9_doAll_98 : decode cX9_doAll 98 = .ok (.iload 4, 2) := by decide +kernel
theorem dX9_doAll_100 : decode cX9_doAll 100 = .ok (.iastore, 1) := by decide +kernel
theorem dX9_doAll_101 : decode cX9_doAll 101 = .ok (.iinc 3 1, 3) := by decide +kernel
theorem dX9_doAll_104 : decode cX9_doAll 104 = .ok (.goto (-38), 3) := by decide +kernel
theorem dX9_doAll_107 : decode cX9_doAll 107 = .ok (.iload_n 2, 1) := by decide +kernel
theorem dX9_doAll_108 : decode cX9_doAll 108 = .ok (.ifCond .ge 5, 3) := by decide +kernel
theorem dX9_doAll_111 : decode cX9_doAll 111 = .ok (.iload_n 2, 1) := by decide +kernel
theorem dX9_doAll_112 : decode cX9_doAll 112 = .ok (.ireturn, 1) := by decide +kernel
theorem dX9_doAll_113 : decode cX9_doAll 113 = .ok (.aload_n 0, 1) := by decide +kernel
theorem dX9_doAll_114 : decode cX9_doAll 114 = .ok (.invokevirtual 87, 3) := by decide +kernel
theorem dX9_doAll_117 : decode cX9_doAll 117 = .ok (.aload_n 0, 1) := by decide +kernel
theorem dX9_doAll_118 : decode cX9_doAll 118 = .ok (.invokevirtual 200, 3) := by decide +kernel
theorem dX9_doAll_121 : decode cX9_doAll 121 = .ok (.iload_n 1, 1) := by decide +kernel
theorem dX9_doAll_122 : decode cX9_doAll 122 = .ok (.ireturn, 1) := by decide +kernel
theorem dX9_undo_0 : decode cX9_undo 0 = .ok (.aload_n 0, 1) := by decide +kernel
theorem dX9_undo_1 : decode cX9_undo 1 = .ok (.getfield 40, 3) := by decide +kernel
theorem dX9_undo_4 : decode cX9_undo 4 = .ok (.ifCond .ne 6, 3) := by decide +kernel
theorem dX9_undo_7 : decode cX9_undo 7 = .ok (.bipush (-5), 2) := by decide +kernel
theorem dX9_undo_9 : decode cX9_undo 9 = .ok (.ireturn, 1) := by decide +kernel
theorem dX9_undo_10 : decode cX9_undo 10 = .ok (.aload_n 0, 1) := by decide +kernel
theorem dX9_undo_11 : decode cX9_undo 11 = .ok (.dup, 1) := by decide +kernel
theorem dX9_undo_12 : decode cX9_undo 12 = .ok (.getfield 40, 3) := by decide +kernel
theorem dX9_undo_15 : decode cX9_undo 15 = .ok (.iconst 1, 1) := by decide +kernel
theorem dX9_undo_16 : decode cX9_undo 16 = .ok (.isub, 1) := by decide +kernel
theorem dX9_undo_17 : decode cX9_undo 17 = .ok (.putfield 40, 3) := by decide +kernel
theorem dX9_undo_20 : decode cX9_undo 20 = .ok (.iconst 0, 1) := by decide +kernel
theorem dX9_undo_21 : decode cX9_undo 21 = .ok (.istore_n 1, 1) := by decide +kernel
theorem dX9_undo_22 : decode cX9_undo 22 = .ok (.iload_n 1, 1) := by decide +kernel
theorem dX9_undo_23 : decode cX9_undo 23 = .ok (.sipush 183, 3) := by decide +kernel
theorem dX9_undo_26 : decode cX9_undo 26 = .ok (.if_icmp .ge 30, 3) := by decide +kernel
theorem dX9_undo_29 : decode cX9_undo 29 = .ok (.aload_n 0, 1) := by decide +kernel
theorem dX9_undo_30 : decode cX9_undo 30 = .ok (.getfield 7, 3) := by decide +kernel
theorem dX9_undo_33 : decode cX9_undo 33 = .ok (.iload_n 1, 1) := by decide +kernel
theorem dX9_undo_34 : decode cX9_undo 34 = .ok (.aload_n 0, 1) := by decide +kernel
theorem dX9_undo_35 : decode cX9_undo 35 = .ok (.getfield 16, 3) := by decide +kernel
theorem dX9_undo_38 : decode cX9_undo 38 = .ok (.sipush 183, 3) := by decide +kernel
theorem dX9_undo_41 : decode cX9_undo 41 = .ok (.aload_n 0, 1) := by decide +kernel
theorem dX9_undo_42 : decode cX9_undo 42 = .ok (.getfield 40, 3) := by decide +kernel
theorem dX9_undo_45 : decode cX9_undo 45 = .ok (.imul, 1) := by decide +kernel
theorem dX9_undo_46 : decode cX9_undo 46 = .ok (.iload_n 1, 1) := by decide +kernel
theorem dX9_undo_47 : decode cX9_undo 47 = .ok (.iadd, 1) := by decide +kernel
theorem dX9_undo_48 : decode cX9_undo 48 = .ok (.iaload, 1) := by decide +kernel
theorem dX9_undo_49 : decode cX9_undo 49 = .ok (.iastore, 1) := by decide +kernel
theorem dX9_undo_50 : decode cX9_undo 50 = .ok (.iinc 1 1, 3) := by decide +kernel
theorem dX9_undo_53 : decode cX9_undo 53 = .ok (.goto (-31), 3) := by decide +kernel
theorem dX9_undo_56 : decode cX9_undo 56 = .ok (.aload_n 0, 1) := by decide +kernel
theorem dX9_undo_57 : decode cX9_undo 57 = .ok (.getfield 40, 3) := by decide +kernel
theorem dX9_undo_60 : decode cX9_undo 60 = .ok (.ireturn, 1) := by decide +kernel
theorem dX9_keep_0 : decode cX9_keep 0 = .ok (.iconst 0, 1) := by decide +kernel
theorem dX9_keep_1 : decode cX9_keep 1 = .ok (.istore_n 1, 1) := by decide +kernel
theorem dX9_keep_2 : decode cX9_keep 2 = .ok (.iload_n 1, 1) := by decide +kernel
theorem dX9_keep_3 : decode cX9_keep 3 = .ok (.sipush 183, 3) := by decide +kernel
theorem dX9_keep_6 : decode cX9_keep 6 = .ok (.if_icmp .ge 21, 3) := by decide +kernel
theorem dX9_keep_9 : decode cX9_keep 9 = .ok (.aload_n 0, 1) := by decide +kernel
theorem dX9_keep_10 : decode cX9_keep 10 = .ok (.getfield 19, 3) := by decide +kernel
theorem dX9_keep_13 : decode cX9_keep 13 = .ok (.iload_n 1, 1) := by decide +kernel
theorem dX9_keep_14 : decode cX9_keep 14 = .ok (.aload_n 0, 1) := by decide +kernel
theorem dX9_keep_15 : decode cX9_keep 15 = .ok (.getfield 7, 3) := by decide +kernel
theorem dX9_keep_18 : decode cX9_keep 18 = .ok (.iload_n 1, 1) := by decide +kernel
theorem dX9_keep_19 : decode cX9_keep 19 = .ok (.iaload, 1) := by decide +kernel
theorem dX9_keep_20 : decode cX9_keep 20 = .ok (.iastore, 1) := by decide +kernel
theorem dX9_keep_21 : decode cX9_keep 21 = .ok (.iinc 1 1, 3) := by decide +kernel
theorem dX9_keep_24 : decode cX9_keep 24 = .ok (.goto (-22), 3) := by decide +kernel
theorem dX9_keep_27 : decode cX9_keep 27 = .ok (.aload_n 0, 1) := by decide +kernel
theorem dX9_keep_28 : decode cX9_keep 28 = .ok (.iconst 1, 1) := by decide +kernel
theorem dX9_keep_29 : decode cX9_keep 29 = .ok (.putfield 203, 3) := by decide +kernel
theorem dX9_keep_32 : decode cX9_keep 32 = .ok (.aload_n 0, 1) := by decide +kernel
theorem dX9_keep_33 : decode cX9_keep 33 = .ok (.getfield 7, 3) := by decide +kernel
theorem dX9_keep_36 : decode cX9_keep 36 = .ok (.sipush 181, 3) := by decide +kernel
theorem dX9_keep_39 : decode cX9_keep 39 = .ok (.iaload, 1) := by decide +kernel
theorem dX9_keep_40 : decode cX9_keep 40 = .ok (.ireturn, 1) := by decide +kernel
theorem dX9_restore_0 : decode cX9_restore 0 = .ok (.aload_n 0, 1) := by decide +kernel
theorem dX9_restore_1 : decode cX9_restore 1 = .ok (.getfield 203, 3) := by decide +kernel
theorem dX9_restore_4 : decode cX9_restore 4 = .ok (.ifCond .ne 6, 3) := by decide +kernel
theorem dX9_restore_7 : decode cX9_restore 7 = .ok (.bipush (-5), 2) := by decide +kernel
theorem dX9_restore_9 : decode cX9_restore 9 = .ok (.ireturn, 1) := by decide +kernel
theorem dX9_restore_10 : decode cX9_restore 10 = .ok (.aload_n 0, 1) := by decide +kernel
theorem dX9_restore_11 : decode cX9_restore 11 = .ok (.invokevirtual 87, 3) := by decide +kernel
theorem dX9_restore_14 : decode cX9_restore 14 = .ok (.iconst 0, 1) := by decide +kernel
theorem dX9_restore_15 : decode cX9_restore 15 = .ok (.istore_n 1, 1) := by decide +kernel
theorem dX9_restore_16 : decode cX9_restore 16 = .ok (.iload_n 1, 1) := by decide +kernel
theorem dX9_restore_17 : decode cX9_restore 17 = .ok (.sipush 183, 3) := by decide +kernel
theorem dX9_restore_20 : decode cX9_restore 20 = .ok (.if_icmp .ge 21, 3) := by decide +kernel
theorem dX9_restore_23 : decode cX9_restore 23 = .ok (.aload_n 0, 1) := by decide +kernel
theorem dX9_restore_24 : decode cX9_restore 24 = .ok (.getfield 7, 3) := by decide +kernel
theorem dX9_restore_27 : decode cX9_restore 27 = .ok (.iload_n 1, 1) := by decide +kernel
theorem dX9_restore_28 : decode cX9_restore 28 = .ok (.aload_n 0, 1) := by decide +kernel
theorem dX9_restore_29 : decode cX9_restore 29 = .ok (.getfield 19, 3) := by decide +kernel
theorem dX9_restore_32 : decode cX9_restore 32 = .ok (.iload_n 1, 1) := by decide +kernel
theorem dX9_restore_33 : decode cX9_restore 33 = .ok (.iaload, 1) := by decide +kernel
theorem dX9_restore_34 : decode cX9_restore 34 = .ok (.iastore, 1) := by decide +kernel
theorem dX9_restore_35 : decode cX9_restore 35 = .ok (.iinc 1 1, 3) := by decide +kernel
theorem dX9_restore_38 : decode cX9_restore 38 = .ok (.goto (-22), 3) := by decide +kernel
theorem dX9_restore_41 : decode cX9_restore 41 = .ok (.aload_n 0, 1) := by decide +kernel
theorem dX9_restore_42 : decode cX9_restore 42 = .ok (.getfield 7, 3) := by decide +kernel
theorem dX9_restore_45 : decode cX9_restore 45 = .ok (.sipush 181, 3) := by decide +kernel
theorem dX9_restore_48 : decode cX9_restore 48 = .ok (.iaload, 1) := by decide +kernel
theorem dX9_restore_49 : decode cX9_restore 49 = .ok (.ireturn, 1) := by decide +kernel
theorem dX9_cellOf_0 : decode cX9_cellOf 0 = .ok (.iload_n 1, 1) := by decide +kernel
theorem dX9_cellOf_1 : decode cX9_cellOf 1 = .ok (.invokestatic 77, 3) := by decide +kernel
theorem dX9_cellOf_4 : decode cX9_cellOf 4 = .ok (.ifCond .ne 5, 3) := by decide +kernel
theorem dX9_cellOf_7 : decode cX9_cellOf 7 = .ok (.iconst (-1), 1) := by decide +kernel
theorem dX9_cellOf_8 : decode cX9_cellOf 8 = .ok (.ireturn, 1) := by decide +kernel
theorem dX9_cellOf_9 : decode cX9_cellOf 9 = .ok (.iload_n 2, 1) := by decide +kernel
theorem dX9_cellOf_10 : decode cX9_cellOf 10 = .ok (.tableswitch 56 0 3 #[30, 39, 45, 51], 30) := by decide +kernel
theorem dX9_cellOf_40 : decode cX9_cellOf 40 = .ok (.aload_n 0, 1) := by decide +kernel
theorem dX9_cellOf_41 : decode cX9_cellOf 41 = .ok (.getfield 7, 3) := by decide +kernel
theorem dX9_cellOf_44 : decode cX9_cellOf 44 = .ok (.iconst 0, 1) := by decide +kernel
theorem dX9_cellOf_45 : decode cX9_cellOf 45 = .ok (.iload_n 1, 1) := by decide +kernel
theorem dX9_cellOf_46 : decode cX9_cellOf 46 = .ok (.iadd, 1) := by decide +kernel
theorem dX9_cellOf_47 : decode cX9_cellOf 47 = .ok (.iaload, 1) := by decide +kernel
theorem dX9_cellOf_48 : decode cX9_cellOf 48 = .ok (.ireturn, 1) := by decide +kernel
theorem dX9_cellOf_49 : decode cX9_cellOf 49 = .ok (.aload_n 0, 1) := by decide +kernel
theorem dX9_cellOf_50 : decode cX9_cellOf 50 = .ok (.iload_n 1, 1) := by decide +kernel
theorem dX9_cellOf_51 : decode cX9_cellOf 51 = .ok (.invokevirtual 103, 3) := by decide +kernel
theorem dX9_cellOf_54 : decode cX9_cellOf 54 = .ok (.ireturn, 1) := by decide +kernel
theorem dX9_cellOf_55 : decode cX9_cellOf 55 = .ok (.aload_n 0, 1) := by decide +kernel
theorem dX9_cellOf_56 : decode cX9_cellOf 56 = .ok (.iload_n 1, 1) := by decide +kernel
theorem dX9_cellOf_57 : decode cX9_cellOf 57 = .ok (.invokevirtual 116, 3) := by decide +kernel
theorem dX9_cellOf_60 : decode cX9_cellOf 60 = .ok (.ireturn, 1) := by decide +kernel
theorem dX9_cellOf_61 : decode cX9_cellOf 61 = .ok (.iload_n 1, 1) := by decide +kernel
theorem dX9_cellOf_62 : decode cX9_cellOf 62 = .ok (.invokestatic 119, 3) := by decide +kernel
theorem dX9_cellOf_65 : decode cX9_cellOf 65 = .ok (.ireturn, 1) := by decide +kernel
theorem dX9_cellOf_66 : decode cX9_cellOf 66 = .ok (.bipush (-2), 2) := by decide +kernel
theorem dX9_cellOf_68 : decode cX9_cellOf 68 = .ok (.ireturn, 1) := by decide +kernel
theorem dX9_litCells_0 : decode cX9_litCells 0 = .ok (.iconst 0, 1) := by decide +kernel
theorem dX9_litCells_1 : decode cX9_litCells 1 = .ok (.istore_n 2, 1) := by decide +kernel
theorem dX9_litCells_2 : decode cX9_litCells 2 = .ok (.iconst 0, 1) := by decide +kernel
theorem dX9_litCells_3 : decode cX9_litCells 3 = .ok (.istore_n 3, 1) := by decide +kernel
theorem dX9_litCells_4 : decode cX9_litCells 4 = .ok (.iload_n 3, 1) := by decide +kernel
theorem dX9_litCells_5 : decode cX9_litCells 5 = .ok (.bipush 100, 2) := by decide +kernel
theorem dX9_litCells_7 : decode cX9_litCells 7 = .ok (.if_icmp .ge 26, 3) := by decide +kernel
theorem dX9_litCells_10 : decode cX9_litCells 10 = .ok (.iload_n 2, 1) := by decide +kernel
theorem dX9_litCells_11 : decode cX9_litCells 11 = .ok (.aload_n 0, 1) := by decide +kernel
theorem dX9_litCells_12 : decode cX9_litCells 12 = .ok (.iload_n 1, 1) := by decide +kernel
theorem dX9_litCells_13 : decode cX9_litCells 13 = .ok (.iload_n 3, 1) := by decide +kernel
theorem dX9_litCells_14 : decode cX9_litCells 14 = .ok (.invokevirtual 74, 3) := by decide +kernel
theorem dX9_litCells_17 : decode cX9_litCells 17 = .ok (.ifCond .eq 7, 3) := by decide +kernel
theorem dX9_litCells_20 : decode cX9_litCells 20 = .ok (.iconst 1, 1) := by decide +kernel
theorem dX9_litCells_21 : decode cX9_litCells 21 = .ok (.goto 4, 3) := by decide +kernel
theorem dX9_litCells_24 : decode cX9_litCells 24 = .ok (.iconst 0, 1) := by decide +kernel
theorem dX9_litCells_25 : decode cX9_litCells 25 = .ok (.iadd, 1) := by decide +kernel
theorem dX9_litCells_26 : decode cX9_litCells 26 = .ok (.istore_n 2, 1) := by decide +kernel
theorem dX9_litCells_27 : decode cX9_litCells 27 = .ok (.iinc 3 1, 3) := by decide +kernel
theorem dX9_litCells_30 : decode cX9_litCells 30 = .ok (.goto (-26), 3) := by decide +kernel
theorem dX9_litCells_33 : decode cX9_litCells 33 = .ok (.iload_n 2, 1) := by decide +kernel
theorem dX9_litCells_34 : decode cX9_litCells 34 = .ok (.ireturn, 1) := by decide +kernel
theorem dX9_lightOf_0 : decode cX9_lightOf 0 = .ok (.iload_n 1, 1) := by decide +kernel
theorem dX9_lightOf_1 : decode cX9_lightOf 1 = .ok (.invokestatic 94, 3) := by decide +kernel
theorem dX9_lightOf_4 : decode cX9_lightOf 4 = .ok (.ifCond .ne 5, 3) := by decide +kernel
theorem dX9_lightOf_7 : decode cX9_lightOf 7 = .ok (.iconst (-1), 1) := by decide +kernel
theorem dX9_lightOf_8 : decode cX9_lightOf 8 = .ok (.ireturn, 1) := by decide +kernel
theorem dX9_lightOf_9 : decode cX9_lightOf 9 = .ok (.iload_n 2, 1) := by decide +kernel
theorem dX9_lightOf_10 : decode cX9_lightOf 10 = .ok (.iconst 0, 1) := by decide +kernel
theorem dX9_lightOf_11 : decode cX9_lightOf 11 = .ok (.bipush 6, 2) := by decide +kernel
theorem dX9_lightOf_13 : decode cX9_lightOf 13 = .ok (.invokestatic 36, 3) := by decide +kernel
theorem dX9_lightOf_16 : decode cX9_lightOf 16 = .ok (.ifCond .ne 8, 3) := by decide +kernel
theorem dX9_lightOf_19 : decode cX9_lightOf 19 = .ok (.bipush (-2), 2) := by decide +kernel
theorem dX9_lightOf_21 : decode cX9_lightOf 21 = .ok (.goto 47, 3) := by decide +kernel
theorem dX9_lightOf_24 : decode cX9_lightOf 24 = .ok (.iload_n 2, 1) := by decide +kernel
theorem dX9_lightOf_25 : decode cX9_lightOf 25 = .ok (.iconst 5, 1) := by decide +kernel
theorem dX9_lightOf_26 : decode cX9_lightOf 26 = .ok (.if_icmp .ge 16, 3) := by decide +kernel
theorem dX9_lightOf_29 : decode cX9_lightOf 29 = .ok (.aload_n 0, 1) := by decide +kernel
theorem dX9_lightOf_30 : decode cX9_lightOf 30 = .ok (.getfield 7, 3) := by decide +kernel
theorem dX9_lightOf_33 : decode cX9_lightOf 33 = .ok (.iload_n 1, 1) := by decide +kernel
theorem dX9_lightOf_34 : decode cX9_lightOf 34 = .ok (.iload_n 2, 1) := by decide +kernel
theorem dX9_lightOf_35 : decode cX9_lightOf 35 = .ok (.invokestatic 29, 3) := by decide +kernel
theorem dX9_lightOf_38 : decode cX9_lightOf 38 = .ok (.iaload, 1) := by decide +kernel
theorem dX9_lightOf_39 : decode cX9_lightOf 39 = .ok (.goto 29, 3) := by decide +kernel
theorem dX9_lightOf_42 : decode cX9_lightOf 42 = .ok (.iload_n 2, 1) := by decide +kernel
theorem dX9_lightOf_43 : decode cX9_lightOf 43 = .ok (.iconst 5, 1) := by decide +kernel
theorem dX9_lightOf_44 : decode cX9_lightOf 44 = .ok (.if_icmp .ne 19, 3) := by decide +kernel
theorem dX9_lightOf_47 : decode cX9_lightOf 47 = .ok (.aload_n 0, 1) := by decide +kernel
theorem dX9_lightOf_48 : decode cX9_lightOf 48 = .ok (.iload_n 1, 1) := by decide +kernel
theorem dX9_lightOf_49 : decode cX9_lightOf 49 = .ok (.aload_n 0, 1) := by decide +kernel
theorem dX9_lightOf_50 : decode cX9_lightOf 50 = .ok (.getfield 7, 3) := by decide +kernel
theorem dX9_lightOf_53 : decode cX9_lightOf 53 = .ok (.sipush 181, 3) := by decide +kernel
theorem dX9_lightOf_56 : decode cX9_lightOf 56 = .ok (.iaload, 1) := by decide +kernel
theorem dX9_lightOf_57 : decode cX9_lightOf 57 = .ok (.invokevirtual 60, 3) := by decide +kernel
theorem dX9_lightOf_60 : decode cX9_lightOf 60 = .ok (.goto 8, 3) := by decide +kernel
theorem dX9_lightOf_63 : decode cX9_lightOf 63 = .ok (.aload_n 0, 1) := by decide +kernel
theorem dX9_lightOf_64 : decode cX9_lightOf 64 = .ok (.iload_n 1, 1) := by decide +kernel
theorem dX9_lightOf_65 : decode cX9_lightOf 65 = .ok (.invokevirtual 206, 3) := by decide +kernel
theorem dX9_lightOf_68 : decode cX9_lightOf 68 = .ok (.ireturn, 1) := by decide +kernel
theorem dX9_keeperOf_0 : decode cX9_keeperOf 0 = .ok (.iload_n 1, 1) := by decide +kernel
theorem dX9_keeperOf_1 : decode cX9_keeperOf 1 = .ok (.invokestatic 94, 3) := by decide +kernel
theorem dX9_keeperOf_4 : decode cX9_keeperOf 4 = .ok (.ifCond .ne 7, 3) := by decide +kernel
theorem dX9_keeperOf_7 : decode cX9_keeperOf 7 = .ok (.iconst (-1), 1) := by decide +kernel
theorem dX9_keeperOf_8 : decode cX9_keeperOf 8 = .ok (.goto 27, 3) := by decide +kernel
theorem dX9_keeperOf_11 : decode cX9_keeperOf 11 = .ok (.iload_n 2, 1) := by decide +kernel
theorem dX9_keeperOf_12 : decode cX9_keeperOf 12 = .ok (.iconst 0, 1) := by decide +kernel
theorem dX9_keeperOf_13 : decode cX9_keeperOf 13 = .ok (.iconst 4, 1) := by decide +kernel
theorem dX9_keeperOf_14 : decode cX9_keeperOf 14 = .ok (.invokestatic 36, 3) := by decide +kernel
theorem dX9_keeperOf_17 : decode cX9_keeperOf 17 = .ok (.ifCond .eq 16, 3) := by decide +kernel
theorem dX9_keeperOf_20 : decode cX9_keeperOf 20 = .ok (.aload_n 0, 1) := by decide +kernel
theorem dX9_keeperOf_21 : decode cX9_keeperOf 21 = .ok (.getfield 7, 3) := by decide +kernel
theorem dX9_keeperOf_24 : decode cX9_keeperOf 24 = .ok (.iload_n 1, 1) := by decide +kernel
theorem dX9_keeperOf_25 : decode cX9_keeperOf 25 = .ok (.iload_n 2, 1) := by decide +kernel
theorem dX9_keeperOf_26 : decode cX9_keeperOf 26 = .ok (.invokestatic 33, 3) := by decide +kernel
theorem dX9_keeperOf_29 : decode cX9_keeperOf 29 = .ok (.iaload, 1) := by decide +kernel
theorem dX9_keeperOf_30 : decode cX9_keeperOf 30 = .ok (.goto 5, 3) := by decide +kernel
theorem dX9_keeperOf_33 : decode cX9_keeperOf 33 = .ok (.bipush (-2), 2) := by decide +kernel
theorem dX9_keeperOf_35 : decode cX9_keeperOf 35 = .ok (.ireturn, 1) := by decide +kernel
theorem dX9_shipOf_0 : decode cX9_shipOf 0 = .ok (.aload_n 0, 1) := by decide +kernel
theorem dX9_shipOf_1 : decode cX9_shipOf 1 = .ok (.iload_n 1, 1) := by decide +kernel
theorem dX9_shipOf_2 : decode cX9_shipOf 2 = .ok (.invokevirtual 209, 3) := by decide +kernel
theorem dX9_shipOf_5 : decode cX9_shipOf 5 = .ok (.ifCond .ne 5, 3) := by decide +kernel
theorem dX9_shipOf_8 : decode cX9_shipOf 8 = .ok (.iconst (-1), 1) := by decide +kernel
theorem dX9_shipOf_9 : decode cX9_shipOf 9 = .ok (.ireturn, 1) := by decide +kernel
theorem dX9_shipOf_10 : decode cX9_shipOf 10 = .ok (.iload_n 2, 1) := by decide +kernel
theorem dX9_shipOf_11 : decode cX9_shipOf 11 = .ok (.iconst 0, 1) := by decide +kernel
theorem dX9_shipOf_12 : decode cX9_shipOf 12 = .ok (.bipush 6, 2) := by decide +kernel
theorem dX9_shipOf_14 : decode cX9_shipOf 14 = .ok (.invokestatic 36, 3) := by decide +kernel
theorem dX9_shipOf_17 : decode cX9_shipOf 17 = .ok (.ifCond .ne 6, 3) := by decide +kernel
theorem dX9_shipOf_20 : decode cX9_shipOf 20 = .ok (.bipush (-2), 2) := by decide +kernel
theorem dX9_shipOf_22 : decode cX9_shipOf 22 = .ok (.ireturn, 1) := by decide +kernel
theorem dX9_shipOf_23 : decode cX9_shipOf 23 = .ok (.iload_n 2, 1) := by decide +kernel
theorem dX9_shipOf_24 : decode cX9_shipOf 24 = .ok (.iconst 5, 1) := by decide +kernel
theorem dX9_shipOf_25 : decode cX9_shipOf 25 = .ok (.if_icmp .ge 16, 3) := by decide +kernel
theorem dX9_shipOf_28 : decode cX9_shipOf 28 = .ok (.aload_n 0, 1) := by decide +kernel
theorem dX9_shipOf_29 : decode cX9_shipOf 29 = .ok (.getfield 7, 3) := by decide +kernel
theorem dX9_shipOf_32 : decode cX9_shipOf 32 = .ok (.iload_n 1, 1) := by decide +kernel
theorem dX9_shipOf_33 : decode cX9_shipOf 33 = .ok (.iload_n 2, 1) := by decide +kernel
theorem dX9_shipOf_34 : decode cX9_shipOf 34 = .ok (.invokestatic 100, 3) := by decide +kernel
theorem dX9_shipOf_37 : decode cX9_shipOf 37 = .ok (.iaload, 1) := by decide +kernel
theorem dX9_shipOf_38 : decode cX9_shipOf 38 = .ok (.goto 57, 3) := by decide +kernel
theorem dX9_shipOf_41 : decode cX9_shipOf 41 = .ok (.iload_n 2, 1) := by decide +kernel
theorem dX9_shipOf_42 : decode cX9_shipOf 42 = .ok (.iconst 5, 1) := by decide +kernel
theorem dX9_shipOf_43 : decode cX9_shipOf 43 = .ok (.if_icmp .ne 29, 3) := by decide +kernel
theorem dX9_shipOf_46 : decode cX9_shipOf 46 = .ok (.aload_n 0, 1) := by decide +kernel
theorem dX9_shipOf_47 : decode cX9_shipOf 47 = .ok (.getfield 7, 3) := by decide +kernel
theorem dX9_shipOf_50 : decode cX9_shipOf 50 = .ok (.iload_n 1, 1) := by decide +kernel
theorem dX9_shipOf_51 : decode cX9_shipOf 51 = .ok (.iconst 1, 1) := by decide +kernel
theorem dX9_shipOf_52 : decode cX9_shipOf 52 = .ok (.invokestatic 100, 3) := by decide +kernel
theorem dX9_shipOf_55 : decode cX9_shipOf 55 = .ok (.iaload, 1) := by decide +kernel
theorem dX9_shipOf_56 : decode cX9_shipOf 56 = .ok (.aload_n 0, 1) := by decide +kernel
theorem dX9_shipOf_57 : decode cX9_shipOf 57 = .ok (.getfield 7, 3) := by decide +kernel
theorem dX9_shipOf_60 : decode cX9_shipOf 60 = .ok (.iload_n 1, 1) := by decide +kernel
theorem dX9_shipOf_61 : decode cX9_shipOf 61 = .ok (.iconst 2, 1) := by decide +kernel
theorem dX9_shipOf_62 : decode cX9_shipOf 62 = .ok (.invokestatic 100, 3) := by decide +kernel
theorem dX9_shipOf_65 : decode cX9_shipOf 65 = .ok (.iaload, 1) := by decide +kernel
theorem dX9_shipOf_66 : decode cX9_shipOf 66 = .ok (.invokestatic 67, 3) := by decide +kernel
theorem dX9_shipOf_69 : decode cX9_shipOf 69 = .ok (.goto 26, 3) := by decide +kernel
theorem dX9_shipOf_72 : decode cX9_shipOf 72 = .ok (.aload_n 0, 1) := by decide +kernel
theorem dX9_shipOf_73 : decode cX9_shipOf 73 = .ok (.getfield 7, 3) := by decide +kernel
theorem dX9_shipOf_76 : decode cX9_shipOf 76 = .ok (.iload_n 1, 1) := by decide +kernel
theorem dX9_shipOf_77 : decode cX9_shipOf 77 = .ok (.iconst 3, 1) := by decide +kernel
theorem dX9_shipOf_78 : decode cX9_shipOf 78 = .ok (.invokestatic 100, 3) := by decide +kernel
theorem dX9_shipOf_81 : decode cX9_shipOf 81 = .ok (.iaload, 1) := by decide +kernel
theorem dX9_shipOf_82 : decode cX9_shipOf 82 = .ok (.ifCond .ne 11, 3) := by decide +kernel
theorem dX9_shipOf_85 : decode cX9_shipOf 85 = .ok (.aload_n 0, 1) := by decide +kernel
theorem dX9_shipOf_86 : decode cX9_shipOf 86 = .ok (.iload_n 1, 1) := by decide +kernel
theorem dX9_shipOf_87 : decode cX9_shipOf 87 = .ok (.invokevirtual 122, 3) := by decide +kernel
theorem dX9_shipOf_90 : decode cX9_shipOf 90 = .ok (.goto 5, 3) := by decide +kernel
theorem dX9_shipOf_93 : decode cX9_shipOf 93 = .ok (.bipush (-5), 2) := by decide +kernel
theorem dX9_shipOf_95 : decode cX9_shipOf 95 = .ok (.ireturn, 1) := by decide +kernel
theorem dX9_isLit_0 : decode cX9_isLit 0 = .ok (.iload_n 1, 1) := by decide +kernel
theorem dX9_isLit_1 : decode cX9_isLit 1 = .ok (.invokestatic 94, 3) := by decide +kernel
theorem dX9_isLit_4 : decode cX9_isLit 4 = .ok (.ifCond .eq 10, 3) := by decide +kernel
theorem dX9_isLit_7 : decode cX9_isLit 7 = .ok (.iload_n 2, 1) := by decide +kernel
theorem dX9_isLit_8 : decode cX9_isLit 8 = .ok (.invokestatic 77, 3) := by decide +kernel
theorem dX9_isLit_11 : decode cX9_isLit 11 = .ok (.ifCond .ne 5, 3) := by decide +kernel
theorem dX9_isLit_14 : decode cX9_isLit 14 = .ok (.iconst (-1), 1) := by decide +kernel
theorem dX9_isLit_15 : decode cX9_isLit 15 = .ok (.ireturn, 1) := by decide +kernel
theorem dX9_isLit_16 : decode cX9_isLit 16 = .ok (.iload_n 3, 1) := by decide +kernel
theorem dX9_isLit_17 : decode cX9_isLit 17 = .ok (.iconst 0, 1) := by decide +kernel
theorem dX9_isLit_18 : decode cX9_isLit 18 = .ok (.sipush 20000, 3) := by decide +kernel
theorem dX9_isLit_21 : decode cX9_isLit 21 = .ok (.invokestatic 36, 3) := by decide +kernel
theorem dX9_isLit_24 : decode cX9_isLit 24 = .ok (.ifCond .eq 13, 3) := by decide +kernel
theorem dX9_isLit_27 : decode cX9_isLit 27 = .ok (.iload 4, 2) := by decide +kernel
theorem dX9_isLit_29 : decode cX9_isLit 29 = .ok (.iconst 0, 1) := by decide +kernel
theorem dX9_isLit_30 : decode cX9_isLit 30 = .ok (.iconst 1, 1) := by decide +kernel
theorem dX9_isLit_31 : decode cX9_isLit 31 = .ok (.invokestatic 36, 3) := by decide +kernel
theorem dX9_isLit_34 : decode cX9_isLit 34 = .ok (.ifCond .ne 6, 3) := by decide +kernel
theorem dX9_isLit_37 : decode cX9_isLit 37 = .ok (.bipush (-2), 2) := by decide +kernel
theorem dX9_isLit_39 : decode cX9_isLit 39 = .ok (.ireturn, 1) := by decide +kernel
theorem dX9_isLit_40 : decode cX9_isLit 40 = .ok (.aload_n 0, 1) := by decide +kernel
theorem dX9_isLit_41 : decode cX9_isLit 41 = .ok (.iload_n 1, 1) := by decide +kernel
theorem dX9_isLit_42 : decode cX9_isLit 42 = .ok (.iload_n 2, 1) := by decide +kernel
theorem dX9_isLit_43 : decode cX9_isLit 43 = .ok (.iload_n 3, 1) := by decide +kernel
theorem dX9_isLit_44 : decode cX9_isLit 44 = .ok (.aload_n 0, 1) := by decide +kernel
theorem dX9_isLit_45 : decode cX9_isLit 45 = .ok (.getfield 7, 3) := by decide +kernel
theorem dX9_isLit_48 : decode cX9_isLit 48 = .ok (.iload_n 1, 1) := by decide +kernel
theorem dX9_isLit_49 : decode cX9_isLit 49 = .ok (.iconst 4, 1) := by decide +kernel
theorem dX9_isLit_50 : decode cX9_isLit 50 = .ok (.invokestatic 29, 3) := by decide +kernel
theorem dX9_isLit_53 : decode cX9_isLit 53 = .ok (.iaload, 1) := by decide +kernel
theorem dX9_isLit_54 : decode cX9_isLit 54 = .ok (.invokevirtual 70, 3) := by decide +kernel
theorem dX9_isLit_57 : decode cX9_isLit 57 = .ok (.ifCond .eq 7, 3) := by decide +kernel
theorem dX9_isLit_60 : decode cX9_isLit 60 = .ok (.iconst 1, 1) := by decide +kernel
theorem dX9_isLit_61 : decode cX9_isLit 61 = .ok (.goto 4, 3) := by decide +kernel
theorem dX9_isLit_64 : decode cX9_isLit 64 = .ok (.iconst 0, 1) := by decide +kernel
theorem dX9_isLit_65 : decode cX9_isLit 65 = .ok (.ireturn, 1) := by decide +kernel
theorem dX9_why_0 : decode cX9_why 0 = .ok (.iload_n 1, 1) := by decide +kernel
theorem dX9_why_1 : decode cX9_why 1 = .ok (.invokestatic 94, 3) := by decide +kernel
theorem dX9_why_4 : decode cX9_why 4 = .ok (.ifCond .eq 10, 3) := by decide +kernel
theorem dX9_why_7 : decode cX9_why 7 = .ok (.iload_n 2, 1) := by decide +kernel
theorem dX9_why_8 : decode cX9_why 8 = .ok (.invokestatic 77, 3) := by decide +kernel
theorem dX9_why_11 : decode cX9_why 11 = .ok (.ifCond .ne 5, 3) := by decide +kernel
theorem dX9_why_14 : decode cX9_why 14 = .ok (.iconst (-1), 1) := by decide +kernel
theorem dX9_why_15 : decode cX9_why 15 = .ok (.ireturn, 1) := by decide +kernel
theorem dX9_why_16 : decode cX9_why 16 = .ok (.iload_n 1, 1) := by decide +kernel
theorem dX9_why_17 : decode cX9_why 17 = .ok (.iload_n 2, 1) := by decide +kernel
theorem dX9_why_18 : decode cX9_why 18 = .ok (.invokestatic 57, 3) := by decide +kernel
theorem dX9_why_21 : decode cX9_why 21 = .ok (.istore_n 3, 1) := by decide +kernel
theorem dX9_why_22 : decode cX9_why 22 = .ok (.iload_n 1, 1) := by decide +kernel
theorem dX9_why_23 : decode cX9_why 23 = .ok (.invokestatic 54, 3) := by decide +kernel
theorem dX9_why_26 : decode cX9_why 26 = .ok (.iload_n 2, 1) := by decide +kernel
theorem dX9_why_27 : decode cX9_why 27 = .ok (.invokestatic 67, 3) := by decide +kernel
theorem dX9_why_30 : decode cX9_why 30 = .ok (.istore 4, 2) := by decide +kernel
theorem dX9_why_32 : decode cX9_why 32 = .ok (.iload_n 3, 1) := by decide +kernel
theorem dX9_why_33 : decode cX9_why 33 = .ok (.bipush (-5), 2) := by decide +kernel
theorem dX9_why_35 : decode cX9_why 35 = .ok (.if_icmp .ne 5, 3) := by decide +kernel
theorem dX9_why_38 : decode cX9_why 38 = .ok (.iconst 0, 1) := by decide +kernel
theorem dX9_why_39 : decode cX9_why 39 = .ok (.ireturn, 1) := by decide +kernel
theorem dX9_why_40 : decode cX9_why 40 = .ok (.aload_n 0, 1) := by decide +kernel
theorem dX9_why_41 : decode cX9_why 41 = .ok (.iload_n 1, 1) := by decide +kernel
theorem dX9_why_42 : decode cX9_why 42 = .ok (.iload_n 3, 1) := by decide +kernel
theorem dX9_why_43 : decode cX9_why 43 = .ok (.invokevirtual 63, 3) := by decide +kernel
theorem dX9_why_46 : decode cX9_why 46 = .ok (.ifCond .eq 7, 3) := by decide +kernel
theorem dX9_why_49 : decode cX9_why 49 = .ok (.iconst 1, 1) := by decide +kernel
theorem dX9_why_50 : decode cX9_why 50 = .ok (.goto 74, 3) := by decide +kernel
theorem dX9_why_53 : decode cX9_why 53 = .ok (.iload 4, 2) := by decide +kernel
theorem dX9_why_55 : decode cX9_why 55 = .ok (.aload_n 0, 1) := by decide +kernel
theorem dX9_why_56 : decode cX9_why 56 = .ok (.getfield 7, 3) := by decide +kernel
theorem dX9_why_59 : decode cX9_why 59 = .ok (.iload_n 1, 1) := by decide +kernel
theorem dX9_why_60 : decode cX9_why 60 = .ok (.iconst 2, 1) := by decide +kernel
theorem dX9_why_61 : decode cX9_why 61 = .ok (.invokestatic 29, 3) := by decide +kernel
theorem dX9_why_64 : decode cX9_why 64 = .ok (.iaload, 1) := by decide +kernel
theorem dX9_why_65 : decode cX9_why 65 = .ok (.if_icmp .le 7, 3) := by decide +kernel
theorem dX9_why_68 : decode cX9_why 68 = .ok (.iconst 2, 1) := by decide +kernel
theorem dX9_why_69 : decode cX9_why 69 = .ok (.goto 55, 3) := by decide +kernel
theorem dX9_why_72 : decode cX9_why 72 = .ok (.iload 4, 2) := by decide +kernel
theorem dX9_why_74 : decode cX9_why 74 = .ok (.aload_n 0, 1) := by decide +kernel
theorem dX9_why_75 : decode cX9_why 75 = .ok (.getfield 7, 3) := by decide +kernel
theorem dX9_why_78 : decode cX9_why 78 = .ok (.iload_n 1, 1) := by decide +kernel
theorem dX9_why_79 : decode cX9_why 79 = .ok (.iconst 2, 1) := by decide +kernel
theorem dX9_why_80 : decode cX9_why 80 = .ok (.invokestatic 29, 3) := by decide +kernel
theorem dX9_why_83 : decode cX9_why 83 = .ok (.iaload, 1) := by decide +kernel
theorem dX9_why_84 : decode cX9_why 84 = .ok (.aload_n 0, 1) := by decide +kernel
theorem dX9_why_85 : decode cX9_why 85 = .ok (.getfield 7, 3) := by decide +kernel
theorem dX9_why_88 : decode cX9_why 88 = .ok (.iload_n 1, 1) := by decide +kernel
theorem dX9_why_89 : decode cX9_why 89 = .ok (.iconst 4, 1) := by decide +kernel
theorem dX9_why_90 : decode cX9_why 90 = .ok (.invokestatic 29, 3) := by decide +kernel
theorem dX9_why_93 : decode cX9_why 93 = .ok (.iaload, 1) := by decide +kernel
theorem dX9_why_94 : decode cX9_why 94 = .ok (.isub, 1) := by decide +kernel
theorem dX9_why_95 : decode cX9_why 95 = .ok (.if_icmp .le 7, 3) := by decide +kernel
theorem dX9_why_98 : decode cX9_why 98 = .ok (.iconst 3, 1) := by decide +kernel
theorem dX9_why_99 : decode cX9_why 99 = .ok (.goto 25, 3) := by decide +kernel
theorem dX9_why_102 : decode cX9_why 102 = .ok (.iload_n 3, 1) := by decide +kernel
theorem dX9_why_103 : decode cX9_why 103 = .ok (.aload_n 0, 1) := by decide +kernel
theorem dX9_why_104 : decode cX9_why 104 = .ok (.iload_n 1, 1) := by decide +kernel
theorem dX9_why_105 : decode cX9_why 105 = .ok (.aload_n 0, 1) := by decide +kernel
theorem dX9_why_106 : decode cX9_why 106 = .ok (.getfield 7, 3) := by decide +kernel
theorem dX9_why_109 : decode cX9_why 109 = .ok (.sipush 181, 3) := by decide +kernel
theorem dX9_why_112 : decode cX9_why 112 = .ok (.iaload, 1) := by decide +kernel
theorem dX9_why_113 : decode cX9_why 113 = .ok (.invokevirtual 60, 3) := by decide +kernel
theorem dX9_why_116 : decode cX9_why 116 = .ok (.if_icmp .ne 7, 3) := by decide +kernel
theorem dX9_why_119 : decode cX9_why 119 = .ok (.iconst 0, 1) := by decide +kernel
theorem dX9_why_120 : decode cX9_why 120 = .ok (.goto 4, 3) := by decide +kernel
theorem dX9_why_123 : decode cX9_why 123 = .ok (.iconst 4, 1) := by decide +kernel
theorem dX9_why_124 : decode cX9_why 124 = .ok (.ireturn, 1) := by decide +kernel
theorem dX9_litNow_0 : decode cX9_litNow 0 = .ok (.iconst 0, 1) := by decide +kernel
theorem dX9_litNow_1 : decode cX9_litNow 1 = .ok (.istore_n 2, 1) := by decide +kernel
theorem dX9_litNow_2 : decode cX9_litNow 2 = .ok (.iconst 0, 1) := by decide +kernel
theorem dX9_litNow_3 : decode cX9_litNow 3 = .ok (.istore_n 3, 1) := by decide +kernel
theorem dX9_litNow_4 : decode cX9_litNow 4 = .ok (.iload_n 3, 1) := by decide +kernel
theorem dX9_litNow_5 : decode cX9_litNow 5 = .ok (.bipush 100, 2) := by decide +kernel
theorem dX9_litNow_7 : decode cX9_litNow 7 = .ok (.if_icmp .ge 41, 3) := by decide +kernel
theorem dX9_litNow_10 : decode cX9_litNow 10 = .ok (.iload_n 2, 1) := by decide +kernel
theorem dX9_litNow_11 : decode cX9_litNow 11 = .ok (.aload_n 0, 1) := by decide +kernel
theorem dX9_litNow_12 : decode cX9_litNow 12 = .ok (.iload_n 3, 1) := by decide +kernel
theorem dX9_litNow_13 : decode cX9_litNow 13 = .ok (.invokevirtual 116, 3) := by decide +kernel
theorem dX9_litNow_16 : decode cX9_litNow 16 = .ok (.ifCond .eq 23, 3) := by decide +kernel
theorem dX9_litNow_19 : decode cX9_litNow 19 = .ok (.iload_n 1, 1) := by decide +kernel
theorem dX9_litNow_20 : decode cX9_litNow 20 = .ok (.ifCond .eq 15, 3) := by decide +kernel
theorem dX9_litNow_23 : decode cX9_litNow 23 = .ok (.aload_n 0, 1) := by decide +kernel
theorem dX9_litNow_24 : decode cX9_litNow 24 = .ok (.getfield 7, 3) := by decide +kernel
theorem dX9_litNow_27 : decode cX9_litNow 27 = .ok (.iconst 0, 1) := by decide +kernel
theorem dX9_litNow_28 : decode cX9_litNow 28 = .ok (.iload_n 3, 1) := by decide +kernel
theorem dX9_litNow_29 : decode cX9_litNow 29 = .ok (.iadd, 1) := by decide +kernel
theorem dX9_litNow_30 : decode cX9_litNow 30 = .ok (.iaload, 1) := by decide +kernel
theorem dX9_litNow_31 : decode cX9_litNow 31 = .ok (.iconst 1, 1) := by decide +kernel
theorem dX9_litNow_32 : decode cX9_litNow 32 = .ok (.if_icmp .ne 7, 3) := by decide +kernel
theorem dX9_litNow_35 : decode cX9_litNow 35 = .ok (.iconst 1, 1) := by decide +kernel
theorem dX9_litNow_36 : decode cX9_litNow 36 = .ok (.goto 4, 3) := by decide +kernel
theorem dX9_litNow_39 : decode cX9_litNow 39 = .ok (.iconst 0, 1) := by decide +kernel
theorem dX9_litNow_40 : decode cX9_litNow 40 = .ok (.iadd, 1) := by decide +kernel
theorem dX9_litNow_41 : decode cX9_litNow 41 = .ok (.istore_n 2, 1) := by decide +kernel
theorem dX9_litNow_42 : decode cX9_litNow 42 = .ok (.iinc 3 1, 3) := by decide +kernel
theorem dX9_litNow_45 : decode cX9_litNow 45 = .ok (.goto (-41), 3) := by decide +kernel
theorem dX9_litNow_48 : decode cX9_litNow 48 = .ok (.iload_n 2, 1) := by decide +kernel
theorem dX9_litNow_49 : decode cX9_litNow 49 = .ok (.ireturn, 1) := by decide +kernel
theorem dX9_ofAll_0 : decode cX9_ofAll 0 = .ok (.iconst 0, 1) := by decide +kernel
theorem dX9_ofAll_1 : decode cX9_ofAll 1 = .ok (.istore_n 2, 1) := by decide +kernel
theorem dX9_ofAll_2 : decode cX9_ofAll 2 = .ok (.iconst 0, 1) := by decide +kernel
theorem dX9_ofAll_3 : decode cX9_ofAll 3 = .ok (.istore_n 3, 1) := by decide +kernel
theorem dX9_ofAll_4 : decode cX9_ofAll 4 = .ok (.iload_n 3, 1) := by decide +kernel
theorem dX9_ofAll_5 : decode cX9_ofAll 5 = .ok (.iconst 4, 1) := by decide +kernel
theorem dX9_ofAll_6 : decode cX9_ofAll 6 = .ok (.if_icmp .ge 22, 3) := by decide +kernel
theorem dX9_ofAll_9 : decode cX9_ofAll 9 = .ok (.iload_n 2, 1) := by decide +kernel
theorem dX9_ofAll_10 : decode cX9_ofAll 10 = .ok (.aload_n 0, 1) := by decide +kernel
theorem dX9_ofAll_11 : decode cX9_ofAll 11 = .ok (.getfield 7, 3) := by decide +kernel
theorem dX9_ofAll_14 : decode cX9_ofAll 14 = .ok (.iload_n 3, 1) := by decide +kernel
theorem dX9_ofAll_15 : decode cX9_ofAll 15 = .ok (.iload_n 1, 1) := by decide +kernel
theorem dX9_ofAll_16 : decode cX9_ofAll 16 = .ok (.invokestatic 33, 3) := by decide +kernel
theorem dX9_ofAll_19 : decode cX9_ofAll 19 = .ok (.iaload, 1) := by decide +kernel
theorem dX9_ofAll_20 : decode cX9_ofAll 20 = .ok (.iadd, 1) := by decide +kernel
theorem dX9_ofAll_21 : decode cX9_ofAll 21 = .ok (.istore_n 2, 1) := by decide +kernel
theorem dX9_ofAll_22 : decode cX9_ofAll 22 = .ok (.iinc 3 1, 3) := by decide +kernel
theorem dX9_ofAll_25 : decode cX9_ofAll 25 = .ok (.goto (-21), 3) := by decide +kernel
theorem dX9_ofAll_28 : decode cX9_ofAll 28 = .ok (.iload_n 2, 1) := by decide +kernel
theorem dX9_ofAll_29 : decode cX9_ofAll 29 = .ok (.ireturn, 1) := by decide +kernel
theorem dX9_worth_0 : decode cX9_worth 0 = .ok (.iconst 0, 1) := by decide +kernel
theorem dX9_worth_1 : decode cX9_worth 1 = .ok (.istore_n 2, 1) := by decide +kernel
theorem dX9_worth_2 : decode cX9_worth 2 = .ok (.iconst 0, 1) := by decide +kernel
theorem dX9_worth_3 : decode cX9_worth 3 = .ok (.istore_n 3, 1) := by decide +kernel
theorem dX9_worth_4 : decode cX9_worth 4 = .ok (.iload_n 3, 1) := by decide +kernel
theorem dX9_worth_5 : decode cX9_worth 5 = .ok (.aload_n 0, 1) := by decide +kernel
theorem dX9_worth_6 : decode cX9_worth 6 = .ok (.getfield 7, 3) := by decide +kernel
theorem dX9_worth_9 : decode cX9_worth 9 = .ok (.sipush 180, 3) := by decide +kernel
theorem dX9_worth_12 : decode cX9_worth 12 = .ok (.iaload, 1) := by decide +kernel
theorem dX9_worth_13 : decode cX9_worth 13 = .ok (.if_icmp .ge 28, 3) := by decide +kernel
theorem dX9_worth_16 : decode cX9_worth 16 = .ok (.iload_n 2, 1) := by decide +kernel
theorem dX9_worth_17 : decode cX9_worth 17 = .ok (.iload_n 1, 1) := by decide +kernel
theorem dX9_worth_18 : decode cX9_worth 18 = .ok (.iload_n 3, 1) := by decide +kernel
theorem dX9_worth_19 : decode cX9_worth 19 = .ok (.ishr, 1) := by decide +kernel
theorem dX9_worth_20 : decode cX9_worth 20 = .ok (.iconst 1, 1) := by decide +kernel
theorem dX9_worth_21 : decode cX9_worth 21 = .ok (.iand, 1) := by decide +kernel
theorem dX9_worth_22 : decode cX9_worth 22 = .ok (.aload_n 0, 1) := by decide +kernel
theorem dX9_worth_23 : decode cX9_worth 23 = .ok (.getfield 7, 3) := by decide +kernel
theorem dX9_worth_26 : decode cX9_worth 26 = .ok (.iload_n 3, 1) := by decide +kernel
theorem dX9_worth_27 : decode cX9_worth 27 = .ok (.iconst 0, 1) := by decide +kernel
theorem dX9_worth_28 : decode cX9_worth 28 = .ok (.invokestatic 100, 3) := by decide +kernel
theorem dX9_worth_31 : decode cX9_worth 31 = .ok (.iaload, 1) := by decide +kernel
theorem dX9_worth_32 : decode cX9_worth 32 = .ok (.imul, 1) := by decide +kernel
theorem dX9_worth_33 : decode cX9_worth 33 = .ok (.iadd, 1) := by decide +kernel
theorem dX9_worth_34 : decode cX9_worth 34 = .ok (.istore_n 2, 1) := by decide +kernel
theorem dX9_worth_35 : decode cX9_worth 35 = .ok (.iinc 3 1, 3) := by decide +kernel
theorem dX9_worth_38 : decode cX9_worth 38 = .ok (.goto (-34), 3) := by decide +kernel
theorem dX9_worth_41 : decode cX9_worth 41 = .ok (.iload_n 2, 1) := by decide +kernel
theorem dX9_worth_42 : decode cX9_worth 42 = .ok (.ireturn, 1) := by decide +kernel
theorem dX9_count_0 : decode cX9_count 0 = .ok (.iload_n 1, 1) := by decide +kernel
theorem dX9_count_1 : decode cX9_count 1 = .ok (.tableswitch 158 0 13 #[71, 80, 85, 94, 94, 94, 105, 111, 117, 123, 129, 139, 144, 149], 71) := by decide +kernel
theorem dX9_count_72 : decode cX9_count 72 = .ok (.aload_n 0, 1) := by decide +kernel
theorem dX9_count_73 : decode cX9_count 73 = .ok (.getfield 7, 3) := by decide +kernel
theorem dX9_count_76 : decode cX9_count 76 = .ok (.sipush 181, 3) := by decide +kernel
theorem dX9_count_79 : decode cX9_count 79 = .ok (.iaload, 1) := by decide +kernel
theorem dX9_count_80 : decode cX9_count 80 = .ok (.ireturn, 1) := by decide +kernel
theorem dX9_count_81 : decode cX9_count 81 = .ok (.aload_n 0, 1) := by decide +kernel
theorem dX9_count_82 : decode cX9_count 82 = .ok (.invokevirtual 90, 3) := by decide +kernel
theorem dX9_count_85 : decode cX9_count 85 = .ok (.ireturn, 1) := by decide +kernel
theorem dX9_count_86 : decode cX9_count 86 = .ok (.aload_n 0, 1) := by decide +kernel
theorem dX9_count_87 : decode cX9_count 87 = .ok (.getfield 7, 3) := by decide +kernel
theorem dX9_count_90 : decode cX9_count 90 = .ok (.sipush 180, 3) := by decide +kernel
theorem dX9_count_93 : decode cX9_count 93 = .ok (.iaload, 1) := by decide +kernel
theorem dX9_count_94 : decode cX9_count 94 = .ok (.ireturn, 1) := by decide +kernel
theorem dX9_count_95 : decode cX9_count 95 = .ok (.aload_n 0, 1) := by decide +kernel
theorem dX9_count_96 : decode cX9_count 96 = .ok (.iload_n 1, 1) := by decide +kernel
theorem dX9_count_97 : decode cX9_count 97 = .ok (.iconst 3, 1) := by decide +kernel
theorem dX9_count_98 : decode cX9_count 98 = .ok (.isub, 1) := by decide +kernel
theorem dX9_count_99 : decode cX9_count 99 = .ok (.invokevirtual 129, 3) := by decide +kernel
theorem dX9_count_102 : decode cX9_count 102 = .ok (.invokestatic 141, 3) := by decide +kernel
theorem dX9_count_105 : decode cX9_count 105 = .ok (.ireturn, 1) := by decide +kernel
theorem dX9_count_106 : decode cX9_count 106 = .ok (.aload_n 0, 1) := by decide +kernel
theorem dX9_count_107 : decode cX9_count 107 = .ok (.iconst 1, 1) := by decide +kernel
theorem dX9_count_108 : decode cX9_count 108 = .ok (.invokevirtual 212, 3) := by decide +kernel
theorem dX9_count_111 : decode cX9_count 111 = .ok (.ireturn, 1) := by decide +kernel
theorem dX9_count_112 : decode cX9_count 112 = .ok (.aload_n 0, 1) := by decide +kernel
theorem dX9_count_113 : decode cX9_count 113 = .ok (.iconst 0, 1) := by decide +kernel
theorem dX9_count_114 : decode cX9_count 114 = .ok (.invokevirtual 212, 3) := by decide +kernel
theorem dX9_count_117 : decode cX9_count 117 = .ok (.ireturn, 1) := by decide +kernel
theorem dX9_count_118 : decode cX9_count 118 = .ok (.aload_n 0, 1) := by decide +kernel
theorem dX9_count_119 : decode cX9_count 119 = .ok (.iconst 1, 1) := by decide +kernel
theorem dX9_count_120 : decode cX9_count 120 = .ok (.invokevirtual 216, 3) := by decide +kernel
theorem dX9_count_123 : decode cX9_count 123 = .ok (.ireturn, 1) := by decide +kernel
theorem dX9_count_124 : decode cX9_count 124 = .ok (.aload_n 0, 1) := by decide +kernel
theorem dX9_count_125 : decode cX9_count 125 = .ok (.iconst 4, 1) := by decide +kernel
theorem dX9_count_126 : decode cX9_count 126 = .ok (.invokevirtual 216, 3) := by decide +kernel
theorem dX9_count_129 : decode cX9_count 129 = .ok (.ireturn, 1) := by decide +kernel
theorem dX9_count_130 : decode cX9_count 130 = .ok (.aload_n 0, 1) := by decide +kernel
theorem dX9_count_131 : decode cX9_count 131 = .ok (.aload_n 0, 1) := by decide +kernel
theorem dX9_count_132 : decode cX9_count 132 = .ok (.iconst 1, 1) := by decide +kernel
theorem dX9_count_133 : decode cX9_count 133 = .ok (.invokevirtual 129, 3) := by decide +kernel
theorem dX9_count_136 : decode cX9_count 136 = .ok (.invokevirtual 219, 3) := by decide +kernel
theorem dX9_count_139 : decode cX9_count 139 = .ok (.ireturn, 1) := by decide +kernel
theorem dX9_count_140 : decode cX9_count 140 = .ok (.aload_n 0, 1) := by decide +kernel
theorem dX9_count_141 : decode cX9_count 141 = .ok (.getfield 40, 3) := by decide +kernel
theorem dX9_count_144 : decode cX9_count 144 = .ok (.ireturn, 1) := by decide +kernel
theorem dX9_count_145 : decode cX9_count 145 = .ok (.aload_n 0, 1) := by decide +kernel
theorem dX9_count_146 : decode cX9_count 146 = .ok (.getfield 151, 3) := by decide +kernel
theorem dX9_count_149 : decode cX9_count 149 = .ok (.ireturn, 1) := by decide +kernel
theorem dX9_count_150 : decode cX9_count 150 = .ok (.aload_n 0, 1) := by decide +kernel
theorem dX9_count_151 : decode cX9_count 151 = .ok (.getfield 7, 3) := by decide +kernel
theorem dX9_count_154 : decode cX9_count 154 = .ok (.sipush 182, 3) := by decide +kernel
theorem dX9_count_157 : decode cX9_count 157 = .ok (.iaload, 1) := by decide +kernel
theorem dX9_count_158 : decode cX9_count 158 = .ok (.ireturn, 1) := by decide +kernel
theorem dX9_count_159 : decode cX9_count 159 = .ok (.bipush (-2), 2) := by decide +kernel
theorem dX9_count_161 : decode cX9_count 161 = .ok (.ireturn, 1) := by decide +kernel
theorem dX9_isLitThen_0 : decode cX9_isLitThen 0 = .ok (.iconst 0, 1) := by decide +kernel
theorem dX9_isLitThen_1 : decode cX9_isLitThen 1 = .ok (.istore 4, 2) := by decide +kernel
theorem dX9_isLitThen_3 : decode cX9_isLitThen 3 = .ok (.iconst 0, 1) := by decide +kernel
theorem dX9_isLitThen_4 : decode cX9_isLitThen 4 = .ok (.istore 5, 2) := by decide +kernel
theorem dX9_isLitThen_6 : decode cX9_isLitThen 6 = .ok (.iload 5, 2) := by decide +kernel
theorem dX9_isLitThen_8 : decode cX9_isLitThen 8 = .ok (.iconst 4, 1) := by decide +kernel
theorem dX9_isLitThen_9 : decode cX9_isLitThen 9 = .ok (.if_icmp .ge 67, 3) := by decide +kernel
theorem dX9_isLitThen_12 : decode cX9_isLitThen 12 = .ok (.aload_n 0, 1) := by decide +kernel
theorem dX9_isLitThen_13 : decode cX9_isLitThen 13 = .ok (.getfield 7, 3) := by decide +kernel
theorem dX9_isLitThen_16 : decode cX9_isLitThen 16 = .ok (.iload 5, 2) := by decide +kernel
theorem dX9_isLitThen_18 : decode cX9_isLitThen 18 = .ok (.iconst 4, 1) := by decide +kernel
theorem dX9_isLitThen_19 : decode cX9_isLitThen 19 = .ok (.invokestatic 29, 3) := by decide +kernel
theorem dX9_isLitThen_22 : decode cX9_isLitThen 22 = .ok (.iaload, 1) := by decide +kernel
theorem dX9_isLitThen_23 : decode cX9_isLitThen 23 = .ok (.iload_n 3, 1) := by decide +kernel
theorem dX9_isLitThen_24 : decode cX9_isLitThen 24 = .ok (.isub, 1) := by decide +kernel
theorem dX9_isLitThen_25 : decode cX9_isLitThen 25 = .ok (.istore 6, 2) := by decide +kernel
theorem dX9_isLitThen_27 : decode cX9_isLitThen 27 = .ok (.iload 4, 2) := by decide +kernel
theorem dX9_isLitThen_29 : decode cX9_isLitThen 29 = .ok (.ifCond .ne 34, 3) := by decide +kernel
theorem dX9_isLitThen_32 : decode cX9_isLitThen 32 = .ok (.aload_n 0, 1) := by decide +kernel
theorem dX9_isLitThen_33 : decode cX9_isLitThen 33 = .ok (.iload 5, 2) := by decide +kernel
theorem dX9_isLitThen_35 : decode cX9_isLitThen 35 = .ok (.iload_n 1, 1) := by decide +kernel
theorem dX9_isLitThen_36 : decode cX9_isLitThen 36 = .ok (.aload_n 0, 1) := by decide +kernel
theorem dX9_isLitThen_37 : decode cX9_isLitThen 37 = .ok (.getfield 7, 3) := by decide +kernel
theorem dX9_isLitThen_40 : decode cX9_isLitThen 40 = .ok (.sipush 181, 3) := by decide +kernel
theorem dX9_isLitThen_43 : decode cX9_isLitThen 43 = .ok (.iaload, 1) := by decide +kernel
theorem dX9_isLitThen_44 : decode cX9_isLitThen 44 = .ok (.iload_n 2, 1) := by decide +kernel
theorem dX9_isLitThen_45 : decode cX9_isLitThen 45 = .ok (.iadd, 1) := by decide +kernel
theorem dX9_isLitThen_46 : decode cX9_isLitThen 46 = .ok (.iload 6, 2) := by decide +kernel
theorem dX9_isLitThen_48 : decode cX9_isLitThen 48 = .ok (.ifCond .ge 7, 3) := by decide +kernel
theorem dX9_isLitThen_51 : decode cX9_isLitThen 51 = .ok (.iconst 0, 1) := by decide +kernel
theorem dX9_isLitThen_52 : decode cX9_isLitThen 52 = .ok (.goto 5, 3) := by decide +kernel
theorem dX9_isLitThen_55 : decode cX9_isLitThen 55 = .ok (.iload 6, 2) := by decide +kernel
theorem dX9_isLitThen_57 : decode cX9_isLitThen 57 = .ok (.invokevirtual 70, 3) := by decide +kernel
theorem dX9_isLitThen_60 : decode cX9_isLitThen 60 = .ok (.ifCond .eq 7, 3) := by decide +kernel
theorem dX9_isLitThen_63 : decode cX9_isLitThen 63 = .ok (.iconst 1, 1) := by decide +kernel
theorem dX9_isLitThen_64 : decode cX9_isLitThen 64 = .ok (.goto 4, 3) := by decide +kernel
theorem dX9_isLitThen_67 : decode cX9_isLitThen 67 = .ok (.iconst 0, 1) := by decide +kernel
theorem dX9_isLitThen_68 : decode cX9_isLitThen 68 = .ok (.istore 4, 2) := by decide +kernel
theorem dX9_isLitThen_70 : decode cX9_isLitThen 70 = .ok (.iinc 5 1, 3) := by decide +kernel
theorem dX9_isLitThen_73 : decode cX9_isLitThen 73 = .ok (.goto (-67), 3) := by decide +kernel
theorem dX9_isLitThen_76 : decode cX9_isLitThen 76 = .ok (.iload 4, 2) := by decide +kernel
theorem dX9_isLitThen_78 : decode cX9_isLitThen 78 = .ok (.ireturn, 1) := by decide +kernel
theorem dX9_share_0 : decode cX9_share 0 = .ok (.iload_n 1, 1) := by decide +kernel
theorem dX9_share_1 : decode cX9_share 1 = .ok (.invokestatic 77, 3) := by decide +kernel
theorem dX9_share_4 : decode cX9_share 4 = .ok (.ifCond .ne 6, 3) := by decide +kernel
theorem dX9_share_7 : decode cX9_share 7 = .ok (.ldc 222, 2) := by decide +kernel
theorem dX9_share_9 : decode cX9_share 9 = .ok (.freturn, 1) := by decide +kernel
theorem dX9_share_10 : decode cX9_share 10 = .ok (.iconst 0, 1) := by decide +kernel
theorem dX9_share_11 : decode cX9_share 11 = .ok (.istore_n 2, 1) := by decide +kernel
theorem dX9_share_12 : decode cX9_share 12 = .ok (.iconst 0, 1) := by decide +kernel
theorem dX9_share_13 : decode cX9_share 13 = .ok (.istore_n 3, 1) := by decide +kernel
theorem dX9_share_14 : decode cX9_share 14 = .ok (.iload_n 3, 1) := by decide +kernel
theorem dX9_share_15 : decode cX9_share 15 = .ok (.bipush 8, 2) := by decide +kernel
theorem dX9_share_17 : decode cX9_share 17 = .ok (.if_icmp .ge 27, 3) := by decide +kernel
theorem dX9_share_20 : decode cX9_share 20 = .ok (.iload_n 2, 1) := by decide +kernel
theorem dX9_share_21 : decode cX9_share 21 = .ok (.aload_n 0, 1) := by decide +kernel
theorem dX9_share_22 : decode cX9_share 22 = .ok (.iload_n 1, 1) := by decide +kernel
theorem dX9_share_23 : decode cX9_share 23 = .ok (.iload_n 3, 1) := by decide +kernel
theorem dX9_share_24 : decode cX9_share 24 = .ok (.iconst 0, 1) := by decide +kernel
theorem dX9_share_25 : decode cX9_share 25 = .ok (.invokevirtual 223, 3) := by decide +kernel
theorem dX9_share_28 : decode cX9_share 28 = .ok (.ifCond .eq 7, 3) := by decide +kernel
theorem dX9_share_31 : decode cX9_share 31 = .ok (.iconst 1, 1) := by decide +kernel
theorem dX9_share_32 : decode cX9_share 32 = .ok (.goto 4, 3) := by decide +kernel
theorem dX9_share_35 : decode cX9_share 35 = .ok (.iconst 0, 1) := by decide +kernel
theorem dX9_share_36 : decode cX9_share 36 = .ok (.iadd, 1) := by decide +kernel
theorem dX9_share_37 : decode cX9_share 37 = .ok (.istore_n 2, 1) := by decide +kernel
theorem dX9_share_38 : decode cX9_share 38 = .ok (.iinc 3 1, 3) := by decide +kernel
theorem dX9_share_41 : decode cX9_share 41 = .ok (.goto (-27), 3) := by decide +kernel
theorem dX9_share_44 : decode cX9_share 44 = .ok (.iload_n 2, 1) := by decide +kernel
theorem dX9_share_45 : decode cX9_share 45 = .ok (.i2f, 1) := by decide +kernel
theorem dX9_share_46 : decode cX9_share 46 = .ok (.ldc 226, 2) := by decide +kernel
theorem dX9_share_48 : decode cX9_share 48 = .ok (.fdiv, 1) := by decide +kernel
theorem dX9_share_49 : decode cX9_share 49 = .ok (.freturn, 1) := by decide +kernel
theorem dX9_litIn_0 : decode cX9_litIn 0 = .ok (.iload_n 1, 1) := by decide +kernel
theorem dX9_litIn_1 : decode cX9_litIn 1 = .ok (.invokestatic 77, 3) := by decide +kernel
theorem dX9_litIn_4 : decode cX9_litIn 4 = .ok (.ifCond .ne 5, 3) := by decide +kernel
theorem dX9_litIn_7 : decode cX9_litIn 7 = .ok (.iconst (-1), 1) := by decide +kernel
theorem dX9_litIn_8 : decode cX9_litIn 8 = .ok (.ireturn, 1) := by decide +kernel
theorem dX9_litIn_9 : decode cX9_litIn 9 = .ok (.iconst 0, 1) := by decide +kernel
theorem dX9_litIn_10 : decode cX9_litIn 10 = .ok (.istore_n 2, 1) := by decide +kernel
theorem dX9_litIn_11 : decode cX9_litIn 11 = .ok (.iload_n 2, 1) := by decide +kernel
theorem dX9_litIn_12 : decode cX9_litIn 12 = .ok (.bipush 40, 2) := by decide +kernel
theorem dX9_litIn_14 : decode cX9_litIn 14 = .ok (.if_icmp .gt 21, 3) := by decide +kernel
theorem dX9_litIn_17 : decode cX9_litIn 17 = .ok (.aload_n 0, 1) := by decide +kernel
theorem dX9_litIn_18 : decode cX9_litIn 18 = .ok (.iload_n 1, 1) := by decide +kernel
theorem dX9_litIn_19 : decode cX9_litIn 19 = .ok (.iload_n 2, 1) := by decide +kernel
theorem dX9_litIn_20 : decode cX9_litIn 20 = .ok (.iload_n 2, 1) := by decide +kernel
theorem dX9_litIn_21 : decode cX9_litIn 21 = .ok (.invokevirtual 223, 3) := by decide +kernel
theorem dX9_litIn_24 : decode cX9_litIn 24 = .ok (.ifCond .eq 5, 3) := by decide +kernel
theorem dX9_litIn_27 : decode cX9_litIn 27 = .ok (.iload_n 2, 1) := by decide +kernel
theorem dX9_litIn_28 : decode cX9_litIn 28 = .ok (.ireturn, 1) := by decide +kernel
theorem dX9_litIn_29 : decode cX9_litIn 29 = .ok (.iinc 2 1, 3) := by decide +kernel
theorem dX9_litIn_32 : decode cX9_litIn 32 = .ok (.goto (-21), 3) := by decide +kernel
theorem dX9_litIn_35 : decode cX9_litIn 35 = .ok (.bipush (-5), 2) := by decide +kernel
theorem dX9_litIn_37 : decode cX9_litIn 37 = .ok (.ireturn, 1) := by decide +kernel
theorem dX9_ifPassed_0 : decode cX9_ifPassed 0 = .ok (.iload_n 1, 1) := by decide +kernel
theorem dX9_ifPassed_1 : decode cX9_ifPassed 1 = .ok (.iconst 1, 1) := by decide +kernel
theorem dX9_ifPassed_2 : decode cX9_ifPassed 2 = .ok (.bipush 40, 2) := by decide +kernel
theorem dX9_ifPassed_4 : decode cX9_ifPassed 4 = .ok (.invokestatic 36, 3) := by decide +kernel
theorem dX9_ifPassed_7 : decode cX9_ifPassed 7 = .ok (.ifCond .ne 6, 3) := by decide +kernel
theorem dX9_ifPassed_10 : decode cX9_ifPassed 10 = .ok (.bipush (-2), 2) := by decide +kernel
theorem dX9_ifPassed_12 : decode cX9_ifPassed 12 = .ok (.ireturn, 1) := by decide +kernel
theorem dX9_ifPassed_13 : decode cX9_ifPassed 13 = .ok (.aload_n 0, 1) := by decide +kernel
theorem dX9_ifPassed_14 : decode cX9_ifPassed 14 = .ok (.invokevirtual 194, 3) := by decide +kernel
theorem dX9_ifPassed_17 : decode cX9_ifPassed 17 = .ok (.aload_n 0, 1) := by decide +kernel
theorem dX9_ifPassed_18 : decode cX9_ifPassed 18 = .ok (.iload_n 1, 1) := by decide +kernel
theorem dX9_ifPassed_19 : decode cX9_ifPassed 19 = .ok (.invokevirtual 138, 3) := by decide +kernel
theorem dX9_ifPassed_22 : decode cX9_ifPassed 22 = .ok (.istore_n 2, 1) := by decide +kernel
theorem dX9_ifPassed_23 : decode cX9_ifPassed 23 = .ok (.aload_n 0, 1) := by decide +kernel
theorem dX9_ifPassed_24 : decode cX9_ifPassed 24 = .ok (.invokevirtual 200, 3) := by decide +kernel
theorem dX9_ifPassed_27 : decode cX9_ifPassed 27 = .ok (.iload_n 2, 1) := by decide +kernel
theorem dX9_ifPassed_28 : decode cX9_ifPassed 28 = .ok (.ireturn, 1) := by decide +kernel
theorem dX9_bestCard_0 : decode cX9_bestCard 0 = .ok (.iload_n 1, 1) := by decide +kernel
theorem dX9_bestCard_1 : decode cX9_bestCard 1 = .ok (.invokestatic 94, 3) := by decide +kernel
theorem dX9_bestCard_4 : decode cX9_bestCard 4 = .ok (.ifCond .ne 5, 3) := by decide +kernel
theorem dX9_bestCard_7 : decode cX9_bestCard 7 = .ok (.iconst (-1), 1) := by decide +kernel
theorem dX9_bestCard_8 : decode cX9_bestCard 8 = .ok (.ireturn, 1) := by decide +kernel
theorem dX9_bestCard_9 : decode cX9_bestCard 9 = .ok (.aload_n 0, 1) := by decide +kernel
theorem dX9_bestCard_10 : decode cX9_bestCard 10 = .ok (.invokevirtual 194, 3) := by decide +kernel
theorem dX9_bestCard_13 : decode cX9_bestCard 13 = .ok (.aload_n 0, 1) := by decide +kernel
theorem dX9_bestCard_14 : decode cX9_bestCard 14 = .ok (.aload_n 0, 1) := by decide +kernel
theorem dX9_bestCard_15 : decode cX9_bestCard 15 = .ok (.bipush 10, 2) := by decide +kernel
theorem dX9_bestCard_17 : decode cX9_bestCard 17 = .ok (.invokevirtual 138, 3) := by decide +kernel
theorem dX9_bestCard_20 : decode cX9_bestCard 20 = .ok (.invokevirtual 219, 3) := by decide +kernel
theorem dX9_bestCard_23 : decode cX9_bestCard 23 = .ok (.istore_n 2, 1) := by decide +kernel
theorem dX9_bestCard_24 : decode cX9_bestCard 24 = .ok (.aload_n 0, 1) := by decide +kernel
theorem dX9_bestCard_25 : decode cX9_bestCard 25 = .ok (.invokevirtual 200, 3) := by decide +kernel
theorem dX9_bestCard_28 : decode cX9_bestCard 28 = .ok (.bipush (-5), 2) := by decide +kernel
theorem dX9_bestCard_30 : decode cX9_bestCard 30 = .ok (.istore_n 3, 1) := by decide +kernel
theorem dX9_bestCard_31 : decode cX9_bestCard 31 = .ok (.iconst 0, 1) := by decide +kernel
theorem dX9_bestCard_32 : decode cX9_bestCard 32 = .ok (.istore 4, 2) := by decide +kernel
theorem dX9_bestCard_34 : decode cX9_bestCard 34 = .ok (.iload 4, 2) := by decide +kernel
theorem dX9_bestCard_36 : decode cX9_bestCard 36 = .ok (.iconst 4, 1) := by decide +kernel
theorem dX9_bestCard_37 : decode cX9_bestCard 37 = .ok (.if_icmp .ge 68, 3) := by decide +kernel
theorem dX9_bestCard_40 : decode cX9_bestCard 40 = .ok (.aload_n 0, 1) := by decide +kernel
theorem dX9_bestCard_41 : decode cX9_bestCard 41 = .ok (.iload_n 1, 1) := by decide +kernel
theorem dX9_bestCard_42 : decode cX9_bestCard 42 = .ok (.iload 4, 2) := by decide +kernel
theorem dX9_bestCard_44 : decode cX9_bestCard 44 = .ok (.invokevirtual 144, 3) := by decide +kernel
theorem dX9_bestCard_47 : decode cX9_bestCard 47 = .ok (.ifCond .eq 52, 3) := by decide +kernel
theorem dX9_bestCard_50 : decode cX9_bestCard 50 = .ok (.aload_n 0, 1) := by decide +kernel
theorem dX9_bestCard_51 : decode cX9_bestCard 51 = .ok (.iload_n 1, 1) := by decide +kernel
theorem dX9_bestCard_52 : decode cX9_bestCard 52 = .ok (.iload 4, 2) := by decide +kernel
theorem dX9_bestCard_54 : decode cX9_bestCard 54 = .ok (.invokevirtual 147, 3) := by decide +kernel
theorem dX9_bestCard_57 : decode cX9_bestCard 57 = .ok (.aload_n 0, 1) := by decide +kernel
theorem dX9_bestCard_58 : decode cX9_bestCard 58 = .ok (.aload_n 0, 1) := by decide +kernel
theorem dX9_bestCard_59 : decode cX9_bestCard 59 = .ok (.bipush 10, 2) := by decide +kernel
theorem dX9_bestCard_61 : decode cX9_bestCard 61 = .ok (.invokevirtual 138, 3) := by decide +kernel
theorem dX9_bestCard_64 : decode cX9_bestCard 64 = .ok (.invokevirtual 219, 3) := by decide +kernel
theorem dX9_bestCard_67 : decode cX9_bestCard 67 = .ok (.istore 5, 2) := by decide +kernel
theorem dX9_bestCard_69 : decode cX9_bestCard 69 = .ok (.aload_n 0, 1) := by decide +kernel
theorem dX9_bestCard_70 : decode cX9_bestCard 70 = .ok (.invokevirtual 200, 3) := by decide +kernel
theorem dX9_bestCard_73 : decode cX9_bestCard 73 = .ok (.iload 5, 2) := by decide +kernel
theorem dX9_bestCard_75 : decode cX9_bestCard 75 = .ok (.iload_n 2, 1) := by decide +kernel
theorem dX9_bestCard_76 : decode cX9_bestCard 76 = .ok (.if_icmp .le 8, 3) := by decide +kernel
theorem dX9_bestCard_79 : decode cX9_bestCard 79 = .ok (.iload 4, 2) := by decide +kernel
theorem dX9_bestCard_81 : decode cX9_bestCard 81 = .ok (.goto 4, 3) := by decide +kernel
theorem dX9_bestCard_84 : decode cX9_bestCard 84 = .ok (.iload_n 3, 1) := by decide +kernel
theorem dX9_bestCard_85 : decode cX9_bestCard 85 = .ok (.istore_n 3, 1) := by decide +kernel
theorem dX9_bestCard_86 : decode cX9_bestCard 86 = .ok (.iload 5, 2) := by decide +kernel
theorem dX9_bestCard_88 : decode cX9_bestCard 88 = .ok (.iload_n 2, 1) := by decide +kernel
theorem dX9_bestCard_89 : decode cX9_bestCard 89 = .ok (.if_icmp .le 8, 3) := by decide +kernel
theorem dX9_bestCard_92 : decode cX9_bestCard 92 = .ok (.iload 5, 2) := by decide +kernel
theorem dX9_bestCard_94 : decode cX9_bestCard 94 = .ok (.goto 4, 3) := by decide +kernel
theorem dX9_bestCard_97 : decode cX9_bestCard 97 = .ok (.iload_n 2, 1) := by decide +kernel
theorem dX9_bestCard_98 : decode cX9_bestCard 98 = .ok (.istore_n 2, 1) := by decide +kernel
theorem dX9_bestCard_99 : decode cX9_bestCard 99 = .ok (.iinc 4 1, 3) := by decide +kernel
theorem dX9_bestCard_102 : decode cX9_bestCard 102 = .ok (.goto (-68), 3) := by decide +kernel
theorem dX9_bestCard_105 : decode cX9_bestCard 105 = .ok (.iload_n 3, 1) := by decide +kernel
theorem dX9_bestCard_106 : decode cX9_bestCard 106 = .ok (.ireturn, 1) := by decide +kernel
end
section
theorem dX8_init_0 : decode cX8_init 0 = .ok (.aload_n 0, 1) := by decide +kernel
theorem dX8_init_1 : decode cX8_init 1 = .ok (.invokespecial 1, 3) := by decide +kernel
theorem dX8_init_4 : decode cX8_init 4 = .ok (.aload_n 0, 1) := by decide +kernel
theorem dX8_init_5 : decode cX8_init 5 = .ok (.new 7, 3) := by decide +kernel
theorem dX8_init_8 : decode cX8_init 8 = .ok (.dup, 1) := by decide +kernel
theorem dX8_init_9 : decode cX8_init 9 = .ok (.invokespecial 9, 3) := by decide +kernel
theorem dX8_init_12 : decode cX8_init 12 = .ok (.putfield 10, 3) := by decide +kernel
theorem dX8_init_15 : decode cX8_init 15 = .ok (.aload_n 0, 1) := by decide +kernel
theorem dX8_init_16 : decode cX8_init 16 = .ok (.new 16, 3) := by decide +kernel
theorem dX8_init_19 : decode cX8_init 19 = .ok (.dup, 1) := by decide +kernel
theorem dX8_init_20 : decode cX8_init 20 = .ok (.aload_n 0, 1) := by decide +kernel
theorem dX8_init_21 : decode cX8_init 21 = .ok (.getfield 10, 3) := by decide +kernel
theorem dX8_init_24 : decode cX8_init 24 = .ok (.invokespecial 18, 3) := by decide +kernel
theorem dX8_init_27 : decode cX8_init 27 = .ok (.putfield 21, 3) := by decide +kernel
theorem dX8_init_30 : decode cX8_init 30 = .ok (.aload_n 0, 1) := by decide +kernel
theorem dX8_init_31 : decode cX8_init 31 = .ok (.new 16, 3) := by decide +kernel
theorem dX8_init_34 : decode cX8_init 34 = .ok (.dup, 1) := by decide +kernel
theorem dX8_init_35 : decode cX8_init 35 = .ok (.aload_n 0, 1) := by decide +kernel
theorem dX8_init_36 : decode cX8_init 36 = .ok (.getfield 10, 3) := by decide +kernel
theorem dX8_init_39 : decode cX8_init 39 = .ok (.invokespecial 18, 3) := by decide +kernel
theorem dX8_init_42 : decode cX8_init 42 = .ok (.putfield 25, 3) := by decide +kernel
theorem dX8_init_45 : decode cX8_init 45 = .ok (.aload_n 0, 1) := by decide +kernel
theorem dX8_init_46 : decode cX8_init 46 = .ok (.new 16, 3) := by decide +kernel
theorem dX8_init_49 : decode cX8_init 49 = .ok (.dup, 1) := by decide +kernel
theorem dX8_init_50 : decode cX8_init 50 = .ok (.aload_n 0, 1) := by decide +kernel
theorem dX8_init_51 : decode cX8_init 51 = .ok (.getfield 10, 3) := by decide +kernel
theorem dX8_init_54 : decode cX8_init 54 = .ok (.invokespecial 18, 3) := by decide +kernel
theorem dX8_init_57 : decode cX8_init 57 = .ok (.putfield 28, 3) := by decide +kernel
theorem dX8_init_60 : decode cX8_init 60 = .ok (.aload_n 0, 1) := by decide +kernel
theorem dX8_init_61 : decode cX8_init 61 = .ok (.iconst 0, 1) := by decide +kernel
theorem dX8_init_62 : decode cX8_init 62 = .ok (.putfield 31, 3) := by decide +kernel
theorem dX8_init_65 : decode cX8_init 65 = .ok (.aload_n 0, 1) := by decide +kernel
theorem dX8_init_66 : decode cX8_init 66 = .ok (.new 35, 3) := by decide +kernel
theorem dX8_init_69 : decode cX8_init 69 = .ok (.dup, 1) := by decide +kernel
theorem dX8_init_70 : decode cX8_init 70 = .ok (.aload_n 0, 1) := by decide +kernel
theorem dX8_init_71 : decode cX8_init 71 = .ok (.getfield 10, 3) := by decide +kernel
theorem dX8_init_74 : decode cX8_init 74 = .ok (.invokespecial 37, 3) := by decide +kernel
theorem dX8_init_77 : decode cX8_init 77 = .ok (.putfield 38, 3) := by decide +kernel
theorem dX8_init_80 : decode cX8_init 80 = .ok (.aload_n 0, 1) := by decide +kernel
theorem dX8_init_81 : decode cX8_init 81 = .ok (.new 42, 3) := by decide +kernel
theorem dX8_init_84 : decode cX8_init 84 = .ok (.dup, 1) := by decide +kernel
theorem dX8_init_85 : decode cX8_init 85 = .ok (.invokespecial 44, 3) := by decide +kernel
theorem dX8_init_88 : decode cX8_init 88 = .ok (.putfield 45, 3) := by decide +kernel
theorem dX8_init_91 : decode cX8_init 91 = .ok (.return_, 1) := by decide +kernel
theorem dX8_rock_0 : decode cX8_rock 0 = .ok (.aload_n 0, 1) := by decide +kernel
theorem dX8_rock_1 : decode cX8_rock 1 = .ok (.getfield 21, 3) := by decide +kernel
theorem dX8_rock_4 : decode cX8_rock 4 = .ok (.iload_n 1, 1) := by decide +kernel
theorem dX8_rock_5 : decode cX8_rock 5 = .ok (.invokevirtual 49, 3) := by decide +kernel
theorem dX8_rock_8 : decode cX8_rock 8 = .ok (.istore_n 2, 1) := by decide +kernel
theorem dX8_rock_9 : decode cX8_rock 9 = .ok (.iload_n 2, 1) := by decide +kernel
theorem dX8_rock_10 : decode cX8_rock 10 = .ok (.ifCond .eq 5, 3) := by decide +kernel
theorem dX8_rock_13 : decode cX8_rock 13 = .ok (.iload_n 2, 1) := by decide +kernel
theorem dX8_rock_14 : decode cX8_rock 14 = .ok (.ireturn, 1) := by decide +kernel
theorem dX8_rock_15 : decode cX8_rock 15 = .ok (.aload_n 0, 1) := by decide +kernel
theorem dX8_rock_16 : decode cX8_rock 16 = .ok (.getfield 38, 3) := by decide +kernel
theorem dX8_rock_19 : decode cX8_rock 19 = .ok (.aload_n 0, 1) := by decide +kernel
theorem dX8_rock_20 : decode cX8_rock 20 = .ok (.getfield 21, 3) := by decide +kernel
theorem dX8_rock_23 : decode cX8_rock 23 = .ok (.invokevirtual 53, 3) := by decide +kernel
theorem dX8_rock_26 : decode cX8_rock 26 = .ok (.aload_n 0, 1) := by decide +kernel
theorem dX8_rock_27 : decode cX8_rock 27 = .ok (.getfield 21, 3) := by decide +kernel
theorem dX8_rock_30 : decode cX8_rock 30 = .ok (.iload_n 1, 1) := by decide +kernel
theorem dX8_rock_31 : decode cX8_rock 31 = .ok (.invokevirtual 57, 3) := by decide +kernel
theorem dX8_rock_34 : decode cX8_rock 34 = .ok (.aload_n 0, 1) := by decide +kernel
theorem dX8_rock_35 : decode cX8_rock 35 = .ok (.getfield 21, 3) := by decide +kernel
theorem dX8_rock_38 : decode cX8_rock 38 = .ok (.invokevirtual 61, 3) := by decide +kernel
theorem dX8_rock_41 : decode cX8_rock 41 = .ok (.ireturn, 1) := by decide +kernel
theorem dX8_light_0 : decode cX8_light 0 = .ok (.iload_n 1, 1) := by decide +kernel
theorem dX8_light_1 : decode cX8_light 1 = .ok (.invokestatic 65, 3) := by decide +kernel
theorem dX8_light_4 : decode cX8_light 4 = .ok (.ifCond .ne 5, 3) := by decide +kernel
theorem dX8_light_7 : decode cX8_light 7 = .ok (.iconst (-1), 1) := by decide +kernel
theorem dX8_light_8 : decode cX8_light 8 = .ok (.ireturn, 1) := by decide +kernel
theorem dX8_light_9 : decode cX8_light 9 = .ok (.iload_n 2, 1) := by decide +kernel
theorem dX8_light_10 : decode cX8_light 10 = .ok (.iload_n 3, 1) := by decide +kernel
theorem dX8_light_11 : decode cX8_light 11 = .ok (.invokestatic 69, 3) := by decide +kernel
theorem dX8_light_14 : decode cX8_light 14 = .ok (.ifCond .ne 6, 3) := by decide +kernel
theorem dX8_light_17 : decode cX8_light 17 = .ok (.bipush (-2), 2) := by decide +kernel
theorem dX8_light_19 : decode cX8_light 19 = .ok (.ireturn, 1) := by decide +kernel
theorem dX8_light_20 : decode cX8_light 20 = .ok (.aload_n 0, 1) := by decide +kernel
theorem dX8_light_21 : decode cX8_light 21 = .ok (.getfield 21, 3) := by decide +kernel
theorem dX8_light_24 : decode cX8_light 24 = .ok (.getfield 73, 3) := by decide +kernel
theorem dX8_light_27 : decode cX8_light 27 = .ok (.iload_n 1, 1) := by decide +kernel
theorem dX8_light_28 : decode cX8_light 28 = .ok (.aaload, 1) := by decide +kernel
theorem dX8_light_29 : decode cX8_light 29 = .ok (.iload_n 2, 1) := by decide +kernel
theorem dX8_light_30 : decode cX8_light 30 = .ok (.aload_n 0, 1) := by decide +kernel
theorem dX8_light_31 : decode cX8_light 31 = .ok (.getfield 21, 3) := by decide +kernel
theorem dX8_light_34 : decode cX8_light 34 = .ok (.getfield 77, 3) := by decide +kernel
theorem dX8_light_37 : decode cX8_light 37 = .ok (.invokevirtual 81, 3) := by decide +kernel
theorem dX8_light_40 : decode cX8_light 40 = .ok (.istore 4, 2) := by decide +kernel
theorem dX8_light_42 : decode cX8_light 42 = .ok (.iload 4, 2) := by decide +kernel
theorem dX8_light_44 : decode cX8_light 44 = .ok (.iload_n 3, 1) := by decide +kernel
theorem dX8_light_45 : decode cX8_light 45 = .ok (.if_icmp .ne 6, 3) := by decide +kernel
theorem dX8_light_48 : decode cX8_light 48 = .ok (.bipush (-5), 2) := by decide +kernel
theorem dX8_light_50 : decode cX8_light 50 = .ok (.ireturn, 1) := by decide +kernel
theorem dX8_light_51 : decode cX8_light 51 = .ok (.aload_n 0, 1) := by decide +kernel
theorem dX8_light_52 : decode cX8_light 52 = .ok (.getfield 38, 3) := by decide +kernel
theorem dX8_light_55 : decode cX8_light 55 = .ok (.aload_n 0, 1) := by decide +kernel
theorem dX8_light_56 : decode cX8_light 56 = .ok (.getfield 21, 3) := by decide +kernel
theorem dX8_light_59 : decode cX8_light 59 = .ok (.invokevirtual 53, 3) := by decide +kernel
theorem dX8_light_62 : decode cX8_light 62 = .ok (.aload_n 0, 1) := by decide +kernel
theorem dX8_light_63 : decode cX8_light 63 = .ok (.getfield 21, 3) := by decide +kernel
theorem dX8_light_66 : decode cX8_light 66 = .ok (.getfield 73, 3) := by decide +kernel
theorem dX8_light_69 : decode cX8_light 69 = .ok (.iload_n 1, 1) := by decide +kernel
theorem dX8_light_70 : decode cX8_light 70 = .ok (.aaload, 1) := by decide +kernel
theorem dX8_light_71 : decode cX8_light 71 = .ok (.iload_n 2, 1) := by decide +kernel
theorem dX8_light_72 : decode cX8_light 72 = .ok (.iload_n 3, 1) := by decide +kernel
theorem dX8_light_73 : decode cX8_light 73 = .ok (.invokevirtual 87, 3) := by decide +kernel
theorem dX8_light_76 : decode cX8_light 76 = .ok (.iload 4, 2) := by decide +kernel
theorem dX8_light_78 : decode cX8_light 78 = .ok (.ireturn, 1) := by decide +kernel
theorem dX8_ship_0 : decode cX8_ship 0 = .ok (.aload_n 0, 1) := by decide +kernel
theorem dX8_ship_1 : decode cX8_ship 1 = .ok (.getfield 21, 3) := by decide +kernel
theorem dX8_ship_4 : decode cX8_ship 4 = .ok (.iload_n 1, 1) := by decide +kernel
theorem dX8_ship_5 : decode cX8_ship 5 = .ok (.iload_n 2, 1) := by decide +kernel
theorem dX8_ship_6 : decode cX8_ship 6 = .ok (.iload_n 3, 1) := by decide +kernel
theorem dX8_ship_7 : decode cX8_ship 7 = .ok (.invokevirtual 91, 3) := by decide +kernel
theorem dX8_ship_10 : decode cX8_ship 10 = .ok (.istore 4, 2) := by decide +kernel
theorem dX8_ship_12 : decode cX8_ship 12 = .ok (.iload 4, 2) := by decide +kernel
theorem dX8_ship_14 : decode cX8_ship 14 = .ok (.ifCond .eq 6, 3) := by decide +kernel
theorem dX8_ship_17 : decode cX8_ship 17 = .ok (.iload 4, 2) := by decide +kernel
theorem dX8_ship_19 : decode cX8_ship 19 = .ok (.ireturn, 1) := by decide +kernel
theorem dX8_ship_20 : decode cX8_ship 20 = .ok (.aload_n 0, 1) := by decide +kernel
theorem dX8_ship_21 : decode cX8_ship 21 = .ok (.getfield 38, 3) := by decide +kernel
theorem dX8_ship_24 : decode cX8_ship 24 = .ok (.aload_n 0, 1) := by decide +kernel
theorem dX8_ship_25 : decode cX8_ship 25 = .ok (.getfield 21, 3) := by decide +kernel
theorem dX8_ship_28 : decode cX8_ship 28 = .ok (.invokevirtual 53, 3) := by decide +kernel
theorem dX8_ship_31 : decode cX8_ship 31 = .ok (.aload_n 0, 1) := by decide +kernel
theorem dX8_ship_32 : decode cX8_ship 32 = .ok (.getfield 21, 3) := by decide +kernel
theorem dX8_ship_35 : decode cX8_ship 35 = .ok (.iload_n 1, 1) := by decide +kernel
theorem dX8_ship_36 : decode cX8_ship 36 = .ok (.iload_n 2, 1) := by decide +kernel
theorem dX8_ship_37 : decode cX8_ship 37 = .ok (.iload_n 3, 1) := by decide +kernel
theorem dX8_ship_38 : decode cX8_ship 38 = .ok (.invokevirtual 95, 3) := by decide +kernel
theorem dX8_ship_41 : decode cX8_ship 41 = .ok (.ireturn, 1) := by decide +kernel
theorem dX8_doAll_0 : decode cX8_doAll 0 = .ok (.aload_n 0, 1) := by decide +kernel
theorem dX8_doAll_1 : decode cX8_doAll 1 = .ok (.getfield 45, 3) := by decide +kernel
theorem dX8_doAll_4 : decode cX8_doAll 4 = .ok (.invokevirtual 98, 3) := by decide +kernel
theorem dX8_doAll_7 : decode cX8_doAll 7 = .ok (.istore_n 1, 1) := by decide +kernel
theorem dX8_doAll_8 : decode cX8_doAll 8 = .ok (.iload_n 1, 1) := by decide +kernel
theorem dX8_doAll_9 : decode cX8_doAll 9 = .ok (.bipush (-5), 2) := by decide +kernel
theorem dX8_doAll_11 : decode cX8_doAll 11 = .ok (.if_icmp .eq 8, 3) := by decide +kernel
theorem dX8_doAll_14 : decode cX8_doAll 14 = .ok (.bipush (-100), 2) := by decide +kernel
theorem dX8_doAll_16 : decode cX8_doAll 16 = .ok (.iload_n 1, 1) := by decide +kernel
theorem dX8_doAll_17 : decode cX8_doAll 17 = .ok (.isub, 1) := by decide +kernel
theorem dX8_doAll_18 : decode cX8_doAll 18 = .ok (.ireturn, 1) := by decide +kernel
theorem dX8_doAll_19 : decode cX8_doAll 19 = .ok (.aload_n 0, 1) := by decide +kernel
theorem dX8_doAll_20 : decode cX8_doAll 20 = .ok (.getfield 25, 3) := by decide +kernel
theorem dX8_doAll_23 : decode cX8_doAll 23 = .ok (.aload_n 0, 1) := by decide +kernel
theorem dX8_doAll_24 : decode cX8_doAll 24 = .ok (.getfield 21, 3) := by decide +kernel
theorem dX8_doAll_27 : decode cX8_doAll 27 = .ok (.invokevirtual 101, 3) := by decide +kernel
theorem dX8_doAll_30 : decode cX8_doAll 30 = .ok (.iconst 0, 1) := by decide +kernel
theorem dX8_doAll_31 : decode cX8_doAll 31 = .ok (.istore_n 2, 1) := by decide +kernel
theorem dX8_doAll_32 : decode cX8_doAll 32 = .ok (.iload_n 2, 1) := by decide +kernel
theorem dX8_doAll_33 : decode cX8_doAll 33 = .ok (.aload_n 0, 1) := by decide +kernel
theorem dX8_doAll_34 : decode cX8_doAll 34 = .ok (.getfield 45, 3) := by decide +kernel
theorem dX8_doAll_37 : decode cX8_doAll 37 = .ok (.getfield 104, 3) := by decide +kernel
theorem dX8_doAll_40 : decode cX8_doAll 40 = .ok (.if_icmp .ge 32, 3) := by decide +kernel
theorem dX8_doAll_43 : decode cX8_doAll 43 = .ok (.aload_n 0, 1) := by decide +kernel
theorem dX8_doAll_44 : decode cX8_doAll 44 = .ok (.getfield 25, 3) := by decide +kernel
theorem dX8_doAll_47 : decode cX8_doAll 47 = .ok (.aload_n 0, 1) := by decide +kernel
theorem dX8_doAll_48 : decode cX8_doAll 48 = .ok (.getfield 45, 3) := by decide +kernel
theorem dX8_doAll_51 : decode cX8_doAll 51 = .ok (.getfield 107, 3) := by decide +kernel
theorem dX8_doAll_54 : decode cX8_doAll 54 = .ok (.iload_n 2, 1) := by decide +kernel
theorem dX8_doAll_55 : decode cX8_doAll 55 = .ok (.aaload, 1) := by decide +kernel
theorem dX8_doAll_56 : decode cX8_doAll 56 = .ok (.invokevirtual 111, 3) := by decide +kernel
theorem dX8_doAll_59 : decode cX8_doAll 59 = .ok (.istore_n 3, 1) := by decide +kernel
theorem dX8_doAll_60 : decode cX8_doAll 60 = .ok (.iload_n 3, 1) := by decide +kernel
theorem dX8_doAll_61 : decode cX8_doAll 61 = .ok (.ifCond .eq 5, 3) := by decide +kernel
theorem dX8_doAll_64 : decode cX8_doAll 64 = .ok (.iload_n 3, 1) := by decide +kernel
theorem dX8_doAll_65 : decode cX8_doAll 65 = .ok (.ireturn, 1) := by decide +kernel
theorem dX8_doAll_66 : decode cX8_doAll 66 = .ok (.iinc 2 1, 3) := by decide +kernel
theorem dX8_doAll_69 : decode cX8_doAll 69 = .ok (.goto (-37), 3) := by decide +kernel
theorem dX8_doAll_72 : decode cX8_doAll 72 = .ok (.aload_n 0, 1) := by decide +kernel
theorem dX8_doAll_73 : decode cX8_doAll 73 = .ok (.getfield 38, 3) := by decide +kernel
theorem dX8_doAll_76 : decode cX8_doAll 76 = .ok (.aload_n 0, 1) := by decide +kernel
theorem dX8_doAll_77 : decode cX8_doAll 77 = .ok (.getfield 21, 3) := by decide +kernel
theorem dX8_doAll_80 : decode cX8_doAll 80 = .ok (.invokevirtual 53, 3) := by decide +kernel
theorem dX8_doAll_83 : decode cX8_doAll 83 = .ok (.aload_n 0, 1) := by decide +kernel
theorem dX8_doAll_84 : decode cX8_doAll 84 = .ok (.getfield 21, 3) := by decide +kernel
theorem dX8_doAll_87 : decode cX8_doAll 87 = .ok (.aload_n 0, 1) := by decide +kernel
theorem dX8_doAll_88 : decode cX8_doAll 88 = .ok (.getfield 25, 3) := by decide +kernel
theorem dX8_doAll_91 : decode cX8_doAll 91 = .ok (.invokevirtual 101, 3) := by decide +kernel
theorem dX8_doAll_94 : decode cX8_doAll 94 = .ok (.aload_n 0, 1) := by decide +kernel
theorem dX8_doAll_95 : decode cX8_doAll 95 = .ok (.getfield 45, 3) := by decide +kernel
theorem dX8_doAll_98 : decode cX8_doAll 98 = .ok (.getfield 104, 3) := by decide +kernel
theorem dX8_doAll_101 : decode cX8_doAll 101 = .ok (.ireturn, 1) := by decide +kernel
theorem dX8_card_0 : decode cX8_card 0 = .ok (.iload_n 1, 1) := by decide +kernel
theorem dX8_card_1 : decode cX8_card 1 = .ok (.invokestatic 65, 3) := by decide +kernel
theorem dX8_card_4 : decode cX8_card 4 = .ok (.ifCond .eq 10, 3) := by decide +kernel
theorem dX8_card_7 : decode cX8_card 7 = .ok (.iload_n 2, 1) := by decide +kernel
theorem dX8_card_8 : decode cX8_card 8 = .ok (.invokestatic 65, 3) := by decide +kernel
theorem dX8_card_11 : decode cX8_card 11 = .ok (.ifCond .ne 5, 3) := by decide +kernel
theorem dX8_card_14 : decode cX8_card 14 = .ok (.iconst (-1), 1) := by decide +kernel
theorem dX8_card_15 : decode cX8_card 15 = .ok (.ireturn, 1) := by decide +kernel
theorem dX8_card_16 : decode cX8_card 16 = .ok (.aload_n 0, 1) := by decide +kernel
theorem dX8_card_17 : decode cX8_card 17 = .ok (.getfield 21, 3) := by decide +kernel
theorem dX8_card_20 : decode cX8_card 20 = .ok (.iload_n 1, 1) := by decide +kernel
theorem dX8_card_21 : decode cX8_card 21 = .ok (.iload_n 2, 1) := by decide +kernel
theorem dX8_card_22 : decode cX8_card 22 = .ok (.invokevirtual 115, 3) := by decide +kernel
theorem dX8_card_25 : decode cX8_card 25 = .ok (.ifCond .ne 6, 3) := by decide +kernel
theorem dX8_card_28 : decode cX8_card 28 = .ok (.bipush (-4), 2) := by decide +kernel
theorem dX8_card_30 : decode cX8_card 30 = .ok (.ireturn, 1) := by decide +kernel
theorem dX8_card_31 : decode cX8_card 31 = .ok (.aload_n 0, 1) := by decide +kernel
theorem dX8_card_32 : decode cX8_card 32 = .ok (.getfield 38, 3) := by decide +kernel
theorem dX8_card_35 : decode cX8_card 35 = .ok (.aload_n 0, 1) := by decide +kernel
theorem dX8_card_36 : decode cX8_card 36 = .ok (.getfield 21, 3) := by decide +kernel
theorem dX8_card_39 : decode cX8_card 39 = .ok (.invokevirtual 53, 3) := by decide +kernel
theorem dX8_card_42 : decode cX8_card 42 = .ok (.aload_n 0, 1) := by decide +kernel
theorem dX8_card_43 : decode cX8_card 43 = .ok (.getfield 21, 3) := by decide +kernel
theorem dX8_card_46 : decode cX8_card 46 = .ok (.getfield 118, 3) := by decide +kernel
theorem dX8_card_49 : decode cX8_card 49 = .ok (.iload_n 1, 1) := by decide +kernel
theorem dX8_card_50 : decode cX8_card 50 = .ok (.aaload, 1) := by decide +kernel
theorem dX8_card_51 : decode cX8_card 51 = .ok (.dup, 1) := by decide +kernel
theorem dX8_card_52 : decode cX8_card 52 = .ok (.getfield 122, 3) := by decide +kernel
theorem dX8_card_55 : decode cX8_card 55 = .ok (.iconst 1, 1) := by decide +kernel
theorem dX8_card_56 : decode cX8_card 56 = .ok (.isub, 1) := by decide +kernel
theorem dX8_card_57 : decode cX8_card 57 = .ok (.putfield 122, 3) := by decide +kernel
theorem dX8_card_60 : decode cX8_card 60 = .ok (.aload_n 0, 1) := by decide +kernel
theorem dX8_card_61 : decode cX8_card 61 = .ok (.getfield 21, 3) := by decide +kernel
theorem dX8_card_64 : decode cX8_card 64 = .ok (.getfield 73, 3) := by decide +kernel
theorem dX8_card_67 : decode cX8_card 67 = .ok (.iload_n 2, 1) := by decide +kernel
theorem dX8_card_68 : decode cX8_card 68 = .ok (.aaload, 1) := by decide +kernel
theorem dX8_card_69 : decode cX8_card 69 = .ok (.invokevirtual 127, 3) := by decide +kernel
theorem dX8_card_72 : decode cX8_card 72 = .ok (.aload_n 0, 1) := by decide +kernel
theorem dX8_card_73 : decode cX8_card 73 = .ok (.getfield 21, 3) := by decide +kernel
theorem dX8_card_76 : decode cX8_card 76 = .ok (.getfield 73, 3) := by decide +kernel
theorem dX8_card_79 : decode cX8_card 79 = .ok (.iload_n 2, 1) := by decide +kernel
theorem dX8_card_80 : decode cX8_card 80 = .ok (.aaload, 1) := by decide +kernel
theorem dX8_card_81 : decode cX8_card 81 = .ok (.getfield 130, 3) := by decide +kernel
theorem dX8_card_84 : decode cX8_card 84 = .ok (.ireturn, 1) := by decide +kernel
theorem dX8_pass_0 : decode cX8_pass 0 = .ok (.aload_n 0, 1) := by decide +kernel
theorem dX8_pass_1 : decode cX8_pass 1 = .ok (.getfield 21, 3) := by decide +kernel
theorem dX8_pass_4 : decode cX8_pass 4 = .ok (.iload_n 1, 1) := by decide +kernel
theorem dX8_pass_5 : decode cX8_pass 5 = .ok (.invokevirtual 133, 3) := by decide +kernel
theorem dX8_pass_8 : decode cX8_pass 8 = .ok (.istore_n 2, 1) := by decide +kernel
theorem dX8_pass_9 : decode cX8_pass 9 = .ok (.iload_n 2, 1) := by decide +kernel
theorem dX8_pass_10 : decode cX8_pass 10 = .ok (.ifCond .eq 5, 3) := by decide +kernel
theorem dX8_pass_13 : decode cX8_pass 13 = .ok (.iload_n 2, 1) := by decide +kernel
theorem dX8_pass_14 : decode cX8_pass 14 = .ok (.ireturn, 1) := by decide +kernel
theorem dX8_pass_15 : decode cX8_pass 15 = .ok (.aload_n 0, 1) := by decide +kernel
theorem dX8_pass_16 : decode cX8_pass 16 = .ok (.getfield 38, 3) := by decide +kernel
theorem dX8_pass_19 : decode cX8_pass 19 = .ok (.aload_n 0, 1) := by decide +kernel
theorem dX8_pass_20 : decode cX8_pass 20 = .ok (.getfield 21, 3) := by decide +kernel
theorem dX8_pass_23 : decode cX8_pass 23 = .ok (.invokevirtual 53, 3) := by decide +kernel
theorem dX8_pass_26 : decode cX8_pass 26 = .ok (.aload_n 0, 1) := by decide +kernel
theorem dX8_pass_27 : decode cX8_pass 27 = .ok (.getfield 21, 3) := by decide +kernel
theorem dX8_pass_30 : decode cX8_pass 30 = .ok (.iload_n 1, 1) := by decide +kernel
theorem dX8_pass_31 : decode cX8_pass 31 = .ok (.invokevirtual 136, 3) := by decide +kernel
theorem dX8_pass_34 : decode cX8_pass 34 = .ok (.ireturn, 1) := by decide +kernel
theorem dX8_wage_0 : decode cX8_wage 0 = .ok (.iload_n 1, 1) := by decide +kernel
theorem dX8_wage_1 : decode cX8_wage 1 = .ok (.ifCond .lt 9, 3) := by decide +kernel
theorem dX8_wage_4 : decode cX8_wage 4 = .ok (.iload_n 1, 1) := by decide +kernel
theorem dX8_wage_5 : decode cX8_wage 5 = .ok (.bipush 9, 2) := by decide +kernel
theorem dX8_wage_7 : decode cX8_wage 7 = .ok (.if_icmp .le 6, 3) := by decide +kernel
theorem dX8_wage_10 : decode cX8_wage 10 = .ok (.bipush (-2), 2) := by decide +kernel
theorem dX8_wage_12 : decode cX8_wage 12 = .ok (.ireturn, 1) := by decide +kernel
theorem dX8_wage_13 : decode cX8_wage 13 = .ok (.aload_n 0, 1) := by decide +kernel
theorem dX8_wage_14 : decode cX8_wage 14 = .ok (.getfield 21, 3) := by decide +kernel
theorem dX8_wage_17 : decode cX8_wage 17 = .ok (.getfield 139, 3) := by decide +kernel
theorem dX8_wage_20 : decode cX8_wage 20 = .ok (.istore_n 2, 1) := by decide +kernel
theorem dX8_wage_21 : decode cX8_wage 21 = .ok (.iload_n 2, 1) := by decide +kernel
theorem dX8_wage_22 : decode cX8_wage 22 = .ok (.iload_n 1, 1) := by decide +kernel
theorem dX8_wage_23 : decode cX8_wage 23 = .ok (.if_icmp .ne 6, 3) := by decide +kernel
theorem dX8_wage_26 : decode cX8_wage 26 = .ok (.bipush (-5), 2) := by decide +kernel
theorem dX8_wage_28 : decode cX8_wage 28 = .ok (.ireturn, 1) := by decide +kernel
theorem dX8_wage_29 : decode cX8_wage 29 = .ok (.aload_n 0, 1) := by decide +kernel
theorem dX8_wage_30 : decode cX8_wage 30 = .ok (.getfield 38, 3) := by decide +kernel
theorem dX8_wage_33 : decode cX8_wage 33 = .ok (.aload_n 0, 1) := by decide +kernel
theorem dX8_wage_34 : decode cX8_wage 34 = .ok (.getfield 21, 3) := by decide +kernel
theorem dX8_wage_37 : decode cX8_wage 37 = .ok (.invokevirtual 53, 3) := by decide +kernel
theorem dX8_wage_40 : decode cX8_wage 40 = .ok (.aload_n 0, 1) := by decide +kernel
theorem dX8_wage_41 : decode cX8_wage 41 = .ok (.getfield 21, 3) := by decide +kernel
theorem dX8_wage_44 : decode cX8_wage 44 = .ok (.iload_n 1, 1) := by decide +kernel
theorem dX8_wage_45 : decode cX8_wage 45 = .ok (.putfield 139, 3) := by decide +kernel
theorem dX8_wage_48 : decode cX8_wage 48 = .ok (.iload_n 2, 1) := by decide +kernel
theorem dX8_wage_49 : decode cX8_wage 49 = .ok (.ireturn, 1) := by decide +kernel
theorem dX8_type_0 : decode cX8_type 0 = .ok (.aload_n 0, 1) := by decide +kernel
theorem dX8_type_1 : decode cX8_type 1 = .ok (.getfield 45, 3) := by decide +kernel
theorem dX8_type_4 : decode cX8_type 4 = .ok (.iload_n 1, 1) := by decide +kernel
theorem dX8_type_5 : decode cX8_type 5 = .ok (.invokevirtual 142, 3) := by decide +kernel
theorem dX8_type_8 : decode cX8_type 8 = .ok (.ireturn, 1) := by decide +kernel
theorem dX8_clearText_0 : decode cX8_clearText 0 = .ok (.aload_n 0, 1) := by decide +kernel
theorem dX8_clearText_1 : decode cX8_clearText 1 = .ok (.getfield 45, 3) := by decide +kernel
theorem dX8_clearText_4 : decode cX8_clearText 4 = .ok (.getfield 146, 3) := by decide +kernel
theorem dX8_clearText_7 : decode cX8_clearText 7 = .ok (.istore_n 1, 1) := by decide +kernel
theorem dX8_clearText_8 : decode cX8_clearText 8 = .ok (.aload_n 0, 1) := by decide +kernel
theorem dX8_clearText_9 : decode cX8_clearText 9 = .ok (.getfield 45, 3) := by decide +kernel
theorem dX8_clearText_12 : decode cX8_clearText 12 = .ok (.iconst 0, 1) := by decide +kernel
theorem dX8_clearText_13 : decode cX8_clearText 13 = .ok (.putfield 146, 3) := by decide +kernel
theorem dX8_clearText_16 : decode cX8_clearText 16 = .ok (.iload_n 1, 1) := by decide +kernel
theorem dX8_clearText_17 : decode cX8_clearText 17 = .ok (.ireturn, 1) := by decide +kernel
theorem dX8_fault_0 : decode cX8_fault 0 = .ok (.aload_n 0, 1) := by decide +kernel
theorem dX8_fault_1 : decode cX8_fault 1 = .ok (.getfield 45, 3) := by decide +kernel
theorem dX8_fault_4 : decode cX8_fault 4 = .ok (.invokevirtual 98, 3) := by decide +kernel
theorem dX8_fault_7 : decode cX8_fault 7 = .ok (.ireturn, 1) := by decide +kernel
theorem dX8_undo_0 : decode cX8_undo 0 = .ok (.aload_n 0, 1) := by decide +kernel
theorem dX8_undo_1 : decode cX8_undo 1 = .ok (.getfield 38, 3) := by decide +kernel
theorem dX8_undo_4 : decode cX8_undo 4 = .ok (.aload_n 0, 1) := by decide +kernel
theorem dX8_undo_5 : decode cX8_undo 5 = .ok (.getfield 21, 3) := by decide +kernel
theorem dX8_undo_8 : decode cX8_undo 8 = .ok (.invokevirtual 149, 3) := by decide +kernel
theorem dX8_undo_11 : decode cX8_undo 11 = .ok (.ireturn, 1) := by decide +kernel
theorem dX8_keep_0 : decode cX8_keep 0 = .ok (.aload_n 0, 1) := by decide +kernel
theorem dX8_keep_1 : decode cX8_keep 1 = .ok (.getfield 28, 3) := by decide +kernel
theorem dX8_keep_4 : decode cX8_keep 4 = .ok (.aload_n 0, 1) := by decide +kernel
theorem dX8_keep_5 : decode cX8_keep 5 = .ok (.getfield 21, 3) := by decide +kernel
theorem dX8_keep_8 : decode cX8_keep 8 = .ok (.invokevirtual 101, 3) := by decide +kernel
theorem dX8_keep_11 : decode cX8_keep 11 = .ok (.aload_n 0, 1) := by decide +kernel
theorem dX8_keep_12 : decode cX8_keep 12 = .ok (.iconst 1, 1) := by decide +kernel
theorem dX8_keep_13 : decode cX8_keep 13 = .ok (.putfield 31, 3) := by decide +kernel
theorem dX8_keep_16 : decode cX8_keep 16 = .ok (.aload_n 0, 1) := by decide +kernel
theorem dX8_keep_17 : decode cX8_keep 17 = .ok (.getfield 21, 3) := by decide +kernel
theorem dX8_keep_20 : decode cX8_keep 20 = .ok (.getfield 77, 3) := by decide +kernel
theorem dX8_keep_23 : decode cX8_keep 23 = .ok (.ireturn, 1) := by decide +kernel
theorem dX8_restore_0 : decode cX8_restore 0 = .ok (.aload_n 0, 1) := by decide +kernel
theorem dX8_restore_1 : decode cX8_restore 1 = .ok (.getfield 31, 3) := by decide +kernel
theorem dX8_restore_4 : decode cX8_restore 4 = .ok (.ifCond .ne 6, 3) := by decide +kernel
theorem dX8_restore_7 : decode cX8_restore 7 = .ok (.bipush (-5), 2) := by decide +kernel
theorem dX8_restore_9 : decode cX8_restore 9 = .ok (.ireturn, 1) := by decide +kernel
theorem dX8_restore_10 : decode cX8_restore 10 = .ok (.aload_n 0, 1) := by decide +kernel
theorem dX8_restore_11 : decode cX8_restore 11 = .ok (.getfield 38, 3) := by decide +kernel
theorem dX8_restore_14 : decode cX8_restore 14 = .ok (.aload_n 0, 1) := by decide +kernel
theorem dX8_restore_15 : decode cX8_restore 15 = .ok (.getfield 21, 3) := by decide +kernel
theorem dX8_restore_18 : decode cX8_restore 18 = .ok (.invokevirtual 53, 3) := by decide +kernel
theorem dX8_restore_21 : decode cX8_restore 21 = .ok (.aload_n 0, 1) := by decide +kernel
theorem dX8_restore_22 : decode cX8_restore 22 = .ok (.getfield 21, 3) := by decide +kernel
theorem dX8_restore_25 : decode cX8_restore 25 = .ok (.aload_n 0, 1) := by decide +kernel
theorem dX8_restore_26 : decode cX8_restore 26 = .ok (.getfield 28, 3) := by decide +kernel
theorem dX8_restore_29 : decode cX8_restore 29 = .ok (.invokevirtual 101, 3) := by decide +kernel
theorem dX8_restore_32 : decode cX8_restore 32 = .ok (.aload_n 0, 1) := by decide +kernel
theorem dX8_restore_33 : decode cX8_restore 33 = .ok (.getfield 21, 3) := by decide +kernel
theorem dX8_restore_36 : decode cX8_restore 36 = .ok (.getfield 77, 3) := by decide +kernel
theorem dX8_restore_39 : decode cX8_restore 39 = .ok (.ireturn, 1) := by decide +kernel
theorem dX8_cellOf_0 : decode cX8_cellOf 0 = .ok (.iload_n 1, 1) := by decide +kernel
theorem dX8_cellOf_1 : decode cX8_cellOf 1 = .ok (.invokestatic 153, 3) := by decide +kernel
theorem dX8_cellOf_4 : decode cX8_cellOf 4 = .ok (.ifCond .ne 5, 3) := by decide +kernel
theorem dX8_cellOf_7 : decode cX8_cellOf 7 = .ok (.iconst (-1), 1) := by decide +kernel
theorem dX8_cellOf_8 : decode cX8_cellOf 8 = .ok (.ireturn, 1) := by decide +kernel
theorem dX8_cellOf_9 : decode cX8_cellOf 9 = .ok (.iload_n 2, 1) := by decide +kernel
theorem dX8_cellOf_10 : decode cX8_cellOf 10 = .ok (.tableswitch 83 0 3 #[30, 47, 56, 73], 30) := by decide +kernel
theorem dX8_cellOf_40 : decode cX8_cellOf 40 = .ok (.aload_n 0, 1) := by decide +kernel
theorem dX8_cellOf_41 : decode cX8_cellOf 41 = .ok (.getfield 21, 3) := by decide +kernel
theorem dX8_cellOf_44 : decode cX8_cellOf 44 = .ok (.iload_n 1, 1) := by decide +kernel
theorem dX8_cellOf_45 : decode cX8_cellOf 45 = .ok (.invokevirtual 156, 3) := by decide +kernel
theorem dX8_cellOf_48 : decode cX8_cellOf 48 = .ok (.ifCond .eq 7, 3) := by decide +kernel
theorem dX8_cellOf_51 : decode cX8_cellOf 51 = .ok (.iconst 1, 1) := by decide +kernel
theorem dX8_cellOf_52 : decode cX8_cellOf 52 = .ok (.goto 4, 3) := by decide +kernel
theorem dX8_cellOf_55 : decode cX8_cellOf 55 = .ok (.iconst 0, 1) := by decide +kernel
theorem dX8_cellOf_56 : decode cX8_cellOf 56 = .ok (.ireturn, 1) := by decide +kernel
theorem dX8_cellOf_57 : decode cX8_cellOf 57 = .ok (.aload_n 0, 1) := by decide +kernel
theorem dX8_cellOf_58 : decode cX8_cellOf 58 = .ok (.getfield 21, 3) := by decide +kernel
theorem dX8_cellOf_61 : decode cX8_cellOf 61 = .ok (.iload_n 1, 1) := by decide +kernel
theorem dX8_cellOf_62 : decode cX8_cellOf 62 = .ok (.invokevirtual 159, 3) := by decide +kernel
theorem dX8_cellOf_65 : decode cX8_cellOf 65 = .ok (.ireturn, 1) := by decide +kernel
theorem dX8_cellOf_66 : decode cX8_cellOf 66 = .ok (.aload_n 0, 1) := by decide +kernel
theorem dX8_cellOf_67 : decode cX8_cellOf 67 = .ok (.getfield 21, 3) := by decide +kernel
theorem dX8_cellOf_70 : decode cX8_cellOf 70 = .ok (.iload_n 1, 1) := by decide +kernel
theorem dX8_cellOf_71 : decode cX8_cellOf 71 = .ok (.aload_n 0, 1) := by decide +kernel
theorem dX8_cellOf_72 : decode cX8_cellOf 72 = .ok (.getfield 21, 3) := by decide +kernel
theorem dX8_cellOf_75 : decode cX8_cellOf 75 = .ok (.getfield 77, 3) := by decide +kernel
theorem dX8_cellOf_78 : decode cX8_cellOf 78 = .ok (.iconst 0, 1) := by decide +kernel
theorem dX8_cellOf_79 : decode cX8_cellOf 79 = .ok (.invokevirtual 162, 3) := by decide +kernel
theorem dX8_cellOf_82 : decode cX8_cellOf 82 = .ok (.ireturn, 1) := by decide +kernel
theorem dX8_cellOf_83 : decode cX8_cellOf 83 = .ok (.aload_n 0, 1) := by decide +kernel
theorem dX8_cellOf_84 : decode cX8_cellOf 84 = .ok (.getfield 10, 3) := by decide +kernel
theorem dX8_cellOf_87 : decode cX8_cellOf 87 = .ok (.getfield 165, 3) := by decide +kernel
theorem dX8_cellOf_90 : decode cX8_cellOf 90 = .ok (.iload_n 1, 1) := by decide +kernel
theorem dX8_cellOf_91 : decode cX8_cellOf 91 = .ok (.iaload, 1) := by decide +kernel
theorem dX8_cellOf_92 : decode cX8_cellOf 92 = .ok (.ireturn, 1) := by decide +kernel
theorem dX8_cellOf_93 : decode cX8_cellOf 93 = .ok (.bipush (-2), 2) := by decide +kernel
theorem dX8_cellOf_95 : decode cX8_cellOf 95 = .ok (.ireturn, 1) := by decide +kernel
theorem dX8_lightOf_0 : decode cX8_lightOf 0 = .ok (.iload_n 1, 1) := by decide +kernel
theorem dX8_lightOf_1 : decode cX8_lightOf 1 = .ok (.invokestatic 65, 3) := by decide +kernel
theorem dX8_lightOf_4 : decode cX8_lightOf 4 = .ok (.ifCond .ne 5, 3) := by decide +kernel
theorem dX8_lightOf_7 : decode cX8_lightOf 7 = .ok (.iconst (-1), 1) := by decide +kernel
theorem dX8_lightOf_8 : decode cX8_lightOf 8 = .ok (.ireturn, 1) := by decide +kernel
theorem dX8_lightOf_9 : decode cX8_lightOf 9 = .ok (.aload_n 0, 1) := by decide +kernel
theorem dX8_lightOf_10 : decode cX8_lightOf 10 = .ok (.getfield 21, 3) := by decide +kernel
theorem dX8_lightOf_13 : decode cX8_lightOf 13 = .ok (.getfield 73, 3) := by decide +kernel
theorem dX8_lightOf_16 : decode cX8_lightOf 16 = .ok (.iload_n 1, 1) := by decide +kernel
theorem dX8_lightOf_17 : decode cX8_lightOf 17 = .ok (.aaload, 1) := by decide +kernel
theorem dX8_lightOf_18 : decode cX8_lightOf 18 = .ok (.iload_n 2, 1) := by decide +kernel
theorem dX8_lightOf_19 : decode cX8_lightOf 19 = .ok (.aload_n 0, 1) := by decide +kernel
theorem dX8_lightOf_20 : decode cX8_lightOf 20 = .ok (.getfield 21, 3) := by decide +kernel
theorem dX8_lightOf_23 : decode cX8_lightOf 23 = .ok (.getfield 77, 3) := by decide +kernel
theorem dX8_lightOf_26 : decode cX8_lightOf 26 = .ok (.invokevirtual 81, 3) := by decide +kernel
theorem dX8_lightOf_29 : decode cX8_lightOf 29 = .ok (.ireturn, 1) := by decide +kernel
theorem dX8_keeperOf_0 : decode cX8_keeperOf 0 = .ok (.iload_n 1, 1) := by decide +kernel
theorem dX8_keeperOf_1 : decode cX8_keeperOf 1 = .ok (.invokestatic 65, 3) := by decide +kernel
theorem dX8_keeperOf_4 : decode cX8_keeperOf 4 = .ok (.ifCond .ne 5, 3) := by decide +kernel
theorem dX8_keeperOf_7 : decode cX8_keeperOf 7 = .ok (.iconst (-1), 1) := by decide +kernel
theorem dX8_keeperOf_8 : decode cX8_keeperOf 8 = .ok (.ireturn, 1) := by decide +kernel
theorem dX8_keeperOf_9 : decode cX8_keeperOf 9 = .ok (.aload_n 0, 1) := by decide +kernel
theorem dX8_keeperOf_10 : decode cX8_keeperOf 10 = .ok (.getfield 21, 3) := by decide +kernel
theorem dX8_keeperOf_13 : decode cX8_keeperOf 13 = .ok (.getfield 118, 3) := by decide +kernel
theorem dX8_keeperOf_16 : decode cX8_keeperOf 16 = .ok (.iload_n 1, 1) := by decide +kernel
theorem dX8_keeperOf_17 : decode cX8_keeperOf 17 = .ok (.aaload, 1) := by decide +kernel
theorem dX8_keeperOf_18 : decode cX8_keeperOf 18 = .ok (.iload_n 2, 1) := by decide +kernel
theorem dX8_keeperOf_19 : decode cX8_keeperOf 19 = .ok (.invokevirtual 169, 3) := by decide +kernel
theorem dX8_keeperOf_22 : decode cX8_keeperOf 22 = .ok (.ireturn, 1) := by decide +kernel
theorem dX8_shipOf_0 : decode cX8_shipOf 0 = .ok (.iload_n 1, 1) := by decide +kernel
theorem dX8_shipOf_1 : decode cX8_shipOf 1 = .ok (.ifCond .lt 14, 3) := by decide +kernel
theorem dX8_shipOf_4 : decode cX8_shipOf 4 = .ok (.iload_n 1, 1) := by decide +kernel
theorem dX8_shipOf_5 : decode cX8_shipOf 5 = .ok (.aload_n 0, 1) := by decide +kernel
theorem dX8_shipOf_6 : decode cX8_shipOf 6 = .ok (.getfield 21, 3) := by decide +kernel
theorem dX8_shipOf_9 : decode cX8_shipOf 9 = .ok (.getfield 171, 3) := by decide +kernel
theorem dX8_shipOf_12 : decode cX8_shipOf 12 = .ok (.if_icmp .lt 5, 3) := by decide +kernel
theorem dX8_shipOf_15 : decode cX8_shipOf 15 = .ok (.iconst (-1), 1) := by decide +kernel
theorem dX8_shipOf_16 : decode cX8_shipOf 16 = .ok (.ireturn, 1) := by decide +kernel
theorem dX8_shipOf_17 : decode cX8_shipOf 17 = .ok (.iload_n 2, 1) := by decide +kernel
theorem dX8_shipOf_18 : decode cX8_shipOf 18 = .ok (.bipush 6, 2) := by decide +kernel
theorem dX8_shipOf_20 : decode cX8_shipOf 20 = .ok (.if_icmp .ne 12, 3) := by decide +kernel
theorem dX8_shipOf_23 : decode cX8_shipOf 23 = .ok (.aload_n 0, 1) := by decide +kernel
theorem dX8_shipOf_24 : decode cX8_shipOf 24 = .ok (.getfield 21, 3) := by decide +kernel
theorem dX8_shipOf_27 : decode cX8_shipOf 27 = .ok (.iload_n 1, 1) := by decide +kernel
theorem dX8_shipOf_28 : decode cX8_shipOf 28 = .ok (.invokevirtual 174, 3) := by decide +kernel
theorem dX8_shipOf_31 : decode cX8_shipOf 31 = .ok (.ireturn, 1) := by decide +kernel
theorem dX8_shipOf_32 : decode cX8_shipOf 32 = .ok (.aload_n 0, 1) := by decide +kernel
theorem dX8_shipOf_33 : decode cX8_shipOf 33 = .ok (.getfield 21, 3) := by decide +kernel
theorem dX8_shipOf_36 : decode cX8_shipOf 36 = .ok (.getfield 177, 3) := by decide +kernel
theorem dX8_shipOf_39 : decode cX8_shipOf 39 = .ok (.iload_n 1, 1) := by decide +kernel
theorem dX8_shipOf_40 : decode cX8_shipOf 40 = .ok (.aaload, 1) := by decide +kernel
theorem dX8_shipOf_41 : decode cX8_shipOf 41 = .ok (.iload_n 2, 1) := by decide +kernel
theorem dX8_shipOf_42 : decode cX8_shipOf 42 = .ok (.invokevirtual 181, 3) := by decide +kernel
theorem dX8_shipOf_45 : decode cX8_shipOf 45 = .ok (.ireturn, 1) := by decide +kernel
theorem dX8_isLit_0 : decode cX8_isLit 0 = .ok (.iload_n 1, 1) := by decide +kernel
theorem dX8_isLit_1 : decode cX8_isLit 1 = .ok (.invokestatic 65, 3) := by decide +kernel
theorem dX8_isLit_4 : decode cX8_isLit 4 = .ok (.ifCond .eq 10, 3) := by decide +kernel
theorem dX8_isLit_7 : decode cX8_isLit 7 = .ok (.iload_n 2, 1) := by decide +kernel
theorem dX8_isLit_8 : decode cX8_isLit 8 = .ok (.invokestatic 153, 3) := by decide +kernel
theorem dX8_isLit_11 : decode cX8_isLit 11 = .ok (.ifCond .ne 5, 3) := by decide +kernel
theorem dX8_isLit_14 : decode cX8_isLit 14 = .ok (.iconst (-1), 1) := by decide +kernel
theorem dX8_isLit_15 : decode cX8_isLit 15 = .ok (.ireturn, 1) := by decide +kernel
theorem dX8_isLit_16 : decode cX8_isLit 16 = .ok (.iload_n 3, 1) := by decide +kernel
theorem dX8_isLit_17 : decode cX8_isLit 17 = .ok (.ifCond .lt 21, 3) := by decide +kernel
theorem dX8_isLit_20 : decode cX8_isLit 20 = .ok (.iload_n 3, 1) := by decide +kernel
theorem dX8_isLit_21 : decode cX8_isLit 21 = .ok (.sipush 20000, 3) := by decide +kernel
theorem dX8_isLit_24 : decode cX8_isLit 24 = .ok (.if_icmp .gt 14, 3) := by decide +kernel
theorem dX8_isLit_27 : decode cX8_isLit 27 = .ok (.iload 4, 2) := by decide +kernel
theorem dX8_isLit_29 : decode cX8_isLit 29 = .ok (.ifCond .lt 9, 3) := by decide +kernel
theorem dX8_isLit_32 : decode cX8_isLit 32 = .ok (.iload 4, 2) := by decide +kernel
theorem dX8_isLit_34 : decode cX8_isLit 34 = .ok (.iconst 1, 1) := by decide +kernel
theorem dX8_isLit_35 : decode cX8_isLit 35 = .ok (.if_icmp .le 6, 3) := by decide +kernel
theorem dX8_isLit_38 : decode cX8_isLit 38 = .ok (.bipush (-2), 2) := by decide +kernel
theorem dX8_isLit_40 : decode cX8_isLit 40 = .ok (.ireturn, 1) := by decide +kernel
theorem dX8_isLit_41 : decode cX8_isLit 41 = .ok (.aload_n 0, 1) := by decide +kernel
theorem dX8_isLit_42 : decode cX8_isLit 42 = .ok (.getfield 21, 3) := by decide +kernel
theorem dX8_isLit_45 : decode cX8_isLit 45 = .ok (.getfield 73, 3) := by decide +kernel
theorem dX8_isLit_48 : decode cX8_isLit 48 = .ok (.iload_n 1, 1) := by decide +kernel
theorem dX8_isLit_49 : decode cX8_isLit 49 = .ok (.aaload, 1) := by decide +kernel
theorem dX8_isLit_50 : decode cX8_isLit 50 = .ok (.astore 5, 2) := by decide +kernel
theorem dX8_isLit_52 : decode cX8_isLit 52 = .ok (.iload 4, 2) := by decide +kernel
theorem dX8_isLit_54 : decode cX8_isLit 54 = .ok (.ifCond .ne 14, 3) := by decide +kernel
theorem dX8_isLit_57 : decode cX8_isLit 57 = .ok (.aload 5, 2) := by decide +kernel
theorem dX8_isLit_59 : decode cX8_isLit 59 = .ok (.iload_n 2, 1) := by decide +kernel
theorem dX8_isLit_60 : decode cX8_isLit 60 = .ok (.iload_n 3, 1) := by decide +kernel
theorem dX8_isLit_61 : decode cX8_isLit 61 = .ok (.iconst 0, 1) := by decide +kernel
theorem dX8_isLit_62 : decode cX8_isLit 62 = .ok (.invokevirtual 184, 3) := by decide +kernel
theorem dX8_isLit_65 : decode cX8_isLit 65 = .ok (.goto 10, 3) := by decide +kernel
theorem dX8_isLit_68 : decode cX8_isLit 68 = .ok (.aload 5, 2) := by decide +kernel
theorem dX8_isLit_70 : decode cX8_isLit 70 = .ok (.iload_n 2, 1) := by decide +kernel
theorem dX8_isLit_71 : decode cX8_isLit 71 = .ok (.iload_n 3, 1) := by decide +kernel
theorem dX8_isLit_72 : decode cX8_isLit 72 = .ok (.invokevirtual 188, 3) := by decide +kernel
theorem dX8_isLit_75 : decode cX8_isLit 75 = .ok (.istore 6, 2) := by decide +kernel
theorem dX8_isLit_77 : decode cX8_isLit 77 = .ok (.iload 6, 2) := by decide +kernel
theorem dX8_isLit_79 : decode cX8_isLit 79 = .ok (.ifCond .eq 7, 3) := by decide +kernel
theorem dX8_isLit_82 : decode cX8_isLit 82 = .ok (.iconst 1, 1) := by decide +kernel
theorem dX8_isLit_83 : decode cX8_isLit 83 = .ok (.goto 4, 3) := by decide +kernel
theorem dX8_isLit_86 : decode cX8_isLit 86 = .ok (.iconst 0, 1) := by decide +kernel
theorem dX8_isLit_87 : decode cX8_isLit 87 = .ok (.ireturn, 1) := by decide +kernel
theorem dX8_why_0 : decode cX8_why 0 = .ok (.iload_n 1, 1) := by decide +kernel
theorem dX8_why_1 : decode cX8_why 1 = .ok (.invokestatic 65, 3) := by decide +kernel
theorem dX8_why_4 : decode cX8_why 4 = .ok (.ifCond .eq 10, 3) := by decide +kernel
theorem dX8_why_7 : decode cX8_why 7 = .ok (.iload_n 2, 1) := by decide +kernel
theorem dX8_why_8 : decode cX8_why 8 = .ok (.invokestatic 153, 3) := by decide +kernel
theorem dX8_why_11 : decode cX8_why 11 = .ok (.ifCond .ne 5, 3) := by decide +kernel
theorem dX8_why_14 : decode cX8_why 14 = .ok (.iconst (-1), 1) := by decide +kernel
theorem dX8_why_15 : decode cX8_why 15 = .ok (.ireturn, 1) := by decide +kernel
theorem dX8_why_16 : decode cX8_why 16 = .ok (.aload_n 0, 1) := by decide +kernel
theorem dX8_why_17 : decode cX8_why 17 = .ok (.getfield 21, 3) := by decide +kernel
theorem dX8_why_20 : decode cX8_why 20 = .ok (.getfield 73, 3) := by decide +kernel
theorem dX8_why_23 : decode cX8_why 23 = .ok (.iload_n 1, 1) := by decide +kernel
theorem dX8_why_24 : decode cX8_why 24 = .ok (.aaload, 1) := by decide +kernel
theorem dX8_why_25 : decode cX8_why 25 = .ok (.iload_n 2, 1) := by decide +kernel
theorem dX8_why_26 : decode cX8_why 26 = .ok (.aload_n 0, 1) := by decide +kernel
theorem dX8_why_27 : decode cX8_why 27 = .ok (.getfield 21, 3) := by decide +kernel
theorem dX8_why_30 : decode cX8_why 30 = .ok (.getfield 77, 3) := by decide +kernel
theorem dX8_why_33 : decode cX8_why 33 = .ok (.invokevirtual 191, 3) := by decide +kernel
theorem dX8_why_36 : decode cX8_why 36 = .ok (.ireturn, 1) := by decide +kernel
theorem dX8_count_0 : decode cX8_count 0 = .ok (.iload_n 1, 1) := by decide +kernel
theorem dX8_count_1 : decode cX8_count 1 = .ok (.tableswitch 188 0 13 #[71, 79, 87, 95, 104, 113, 122, 131, 140, 148, 156, 164, 172, 180], 71) := by decide +kernel
theorem dX8_count_72 : decode cX8_count 72 = .ok (.aload_n 0, 1) := by decide +kernel
theorem dX8_count_73 : decode cX8_count 73 = .ok (.getfield 21, 3) := by decide +kernel
theorem dX8_count_76 : decode cX8_count 76 = .ok (.getfield 77, 3) := by decide +kernel
theorem dX8_count_79 : decode cX8_count 79 = .ok (.ireturn, 1) := by decide +kernel
theorem dX8_count_80 : decode cX8_count 80 = .ok (.aload_n 0, 1) := by decide +kernel
theorem dX8_count_81 : decode cX8_count 81 = .ok (.getfield 21, 3) := by decide +kernel
theorem dX8_count_84 : decode cX8_count 84 = .ok (.invokevirtual 61, 3) := by decide +kernel
theorem dX8_count_87 : decode cX8_count 87 = .ok (.ireturn, 1) := by decide +kernel
theorem dX8_count_88 : decode cX8_count 88 = .ok (.aload_n 0, 1) := by decide +kernel
theorem dX8_count_89 : decode cX8_count 89 = .ok (.getfield 21, 3) := by decide +kernel
theorem dX8_count_92 : decode cX8_count 92 = .ok (.getfield 171, 3) := by decide +kernel
theorem dX8_count_95 : decode cX8_count 95 = .ok (.ireturn, 1) := by decide +kernel
theorem dX8_count_96 : decode cX8_count 96 = .ok (.aload_n 0, 1) := by decide +kernel
theorem dX8_count_97 : decode cX8_count 97 = .ok (.getfield 21, 3) := by decide +kernel
theorem dX8_count_100 : decode cX8_count 100 = .ok (.iconst 0, 1) := by decide +kernel
theorem dX8_count_101 : decode cX8_count 101 = .ok (.invokevirtual 194, 3) := by decide +kernel
theorem dX8_count_104 : decode cX8_count 104 = .ok (.ireturn, 1) := by decide +kernel
theorem dX8_count_105 : decode cX8_count 105 = .ok (.aload_n 0, 1) := by decide +kernel
theorem dX8_count_106 : decode cX8_count 106 = .ok (.getfield 21, 3) := by decide +kernel
theorem dX8_count_109 : decode cX8_count 109 = .ok (.iconst 1, 1) := by decide +kernel
theorem dX8_count_110 : decode cX8_count 110 = .ok (.invokevirtual 194, 3) := by decide +kernel
theorem dX8_count_113 : decode cX8_count 113 = .ok (.ireturn, 1) := by decide +kernel
theorem dX8_count_114 : decode cX8_count 114 = .ok (.aload_n 0, 1) := by decide +kernel
theorem dX8_count_115 : decode cX8_count 115 = .ok (.getfield 21, 3) := by decide +kernel
theorem dX8_count_118 : decode cX8_count 118 = .ok (.iconst 2, 1) := by decide +kernel
theorem dX8_count_119 : decode cX8_count 119 = .ok (.invokevirtual 194, 3) := by decide +kernel
theorem dX8_count_122 : decode cX8_count 122 = .ok (.ireturn, 1) := by decide +kernel
theorem dX8_count_123 : decode cX8_count 123 = .ok (.aload_n 0, 1) := by decide +kernel
theorem dX8_count_124 : decode cX8_count 124 = .ok (.getfield 21, 3) := by decide +kernel
theorem dX8_count_127 : decode cX8_count 127 = .ok (.iconst 1, 1) := by decide +kernel
theorem dX8_count_128 : decode cX8_count 128 = .ok (.invokevirtual 197, 3) := by decide +kernel
theorem dX8_count_131 : decode cX8_count 131 = .ok (.ireturn, 1) := by decide +kernel
theorem dX8_count_132 : decode cX8_count 132 = .ok (.aload_n 0, 1) := by decide +kernel
theorem dX8_count_133 : decode cX8_count 133 = .ok (.getfield 21, 3) := by decide +kernel
theorem dX8_count_136 : decode cX8_count 136 = .ok (.iconst 0, 1) := by decide +kernel
theorem dX8_count_137 : decode cX8_count 137 = .ok (.invokevirtual 197, 3) := by decide +kernel
theorem dX8_count_140 : decode cX8_count 140 = .ok (.ireturn, 1) := by decide +kernel
theorem dX8_count_141 : decode cX8_count 141 = .ok (.aload_n 0, 1) := by decide +kernel
theorem dX8_count_142 : decode cX8_count 142 = .ok (.getfield 21, 3) := by decide +kernel
theorem dX8_count_145 : decode cX8_count 145 = .ok (.invokevirtual 201, 3) := by decide +kernel
theorem dX8_count_148 : decode cX8_count 148 = .ok (.ireturn, 1) := by decide +kernel
theorem dX8_count_149 : decode cX8_count 149 = .ok (.aload_n 0, 1) := by decide +kernel
theorem dX8_count_150 : decode cX8_count 150 = .ok (.getfield 21, 3) := by decide +kernel
theorem dX8_count_153 : decode cX8_count 153 = .ok (.invokevirtual 204, 3) := by decide +kernel
theorem dX8_count_156 : decode cX8_count 156 = .ok (.ireturn, 1) := by decide +kernel
theorem dX8_count_157 : decode cX8_count 157 = .ok (.aload_n 0, 1) := by decide +kernel
theorem dX8_count_158 : decode cX8_count 158 = .ok (.getfield 21, 3) := by decide +kernel
theorem dX8_count_161 : decode cX8_count 161 = .ok (.invokevirtual 207, 3) := by decide +kernel
theorem dX8_count_164 : decode cX8_count 164 = .ok (.ireturn, 1) := by decide +kernel
theorem dX8_count_165 : decode cX8_count 165 = .ok (.aload_n 0, 1) := by decide +kernel
theorem dX8_count_166 : decode cX8_count 166 = .ok (.getfield 38, 3) := by decide +kernel
theorem dX8_count_169 : decode cX8_count 169 = .ok (.getfield 210, 3) := by decide +kernel
theorem dX8_count_172 : decode cX8_count 172 = .ok (.ireturn, 1) := by decide +kernel
theorem dX8_count_173 : decode cX8_count 173 = .ok (.aload_n 0, 1) := by decide +kernel
theorem dX8_count_174 : decode cX8_count 174 = .ok (.getfield 45, 3) := by decide +kernel
theorem dX8_count_177 : decode cX8_count 177 = .ok (.getfield 146, 3) := by decide +kernel
theorem dX8_count_180 : decode cX8_count 180 = .ok (.ireturn, 1) := by decide +kernel
theorem dX8_count_181 : decode cX8_count 181 = .ok (.aload_n 0, 1) := by decide +kernel
theorem dX8_count_182 : decode cX8_count 182 = .ok (.getfield 21, 3) := by decide +kernel
theorem dX8_count_185 : decode cX8_count 185 = .ok (.getfield 139, 3) := by decide +kernel
theorem dX8_count_188 : decode cX8_count 188 = .ok (.ireturn, 1) := by decide +kernel
theorem dX8_count_189 : decode cX8_count 189 = .ok (.bipush (-2), 2) := by decide +kernel
theorem dX8_count_191 : decode cX8_count 191 = .ok (.ireturn, 1) := by decide +kernel
theorem dX8_share_0 : decode cX8_share 0 = .ok (.iload_n 1, 1) := by decide +kernel
theorem dX8_share_1 : decode cX8_share 1 = .ok (.invokestatic 153, 3) := by decide +kernel
theorem dX8_share_4 : decode cX8_share 4 = .ok (.ifCond .ne 6, 3) := by decide +kernel
theorem dX8_share_7 : decode cX8_share 7 = .ok (.ldc 213, 2) := by decide +kernel
theorem dX8_share_9 : decode cX8_share 9 = .ok (.freturn, 1) := by decide +kernel
theorem dX8_share_10 : decode cX8_share 10 = .ok (.iconst 0, 1) := by decide +kernel
theorem dX8_share_11 : decode cX8_share 11 = .ok (.istore_n 2, 1) := by decide +kernel
theorem dX8_share_12 : decode cX8_share 12 = .ok (.iconst 0, 1) := by decide +kernel
theorem dX8_share_13 : decode cX8_share 13 = .ok (.istore_n 3, 1) := by decide +kernel
theorem dX8_share_14 : decode cX8_share 14 = .ok (.iload_n 3, 1) := by decide +kernel
theorem dX8_share_15 : decode cX8_share 15 = .ok (.bipush 8, 2) := by decide +kernel
theorem dX8_share_17 : decode cX8_share 17 = .ok (.if_icmp .ge 33, 3) := by decide +kernel
theorem dX8_share_20 : decode cX8_share 20 = .ok (.aload_n 0, 1) := by decide +kernel
theorem dX8_share_21 : decode cX8_share 21 = .ok (.getfield 21, 3) := by decide +kernel
theorem dX8_share_24 : decode cX8_share 24 = .ok (.iload_n 1, 1) := by decide +kernel
theorem dX8_share_25 : decode cX8_share 25 = .ok (.aload_n 0, 1) := by decide +kernel
theorem dX8_share_26 : decode cX8_share 26 = .ok (.getfield 21, 3) := by decide +kernel
theorem dX8_share_29 : decode cX8_share 29 = .ok (.getfield 77, 3) := by decide +kernel
theorem dX8_share_32 : decode cX8_share 32 = .ok (.iload_n 3, 1) := by decide +kernel
theorem dX8_share_33 : decode cX8_share 33 = .ok (.iadd, 1) := by decide +kernel
theorem dX8_share_34 : decode cX8_share 34 = .ok (.iconst 0, 1) := by decide +kernel
theorem dX8_share_35 : decode cX8_share 35 = .ok (.invokevirtual 162, 3) := by decide +kernel
theorem dX8_share_38 : decode cX8_share 38 = .ok (.ifCond .eq 6, 3) := by decide +kernel
theorem dX8_share_41 : decode cX8_share 41 = .ok (.iinc 2 1, 3) := by decide +kernel
theorem dX8_share_44 : decode cX8_share 44 = .ok (.iinc 3 1, 3) := by decide +kernel
theorem dX8_share_47 : decode cX8_share 47 = .ok (.goto (-33), 3) := by decide +kernel
theorem dX8_share_50 : decode cX8_share 50 = .ok (.iload_n 2, 1) := by decide +kernel
theorem dX8_share_51 : decode cX8_share 51 = .ok (.i2f, 1) := by decide +kernel
theorem dX8_share_52 : decode cX8_share 52 = .ok (.ldc 214, 2) := by decide +kernel
theorem dX8_share_54 : decode cX8_share 54 = .ok (.fdiv, 1) := by decide +kernel
theorem dX8_share_55 : decode cX8_share 55 = .ok (.freturn, 1) := by decide +kernel
theorem dX8_litIn_0 : decode cX8_litIn 0 = .ok (.iload_n 1, 1) := by decide +kernel
theorem dX8_litIn_1 : decode cX8_litIn 1 = .ok (.invokestatic 153, 3) := by decide +kernel
theorem dX8_litIn_4 : decode cX8_litIn 4 = .ok (.ifCond .ne 5, 3) := by decide +kernel
theorem dX8_litIn_7 : decode cX8_litIn 7 = .ok (.iconst (-1), 1) := by decide +kernel
theorem dX8_litIn_8 : decode cX8_litIn 8 = .ok (.ireturn, 1) := by decide +kernel
theorem dX8_litIn_9 : decode cX8_litIn 9 = .ok (.iconst 0, 1) := by decide +kernel
theorem dX8_litIn_10 : decode cX8_litIn 10 = .ok (.istore_n 2, 1) := by decide +kernel
theorem dX8_litIn_11 : decode cX8_litIn 11 = .ok (.iload_n 2, 1) := by decide +kernel
theorem dX8_litIn_12 : decode cX8_litIn 12 = .ok (.bipush 40, 2) := by decide +kernel
theorem dX8_litIn_14 : decode cX8_litIn 14 = .ok (.if_icmp .gt 32, 3) := by decide +kernel
theorem dX8_litIn_17 : decode cX8_litIn 17 = .ok (.aload_n 0, 1) := by decide +kernel
theorem dX8_litIn_18 : decode cX8_litIn 18 = .ok (.getfield 21, 3) := by decide +kernel
theorem dX8_litIn_21 : decode cX8_litIn 21 = .ok (.iload_n 1, 1) := by decide +kernel
theorem dX8_litIn_22 : decode cX8_litIn 22 = .ok (.aload_n 0, 1) := by decide +kernel
theorem dX8_litIn_23 : decode cX8_litIn 23 = .ok (.getfield 21, 3) := by decide +kernel
theorem dX8_litIn_26 : decode cX8_litIn 26 = .ok (.getfield 77, 3) := by decide +kernel
theorem dX8_litIn_29 : decode cX8_litIn 29 = .ok (.iload_n 2, 1) := by decide +kernel
theorem dX8_litIn_30 : decode cX8_litIn 30 = .ok (.iadd, 1) := by decide +kernel
theorem dX8_litIn_31 : decode cX8_litIn 31 = .ok (.iload_n 2, 1) := by decide +kernel
theorem dX8_litIn_32 : decode cX8_litIn 32 = .ok (.invokevirtual 162, 3) := by decide +kernel
theorem dX8_litIn_35 : decode cX8_litIn 35 = .ok (.ifCond .eq 5, 3) := by decide +kernel
theorem dX8_litIn_38 : decode cX8_litIn 38 = .ok (.iload_n 2, 1) := by decide +kernel
theorem dX8_litIn_39 : decode cX8_litIn 39 = .ok (.ireturn, 1) := by decide +kernel
theorem dX8_litIn_40 : decode cX8_litIn 40 = .ok (.iinc 2 1, 3) := by decide +kernel
theorem dX8_litIn_43 : decode cX8_litIn 43 = .ok (.goto (-32), 3) := by decide +kernel
theorem dX8_litIn_46 : decode cX8_litIn 46 = .ok (.bipush (-5), 2) := by decide +kernel
theorem dX8_litIn_48 : decode cX8_litIn 48 = .ok (.ireturn, 1) := by decide +kernel
theorem dX8_ifPassed_0 : decode cX8_ifPassed 0 = .ok (.iload_n 1, 1) := by decide +kernel
theorem dX8_ifPassed_1 : decode cX8_ifPassed 1 = .ok (.iconst 1, 1) := by decide +kernel
theorem dX8_ifPassed_2 : decode cX8_ifPassed 2 = .ok (.if_icmp .lt 9, 3) := by decide +kernel
theorem dX8_ifPassed_5 : decode cX8_ifPassed 5 = .ok (.iload_n 1, 1) := by decide +kernel
theorem dX8_ifPassed_6 : decode cX8_ifPassed 6 = .ok (.bipush 40, 2) := by decide +kernel
theorem dX8_ifPassed_8 : decode cX8_ifPassed 8 = .ok (.if_icmp .le 6, 3) := by decide +kernel
theorem dX8_ifPassed_11 : decode cX8_ifPassed 11 = .ok (.bipush (-2), 2) := by decide +kernel
theorem dX8_ifPassed_13 : decode cX8_ifPassed 13 = .ok (.ireturn, 1) := by decide +kernel
theorem dX8_ifPassed_14 : decode cX8_ifPassed 14 = .ok (.aload_n 0, 1) := by decide +kernel
theorem dX8_ifPassed_15 : decode cX8_ifPassed 15 = .ok (.getfield 25, 3) := by decide +kernel
theorem dX8_ifPassed_18 : decode cX8_ifPassed 18 = .ok (.aload_n 0, 1) := by decide +kernel
theorem dX8_ifPassed_19 : decode cX8_ifPassed 19 = .ok (.getfield 21, 3) := by decide +kernel
theorem dX8_ifPassed_22 : decode cX8_ifPassed 22 = .ok (.invokevirtual 101, 3) := by decide +kernel
theorem dX8_ifPassed_25 : decode cX8_ifPassed 25 = .ok (.aload_n 0, 1) := by decide +kernel
theorem dX8_ifPassed_26 : decode cX8_ifPassed 26 = .ok (.getfield 25, 3) := by decide +kernel
theorem dX8_ifPassed_29 : decode cX8_ifPassed 29 = .ok (.iload_n 1, 1) := by decide +kernel
theorem dX8_ifPassed_30 : decode cX8_ifPassed 30 = .ok (.invokevirtual 136, 3) := by decide +kernel
theorem dX8_ifPassed_33 : decode cX8_ifPassed 33 = .ok (.pop, 1) := by decide +kernel
theorem dX8_ifPassed_34 : decode cX8_ifPassed 34 = .ok (.iconst 0, 1) := by decide +kernel
theorem dX8_ifPassed_35 : decode cX8_ifPassed 35 = .ok (.istore_n 2, 1) := by decide +kernel
theorem dX8_ifPassed_36 : decode cX8_ifPassed 36 = .ok (.iconst 0, 1) := by decide +kernel
theorem dX8_ifPassed_37 : decode cX8_ifPassed 37 = .ok (.istore_n 3, 1) := by decide +kernel
theorem dX8_ifPassed_38 : decode cX8_ifPassed 38 = .ok (.iload_n 3, 1) := by decide +kernel
theorem dX8_ifPassed_39 : decode cX8_ifPassed 39 = .ok (.aload_n 0, 1) := by decide +kernel
theorem dX8_ifPassed_40 : decode cX8_ifPassed 40 = .ok (.getfield 21, 3) := by decide +kernel
theorem dX8_ifPassed_43 : decode cX8_ifPassed 43 = .ok (.getfield 171, 3) := by decide +kernel
theorem dX8_ifPassed_46 : decode cX8_ifPassed 46 = .ok (.if_icmp .ge 23, 3) := by decide +kernel
theorem dX8_ifPassed_49 : decode cX8_ifPassed 49 = .ok (.aload_n 0, 1) := by decide +kernel
theorem dX8_ifPassed_50 : decode cX8_ifPassed 50 = .ok (.iload_n 3, 1) := by decide +kernel
theorem dX8_ifPassed_51 : decode cX8_ifPassed 51 = .ok (.invokevirtual 215, 3) := by decide +kernel
theorem dX8_ifPassed_54 : decode cX8_ifPassed 54 = .ok (.ifCond .eq 9, 3) := by decide +kernel
theorem dX8_ifPassed_57 : decode cX8_ifPassed 57 = .ok (.iload_n 2, 1) := by decide +kernel
theorem dX8_ifPassed_58 : decode cX8_ifPassed 58 = .ok (.iconst 1, 1) := by decide +kernel
theorem dX8_ifPassed_59 : decode cX8_ifPassed 59 = .ok (.iload_n 3, 1) := by decide +kernel
theorem dX8_ifPassed_60 : decode cX8_ifPassed 60 = .ok (.ishl, 1) := by decide +kernel
theorem dX8_ifPassed_61 : decode cX8_ifPassed 61 = .ok (.ior, 1) := by decide +kernel
theorem dX8_ifPassed_62 : decode cX8_ifPassed 62 = .ok (.istore_n 2, 1) := by decide +kernel
theorem dX8_ifPassed_63 : decode cX8_ifPassed 63 = .ok (.iinc 3 1, 3) := by decide +kernel
theorem dX8_ifPassed_66 : decode cX8_ifPassed 66 = .ok (.goto (-28), 3) := by decide +kernel
theorem dX8_ifPassed_69 : decode cX8_ifPassed 69 = .ok (.iload_n 2, 1) := by decide +kernel
theorem dX8_ifPassed_70 : decode cX8_ifPassed 70 = .ok (.ireturn, 1) := by decide +kernel
theorem dX8_bestCard_0 : decode cX8_bestCard 0 = .ok (.iload_n 1, 1) := by decide +kernel
theorem dX8_bestCard_1 : decode cX8_bestCard 1 = .ok (.invokestatic 65, 3) := by decide +kernel
theorem dX8_bestCard_4 : decode cX8_bestCard 4 = .ok (.ifCond .ne 5, 3) := by decide +kernel
theorem dX8_bestCard_7 : decode cX8_bestCard 7 = .ok (.iconst (-1), 1) := by decide +kernel
theorem dX8_bestCard_8 : decode cX8_bestCard 8 = .ok (.ireturn, 1) := by decide +kernel
theorem dX8_bestCard_9 : decode cX8_bestCard 9 = .ok (.bipush (-5), 2) := by decide +kernel
theorem dX8_bestCard_11 : decode cX8_bestCard 11 = .ok (.istore_n 2, 1) := by decide +kernel
theorem dX8_bestCard_12 : decode cX8_bestCard 12 = .ok (.aload_n 0, 1) := by decide +kernel
theorem dX8_bestCard_13 : decode cX8_bestCard 13 = .ok (.getfield 25, 3) := by decide +kernel
theorem dX8_bestCard_16 : decode cX8_bestCard 16 = .ok (.aload_n 0, 1) := by decide +kernel
theorem dX8_bestCard_17 : decode cX8_bestCard 17 = .ok (.getfield 21, 3) := by decide +kernel
theorem dX8_bestCard_20 : decode cX8_bestCard 20 = .ok (.invokevirtual 101, 3) := by decide +kernel
theorem dX8_bestCard_23 : decode cX8_bestCard 23 = .ok (.aload_n 0, 1) := by decide +kernel
theorem dX8_bestCard_24 : decode cX8_bestCard 24 = .ok (.invokevirtual 218, 3) := by decide +kernel
theorem dX8_bestCard_27 : decode cX8_bestCard 27 = .ok (.istore_n 3, 1) := by decide +kernel
theorem dX8_bestCard_28 : decode cX8_bestCard 28 = .ok (.iconst 0, 1) := by decide +kernel
theorem dX8_bestCard_29 : decode cX8_bestCard 29 = .ok (.istore 4, 2) := by decide +kernel
theorem dX8_bestCard_31 : decode cX8_bestCard 31 = .ok (.iload 4, 2) := by decide +kernel
theorem dX8_bestCard_33 : decode cX8_bestCard 33 = .ok (.iconst 4, 1) := by decide +kernel
theorem dX8_bestCard_34 : decode cX8_bestCard 34 = .ok (.if_icmp .ge 67, 3) := by decide +kernel
theorem dX8_bestCard_37 : decode cX8_bestCard 37 = .ok (.aload_n 0, 1) := by decide +kernel
theorem dX8_bestCard_38 : decode cX8_bestCard 38 = .ok (.getfield 21, 3) := by decide +kernel
theorem dX8_bestCard_41 : decode cX8_bestCard 41 = .ok (.iload_n 1, 1) := by decide +kernel
theorem dX8_bestCard_42 : decode cX8_bestCard 42 = .ok (.iload 4, 2) := by decide +kernel
theorem dX8_bestCard_44 : decode cX8_bestCard 44 = .ok (.invokevirtual 115, 3) := by decide +kernel
theorem dX8_bestCard_47 : decode cX8_bestCard 47 = .ok (.ifCond .ne 6, 3) := by decide +kernel
theorem dX8_bestCard_50 : decode cX8_bestCard 50 = .ok (.goto 45, 3) := by decide +kernel
theorem dX8_bestCard_53 : decode cX8_bestCard 53 = .ok (.aload_n 0, 1) := by decide +kernel
theorem dX8_bestCard_54 : decode cX8_bestCard 54 = .ok (.getfield 25, 3) := by decide +kernel
theorem dX8_bestCard_57 : decode cX8_bestCard 57 = .ok (.aload_n 0, 1) := by decide +kernel
theorem dX8_bestCard_58 : decode cX8_bestCard 58 = .ok (.getfield 21, 3) := by decide +kernel
theorem dX8_bestCard_61 : decode cX8_bestCard 61 = .ok (.invokevirtual 101, 3) := by decide +kernel
theorem dX8_bestCard_64 : decode cX8_bestCard 64 = .ok (.aload_n 0, 1) := by decide +kernel
theorem dX8_bestCard_65 : decode cX8_bestCard 65 = .ok (.getfield 25, 3) := by decide +kernel
theorem dX8_bestCard_68 : decode cX8_bestCard 68 = .ok (.getfield 73, 3) := by decide +kernel
theorem dX8_bestCard_71 : decode cX8_bestCard 71 = .ok (.iload 4, 2) := by decide +kernel
theorem dX8_bestCard_73 : decode cX8_bestCard 73 = .ok (.aaload, 1) := by decide +kernel
theorem dX8_bestCard_74 : decode cX8_bestCard 74 = .ok (.invokevirtual 127, 3) := by decide +kernel
theorem dX8_bestCard_77 : decode cX8_bestCard 77 = .ok (.aload_n 0, 1) := by decide +kernel
theorem dX8_bestCard_78 : decode cX8_bestCard 78 = .ok (.invokevirtual 218, 3) := by decide +kernel
theorem dX8_bestCard_81 : decode cX8_bestCard 81 = .ok (.istore 5, 2) := by decide +kernel
theorem dX8_bestCard_83 : decode cX8_bestCard 83 = .ok (.iload 5, 2) := by decide +kernel
theorem dX8_bestCard_85 : decode cX8_bestCard 85 = .ok (.iload_n 3, 1) := by decide +kernel
theorem dX8_bestCard_86 : decode cX8_bestCard 86 = .ok (.if_icmp .le 9, 3) := by decide +kernel
theorem dX8_bestCard_89 : decode cX8_bestCard 89 = .ok (.iload 5, 2) := by decide +kernel
theorem dX8_bestCard_91 : decode cX8_bestCard 91 = .ok (.istore_n 3, 1) := by decide +kernel
theorem dX8_bestCard_92 : decode cX8_bestCard 92 = .ok (.iload 4, 2) := by decide +kernel
theorem dX8_bestCard_94 : decode cX8_bestCard 94 = .ok (.istore_n 2, 1) := by decide +kernel
theorem dX8_bestCard_95 : decode cX8_bestCard 95 = .ok (.iinc 4 1, 3) := by decide +kernel
theorem dX8_bestCard_98 : decode cX8_bestCard 98 = .ok (.goto (-67), 3) := by decide +kernel
theorem dX8_bestCard_101 : decode cX8_bestCard 101 = .ok (.iload_n 2, 1) := by decide +kernel
theorem dX8_bestCard_102 : decode cX8_bestCard 102 = .ok (.ireturn, 1) := by decide +kernel
theorem dX8_worthWreckedInTrial_0 : decode cX8_worthWreckedInTrial 0 = .ok (.aload_n 0, 1) := by decide +kernel
theorem dX8_worthWreckedInTrial_1 : decode cX8_worthWreckedInTrial 1 = .ok (.getfield 25, 3) := by decide +kernel
theorem dX8_worthWreckedInTrial_4 : decode cX8_worthWreckedInTrial 4 = .ok (.bipush 10, 2) := by decide +kernel
theorem dX8_worthWreckedInTrial_6 : decode cX8_worthWreckedInTrial 6 = .ok (.invokevirtual 136, 3) := by decide +kernel
theorem dX8_worthWreckedInTrial_9 : decode cX8_worthWreckedInTrial 9 = .ok (.pop, 1) := by decide +kernel
theorem dX8_worthWreckedInTrial_10 : decode cX8_worthWreckedInTrial 10 = .ok (.iconst 0, 1) := by decide +kernel
theorem dX8_worthWreckedInTrial_11 : decode cX8_worthWreckedInTrial 11 = .ok (.istore_n 1, 1) := by decide +kernel
theorem dX8_worthWreckedInTrial_12 : decode cX8_worthWreckedInTrial 12 = .ok (.iconst 0, 1) := by decide +kernel
theorem dX8_worthWreckedInTrial_13 : decode cX8_worthWreckedInTrial 13 = .ok (.istore_n 2, 1) := by decide +kernel
theorem dX8_worthWreckedInTrial_14 : decode cX8_worthWreckedInTrial 14 = .ok (.iload_n 2, 1) := by decide +kernel
theorem dX8_worthWreckedInTrial_15 : decode cX8_worthWreckedInTrial 15 = .ok (.aload_n 0, 1) := by decide +kernel
theorem dX8_worthWreckedInTrial_16 : decode cX8_worthWreckedInTrial 16 = .ok (.getfield 21, 3) := by decide +kernel
theorem dX8_worthWreckedInTrial_19 : decode cX8_worthWreckedInTrial 19 = .ok (.getfield 171, 3) := by decide +kernel
theorem dX8_worthWreckedInTrial_22 : decode cX8_worthWreckedInTrial 22 = .ok (.if_icmp .ge 32, 3) := by decide +kernel
theorem dX8_worthWreckedInTrial_25 : decode cX8_worthWreckedInTrial 25 = .ok (.aload_n 0, 1) := by decide +kernel
theorem dX8_worthWreckedInTrial_26 : decode cX8_worthWreckedInTrial 26 = .ok (.iload_n 2, 1) := by decide +kernel
theorem dX8_worthWreckedInTrial_27 : decode cX8_worthWreckedInTrial 27 = .ok (.invokevirtual 215, 3) := by decide +kernel
theorem dX8_worthWreckedInTrial_30 : decode cX8_worthWreckedInTrial 30 = .ok (.ifCond .eq 18, 3) := by decide +kernel
theorem dX8_worthWreckedInTrial_33 : decode cX8_worthWreckedInTrial 33 = .ok (.iload_n 1, 1) := by decide +kernel
theorem dX8_worthWreckedInTrial_34 : decode cX8_worthWreckedInTrial 34 = .ok (.aload_n 0, 1) := by decide +kernel
theorem dX8_worthWreckedInTrial_35 : decode cX8_worthWreckedInTrial 35 = .ok (.getfield 21, 3) := by decide +kernel
theorem dX8_worthWreckedInTrial_38 : decode cX8_worthWreckedInTrial 38 = .ok (.getfield 177, 3) := by decide +kernel
theorem dX8_worthWreckedInTrial_41 : decode cX8_worthWreckedInTrial 41 = .ok (.iload_n 2, 1) := by decide +kernel
theorem dX8_worthWreckedInTrial_42 : decode cX8_worthWreckedInTrial 42 = .ok (.aaload, 1) := by decide +kernel
theorem dX8_worthWreckedInTrial_43 : decode cX8_worthWreckedInTrial 43 = .ok (.getfield 221, 3) := by decide +kernel
theorem dX8_worthWreckedInTrial_46 : decode cX8_worthWreckedInTrial 46 = .ok (.iadd, 1) := by decide +kernel
theorem dX8_worthWreckedInTrial_47 : decode cX8_worthWreckedInTrial 47 = .ok (.istore_n 1, 1) := by decide +kernel
theorem dX8_worthWreckedInTrial_48 : decode cX8_worthWreckedInTrial 48 = .ok (.iinc 2 1, 3) := by decide +kernel
theorem dX8_worthWreckedInTrial_51 : decode cX8_worthWreckedInTrial 51 = .ok (.goto (-37), 3) := by decide +kernel
theorem dX8_worthWreckedInTrial_54 : decode cX8_worthWreckedInTrial 54 = .ok (.iload_n 1, 1) := by decide +kernel
theorem dX8_worthWreckedInTrial_55 : decode cX8_worthWreckedInTrial 55 = .ok (.ireturn, 1) := by decide +kernel
theorem dX8_isWreckedInTrial_0 : decode cX8_isWreckedInTrial 0 = .ok (.aload_n 0, 1) := by decide +kernel
theorem dX8_isWreckedInTrial_1 : decode cX8_isWreckedInTrial 1 = .ok (.getfield 21, 3) := by decide +kernel
theorem dX8_isWreckedInTrial_4 : decode cX8_isWreckedInTrial 4 = .ok (.getfield 177, 3) := by decide +kernel
theorem dX8_isWreckedInTrial_7 : decode cX8_isWreckedInTrial 7 = .ok (.iload_n 1, 1) := by decide +kernel
theorem dX8_isWreckedInTrial_8 : decode cX8_isWreckedInTrial 8 = .ok (.aaload, 1) := by decide +kernel
theorem dX8_isWreckedInTrial_9 : decode cX8_isWreckedInTrial 9 = .ok (.getfield 224, 3) := by decide +kernel
theorem dX8_isWreckedInTrial_12 : decode cX8_isWreckedInTrial 12 = .ok (.ifCond .ne 23, 3) := by decide +kernel
theorem dX8_isWreckedInTrial_15 : decode cX8_isWreckedInTrial 15 = .ok (.aload_n 0, 1) := by decide +kernel
theorem dX8_isWreckedInTrial_16 : decode cX8_isWreckedInTrial 16 = .ok (.getfield 25, 3) := by decide +kernel
theorem dX8_isWreckedInTrial_19 : decode cX8_isWreckedInTrial 19 = .ok (.getfield 177, 3) := by decide +kernel
theorem dX8_isWreckedInTrial_22 : decode cX8_isWreckedInTrial 22 = .ok (.iload_n 1, 1) := by decide +kernel
theorem dX8_isWreckedInTrial_23 : decode cX8_isWreckedInTrial 23 = .ok (.aaload, 1) := by decide +kernel
theorem dX8_isWreckedInTrial_24 : decode cX8_isWreckedInTrial 24 = .ok (.getfield 224, 3) := by decide +kernel
theorem dX8_isWreckedInTrial_27 : decode cX8_isWreckedInTrial 27 = .ok (.iconst 2, 1) := by decide +kernel
theorem dX8_isWreckedInTrial_28 : decode cX8_isWreckedInTrial 28 = .ok (.if_icmp .ne 7, 3) := by decide +kernel
theorem dX8_isWreckedInTrial_31 : decode cX8_isWreckedInTrial 31 = .ok (.iconst 1, 1) := by decide +kernel
theorem dX8_isWreckedInTrial_32 : decode cX8_isWreckedInTrial 32 = .ok (.goto 4, 3) := by decide +kernel
theorem dX8_isWreckedInTrial_35 : decode cX8_isWreckedInTrial 35 = .ok (.iconst 0, 1) := by decide +kernel
theorem dX8_isWreckedInTrial_36 : decode cX8_isWreckedInTrial 36 = .ok (.ireturn, 1) := by decide +kernel
theorem dX8_isCell_0 : decode cX8_isCell 0 = .ok (.iload_n 0, 1) := by decide +kernel
theorem dX8_isCell_1 : decode cX8_isCell 1 = .ok (.ifCond .lt 13, 3) := by decide +kernel
theorem dX8_isCell_4 : decode cX8_isCell 4 = .ok (.iload_n 0, 1) := by decide +kernel
theorem dX8_isCell_5 : decode cX8_isCell 5 = .ok (.bipush 100, 2) := by decide +kernel
theorem dX8_isCell_7 : decode cX8_isCell 7 = .ok (.if_icmp .ge 7, 3) := by decide +kernel
theorem dX8_isCell_10 : decode cX8_isCell 10 = .ok (.iconst 1, 1) := by decide +kernel
theorem dX8_isCell_11 : decode cX8_isCell 11 = .ok (.goto 4, 3) := by decide +kernel
theorem dX8_isCell_14 : decode cX8_isCell 14 = .ok (.iconst 0, 1) := by decide +kernel
theorem dX8_isCell_15 : decode cX8_isCell 15 = .ok (.ireturn, 1) := by decide +kernel
theorem dX8_isLight_0 : decode cX8_isLight 0 = .ok (.iload_n 0, 1) := by decide +kernel
theorem dX8_isLight_1 : decode cX8_isLight 1 = .ok (.ifCond .lt 12, 3) := by decide +kernel
theorem dX8_isLight_4 : decode cX8_isLight 4 = .ok (.iload_n 0, 1) := by decide +kernel
theorem dX8_isLight_5 : decode cX8_isLight 5 = .ok (.iconst 4, 1) := by decide +kernel
theorem dX8_isLight_6 : decode cX8_isLight 6 = .ok (.if_icmp .ge 7, 3) := by decide +kernel
theorem dX8_isLight_9 : decode cX8_isLight 9 = .ok (.iconst 1, 1) := by decide +kernel
theorem dX8_isLight_10 : decode cX8_isLight 10 = .ok (.goto 4, 3) := by decide +kernel
theorem dX8_isLight_13 : decode cX8_isLight 13 = .ok (.iconst 0, 1) := by decide +kernel
theorem dX8_isLight_14 : decode cX8_isLight 14 = .ok (.ireturn, 1) := by decide +kernel
theorem dX8_isSetting_0 : decode cX8_isSetting 0 = .ok (.iload_n 0, 1) := by decide +kernel
theorem dX8_isSetting_1 : decode cX8_isSetting 1 = .ok (.ifCond .lt 33, 3) := by decide +kernel
theorem dX8_isSetting_4 : decode cX8_isSetting 4 = .ok (.iload_n 0, 1) := by decide +kernel
theorem dX8_isSetting_5 : decode cX8_isSetting 5 = .ok (.getstatic 227, 3) := by decide +kernel
theorem dX8_isSetting_8 : decode cX8_isSetting 8 = .ok (.arraylength, 1) := by decide +kernel
theorem dX8_isSetting_9 : decode cX8_isSetting 9 = .ok (.if_icmp .ge 25, 3) := by decide +kernel
theorem dX8_isSetting_12 : decode cX8_isSetting 12 = .ok (.iload_n 1, 1) := by decide +kernel
theorem dX8_isSetting_13 : decode cX8_isSetting 13 = .ok (.getstatic 230, 3) := by decide +kernel
theorem dX8_isSetting_16 : decode cX8_isSetting 16 = .ok (.iload_n 0, 1) := by decide +kernel
theorem dX8_isSetting_17 : decode cX8_isSetting 17 = .ok (.iaload, 1) := by decide +kernel
theorem dX8_isSetting_18 : decode cX8_isSetting 18 = .ok (.if_icmp .lt 16, 3) := by decide +kernel
theorem dX8_isSetting_21 : decode cX8_isSetting 21 = .ok (.iload_n 1, 1) := by decide +kernel
theorem dX8_isSetting_22 : decode cX8_isSetting 22 = .ok (.getstatic 227, 3) := by decide +kernel
theorem dX8_isSetting_25 : decode cX8_isSetting 25 = .ok (.iload_n 0, 1) := by decide +kernel
theorem dX8_isSetting_26 : decode cX8_isSetting 26 = .ok (.iaload, 1) := by decide +kernel
theorem dX8_isSetting_27 : decode cX8_isSetting 27 = .ok (.if_icmp .gt 7, 3) := by decide +kernel
theorem dX8_isSetting_30 : decode cX8_isSetting 30 = .ok (.iconst 1, 1) := by decide +kernel
theorem dX8_isSetting_31 : decode cX8_isSetting 31 = .ok (.goto 4, 3) := by decide +kernel
theorem dX8_isSetting_34 : decode cX8_isSetting 34 = .ok (.iconst 0, 1) := by decide +kernel
theorem dX8_isSetting_35 : decode cX8_isSetting 35 = .ok (.ireturn, 1) := by decide +kernel
theorem dX8_distanceBetween_0 : decode cX8_distanceBetween 0 = .ok (.iload_n 1, 1) := by decide +kernel
theorem dX8_distanceBetween_1 : decode cX8_distanceBetween 1 = .ok (.bipush 10, 2) := by decide +kernel
theorem dX8_distanceBetween_3 : decode cX8_distanceBetween 3 = .ok (.irem, 1) := by decide +kernel
theorem dX8_distanceBetween_4 : decode cX8_distanceBetween 4 = .ok (.iload_n 0, 1) := by decide +kernel
theorem dX8_distanceBetween_5 : decode cX8_distanceBetween 5 = .ok (.bipush 10, 2) := by decide +kernel
theorem dX8_distanceBetween_7 : decode cX8_distanceBetween 7 = .ok (.irem, 1) := by decide +kernel
theorem dX8_distanceBetween_8 : decode cX8_distanceBetween 8 = .ok (.isub, 1) := by decide +kernel
theorem dX8_distanceBetween_9 : decode cX8_distanceBetween 9 = .ok (.invokestatic 233, 3) := by decide +kernel
theorem dX8_distanceBetween_12 : decode cX8_distanceBetween 12 = .ok (.istore_n 2, 1) := by decide +kernel
theorem dX8_distanceBetween_13 : decode cX8_distanceBetween 13 = .ok (.iload_n 1, 1) := by decide +kernel
theorem dX8_distanceBetween_14 : decode cX8_distanceBetween 14 = .ok (.bipush 10, 2) := by decide +kernel
theorem dX8_distanceBetween_16 : decode cX8_distanceBetween 16 = .ok (.idiv, 1) := by decide +kernel
theorem dX8_distanceBetween_17 : decode cX8_distanceBetween 17 = .ok (.iload_n 0, 1) := by decide +kernel
theorem dX8_distanceBetween_18 : decode cX8_distanceBetween 18 = .ok (.bipush 10, 2) := by decide +kernel
theorem dX8_distanceBetween_20 : decode cX8_distanceBetween 20 = .ok (.idiv, 1) := by decide +kernel
theorem dX8_distanceBetween_21 : decode cX8_distanceBetween 21 = .ok (.isub, 1) := by decide +kernel
theorem dX8_distanceBetween_22 : decode cX8_distanceBetween 22 = .ok (.invokestatic 233, 3) := by decide +kernel
theorem dX8_distanceBetween_25 : decode cX8_distanceBetween 25 = .ok (.istore_n 3, 1) := by decide +kernel
theorem dX8_distanceBetween_26 : decode cX8_distanceBetween 26 = .ok (.iload_n 2, 1) := by decide +kernel
theorem dX8_distanceBetween_27 : decode cX8_distanceBetween 27 = .ok (.iload_n 3, 1) := by decide +kernel
theorem dX8_distanceBetween_28 : decode cX8_distanceBetween 28 = .ok (.invokestatic 238, 3) := by decide +kernel
theorem dX8_distanceBetween_31 : decode cX8_distanceBetween 31 = .ok (.ireturn, 1) := by decide +kernel
theorem dX7_init_0 : decode cX7_init 0 = .ok (.aload_n 0, 1) := by decide +kernel
theorem dX7_init_1 : decode cX7_init 1 = .ok (.invokespecial 3, 3) := by decide +kernel
theorem dX7_init_4 : decode cX7_init 4 = .ok (.aload_n 0, 1) := by decide +kernel
theorem dX7_init_5 : decode cX7_init 5 = .ok (.bipush 60, 2) := by decide +kernel
theorem dX7_init_7 : decode cX7_init 7 = .ok (.newarray .char, 2) := by decide +kernel
theorem dX7_init_9 : decode cX7_init 9 = .ok (.putfield 9, 3) := by decide +kernel
theorem dX7_init_12 : decode cX7_init 12 = .ok (.aload_n 0, 1) := by decide +kernel
theorem dX7_init_13 : decode cX7_init 13 = .ok (.iconst 0, 1) := by decide +kernel
theorem dX7_init_14 : decode cX7_init 14 = .ok (.putfield 15, 3) := by decide +kernel
theorem dX7_init_17 : decode cX7_init 17 = .ok (.aload_n 0, 1) := by decide +kernel
theorem dX7_init_18 : decode cX7_init 18 = .ok (.bipush 20, 2) := by decide +kernel
theorem dX7_init_20 : decode cX7_init 20 = .ok (.anewarray 19, 3) := by decide +kernel
theorem dX7_init_23 : decode cX7_init 23 = .ok (.putfield 21, 3) := by decide +kernel
theorem dX7_init_26 : decode cX7_init 26 = .ok (.aload_n 0, 1) := by decide +kernel
theorem dX7_init_27 : decode cX7_init 27 = .ok (.iconst 0, 1) := by decide +kernel
theorem dX7_init_28 : decode cX7_init 28 = .ok (.putfield 25, 3) := by decide +kernel
theorem dX7_init_31 : decode cX7_init 31 = .ok (.aload_n 0, 1) := by decide +kernel
theorem dX7_init_32 : decode cX7_init 32 = .ok (.iconst 0, 1) := by decide +kernel
theorem dX7_init_33 : decode cX7_init 33 = .ok (.putfield 28, 3) := by decide +kernel
theorem dX7_init_36 : decode cX7_init 36 = .ok (.iconst 0, 1) := by decide +kernel
theorem dX7_init_37 : decode cX7_init 37 = .ok (.istore_n 1, 1) := by decide +kernel
theorem dX7_init_38 : decode cX7_init 38 = .ok (.iload_n 1, 1) := by decide +kernel
theorem dX7_init_39 : decode cX7_init 39 = .ok (.bipush 20, 2) := by decide +kernel
theorem dX7_init_41 : decode cX7_init 41 = .ok (.if_icmp .ge 22, 3) := by decide +kernel
theorem dX7_init_44 : decode cX7_init 44 = .ok (.aload_n 0, 1) := by decide +kernel
theorem dX7_init_45 : decode cX7_init 45 = .ok (.getfield 21, 3) := by decide +kernel
theorem dX7_init_48 : decode cX7_init 48 = .ok (.iload_n 1, 1) := by decide +kernel
theorem dX7_init_49 : decode cX7_init 49 = .ok (.new 19, 3) := by decide +kernel
theorem dX7_init_52 : decode cX7_init 52 = .ok (.dup, 1) := by decide +kernel
theorem dX7_init_53 : decode cX7_init 53 = .ok (.invokespecial 31, 3) := by decide +kernel
theorem dX7_init_56 : decode cX7_init 56 = .ok (.aastore, 1) := by decide +kernel
theorem dX7_init_57 : decode cX7_init 57 = .ok (.iinc 1 1, 3) := by decide +kernel
theorem dX7_init_60 : decode cX7_init 60 = .ok (.goto (-22), 3) := by decide +kernel
theorem dX7_init_63 : decode cX7_init 63 = .ok (.return_, 1) := by decide +kernel
theorem dX7_append_0 : decode cX7_append 0 = .ok (.aload_n 0, 1) := by decide +kernel
theorem dX7_append_1 : decode cX7_append 1 = .ok (.getfield 15, 3) := by decide +kernel
theorem dX7_append_4 : decode cX7_append 4 = .ok (.bipush 60, 2) := by decide +kernel
theorem dX7_append_6 : decode cX7_append 6 = .ok (.if_icmp .lt 6, 3) := by decide +kernel
theorem dX7_append_9 : decode cX7_append 9 = .ok (.bipush (-3), 2) := by decide +kernel
theorem dX7_append_11 : decode cX7_append 11 = .ok (.ireturn, 1) := by decide +kernel
theorem dX7_append_12 : decode cX7_append 12 = .ok (.aload_n 0, 1) := by decide +kernel
theorem dX7_append_13 : decode cX7_append 13 = .ok (.getfield 9, 3) := by decide +kernel
theorem dX7_append_16 : decode cX7_append 16 = .ok (.aload_n 0, 1) := by decide +kernel
theorem dX7_append_17 : decode cX7_append 17 = .ok (.getfield 15, 3) := by decide +kernel
theorem dX7_append_20 : decode cX7_append 20 = .ok (.iload_n 1, 1) := by decide +kernel
theorem dX7_append_21 : decode cX7_append 21 = .ok (.castore, 1) := by decide +kernel
theorem dX7_append_22 : decode cX7_append 22 = .ok (.aload_n 0, 1) := by decide +kernel
theorem dX7_append_23 : decode cX7_append 23 = .ok (.dup, 1) := by decide +kernel
theorem dX7_append_24 : decode cX7_append 24 = .ok (.getfield 15, 3) := by decide +kernel
theorem dX7_append_27 : decode cX7_append 27 = .ok (.iconst 1, 1) := by decide +kernel
theorem dX7_append_28 : decode cX7_append 28 = .ok (.iadd, 1) := by decide +kernel
theorem dX7_append_29 : decode cX7_append 29 = .ok (.putfield 15, 3) := by decide +kernel
theorem dX7_append_32 : decode cX7_append 32 = .ok (.aload_n 0, 1) := by decide +kernel
theorem dX7_append_33 : decode cX7_append 33 = .ok (.getfield 15, 3) := by decide +kernel
theorem dX7_append_36 : decode cX7_append 36 = .ok (.ireturn, 1) := by decide +kernel
theorem dX7_read_0 : decode cX7_read 0 = .ok (.aload_n 0, 1) := by decide +kernel
theorem dX7_read_1 : decode cX7_read 1 = .ok (.iconst 0, 1) := by decide +kernel
theorem dX7_read_2 : decode cX7_read 2 = .ok (.putfield 28, 3) := by decide +kernel
theorem dX7_read_5 : decode cX7_read 5 = .ok (.aload_n 0, 1) := by decide +kernel
theorem dX7_read_6 : decode cX7_read 6 = .ok (.iconst 0, 1) := by decide +kernel
theorem dX7_read_7 : decode cX7_read 7 = .ok (.putfield 25, 3) := by decide +kernel
theorem dX7_read_10 : decode cX7_read 10 = .ok (.iconst 0, 1) := by decide +kernel
theorem dX7_read_11 : decode cX7_read 11 = .ok (.istore_n 1, 1) := by decide +kernel
theorem dX7_read_12 : decode cX7_read 12 = .ok (.iload_n 1, 1) := by decide +kernel
theorem dX7_read_13 : decode cX7_read 13 = .ok (.bipush 20, 2) := by decide +kernel
theorem dX7_read_15 : decode cX7_read 15 = .ok (.if_icmp .ge 65, 3) := by decide +kernel
theorem dX7_read_18 : decode cX7_read 18 = .ok (.aload_n 0, 1) := by decide +kernel
theorem dX7_read_19 : decode cX7_read 19 = .ok (.aload_n 0, 1) := by decide +kernel
theorem dX7_read_20 : decode cX7_read 20 = .ok (.getfield 21, 3) := by decide +kernel
theorem dX7_read_23 : decode cX7_read 23 = .ok (.iload_n 1, 1) := by decide +kernel
theorem dX7_read_24 : decode cX7_read 24 = .ok (.aaload, 1) := by decide +kernel
theorem dX7_read_25 : decode cX7_read 25 = .ok (.invokevirtual 32, 3) := by decide +kernel
theorem dX7_read_28 : decode cX7_read 28 = .ok (.ifCond .ne 8, 3) := by decide +kernel
theorem dX7_read_31 : decode cX7_read 31 = .ok (.aload_n 0, 1) := by decide +kernel
theorem dX7_read_32 : decode cX7_read 32 = .ok (.getfield 28, 3) := by decide +kernel
theorem dX7_read_35 : decode cX7_read 35 = .ok (.ireturn, 1) := by decide +kernel
theorem dX7_read_36 : decode cX7_read 36 = .ok (.aload_n 0, 1) := by decide +kernel
theorem dX7_read_37 : decode cX7_read 37 = .ok (.dup, 1) := by decide +kernel
theorem dX7_read_38 : decode cX7_read 38 = .ok (.getfield 25, 3) := by decide +kernel
theorem dX7_read_41 : decode cX7_read 41 = .ok (.iconst 1, 1) := by decide +kernel
theorem dX7_read_42 : decode cX7_read 42 = .ok (.iadd, 1) := by decide +kernel
theorem dX7_read_43 : decode cX7_read 43 = .ok (.putfield 25, 3) := by decide +kernel
theorem dX7_read_46 : decode cX7_read 46 = .ok (.aload_n 0, 1) := by decide +kernel
theorem dX7_read_47 : decode cX7_read 47 = .ok (.getfield 28, 3) := by decide +kernel
theorem dX7_read_50 : decode cX7_read 50 = .ok (.aload_n 0, 1) := by decide +kernel
theorem dX7_read_51 : decode cX7_read 51 = .ok (.getfield 15, 3) := by decide +kernel
theorem dX7_read_54 : decode cX7_read 54 = .ok (.if_icmp .ne 6, 3) := by decide +kernel
theorem dX7_read_57 : decode cX7_read 57 = .ok (.bipush (-5), 2) := by decide +kernel
theorem dX7_read_59 : decode cX7_read 59 = .ok (.ireturn, 1) := by decide +kernel
theorem dX7_read_60 : decode cX7_read 60 = .ok (.aload_n 0, 1) := by decide +kernel
theorem dX7_read_61 : decode cX7_read 61 = .ok (.bipush 59, 2) := by decide +kernel
theorem dX7_read_63 : decode cX7_read 63 = .ok (.invokevirtual 36, 3) := by decide +kernel
theorem dX7_read_66 : decode cX7_read 66 = .ok (.ifCond .ne 8, 3) := by decide +kernel
theorem dX7_read_69 : decode cX7_read 69 = .ok (.aload_n 0, 1) := by decide +kernel
theorem dX7_read_70 : decode cX7_read 70 = .ok (.getfield 28, 3) := by decide +kernel
theorem dX7_read_73 : decode cX7_read 73 = .ok (.ireturn, 1) := by decide +kernel
theorem dX7_read_74 : decode cX7_read 74 = .ok (.iinc 1 1, 3) := by decide +kernel
theorem dX7_read_77 : decode cX7_read 77 = .ok (.goto (-65), 3) := by decide +kernel
theorem dX7_read_80 : decode cX7_read 80 = .ok (.aload_n 0, 1) := by decide +kernel
theorem dX7_read_81 : decode cX7_read 81 = .ok (.getfield 28, 3) := by decide +kernel
theorem dX7_read_84 : decode cX7_read 84 = .ok (.ireturn, 1) := by decide +kernel
theorem dX7_readPart_0 : decode cX7_readPart 0 = .ok (.aload_n 1, 1) := by decide +kernel
theorem dX7_readPart_1 : decode cX7_readPart 1 = .ok (.aload_n 0, 1) := by decide +kernel
theorem dX7_readPart_2 : decode cX7_readPart 2 = .ok (.getfield 28, 3) := by decide +kernel
theorem dX7_readPart_5 : decode cX7_readPart 5 = .ok (.aload_n 0, 1) := by decide +kernel
theorem dX7_readPart_6 : decode cX7_readPart 6 = .ok (.getfield 15, 3) := by decide +kernel
theorem dX7_readPart_9 : decode cX7_readPart 9 = .ok (.if_icmp .ge 15, 3) := by decide +kernel
theorem dX7_readPart_12 : decode cX7_readPart 12 = .ok (.aload_n 0, 1) := by decide +kernel
theorem dX7_readPart_13 : decode cX7_readPart 13 = .ok (.getfield 9, 3) := by decide +kernel
theorem dX7_readPart_16 : decode cX7_readPart 16 = .ok (.aload_n 0, 1) := by decide +kernel
theorem dX7_readPart_17 : decode cX7_readPart 17 = .ok (.getfield 28, 3) := by decide +kernel
theorem dX7_readPart_20 : decode cX7_readPart 20 = .ok (.caload, 1) := by decide +kernel
theorem dX7_readPart_21 : decode cX7_readPart 21 = .ok (.goto 5, 3) := by decide +kernel
theorem dX7_readPart_24 : decode cX7_readPart 24 = .ok (.bipush 32, 2) := by decide +kernel
theorem dX7_readPart_26 : decode cX7_readPart 26 = .ok (.putfield 40, 3) := by decide +kernel
theorem dX7_readPart_29 : decode cX7_readPart 29 = .ok (.aload_n 0, 1) := by decide +kernel
theorem dX7_readPart_30 : decode cX7_readPart 30 = .ok (.bipush 114, 2) := by decide +kernel
theorem dX7_readPart_32 : decode cX7_readPart 32 = .ok (.invokevirtual 36, 3) := by decide +kernel
theorem dX7_readPart_35 : decode cX7_readPart 35 = .ok (.ifCond .eq 24, 3) := by decide +kernel
theorem dX7_readPart_38 : decode cX7_readPart 38 = .ok (.aload_n 1, 1) := by decide +kernel
theorem dX7_readPart_39 : decode cX7_readPart 39 = .ok (.aload_n 0, 1) := by decide +kernel
theorem dX7_readPart_40 : decode cX7_readPart 40 = .ok (.invokevirtual 44, 3) := by decide +kernel
theorem dX7_readPart_43 : decode cX7_readPart 43 = .ok (.putfield 48, 3) := by decide +kernel
theorem dX7_readPart_46 : decode cX7_readPart 46 = .ok (.aload_n 1, 1) := by decide +kernel
theorem dX7_readPart_47 : decode cX7_readPart 47 = .ok (.getfield 48, 3) := by decide +kernel
theorem dX7_readPart_50 : decode cX7_readPart 50 = .ok (.ifCond .lt 7, 3) := by decide +kernel
theorem dX7_readPart_53 : decode cX7_readPart 53 = .ok (.iconst 1, 1) := by decide +kernel
theorem dX7_readPart_54 : decode cX7_readPart 54 = .ok (.goto 4, 3) := by decide +kernel
theorem dX7_readPart_57 : decode cX7_readPart 57 = .ok (.iconst 0, 1) := by decide +kernel
theorem dX7_readPart_58 : decode cX7_readPart 58 = .ok (.ireturn, 1) := by decide +kernel
theorem dX7_readPart_59 : decode cX7_readPart 59 = .ok (.aload_n 0, 1) := by decide +kernel
theorem dX7_readPart_60 : decode cX7_readPart 60 = .ok (.bipush 115, 2) := by decide +kernel
theorem dX7_readPart_62 : decode cX7_readPart 62 = .ok (.invokevirtual 36, 3) := by decide +kernel
theorem dX7_readPart_65 : decode cX7_readPart 65 = .ok (.ifCond .eq 9, 3) := by decide +kernel
theorem dX7_readPart_68 : decode cX7_readPart 68 = .ok (.aload_n 0, 1) := by decide +kernel
theorem dX7_readPart_69 : decode cX7_readPart 69 = .ok (.aload_n 1, 1) := by decide +kernel
theorem dX7_readPart_70 : decode cX7_readPart 70 = .ok (.invokevirtual 51, 3) := by decide +kernel
theorem dX7_readPart_73 : decode cX7_readPart 73 = .ok (.ireturn, 1) := by decide +kernel
theorem dX7_readPart_74 : decode cX7_readPart 74 = .ok (.aload_n 0, 1) := by decide +kernel
theorem dX7_readPart_75 : decode cX7_readPart 75 = .ok (.bipush 100, 2) := by decide +kernel
theorem dX7_readPart_77 : decode cX7_readPart 77 = .ok (.invokevirtual 36, 3) := by decide +kernel
theorem dX7_readPart_80 : decode cX7_readPart 80 = .ok (.ifCond .eq 49, 3) := by decide +kernel
theorem dX7_readPart_83 : decode cX7_readPart 83 = .ok (.aload_n 1, 1) := by decide +kernel
theorem dX7_readPart_84 : decode cX7_readPart 84 = .ok (.aload_n 0, 1) := by decide +kernel
theorem dX7_readPart_85 : decode cX7_readPart 85 = .ok (.iconst 0, 1) := by decide +kernel
theorem dX7_readPart_86 : decode cX7_readPart 86 = .ok (.iconst 3, 1) := by decide +kernel
theorem dX7_readPart_87 : decode cX7_readPart 87 = .ok (.invokevirtual 54, 3) := by decide +kernel
theorem dX7_readPart_90 : decode cX7_readPart 90 = .ok (.putfield 58, 3) := by decide +kernel
theorem dX7_readPart_93 : decode cX7_readPart 93 = .ok (.aload_n 1, 1) := by decide +kernel
theorem dX7_readPart_94 : decode cX7_readPart 94 = .ok (.aload_n 1, 1) := by decide +kernel
theorem dX7_readPart_95 : decode cX7_readPart 95 = .ok (.getfield 58, 3) := by decide +kernel
theorem dX7_readPart_98 : decode cX7_readPart 98 = .ok (.ifCond .ge 8, 3) := by decide +kernel
theorem dX7_readPart_101 : decode cX7_readPart 101 = .ok (.bipush (-5), 2) := by decide +kernel
theorem dX7_readPart_103 : decode cX7_readPart 103 = .ok (.goto 10, 3) := by decide +kernel
theorem dX7_readPart_106 : decode cX7_readPart 106 = .ok (.aload_n 0, 1) := by decide +kernel
theorem dX7_readPart_107 : decode cX7_readPart 107 = .ok (.iconst 0, 1) := by decide +kernel
theorem dX7_readPart_108 : decode cX7_readPart 108 = .ok (.bipush 7, 2) := by decide +kernel
theorem dX7_readPart_110 : decode cX7_readPart 110 = .ok (.invokevirtual 54, 3) := by decide +kernel
theorem dX7_readPart_113 : decode cX7_readPart 113 = .ok (.putfield 61, 3) := by decide +kernel
theorem dX7_readPart_116 : decode cX7_readPart 116 = .ok (.aload_n 1, 1) := by decide +kernel
theorem dX7_readPart_117 : decode cX7_readPart 117 = .ok (.getfield 61, 3) := by decide +kernel
theorem dX7_readPart_120 : decode cX7_readPart 120 = .ok (.ifCond .lt 7, 3) := by decide +kernel
theorem dX7_readPart_123 : decode cX7_readPart 123 = .ok (.iconst 1, 1) := by decide +kernel
theorem dX7_readPart_124 : decode cX7_readPart 124 = .ok (.goto 4, 3) := by decide +kernel
theorem dX7_readPart_127 : decode cX7_readPart 127 = .ok (.iconst 0, 1) := by decide +kernel
theorem dX7_readPart_128 : decode cX7_readPart 128 = .ok (.ireturn, 1) := by decide +kernel
theorem dX7_readPart_129 : decode cX7_readPart 129 = .ok (.aload_n 0, 1) := by decide +kernel
theorem dX7_readPart_130 : decode cX7_readPart 130 = .ok (.bipush 104, 2) := by decide +kernel
theorem dX7_readPart_132 : decode cX7_readPart 132 = .ok (.invokevirtual 36, 3) := by decide +kernel
theorem dX7_readPart_135 : decode cX7_readPart 135 = .ok (.ifCond .eq 26, 3) := by decide +kernel
theorem dX7_readPart_138 : decode cX7_readPart 138 = .ok (.aload_n 1, 1) := by decide +kernel
theorem dX7_readPart_139 : decode cX7_readPart 139 = .ok (.aload_n 0, 1) := by decide +kernel
theorem dX7_readPart_140 : decode cX7_readPart 140 = .ok (.bipush 20, 2) := by decide +kernel
theorem dX7_readPart_142 : decode cX7_readPart 142 = .ok (.invokevirtual 64, 3) := by decide +kernel
theorem dX7_readPart_145 : decode cX7_readPart 145 = .ok (.putfield 58, 3) := by decide +kernel
theorem dX7_readPart_148 : decode cX7_readPart 148 = .ok (.aload_n 1, 1) := by decide +kernel
theorem dX7_readPart_149 : decode cX7_readPart 149 = .ok (.getfield 58, 3) := by decide +kernel
theorem dX7_readPart_152 : decode cX7_readPart 152 = .ok (.ifCond .lt 7, 3) := by decide +kernel
theorem dX7_readPart_155 : decode cX7_readPart 155 = .ok (.iconst 1, 1) := by decide +kernel
theorem dX7_readPart_156 : decode cX7_readPart 156 = .ok (.goto 4, 3) := by decide +kernel
theorem dX7_readPart_159 : decode cX7_readPart 159 = .ok (.iconst 0, 1) := by decide +kernel
theorem dX7_readPart_160 : decode cX7_readPart 160 = .ok (.ireturn, 1) := by decide +kernel
theorem dX7_readPart_161 : decode cX7_readPart 161 = .ok (.iconst 0, 1) := by decide +kernel
theorem dX7_readPart_162 : decode cX7_readPart 162 = .ok (.ireturn, 1) := by decide +kernel
theorem dX7_readShip_0 : decode cX7_readShip 0 = .ok (.aload_n 1, 1) := by decide +kernel
theorem dX7_readShip_1 : decode cX7_readShip 1 = .ok (.aload_n 0, 1) := by decide +kernel
theorem dX7_readShip_2 : decode cX7_readShip 2 = .ok (.bipush 99, 2) := by decide +kernel
theorem dX7_readShip_4 : decode cX7_readShip 4 = .ok (.invokevirtual 64, 3) := by decide +kernel
theorem dX7_readShip_7 : decode cX7_readShip 7 = .ok (.putfield 58, 3) := by decide +kernel
theorem dX7_readShip_10 : decode cX7_readShip 10 = .ok (.aload_n 1, 1) := by decide +kernel
theorem dX7_readShip_11 : decode cX7_readShip 11 = .ok (.getfield 58, 3) := by decide +kernel
theorem dX7_readShip_14 : decode cX7_readShip 14 = .ok (.ifCond .lt 12, 3) := by decide +kernel
theorem dX7_readShip_17 : decode cX7_readShip 17 = .ok (.aload_n 0, 1) := by decide +kernel
theorem dX7_readShip_18 : decode cX7_readShip 18 = .ok (.bipush 58, 2) := by decide +kernel
theorem dX7_readShip_20 : decode cX7_readShip 20 = .ok (.invokevirtual 36, 3) := by decide +kernel
theorem dX7_readShip_23 : decode cX7_readShip 23 = .ok (.ifCond .ne 5, 3) := by decide +kernel
theorem dX7_readShip_26 : decode cX7_readShip 26 = .ok (.iconst 0, 1) := by decide +kernel
theorem dX7_readShip_27 : decode cX7_readShip 27 = .ok (.ireturn, 1) := by decide +kernel
theorem dX7_readShip_28 : decode cX7_readShip 28 = .ok (.aload_n 1, 1) := by decide +kernel
theorem dX7_readShip_29 : decode cX7_readShip 29 = .ok (.aload_n 0, 1) := by decide +kernel
theorem dX7_readShip_30 : decode cX7_readShip 30 = .ok (.invokevirtual 44, 3) := by decide +kernel
theorem dX7_readShip_33 : decode cX7_readShip 33 = .ok (.putfield 48, 3) := by decide +kernel
theorem dX7_readShip_36 : decode cX7_readShip 36 = .ok (.aload_n 1, 1) := by decide +kernel
theorem dX7_readShip_37 : decode cX7_readShip 37 = .ok (.getfield 48, 3) := by decide +kernel
theorem dX7_readShip_40 : decode cX7_readShip 40 = .ok (.ifCond .lt 12, 3) := by decide +kernel
theorem dX7_readShip_43 : decode cX7_readShip 43 = .ok (.aload_n 0, 1) := by decide +kernel
theorem dX7_readShip_44 : decode cX7_readShip 44 = .ok (.bipush 62, 2) := by decide +kernel
theorem dX7_readShip_46 : decode cX7_readShip 46 = .ok (.invokevirtual 36, 3) := by decide +kernel
theorem dX7_readShip_49 : decode cX7_readShip 49 = .ok (.ifCond .ne 5, 3) := by decide +kernel
theorem dX7_readShip_52 : decode cX7_readShip 52 = .ok (.iconst 0, 1) := by decide +kernel
theorem dX7_readShip_53 : decode cX7_readShip 53 = .ok (.ireturn, 1) := by decide +kernel
theorem dX7_readShip_54 : decode cX7_readShip 54 = .ok (.aload_n 1, 1) := by decide +kernel
theorem dX7_readShip_55 : decode cX7_readShip 55 = .ok (.aload_n 0, 1) := by decide +kernel
theorem dX7_readShip_56 : decode cX7_readShip 56 = .ok (.invokevirtual 44, 3) := by decide +kernel
theorem dX7_readShip_59 : decode cX7_readShip 59 = .ok (.putfield 68, 3) := by decide +kernel
theorem dX7_readShip_62 : decode cX7_readShip 62 = .ok (.aload_n 1, 1) := by decide +kernel
theorem dX7_readShip_63 : decode cX7_readShip 63 = .ok (.getfield 68, 3) := by decide +kernel
theorem dX7_readShip_66 : decode cX7_readShip 66 = .ok (.ifCond .lt 7, 3) := by decide +kernel
theorem dX7_readShip_69 : decode cX7_readShip 69 = .ok (.iconst 1, 1) := by decide +kernel
theorem dX7_readShip_70 : decode cX7_readShip 70 = .ok (.goto 4, 3) := by decide +kernel
theorem dX7_readShip_73 : decode cX7_readShip 73 = .ok (.iconst 0, 1) := by decide +kernel
theorem dX7_readShip_74 : decode cX7_readShip 74 = .ok (.ireturn, 1) := by decide +kernel
theorem dX7_readSign_0 : decode cX7_readSign 0 = .ok (.aload_n 0, 1) := by decide +kernel
theorem dX7_readSign_1 : decode cX7_readSign 1 = .ok (.getfield 28, 3) := by decide +kernel
theorem dX7_readSign_4 : decode cX7_readSign 4 = .ok (.aload_n 0, 1) := by decide +kernel
theorem dX7_readSign_5 : decode cX7_readSign 5 = .ok (.getfield 15, 3) := by decide +kernel
theorem dX7_readSign_8 : decode cX7_readSign 8 = .ok (.if_icmp .ge 28, 3) := by decide +kernel
theorem dX7_readSign_11 : decode cX7_readSign 11 = .ok (.aload_n 0, 1) := by decide +kernel
theorem dX7_readSign_12 : decode cX7_readSign 12 = .ok (.getfield 9, 3) := by decide +kernel
theorem dX7_readSign_15 : decode cX7_readSign 15 = .ok (.aload_n 0, 1) := by decide +kernel
theorem dX7_readSign_16 : decode cX7_readSign 16 = .ok (.getfield 28, 3) := by decide +kernel
theorem dX7_readSign_19 : decode cX7_readSign 19 = .ok (.caload, 1) := by decide +kernel
theorem dX7_readSign_20 : decode cX7_readSign 20 = .ok (.iload_n 1, 1) := by decide +kernel
theorem dX7_readSign_21 : decode cX7_readSign 21 = .ok (.if_icmp .ne 15, 3) := by decide +kernel
theorem dX7_readSign_24 : decode cX7_readSign 24 = .ok (.aload_n 0, 1) := by decide +kernel
theorem dX7_readSign_25 : decode cX7_readSign 25 = .ok (.dup, 1) := by decide +kernel
theorem dX7_readSign_26 : decode cX7_readSign 26 = .ok (.getfield 28, 3) := by decide +kernel
theorem dX7_readSign_29 : decode cX7_readSign 29 = .ok (.iconst 1, 1) := by decide +kernel
theorem dX7_readSign_30 : decode cX7_readSign 30 = .ok (.iadd, 1) := by decide +kernel
theorem dX7_readSign_31 : decode cX7_readSign 31 = .ok (.putfield 28, 3) := by decide +kernel
theorem dX7_readSign_34 : decode cX7_readSign 34 = .ok (.iconst 1, 1) := by decide +kernel
theorem dX7_readSign_35 : decode cX7_readSign 35 = .ok (.ireturn, 1) := by decide +kernel
theorem dX7_readSign_36 : decode cX7_readSign 36 = .ok (.iconst 0, 1) := by decide +kernel
theorem dX7_readSign_37 : decode cX7_readSign 37 = .ok (.ireturn, 1) := by decide +kernel
theorem dX7_readCell_0 : decode cX7_readCell 0 = .ok (.aload_n 0, 1) := by decide +kernel
theorem dX7_readCell_1 : decode cX7_readCell 1 = .ok (.iconst 0, 1) := by decide +kernel
theorem dX7_readCell_2 : decode cX7_readCell 2 = .ok (.bipush 9, 2) := by decide +kernel
theorem dX7_readCell_4 : decode cX7_readCell 4 = .ok (.invokevirtual 54, 3) := by decide +kernel
theorem dX7_readCell_7 : decode cX7_readCell 7 = .ok (.istore_n 1, 1) := by decide +kernel
theorem dX7_readCell_8 : decode cX7_readCell 8 = .ok (.iload_n 1, 1) := by decide +kernel
theorem dX7_readCell_9 : decode cX7_readCell 9 = .ok (.ifCond .ge 8, 3) := by decide +kernel
theorem dX7_readCell_12 : decode cX7_readCell 12 = .ok (.bipush (-5), 2) := by decide +kernel
theorem dX7_readCell_14 : decode cX7_readCell 14 = .ok (.goto 10, 3) := by decide +kernel
theorem dX7_readCell_17 : decode cX7_readCell 17 = .ok (.aload_n 0, 1) := by decide +kernel
theorem dX7_readCell_18 : decode cX7_readCell 18 = .ok (.iconst 0, 1) := by decide +kernel
theorem dX7_readCell_19 : decode cX7_readCell 19 = .ok (.bipush 9, 2) := by decide +kernel
theorem dX7_readCell_21 : decode cX7_readCell 21 = .ok (.invokevirtual 54, 3) := by decide +kernel
theorem dX7_readCell_24 : decode cX7_readCell 24 = .ok (.istore_n 2, 1) := by decide +kernel
theorem dX7_readCell_25 : decode cX7_readCell 25 = .ok (.iload_n 2, 1) := by decide +kernel
theorem dX7_readCell_26 : decode cX7_readCell 26 = .ok (.ifCond .ge 8, 3) := by decide +kernel
theorem dX7_readCell_29 : decode cX7_readCell 29 = .ok (.bipush (-5), 2) := by decide +kernel
theorem dX7_readCell_31 : decode cX7_readCell 31 = .ok (.goto 9, 3) := by decide +kernel
theorem dX7_readCell_34 : decode cX7_readCell 34 = .ok (.bipush 10, 2) := by decide +kernel
theorem dX7_readCell_36 : decode cX7_readCell 36 = .ok (.iload_n 2, 1) := by decide +kernel
theorem dX7_readCell_37 : decode cX7_readCell 37 = .ok (.imul, 1) := by decide +kernel
theorem dX7_readCell_38 : decode cX7_readCell 38 = .ok (.iload_n 1, 1) := by decide +kernel
theorem dX7_readCell_39 : decode cX7_readCell 39 = .ok (.iadd, 1) := by decide +kernel
theorem dX7_readCell_40 : decode cX7_readCell 40 = .ok (.ireturn, 1) := by decide +kernel
theorem dX7_readNumber_0 : decode cX7_readNumber 0 = .ok (.aload_n 0, 1) := by decide +kernel
theorem dX7_readNumber_1 : decode cX7_readNumber 1 = .ok (.iconst 1, 1) := by decide +kernel
theorem dX7_readNumber_2 : decode cX7_readNumber 2 = .ok (.bipush 9, 2) := by decide +kernel
theorem dX7_readNumber_4 : decode cX7_readNumber 4 = .ok (.invokevirtual 54, 3) := by decide +kernel
theorem dX7_readNumber_7 : decode cX7_readNumber 7 = .ok (.istore_n 2, 1) := by decide +kernel
theorem dX7_readNumber_8 : decode cX7_readNumber 8 = .ok (.iload_n 2, 1) := by decide +kernel
theorem dX7_readNumber_9 : decode cX7_readNumber 9 = .ok (.ifCond .ge 6, 3) := by decide +kernel
theorem dX7_readNumber_12 : decode cX7_readNumber 12 = .ok (.bipush (-5), 2) := by decide +kernel
theorem dX7_readNumber_14 : decode cX7_readNumber 14 = .ok (.ireturn, 1) := by decide +kernel
theorem dX7_readNumber_15 : decode cX7_readNumber 15 = .ok (.aload_n 0, 1) := by decide +kernel
theorem dX7_readNumber_16 : decode cX7_readNumber 16 = .ok (.iconst 0, 1) := by decide +kernel
theorem dX7_readNumber_17 : decode cX7_readNumber 17 = .ok (.bipush 9, 2) := by decide +kernel
theorem dX7_readNumber_19 : decode cX7_readNumber 19 = .ok (.iload_n 1, 1) := by decide +kernel
theorem dX7_readNumber_20 : decode cX7_readNumber 20 = .ok (.bipush 10, 2) := by decide +kernel
theorem dX7_readNumber_22 : decode cX7_readNumber 22 = .ok (.iload_n 2, 1) := by decide +kernel
theorem dX7_readNumber_23 : decode cX7_readNumber 23 = .ok (.imul, 1) := by decide +kernel
theorem dX7_readNumber_24 : decode cX7_readNumber 24 = .ok (.isub, 1) := by decide +kernel
theorem dX7_readNumber_25 : decode cX7_readNumber 25 = .ok (.invokestatic 71, 3) := by decide +kernel
theorem dX7_readNumber_28 : decode cX7_readNumber 28 = .ok (.invokevirtual 54, 3) := by decide +kernel
theorem dX7_readNumber_31 : decode cX7_readNumber 31 = .ok (.istore_n 3, 1) := by decide +kernel
theorem dX7_readNumber_32 : decode cX7_readNumber 32 = .ok (.iload_n 3, 1) := by decide +kernel
theorem dX7_readNumber_33 : decode cX7_readNumber 33 = .ok (.ifCond .ge 7, 3) := by decide +kernel
theorem dX7_readNumber_36 : decode cX7_readNumber 36 = .ok (.iload_n 2, 1) := by decide +kernel
theorem dX7_readNumber_37 : decode cX7_readNumber 37 = .ok (.goto 9, 3) := by decide +kernel
theorem dX7_readNumber_40 : decode cX7_readNumber 40 = .ok (.bipush 10, 2) := by decide +kernel
theorem dX7_readNumber_42 : decode cX7_readNumber 42 = .ok (.iload_n 2, 1) := by decide +kernel
theorem dX7_readNumber_43 : decode cX7_readNumber 43 = .ok (.imul, 1) := by decide +kernel
theorem dX7_readNumber_44 : decode cX7_readNumber 44 = .ok (.iload_n 3, 1) := by decide +kernel
theorem dX7_readNumber_45 : decode cX7_readNumber 45 = .ok (.iadd, 1) := by decide +kernel
theorem dX7_readNumber_46 : decode cX7_readNumber 46 = .ok (.ireturn, 1) := by decide +kernel
theorem dX7_readDigit_0 : decode cX7_readDigit 0 = .ok (.aload_n 0, 1) := by decide +kernel
theorem dX7_readDigit_1 : decode cX7_readDigit 1 = .ok (.getfield 28, 3) := by decide +kernel
theorem dX7_readDigit_4 : decode cX7_readDigit 4 = .ok (.aload_n 0, 1) := by decide +kernel
theorem dX7_readDigit_5 : decode cX7_readDigit 5 = .ok (.getfield 15, 3) := by decide +kernel
theorem dX7_readDigit_8 : decode cX7_readDigit 8 = .ok (.if_icmp .lt 6, 3) := by decide +kernel
theorem dX7_readDigit_11 : decode cX7_readDigit 11 = .ok (.bipush (-5), 2) := by decide +kernel
theorem dX7_readDigit_13 : decode cX7_readDigit 13 = .ok (.ireturn, 1) := by decide +kernel
theorem dX7_readDigit_14 : decode cX7_readDigit 14 = .ok (.aload_n 0, 1) := by decide +kernel
theorem dX7_readDigit_15 : decode cX7_readDigit 15 = .ok (.getfield 9, 3) := by decide +kernel
theorem dX7_readDigit_18 : decode cX7_readDigit 18 = .ok (.aload_n 0, 1) := by decide +kernel
theorem dX7_readDigit_19 : decode cX7_readDigit 19 = .ok (.getfield 28, 3) := by decide +kernel
theorem dX7_readDigit_22 : decode cX7_readDigit 22 = .ok (.caload, 1) := by decide +kernel
theorem dX7_readDigit_23 : decode cX7_readDigit 23 = .ok (.bipush 48, 2) := by decide +kernel
theorem dX7_readDigit_25 : decode cX7_readDigit 25 = .ok (.isub, 1) := by decide +kernel
theorem dX7_readDigit_26 : decode cX7_readDigit 26 = .ok (.istore_n 3, 1) := by decide +kernel
theorem dX7_readDigit_27 : decode cX7_readDigit 27 = .ok (.iload_n 3, 1) := by decide +kernel
theorem dX7_readDigit_28 : decode cX7_readDigit 28 = .ok (.iload_n 1, 1) := by decide +kernel
theorem dX7_readDigit_29 : decode cX7_readDigit 29 = .ok (.if_icmp .lt 8, 3) := by decide +kernel
theorem dX7_readDigit_32 : decode cX7_readDigit 32 = .ok (.iload_n 3, 1) := by decide +kernel
theorem dX7_readDigit_33 : decode cX7_readDigit 33 = .ok (.iload_n 2, 1) := by decide +kernel
theorem dX7_readDigit_34 : decode cX7_readDigit 34 = .ok (.if_icmp .le 6, 3) := by decide +kernel
theorem dX7_readDigit_37 : decode cX7_readDigit 37 = .ok (.bipush (-5), 2) := by decide +kernel
theorem dX7_readDigit_39 : decode cX7_readDigit 39 = .ok (.ireturn, 1) := by decide +kernel
theorem dX7_readDigit_40 : decode cX7_readDigit 40 = .ok (.aload_n 0, 1) := by decide +kernel
theorem dX7_readDigit_41 : decode cX7_readDigit 41 = .ok (.dup, 1) := by decide +kernel
theorem dX7_readDigit_42 : decode cX7_readDigit 42 = .ok (.getfield 28, 3) := by decide +kernel
theorem dX7_readDigit_45 : decode cX7_readDigit 45 = .ok (.iconst 1, 1) := by decide +kernel
theorem dX7_readDigit_46 : decode cX7_readDigit 46 = .ok (.iadd, 1) := by decide +kernel
theorem dX7_readDigit_47 : decode cX7_readDigit 47 = .ok (.putfield 28, 3) := by decide +kernel
theorem dX7_readDigit_50 : decode cX7_readDigit 50 = .ok (.iload_n 3, 1) := by decide +kernel
theorem dX7_readDigit_51 : decode cX7_readDigit 51 = .ok (.ireturn, 1) := by decide +kernel
theorem dJ6_compare_7cf53_0 : decode cJ6_compare_7cf53 0 = .ok (.iload_n 0, 1) := by decide +kernel
theorem dJ6_compare_7cf53_1 : decode cJ6_compare_7cf53 1 = .ok (.iload_n 1, 1) := by decide +kernel
theorem dJ6_compare_7cf53_2 : decode cJ6_compare_7cf53 2 = .ok (.if_icmp .ge 7, 3) := by decide +kernel
theorem dJ6_compare_7cf53_5 : decode cJ6_compare_7cf53 5 = .ok (.iconst (-1), 1) := by decide +kernel
theorem dJ6_compare_7cf53_6 : decode cJ6_compare_7cf53 6 = .ok (.goto 13, 3) := by decide +kernel
theorem dJ6_compare_7cf53_9 : decode cJ6_compare_7cf53 9 = .ok (.iload_n 0, 1) := by decide +kernel
theorem dJ6_compare_7cf53_10 : decode cJ6_compare_7cf53 10 = .ok (.iload_n 1, 1) := by decide +kernel
theorem dJ6_compare_7cf53_11 : decode cJ6_compare_7cf53 11 = .ok (.if_icmp .ne 7, 3) := by decide +kernel
theorem dJ6_compare_7cf53_14 : decode cJ6_compare_7cf53 14 = .ok (.iconst 0, 1) := by decide +kernel
theorem dJ6_compare_7cf53_15 : decode cJ6_compare_7cf53 15 = .ok (.goto 4, 3) := by decide +kernel
theorem dJ6_compare_7cf53_18 : decode cJ6_compare_7cf53 18 = .ok (.iconst 1, 1) := by decide +kernel
theorem dJ6_compare_7cf53_19 : decode cJ6_compare_7cf53 19 = .ok (.ireturn, 1) := by decide +kernel
theorem dJ6_bitCount_0f7a4_0 : decode cJ6_bitCount_0f7a4 0 = .ok (.iload_n 0, 1) := by decide +kernel
theorem dJ6_bitCount_0f7a4_1 : decode cJ6_bitCount_0f7a4 1 = .ok (.iload_n 0, 1) := by decide +kernel
theorem dJ6_bitCount_0f7a4_2 : decode cJ6_bitCount_0f7a4 2 = .ok (.iconst 1, 1) := by decide +kernel
theorem dJ6_bitCount_0f7a4_3 : decode cJ6_bitCount_0f7a4 3 = .ok (.iushr, 1) := by decide +kernel
theorem dJ6_bitCount_0f7a4_4 : decode cJ6_bitCount_0f7a4 4 = .ok (.ldc_w 265, 3) := by decide +kernel
theorem dJ6_bitCount_0f7a4_7 : decode cJ6_bitCount_0f7a4 7 = .ok (.iand, 1) := by decide +kernel
theorem dJ6_bitCount_0f7a4_8 : decode cJ6_bitCount_0f7a4 8 = .ok (.isub, 1) := by decide +kernel
theorem dJ6_bitCount_0f7a4_9 : decode cJ6_bitCount_0f7a4 9 = .ok (.istore_n 0, 1) := by decide +kernel
theorem dJ6_bitCount_0f7a4_10 : decode cJ6_bitCount_0f7a4 10 = .ok (.iload_n 0, 1) := by decide +kernel
theorem dJ6_bitCount_0f7a4_11 : decode cJ6_bitCount_0f7a4 11 = .ok (.ldc_w 266, 3) := by decide +kernel
theorem dJ6_bitCount_0f7a4_14 : decode cJ6_bitCount_0f7a4 14 = .ok (.iand, 1) := by decide +kernel
theorem dJ6_bitCount_0f7a4_15 : decode cJ6_bitCount_0f7a4 15 = .ok (.iload_n 0, 1) := by decide +kernel
theorem dJ6_bitCount_0f7a4_16 : decode cJ6_bitCount_0f7a4 16 = .ok (.iconst 2, 1) := by decide +kernel
theorem dJ6_bitCount_0f7a4_17 : decode cJ6_bitCount_0f7a4 17 = .ok (.iushr, 1) := by decide +kernel
theorem dJ6_bitCount_0f7a4_18 : decode cJ6_bitCount_0f7a4 18 = .ok (.ldc_w 266, 3) := by decide +kernel
theorem dJ6_bitCount_0f7a4_21 : decode cJ6_bitCount_0f7a4 21 = .ok (.iand, 1) := by decide +kernel
theorem dJ6_bitCount_0f7a4_22 : decode cJ6_bitCount_0f7a4 22 = .ok (.iadd, 1) := by decide +kernel
theorem dJ6_bitCount_0f7a4_23 : decode cJ6_bitCount_0f7a4 23 = .ok (.istore_n 0, 1) := by decide +kernel
theorem dJ6_bitCount_0f7a4_24 : decode cJ6_bitCount_0f7a4 24 = .ok (.iload_n 0, 1) := by decide +kernel
theorem dJ6_bitCount_0f7a4_25 : decode cJ6_bitCount_0f7a4 25 = .ok (.iload_n 0, 1) := by decide +kernel
theorem dJ6_bitCount_0f7a4_26 : decode cJ6_bitCount_0f7a4 26 = .ok (.iconst 4, 1) := by decide +kernel
theorem dJ6_bitCount_0f7a4_27 : decode cJ6_bitCount_0f7a4 27 = .ok (.iushr, 1) := by decide +kernel
theorem dJ6_bitCount_0f7a4_28 : decode cJ6_bitCount_0f7a4 28 = .ok (.iadd, 1) := by decide +kernel
theorem dJ6_bitCount_0f7a4_29 : decode cJ6_bitCount_0f7a4 29 = .ok (.ldc_w 267, 3) := by decide +kernel
theorem dJ6_bitCount_0f7a4_32 : decode cJ6_bitCount_0f7a4 32 = .ok (.iand, 1) := by decide +kernel
theorem dJ6_bitCount_0f7a4_33 : decode cJ6_bitCount_0f7a4 33 = .ok (.istore_n 0, 1) := by decide +kernel
theorem dJ6_bitCount_0f7a4_34 : decode cJ6_bitCount_0f7a4 34 = .ok (.iload_n 0, 1) := by decide +kernel
theorem dJ6_bitCount_0f7a4_35 : decode cJ6_bitCount_0f7a4 35 = .ok (.iload_n 0, 1) := by decide +kernel
theorem dJ6_bitCount_0f7a4_36 : decode cJ6_bitCount_0f7a4 36 = .ok (.bipush 8, 2) := by decide +kernel
theorem dJ6_bitCount_0f7a4_38 : decode cJ6_bitCount_0f7a4 38 = .ok (.iushr, 1) := by decide +kernel
theorem dJ6_bitCount_0f7a4_39 : decode cJ6_bitCount_0f7a4 39 = .ok (.iadd, 1) := by decide +kernel
theorem dJ6_bitCount_0f7a4_40 : decode cJ6_bitCount_0f7a4 40 = .ok (.istore_n 0, 1) := by decide +kernel
theorem dJ6_bitCount_0f7a4_41 : decode cJ6_bitCount_0f7a4 41 = .ok (.iload_n 0, 1) := by decide +kernel
theorem dJ6_bitCount_0f7a4_42 : decode cJ6_bitCount_0f7a4 42 = .ok (.iload_n 0, 1) := by decide +kernel
theorem dJ6_bitCount_0f7a4_43 : decode cJ6_bitCount_0f7a4 43 = .ok (.bipush 16, 2) := by decide +kernel
theorem dJ6_bitCount_0f7a4_45 : decode cJ6_bitCount_0f7a4 45 = .ok (.iushr, 1) := by decide +kernel
theorem dJ6_bitCount_0f7a4_46 : decode cJ6_bitCount_0f7a4 46 = .ok (.iadd, 1) := by decide +kernel
theorem dJ6_bitCount_0f7a4_47 : decode cJ6_bitCount_0f7a4 47 = .ok (.istore_n 0, 1) := by decide +kernel
theorem dJ6_bitCount_0f7a4_48 : decode cJ6_bitCount_0f7a4 48 = .ok (.iload_n 0, 1) := by decide +kernel
theorem dJ6_bitCount_0f7a4_49 : decode cJ6_bitCount_0f7a4 49 = .ok (.bipush 63, 2) := by decide +kernel
theorem dJ6_bitCount_0f7a4_51 : decode cJ6_bitCount_0f7a4 51 = .ok (.iand, 1) := by decide +kernel
theorem dJ6_bitCount_0f7a4_52 : decode cJ6_bitCount_0f7a4 52 = .ok (.ireturn, 1) := by decide +kernel
theorem dJ9_floorMod_7cf53_0 : decode cJ9_floorMod_7cf53 0 = .ok (.iload_n 0, 1) := by decide +kernel
theorem dJ9_floorMod_7cf53_1 : decode cJ9_floorMod_7cf53 1 = .ok (.iload_n 1, 1) := by decide +kernel
theorem dJ9_floorMod_7cf53_2 : decode cJ9_floorMod_7cf53 2 = .ok (.irem, 1) := by decide +kernel
theorem dJ9_floorMod_7cf53_3 : decode cJ9_floorMod_7cf53 3 = .ok (.istore_n 2, 1) := by decide +kernel
theorem dJ9_floorMod_7cf53_4 : decode cJ9_floorMod_7cf53 4 = .ok (.iload_n 0, 1) := by decide +kernel
theorem dJ9_floorMod_7cf53_5 : decode cJ9_floorMod_7cf53 5 = .ok (.iload_n 1, 1) := by decide +kernel
theorem dJ9_floorMod_7cf53_6 : decode cJ9_floorMod_7cf53 6 = .ok (.ixor, 1) := by decide +kernel
theorem dJ9_floorMod_7cf53_7 : decode cJ9_floorMod_7cf53 7 = .ok (.ifCond .ge 11, 3) := by decide +kernel
theorem dJ9_floorMod_7cf53_10 : decode cJ9_floorMod_7cf53 10 = .ok (.iload_n 2, 1) := by decide +kernel
theorem dJ9_floorMod_7cf53_11 : decode cJ9_floorMod_7cf53 11 = .ok (.ifCond .eq 7, 3) := by decide +kernel
theorem dJ9_floorMod_7cf53_14 : decode cJ9_floorMod_7cf53 14 = .ok (.iload_n 2, 1) := by decide +kernel
theorem dJ9_floorMod_7cf53_15 : decode cJ9_floorMod_7cf53 15 = .ok (.iload_n 1, 1) := by decide +kernel
theorem dJ9_floorMod_7cf53_16 : decode cJ9_floorMod_7cf53 16 = .ok (.iadd, 1) := by decide +kernel
theorem dJ9_floorMod_7cf53_17 : decode cJ9_floorMod_7cf53 17 = .ok (.ireturn, 1) := by decide +kernel
theorem dJ9_floorMod_7cf53_18 : decode cJ9_floorMod_7cf53 18 = .ok (.iload_n 2, 1) := by decide +kernel
theorem dJ9_floorMod_7cf53_19 : decode cJ9_floorMod_7cf53 19 = .ok (.ireturn, 1) := by decide +kernel
theorem dJ9_abs_0f7a4_0 : decode cJ9_abs_0f7a4 0 = .ok (.iload_n 0, 1) := by decide +kernel
theorem dJ9_abs_0f7a4_1 : decode cJ9_abs_0f7a4 1 = .ok (.ifCond .ge 8, 3) := by decide +kernel
theorem dJ9_abs_0f7a4_4 : decode cJ9_abs_0f7a4 4 = .ok (.iload_n 0, 1) := by decide +kernel
theorem dJ9_abs_0f7a4_5 : decode cJ9_abs_0f7a4 5 = .ok (.ineg, 1) := by decide +kernel
theorem dJ9_abs_0f7a4_6 : decode cJ9_abs_0f7a4 6 = .ok (.goto 4, 3) := by decide +kernel
theorem dJ9_abs_0f7a4_9 : decode cJ9_abs_0f7a4 9 = .ok (.iload_n 0, 1) := by decide +kernel
theorem dJ9_abs_0f7a4_10 : decode cJ9_abs_0f7a4 10 = .ok (.ireturn, 1) := by decide +kernel
theorem dJ9_max_7cf53_0 : decode cJ9_max_7cf53 0 = .ok (.iload_n 0, 1) := by decide +kernel
theorem dJ9_max_7cf53_1 : decode cJ9_max_7cf53 1 = .ok (.iload_n 1, 1) := by decide +kernel
theorem dJ9_max_7cf53_2 : decode cJ9_max_7cf53 2 = .ok (.if_icmp .lt 7, 3) := by decide +kernel
theorem dJ9_max_7cf53_5 : decode cJ9_max_7cf53 5 = .ok (.iload_n 0, 1) := by decide +kernel
theorem dJ9_max_7cf53_6 : decode cJ9_max_7cf53 6 = .ok (.goto 4, 3) := by decide +kernel
theorem dJ9_max_7cf53_9 : decode cJ9_max_7cf53 9 = .ok (.iload_n 1, 1) := by decide +kernel
theorem dJ9_max_7cf53_10 : decode cJ9_max_7cf53 10 = .ok (.ireturn, 1) := by decide +kernel
theorem dJ9_min_7cf53_0 : decode cJ9_min_7cf53 0 = .ok (.iload_n 0, 1) := by decide +kernel
theorem dJ9_min_7cf53_1 : decode cJ9_min_7cf53 1 = .ok (.iload_n 1, 1) := by decide +kernel
theorem dJ9_min_7cf53_2 : decode cJ9_min_7cf53 2 = .ok (.if_icmp .gt 7, 3) := by decide +kernel
theorem dJ9_min_7cf53_5 : decode cJ9_min_7cf53 5 = .ok (.iload_n 0, 1) := by decide +kernel
theorem dJ9_min_7cf53_6 : decode cJ9_min_7cf53 6 = .ok (.goto 4, 3) := by decide +kernel
theorem dJ9_min_7cf53_9 : decode cJ9_min_7cf53 9 = .ok (.iload_n 1, 1) := by decide +kernel
theorem dJ9_min_7cf53_10 : decode cJ9_min_7cf53 10 = .ok (.ireturn, 1) := by decide +kernel
end
section
theorem dX6_init_0 : decode cX6_init 0 = .ok (.aload_n 0, 1) := by decide +kernel
theorem dX6_init_1 : decode cX6_init 1 = .ok (.invokespecial 3, 3) := by decide +kernel
theorem dX6_init_4 : decode cX6_init 4 = .ok (.aload_n 0, 1) := by decide +kernel
theorem dX6_init_5 : decode cX6_init 5 = .ok (.bipush 10, 2) := by decide +kernel
theorem dX6_init_7 : decode cX6_init 7 = .ok (.newarray .int, 2) := by decide +kernel
theorem dX6_init_9 : decode cX6_init 9 = .ok (.putfield 9, 3) := by decide +kernel
theorem dX6_init_12 : decode cX6_init 12 = .ok (.aload_n 0, 1) := by decide +kernel
theorem dX6_init_13 : decode cX6_init 13 = .ok (.iconst 4, 1) := by decide +kernel
theorem dX6_init_14 : decode cX6_init 14 = .ok (.anewarray 15, 3) := by decide +kernel
theorem dX6_init_17 : decode cX6_init 17 = .ok (.putfield 17, 3) := by decide +kernel
theorem dX6_init_20 : decode cX6_init 20 = .ok (.aload_n 0, 1) := by decide +kernel
theorem dX6_init_21 : decode cX6_init 21 = .ok (.iconst 4, 1) := by decide +kernel
theorem dX6_init_22 : decode cX6_init 22 = .ok (.anewarray 21, 3) := by decide +kernel
theorem dX6_init_25 : decode cX6_init 25 = .ok (.putfield 23, 3) := by decide +kernel
theorem dX6_init_28 : decode cX6_init 28 = .ok (.aload_n 0, 1) := by decide +kernel
theorem dX6_init_29 : decode cX6_init 29 = .ok (.bipush 8, 2) := by decide +kernel
theorem dX6_init_31 : decode cX6_init 31 = .ok (.anewarray 27, 3) := by decide +kernel
theorem dX6_init_34 : decode cX6_init 34 = .ok (.putfield 29, 3) := by decide +kernel
theorem dX6_init_37 : decode cX6_init 37 = .ok (.aload_n 0, 1) := by decide +kernel
theorem dX6_init_38 : decode cX6_init 38 = .ok (.bipush 8, 2) := by decide +kernel
theorem dX6_init_40 : decode cX6_init 40 = .ok (.newarray .int, 2) := by decide +kernel
theorem dX6_init_42 : decode cX6_init 42 = .ok (.putfield 33, 3) := by decide +kernel
theorem dX6_init_45 : decode cX6_init 45 = .ok (.aload_n 0, 1) := by decide +kernel
theorem dX6_init_46 : decode cX6_init 46 = .ok (.iconst 0, 1) := by decide +kernel
theorem dX6_init_47 : decode cX6_init 47 = .ok (.putfield 36, 3) := by decide +kernel
theorem dX6_init_50 : decode cX6_init 50 = .ok (.aload_n 0, 1) := by decide +kernel
theorem dX6_init_51 : decode cX6_init 51 = .ok (.iconst 2, 1) := by decide +kernel
theorem dX6_init_52 : decode cX6_init 52 = .ok (.putfield 40, 3) := by decide +kernel
theorem dX6_init_55 : decode cX6_init 55 = .ok (.aload_n 0, 1) := by decide +kernel
theorem dX6_init_56 : decode cX6_init 56 = .ok (.iconst 0, 1) := by decide +kernel
theorem dX6_init_57 : decode cX6_init 57 = .ok (.putfield 43, 3) := by decide +kernel
theorem dX6_init_60 : decode cX6_init 60 = .ok (.aload_n 0, 1) := by decide +kernel
theorem dX6_init_61 : decode cX6_init 61 = .ok (.aload_n 1, 1) := by decide +kernel
theorem dX6_init_62 : decode cX6_init 62 = .ok (.putfield 46, 3) := by decide +kernel
theorem dX6_init_65 : decode cX6_init 65 = .ok (.iconst 0, 1) := by decide +kernel
theorem dX6_init_66 : decode cX6_init 66 = .ok (.istore_n 2, 1) := by decide +kernel
theorem dX6_init_67 : decode cX6_init 67 = .ok (.iload_n 2, 1) := by decide +kernel
theorem dX6_init_68 : decode cX6_init 68 = .ok (.iconst 4, 1) := by decide +kernel
theorem dX6_init_69 : decode cX6_init 69 = .ok (.if_icmp .ge 37, 3) := by decide +kernel
theorem dX6_init_72 : decode cX6_init 72 = .ok (.aload_n 0, 1) := by decide +kernel
theorem dX6_init_73 : decode cX6_init 73 = .ok (.getfield 17, 3) := by decide +kernel
theorem dX6_init_76 : decode cX6_init 76 = .ok (.iload_n 2, 1) := by decide +kernel
theorem dX6_init_77 : decode cX6_init 77 = .ok (.new 15, 3) := by decide +kernel
theorem dX6_init_80 : decode cX6_init 80 = .ok (.dup, 1) := by decide +kernel
theorem dX6_init_81 : decode cX6_init 81 = .ok (.iload_n 2, 1) := by decide +kernel
theorem dX6_init_82 : decode cX6_init 82 = .ok (.aload_n 1, 1) := by decide +kernel
theorem dX6_init_83 : decode cX6_init 83 = .ok (.invokespecial 50, 3) := by decide +kernel
theorem dX6_init_86 : decode cX6_init 86 = .ok (.aastore, 1) := by decide +kernel
theorem dX6_init_87 : decode cX6_init 87 = .ok (.aload_n 0, 1) := by decide +kernel
theorem dX6_init_88 : decode cX6_init 88 = .ok (.getfield 23, 3) := by decide +kernel
theorem dX6_init_91 : decode cX6_init 91 = .ok (.iload_n 2, 1) := by decide +kernel
theorem dX6_init_92 : decode cX6_init 92 = .ok (.new 21, 3) := by decide +kernel
theorem dX6_init_95 : decode cX6_init 95 = .ok (.dup, 1) := by decide +kernel
theorem dX6_init_96 : decode cX6_init 96 = .ok (.invokespecial 53, 3) := by decide +kernel
theorem dX6_init_99 : decode cX6_init 99 = .ok (.aastore, 1) := by decide +kernel
theorem dX6_init_100 : decode cX6_init 100 = .ok (.iinc 2 1, 3) := by decide +kernel
theorem dX6_init_103 : decode cX6_init 103 = .ok (.goto (-36), 3) := by decide +kernel
theorem dX6_init_106 : decode cX6_init 106 = .ok (.iconst 0, 1) := by decide +kernel
theorem dX6_init_107 : decode cX6_init 107 = .ok (.istore_n 2, 1) := by decide +kernel
theorem dX6_init_108 : decode cX6_init 108 = .ok (.iload_n 2, 1) := by decide +kernel
theorem dX6_init_109 : decode cX6_init 109 = .ok (.bipush 8, 2) := by decide +kernel
theorem dX6_init_111 : decode cX6_init 111 = .ok (.if_icmp .ge 22, 3) := by decide +kernel
theorem dX6_init_114 : decode cX6_init 114 = .ok (.aload_n 0, 1) := by decide +kernel
theorem dX6_init_115 : decode cX6_init 115 = .ok (.getfield 29, 3) := by decide +kernel
theorem dX6_init_118 : decode cX6_init 118 = .ok (.iload_n 2, 1) := by decide +kernel
theorem dX6_init_119 : decode cX6_init 119 = .ok (.new 27, 3) := by decide +kernel
theorem dX6_init_122 : decode cX6_init 122 = .ok (.dup, 1) := by decide +kernel
theorem dX6_init_123 : decode cX6_init 123 = .ok (.invokespecial 54, 3) := by decide +kernel
theorem dX6_init_126 : decode cX6_init 126 = .ok (.aastore, 1) := by decide +kernel
theorem dX6_init_127 : decode cX6_init 127 = .ok (.iinc 2 1, 3) := by decide +kernel
theorem dX6_init_130 : decode cX6_init 130 = .ok (.goto (-22), 3) := by decide +kernel
theorem dX6_init_133 : decode cX6_init 133 = .ok (.return_, 1) := by decide +kernel
theorem dX6_copyFrom_0 : decode cX6_copyFrom 0 = .ok (.aload_n 1, 1) := by decide +kernel
theorem dX6_copyFrom_1 : decode cX6_copyFrom 1 = .ok (.getfield 9, 3) := by decide +kernel
theorem dX6_copyFrom_4 : decode cX6_copyFrom 4 = .ok (.iconst 0, 1) := by decide +kernel
theorem dX6_copyFrom_5 : decode cX6_copyFrom 5 = .ok (.aload_n 0, 1) := by decide +kernel
theorem dX6_copyFrom_6 : decode cX6_copyFrom 6 = .ok (.getfield 9, 3) := by decide +kernel
theorem dX6_copyFrom_9 : decode cX6_copyFrom 9 = .ok (.iconst 0, 1) := by decide +kernel
theorem dX6_copyFrom_10 : decode cX6_copyFrom 10 = .ok (.bipush 10, 2) := by decide +kernel
theorem dX6_copyFrom_12 : decode cX6_copyFrom 12 = .ok (.invokestatic 55, 3) := by decide +kernel
theorem dX6_copyFrom_15 : decode cX6_copyFrom 15 = .ok (.aload_n 1, 1) := by decide +kernel
theorem dX6_copyFrom_16 : decode cX6_copyFrom 16 = .ok (.getfield 33, 3) := by decide +kernel
theorem dX6_copyFrom_19 : decode cX6_copyFrom 19 = .ok (.iconst 0, 1) := by decide +kernel
theorem dX6_copyFrom_20 : decode cX6_copyFrom 20 = .ok (.aload_n 0, 1) := by decide +kernel
theorem dX6_copyFrom_21 : decode cX6_copyFrom 21 = .ok (.getfield 33, 3) := by decide +kernel
theorem dX6_copyFrom_24 : decode cX6_copyFrom 24 = .ok (.iconst 0, 1) := by decide +kernel
theorem dX6_copyFrom_25 : decode cX6_copyFrom 25 = .ok (.bipush 8, 2) := by decide +kernel
theorem dX6_copyFrom_27 : decode cX6_copyFrom 27 = .ok (.invokestatic 55, 3) := by decide +kernel
theorem dX6_copyFrom_30 : decode cX6_copyFrom 30 = .ok (.iconst 0, 1) := by decide +kernel
theorem dX6_copyFrom_31 : decode cX6_copyFrom 31 = .ok (.istore_n 2, 1) := by decide +kernel
theorem dX6_copyFrom_32 : decode cX6_copyFrom 32 = .ok (.iload_n 2, 1) := by decide +kernel
theorem dX6_copyFrom_33 : decode cX6_copyFrom 33 = .ok (.iconst 4, 1) := by decide +kernel
theorem dX6_copyFrom_34 : decode cX6_copyFrom 34 = .ok (.if_icmp .ge 39, 3) := by decide +kernel
theorem dX6_copyFrom_37 : decode cX6_copyFrom 37 = .ok (.aload_n 0, 1) := by decide +kernel
theorem dX6_copyFrom_38 : decode cX6_copyFrom 38 = .ok (.getfield 17, 3) := by decide +kernel
theorem dX6_copyFrom_41 : decode cX6_copyFrom 41 = .ok (.iload_n 2, 1) := by decide +kernel
theorem dX6_copyFrom_42 : decode cX6_copyFrom 42 = .ok (.aaload, 1) := by decide +kernel
theorem dX6_copyFrom_43 : decode cX6_copyFrom 43 = .ok (.aload_n 1, 1) := by decide +kernel
theorem dX6_copyFrom_44 : decode cX6_copyFrom 44 = .ok (.getfield 17, 3) := by decide +kernel
theorem dX6_copyFrom_47 : decode cX6_copyFrom 47 = .ok (.iload_n 2, 1) := by decide +kernel
theorem dX6_copyFrom_48 : decode cX6_copyFrom 48 = .ok (.aaload, 1) := by decide +kernel
theorem dX6_copyFrom_49 : decode cX6_copyFrom 49 = .ok (.invokevirtual 61, 3) := by decide +kernel
theorem dX6_copyFrom_52 : decode cX6_copyFrom 52 = .ok (.aload_n 0, 1) := by decide +kernel
theorem dX6_copyFrom_53 : decode cX6_copyFrom 53 = .ok (.getfield 23, 3) := by decide +kernel
theorem dX6_copyFrom_56 : decode cX6_copyFrom 56 = .ok (.iload_n 2, 1) := by decide +kernel
theorem dX6_copyFrom_57 : decode cX6_copyFrom 57 = .ok (.aaload, 1) := by decide +kernel
theorem dX6_copyFrom_58 : decode cX6_copyFrom 58 = .ok (.aload_n 1, 1) := by decide +kernel
theorem dX6_copyFrom_59 : decode cX6_copyFrom 59 = .ok (.getfield 23, 3) := by decide +kernel
theorem dX6_copyFrom_62 : decode cX6_copyFrom 62 = .ok (.iload_n 2, 1) := by decide +kernel
theorem dX6_copyFrom_63 : decode cX6_copyFrom 63 = .ok (.aaload, 1) := by decide +kernel
theorem dX6_copyFrom_64 : decode cX6_copyFrom 64 = .ok (.invokevirtual 65, 3) := by decide +kernel
theorem dX6_copyFrom_67 : decode cX6_copyFrom 67 = .ok (.iinc 2 1, 3) := by decide +kernel
theorem dX6_copyFrom_70 : decode cX6_copyFrom 70 = .ok (.goto (-38), 3) := by decide +kernel
theorem dX6_copyFrom_73 : decode cX6_copyFrom 73 = .ok (.iconst 0, 1) := by decide +kernel
theorem dX6_copyFrom_74 : decode cX6_copyFrom 74 = .ok (.istore_n 2, 1) := by decide +kernel
theorem dX6_copyFrom_75 : decode cX6_copyFrom 75 = .ok (.iload_n 2, 1) := by decide +kernel
theorem dX6_copyFrom_76 : decode cX6_copyFrom 76 = .ok (.bipush 8, 2) := by decide +kernel
theorem dX6_copyFrom_78 : decode cX6_copyFrom 78 = .ok (.if_icmp .ge 24, 3) := by decide +kernel
theorem dX6_copyFrom_81 : decode cX6_copyFrom 81 = .ok (.aload_n 0, 1) := by decide +kernel
theorem dX6_copyFrom_82 : decode cX6_copyFrom 82 = .ok (.getfield 29, 3) := by decide +kernel
theorem dX6_copyFrom_85 : decode cX6_copyFrom 85 = .ok (.iload_n 2, 1) := by decide +kernel
theorem dX6_copyFrom_86 : decode cX6_copyFrom 86 = .ok (.aaload, 1) := by decide +kernel
theorem dX6_copyFrom_87 : decode cX6_copyFrom 87 = .ok (.aload_n 1, 1) := by decide +kernel
theorem dX6_copyFrom_88 : decode cX6_copyFrom 88 = .ok (.getfield 29, 3) := by decide +kernel
theorem dX6_copyFrom_91 : decode cX6_copyFrom 91 = .ok (.iload_n 2, 1) := by decide +kernel
theorem dX6_copyFrom_92 : decode cX6_copyFrom 92 = .ok (.aaload, 1) := by decide +kernel
theorem dX6_copyFrom_93 : decode cX6_copyFrom 93 = .ok (.invokevirtual 68, 3) := by decide +kernel
theorem dX6_copyFrom_96 : decode cX6_copyFrom 96 = .ok (.iinc 2 1, 3) := by decide +kernel
theorem dX6_copyFrom_99 : decode cX6_copyFrom 99 = .ok (.goto (-24), 3) := by decide +kernel
theorem dX6_copyFrom_102 : decode cX6_copyFrom 102 = .ok (.aload_n 0, 1) := by decide +kernel
theorem dX6_copyFrom_103 : decode cX6_copyFrom 103 = .ok (.aload_n 1, 1) := by decide +kernel
theorem dX6_copyFrom_104 : decode cX6_copyFrom 104 = .ok (.getfield 36, 3) := by decide +kernel
theorem dX6_copyFrom_107 : decode cX6_copyFrom 107 = .ok (.putfield 36, 3) := by decide +kernel
theorem dX6_copyFrom_110 : decode cX6_copyFrom 110 = .ok (.aload_n 0, 1) := by decide +kernel
theorem dX6_copyFrom_111 : decode cX6_copyFrom 111 = .ok (.aload_n 1, 1) := by decide +kernel
theorem dX6_copyFrom_112 : decode cX6_copyFrom 112 = .ok (.getfield 40, 3) := by decide +kernel
theorem dX6_copyFrom_115 : decode cX6_copyFrom 115 = .ok (.putfield 40, 3) := by decide +kernel
theorem dX6_copyFrom_118 : decode cX6_copyFrom 118 = .ok (.aload_n 0, 1) := by decide +kernel
theorem dX6_copyFrom_119 : decode cX6_copyFrom 119 = .ok (.aload_n 1, 1) := by decide +kernel
theorem dX6_copyFrom_120 : decode cX6_copyFrom 120 = .ok (.getfield 43, 3) := by decide +kernel
theorem dX6_copyFrom_123 : decode cX6_copyFrom 123 = .ok (.putfield 43, 3) := by decide +kernel
theorem dX6_copyFrom_126 : decode cX6_copyFrom 126 = .ok (.return_, 1) := by decide +kernel
theorem dX6_hasRock_0 : decode cX6_hasRock 0 = .ok (.aload_n 0, 1) := by decide +kernel
theorem dX6_hasRock_1 : decode cX6_hasRock 1 = .ok (.getfield 9, 3) := by decide +kernel
theorem dX6_hasRock_4 : decode cX6_hasRock 4 = .ok (.iload_n 1, 1) := by decide +kernel
theorem dX6_hasRock_5 : decode cX6_hasRock 5 = .ok (.bipush 10, 2) := by decide +kernel
theorem dX6_hasRock_7 : decode cX6_hasRock 7 = .ok (.idiv, 1) := by decide +kernel
theorem dX6_hasRock_8 : decode cX6_hasRock 8 = .ok (.iaload, 1) := by decide +kernel
theorem dX6_hasRock_9 : decode cX6_hasRock 9 = .ok (.iload_n 1, 1) := by decide +kernel
theorem dX6_hasRock_10 : decode cX6_hasRock 10 = .ok (.bipush 10, 2) := by decide +kernel
theorem dX6_hasRock_12 : decode cX6_hasRock 12 = .ok (.irem, 1) := by decide +kernel
theorem dX6_hasRock_13 : decode cX6_hasRock 13 = .ok (.ishr, 1) := by decide +kernel
theorem dX6_hasRock_14 : decode cX6_hasRock 14 = .ok (.iconst 1, 1) := by decide +kernel
theorem dX6_hasRock_15 : decode cX6_hasRock 15 = .ok (.iand, 1) := by decide +kernel
theorem dX6_hasRock_16 : decode cX6_hasRock 16 = .ok (.ifCond .eq 7, 3) := by decide +kernel
theorem dX6_hasRock_19 : decode cX6_hasRock 19 = .ok (.iconst 1, 1) := by decide +kernel
theorem dX6_hasRock_20 : decode cX6_hasRock 20 = .ok (.goto 4, 3) := by decide +kernel
theorem dX6_hasRock_23 : decode cX6_hasRock 23 = .ok (.iconst 0, 1) := by decide +kernel
theorem dX6_hasRock_24 : decode cX6_hasRock 24 = .ok (.ireturn, 1) := by decide +kernel
theorem dX6_rocks_0 : decode cX6_rocks 0 = .ok (.iconst 0, 1) := by decide +kernel
theorem dX6_rocks_1 : decode cX6_rocks 1 = .ok (.istore_n 1, 1) := by decide +kernel
theorem dX6_rocks_2 : decode cX6_rocks 2 = .ok (.aload_n 0, 1) := by decide +kernel
theorem dX6_rocks_3 : decode cX6_rocks 3 = .ok (.getfield 9, 3) := by decide +kernel
theorem dX6_rocks_6 : decode cX6_rocks 6 = .ok (.astore_n 2, 1) := by decide +kernel
theorem dX6_rocks_7 : decode cX6_rocks 7 = .ok (.aload_n 2, 1) := by decide +kernel
theorem dX6_rocks_8 : decode cX6_rocks 8 = .ok (.arraylength, 1) := by decide +kernel
theorem dX6_rocks_9 : decode cX6_rocks 9 = .ok (.istore_n 3, 1) := by decide +kernel
theorem dX6_rocks_10 : decode cX6_rocks 10 = .ok (.iconst 0, 1) := by decide +kernel
theorem dX6_rocks_11 : decode cX6_rocks 11 = .ok (.istore 4, 2) := by decide +kernel
theorem dX6_rocks_13 : decode cX6_rocks 13 = .ok (.iload 4, 2) := by decide +kernel
theorem dX6_rocks_15 : decode cX6_rocks 15 = .ok (.iload_n 3, 1) := by decide +kernel
theorem dX6_rocks_16 : decode cX6_rocks 16 = .ok (.if_icmp .ge 23, 3) := by decide +kernel
theorem dX6_rocks_19 : decode cX6_rocks 19 = .ok (.aload_n 2, 1) := by decide +kernel
theorem dX6_rocks_20 : decode cX6_rocks 20 = .ok (.iload 4, 2) := by decide +kernel
theorem dX6_rocks_22 : decode cX6_rocks 22 = .ok (.iaload, 1) := by decide +kernel
theorem dX6_rocks_23 : decode cX6_rocks 23 = .ok (.istore 5, 2) := by decide +kernel
theorem dX6_rocks_25 : decode cX6_rocks 25 = .ok (.iload_n 1, 1) := by decide +kernel
theorem dX6_rocks_26 : decode cX6_rocks 26 = .ok (.iload 5, 2) := by decide +kernel
theorem dX6_rocks_28 : decode cX6_rocks 28 = .ok (.invokestatic 71, 3) := by decide +kernel
theorem dX6_rocks_31 : decode cX6_rocks 31 = .ok (.iadd, 1) := by decide +kernel
theorem dX6_rocks_32 : decode cX6_rocks 32 = .ok (.istore_n 1, 1) := by decide +kernel
theorem dX6_rocks_33 : decode cX6_rocks 33 = .ok (.iinc 4 1, 3) := by decide +kernel
theorem dX6_rocks_36 : decode cX6_rocks 36 = .ok (.goto (-23), 3) := by decide +kernel
theorem dX6_rocks_39 : decode cX6_rocks 39 = .ok (.iload_n 1, 1) := by decide +kernel
theorem dX6_rocks_40 : decode cX6_rocks 40 = .ok (.ireturn, 1) := by decide +kernel
theorem dX6_rockError_0 : decode cX6_rockError 0 = .ok (.iload_n 1, 1) := by decide +kernel
theorem dX6_rockError_1 : decode cX6_rockError 1 = .ok (.invokestatic 77, 3) := by decide +kernel
theorem dX6_rockError_4 : decode cX6_rockError 4 = .ok (.ifCond .ne 5, 3) := by decide +kernel
theorem dX6_rockError_7 : decode cX6_rockError 7 = .ok (.iconst (-1), 1) := by decide +kernel
theorem dX6_rockError_8 : decode cX6_rockError 8 = .ok (.ireturn, 1) := by decide +kernel
theorem dX6_rockError_9 : decode cX6_rockError 9 = .ok (.getstatic 81, 3) := by decide +kernel
theorem dX6_rockError_12 : decode cX6_rockError 12 = .ok (.astore_n 2, 1) := by decide +kernel
theorem dX6_rockError_13 : decode cX6_rockError 13 = .ok (.aload_n 2, 1) := by decide +kernel
theorem dX6_rockError_14 : decode cX6_rockError 14 = .ok (.arraylength, 1) := by decide +kernel
theorem dX6_rockError_15 : decode cX6_rockError 15 = .ok (.istore_n 3, 1) := by decide +kernel
theorem dX6_rockError_16 : decode cX6_rockError 16 = .ok (.iconst 0, 1) := by decide +kernel
theorem dX6_rockError_17 : decode cX6_rockError 17 = .ok (.istore 4, 2) := by decide +kernel
theorem dX6_rockError_19 : decode cX6_rockError 19 = .ok (.iload 4, 2) := by decide +kernel
theorem dX6_rockError_21 : decode cX6_rockError 21 = .ok (.iload_n 3, 1) := by decide +kernel
theorem dX6_rockError_22 : decode cX6_rockError 22 = .ok (.if_icmp .ge 24, 3) := by decide +kernel
theorem dX6_rockError_25 : decode cX6_rockError 25 = .ok (.aload_n 2, 1) := by decide +kernel
theorem dX6_rockError_26 : decode cX6_rockError 26 = .ok (.iload 4, 2) := by decide +kernel
theorem dX6_rockError_28 : decode cX6_rockError 28 = .ok (.iaload, 1) := by decide +kernel
theorem dX6_rockError_29 : decode cX6_rockError 29 = .ok (.istore 5, 2) := by decide +kernel
theorem dX6_rockError_31 : decode cX6_rockError 31 = .ok (.iload_n 1, 1) := by decide +kernel
theorem dX6_rockError_32 : decode cX6_rockError 32 = .ok (.iload 5, 2) := by decide +kernel
theorem dX6_rockError_34 : decode cX6_rockError 34 = .ok (.if_icmp .ne 6, 3) := by decide +kernel
theorem dX6_rockError_37 : decode cX6_rockError 37 = .ok (.bipush (-4), 2) := by decide +kernel
theorem dX6_rockError_39 : decode cX6_rockError 39 = .ok (.ireturn, 1) := by decide +kernel
theorem dX6_rockError_40 : decode cX6_rockError 40 = .ok (.iinc 4 1, 3) := by decide +kernel
theorem dX6_rockError_43 : decode cX6_rockError 43 = .ok (.goto (-24), 3) := by decide +kernel
theorem dX6_rockError_46 : decode cX6_rockError 46 = .ok (.iconst 0, 1) := by decide +kernel
theorem dX6_rockError_47 : decode cX6_rockError 47 = .ok (.ireturn, 1) := by decide +kernel
theorem dX6_turnRock_0 : decode cX6_turnRock 0 = .ok (.aload_n 0, 1) := by decide +kernel
theorem dX6_turnRock_1 : decode cX6_turnRock 1 = .ok (.getfield 9, 3) := by decide +kernel
theorem dX6_turnRock_4 : decode cX6_turnRock 4 = .ok (.iload_n 1, 1) := by decide +kernel
theorem dX6_turnRock_5 : decode cX6_turnRock 5 = .ok (.bipush 10, 2) := by decide +kernel
theorem dX6_turnRock_7 : decode cX6_turnRock 7 = .ok (.idiv, 1) := by decide +kernel
theorem dX6_turnRock_8 : decode cX6_turnRock 8 = .ok (.dup2, 1) := by decide +kernel
theorem dX6_turnRock_9 : decode cX6_turnRock 9 = .ok (.iaload, 1) := by decide +kernel
theorem dX6_turnRock_10 : decode cX6_turnRock 10 = .ok (.iconst 1, 1) := by decide +kernel
theorem dX6_turnRock_11 : decode cX6_turnRock 11 = .ok (.iload_n 1, 1) := by decide +kernel
theorem dX6_turnRock_12 : decode cX6_turnRock 12 = .ok (.bipush 10, 2) := by decide +kernel
theorem dX6_turnRock_14 : decode cX6_turnRock 14 = .ok (.irem, 1) := by decide +kernel
theorem dX6_turnRock_15 : decode cX6_turnRock 15 = .ok (.ishl, 1) := by decide +kernel
theorem dX6_turnRock_16 : decode cX6_turnRock 16 = .ok (.ixor, 1) := by decide +kernel
theorem dX6_turnRock_17 : decode cX6_turnRock 17 = .ok (.iastore, 1) := by decide +kernel
theorem dX6_turnRock_18 : decode cX6_turnRock 18 = .ok (.return_, 1) := by decide +kernel
theorem dX6_shipError_0 : decode cX6_shipError 0 = .ok (.iload_n 2, 1) := by decide +kernel
theorem dX6_shipError_1 : decode cX6_shipError 1 = .ok (.invokestatic 77, 3) := by decide +kernel
theorem dX6_shipError_4 : decode cX6_shipError 4 = .ok (.ifCond .eq 10, 3) := by decide +kernel
theorem dX6_shipError_7 : decode cX6_shipError 7 = .ok (.iload_n 3, 1) := by decide +kernel
theorem dX6_shipError_8 : decode cX6_shipError 8 = .ok (.invokestatic 77, 3) := by decide +kernel
theorem dX6_shipError_11 : decode cX6_shipError 11 = .ok (.ifCond .ne 5, 3) := by decide +kernel
theorem dX6_shipError_14 : decode cX6_shipError 14 = .ok (.iconst (-1), 1) := by decide +kernel
theorem dX6_shipError_15 : decode cX6_shipError 15 = .ok (.ireturn, 1) := by decide +kernel
theorem dX6_shipError_16 : decode cX6_shipError 16 = .ok (.iload_n 1, 1) := by decide +kernel
theorem dX6_shipError_17 : decode cX6_shipError 17 = .ok (.iconst 1, 1) := by decide +kernel
theorem dX6_shipError_18 : decode cX6_shipError 18 = .ok (.if_icmp .lt 9, 3) := by decide +kernel
theorem dX6_shipError_21 : decode cX6_shipError 21 = .ok (.iload_n 1, 1) := by decide +kernel
theorem dX6_shipError_22 : decode cX6_shipError 22 = .ok (.bipush 99, 2) := by decide +kernel
theorem dX6_shipError_24 : decode cX6_shipError 24 = .ok (.if_icmp .le 6, 3) := by decide +kernel
theorem dX6_shipError_27 : decode cX6_shipError 27 = .ok (.bipush (-2), 2) := by decide +kernel
theorem dX6_shipError_29 : decode cX6_shipError 29 = .ok (.ireturn, 1) := by decide +kernel
theorem dX6_shipError_30 : decode cX6_shipError 30 = .ok (.iload_n 2, 1) := by decide +kernel
theorem dX6_shipError_31 : decode cX6_shipError 31 = .ok (.iload_n 3, 1) := by decide +kernel
theorem dX6_shipError_32 : decode cX6_shipError 32 = .ok (.if_icmp .eq 29, 3) := by decide +kernel
theorem dX6_shipError_35 : decode cX6_shipError 35 = .ok (.aload_n 0, 1) := by decide +kernel
theorem dX6_shipError_36 : decode cX6_shipError 36 = .ok (.iload_n 2, 1) := by decide +kernel
theorem dX6_shipError_37 : decode cX6_shipError 37 = .ok (.invokevirtual 84, 3) := by decide +kernel
theorem dX6_shipError_40 : decode cX6_shipError 40 = .ok (.ifCond .ne 21, 3) := by decide +kernel
theorem dX6_shipError_43 : decode cX6_shipError 43 = .ok (.aload_n 0, 1) := by decide +kernel
theorem dX6_shipError_44 : decode cX6_shipError 44 = .ok (.iload_n 3, 1) := by decide +kernel
theorem dX6_shipError_45 : decode cX6_shipError 45 = .ok (.invokevirtual 84, 3) := by decide +kernel
theorem dX6_shipError_48 : decode cX6_shipError 48 = .ok (.ifCond .ne 13, 3) := by decide +kernel
theorem dX6_shipError_51 : decode cX6_shipError 51 = .ok (.aload_n 0, 1) := by decide +kernel
theorem dX6_shipError_52 : decode cX6_shipError 52 = .ok (.iload_n 2, 1) := by decide +kernel
theorem dX6_shipError_53 : decode cX6_shipError 53 = .ok (.invokevirtual 87, 3) := by decide +kernel
theorem dX6_shipError_56 : decode cX6_shipError 56 = .ok (.bipush (-5), 2) := by decide +kernel
theorem dX6_shipError_58 : decode cX6_shipError 58 = .ok (.if_icmp .eq 6, 3) := by decide +kernel
theorem dX6_shipError_61 : decode cX6_shipError 61 = .ok (.bipush (-4), 2) := by decide +kernel
theorem dX6_shipError_63 : decode cX6_shipError 63 = .ok (.ireturn, 1) := by decide +kernel
theorem dX6_shipError_64 : decode cX6_shipError 64 = .ok (.aload_n 0, 1) := by decide +kernel
theorem dX6_shipError_65 : decode cX6_shipError 65 = .ok (.getfield 36, 3) := by decide +kernel
theorem dX6_shipError_68 : decode cX6_shipError 68 = .ok (.bipush 8, 2) := by decide +kernel
theorem dX6_shipError_70 : decode cX6_shipError 70 = .ok (.if_icmp .ge 7, 3) := by decide +kernel
theorem dX6_shipError_73 : decode cX6_shipError 73 = .ok (.iconst 0, 1) := by decide +kernel
theorem dX6_shipError_74 : decode cX6_shipError 74 = .ok (.goto 5, 3) := by decide +kernel
theorem dX6_shipError_77 : decode cX6_shipError 77 = .ok (.bipush (-3), 2) := by decide +kernel
theorem dX6_shipError_79 : decode cX6_shipError 79 = .ok (.ireturn, 1) := by decide +kernel
theorem dX6_addShip_0 : decode cX6_addShip 0 = .ok (.aload_n 0, 1) := by decide +kernel
theorem dX6_addShip_1 : decode cX6_addShip 1 = .ok (.getfield 36, 3) := by decide +kernel
theorem dX6_addShip_4 : decode cX6_addShip 4 = .ok (.istore 4, 2) := by decide +kernel
theorem dX6_addShip_6 : decode cX6_addShip 6 = .ok (.aload_n 0, 1) := by decide +kernel
theorem dX6_addShip_7 : decode cX6_addShip 7 = .ok (.getfield 29, 3) := by decide +kernel
theorem dX6_addShip_10 : decode cX6_addShip 10 = .ok (.iload 4, 2) := by decide +kernel
theorem dX6_addShip_12 : decode cX6_addShip 12 = .ok (.aaload, 1) := by decide +kernel
theorem dX6_addShip_13 : decode cX6_addShip 13 = .ok (.iload_n 1, 1) := by decide +kernel
theorem dX6_addShip_14 : decode cX6_addShip 14 = .ok (.iload_n 2, 1) := by decide +kernel
theorem dX6_addShip_15 : decode cX6_addShip 15 = .ok (.iload_n 3, 1) := by decide +kernel
theorem dX6_addShip_16 : decode cX6_addShip 16 = .ok (.invokevirtual 90, 3) := by decide +kernel
theorem dX6_addShip_19 : decode cX6_addShip 19 = .ok (.iload 4, 2) := by decide +kernel
theorem dX6_addShip_21 : decode cX6_addShip 21 = .ok (.istore 5, 2) := by decide +kernel
theorem dX6_addShip_23 : decode cX6_addShip 23 = .ok (.iload 5, 2) := by decide +kernel
theorem dX6_addShip_25 : decode cX6_addShip 25 = .ok (.ifCond .le 46, 3) := by decide +kernel
theorem dX6_addShip_28 : decode cX6_addShip 28 = .ok (.aload_n 0, 1) := by decide +kernel
theorem dX6_addShip_29 : decode cX6_addShip 29 = .ok (.getfield 29, 3) := by decide +kernel
theorem dX6_addShip_32 : decode cX6_addShip 32 = .ok (.aload_n 0, 1) := by decide +kernel
theorem dX6_addShip_33 : decode cX6_addShip 33 = .ok (.getfield 33, 3) := by decide +kernel
theorem dX6_addShip_36 : decode cX6_addShip 36 = .ok (.iload 5, 2) := by decide +kernel
theorem dX6_addShip_38 : decode cX6_addShip 38 = .ok (.iconst 1, 1) := by decide +kernel
theorem dX6_addShip_39 : decode cX6_addShip 39 = .ok (.isub, 1) := by decide +kernel
theorem dX6_addShip_40 : decode cX6_addShip 40 = .ok (.iaload, 1) := by decide +kernel
theorem dX6_addShip_41 : decode cX6_addShip 41 = .ok (.aaload, 1) := by decide +kernel
theorem dX6_addShip_42 : decode cX6_addShip 42 = .ok (.getfield 94, 3) := by decide +kernel
theorem dX6_addShip_45 : decode cX6_addShip 45 = .ok (.iload_n 1, 1) := by decide +kernel
theorem dX6_addShip_46 : decode cX6_addShip 46 = .ok (.if_icmp .ge 25, 3) := by decide +kernel
theorem dX6_addShip_49 : decode cX6_addShip 49 = .ok (.aload_n 0, 1) := by decide +kernel
theorem dX6_addShip_50 : decode cX6_addShip 50 = .ok (.getfield 33, 3) := by decide +kernel
theorem dX6_addShip_53 : decode cX6_addShip 53 = .ok (.iload 5, 2) := by decide +kernel
theorem dX6_addShip_55 : decode cX6_addShip 55 = .ok (.aload_n 0, 1) := by decide +kernel
theorem dX6_addShip_56 : decode cX6_addShip 56 = .ok (.getfield 33, 3) := by decide +kernel
theorem dX6_addShip_59 : decode cX6_addShip 59 = .ok (.iload 5, 2) := by decide +kernel
theorem dX6_addShip_61 : decode cX6_addShip 61 = .ok (.iconst 1, 1) := by decide +kernel
theorem dX6_addShip_62 : decode cX6_addShip 62 = .ok (.isub, 1) := by decide +kernel
theorem dX6_addShip_63 : decode cX6_addShip 63 = .ok (.iaload, 1) := by decide +kernel
theorem dX6_addShip_64 : decode cX6_addShip 64 = .ok (.iastore, 1) := by decide +kernel
theorem dX6_addShip_65 : decode cX6_addShip 65 = .ok (.iinc 5 (-1), 3) := by decide +kernel
theorem dX6_addShip_68 : decode cX6_addShip 68 = .ok (.goto (-45), 3) := by decide +kernel
theorem dX6_addShip_71 : decode cX6_addShip 71 = .ok (.aload_n 0, 1) := by decide +kernel
theorem dX6_addShip_72 : decode cX6_addShip 72 = .ok (.getfield 33, 3) := by decide +kernel
theorem dX6_addShip_75 : decode cX6_addShip 75 = .ok (.iload 5, 2) := by decide +kernel
theorem dX6_addShip_77 : decode cX6_addShip 77 = .ok (.iload 4, 2) := by decide +kernel
theorem dX6_addShip_79 : decode cX6_addShip 79 = .ok (.iastore, 1) := by decide +kernel
theorem dX6_addShip_80 : decode cX6_addShip 80 = .ok (.aload_n 0, 1) := by decide +kernel
theorem dX6_addShip_81 : decode cX6_addShip 81 = .ok (.dup, 1) := by decide +kernel
theorem dX6_addShip_82 : decode cX6_addShip 82 = .ok (.getfield 36, 3) := by decide +kernel
theorem dX6_addShip_85 : decode cX6_addShip 85 = .ok (.iconst 1, 1) := by decide +kernel
theorem dX6_addShip_86 : decode cX6_addShip 86 = .ok (.iadd, 1) := by decide +kernel
theorem dX6_addShip_87 : decode cX6_addShip 87 = .ok (.putfield 36, 3) := by decide +kernel
theorem dX6_addShip_90 : decode cX6_addShip 90 = .ok (.iload 4, 2) := by decide +kernel
theorem dX6_addShip_92 : decode cX6_addShip 92 = .ok (.ireturn, 1) := by decide +kernel
theorem dX6_shipAtSeaIn_0 : decode cX6_shipAtSeaIn 0 = .ok (.iconst 0, 1) := by decide +kernel
theorem dX6_shipAtSeaIn_1 : decode cX6_shipAtSeaIn 1 = .ok (.istore_n 2, 1) := by decide +kernel
theorem dX6_shipAtSeaIn_2 : decode cX6_shipAtSeaIn 2 = .ok (.iload_n 2, 1) := by decide +kernel
theorem dX6_shipAtSeaIn_3 : decode cX6_shipAtSeaIn 3 = .ok (.aload_n 0, 1) := by decide +kernel
theorem dX6_shipAtSeaIn_4 : decode cX6_shipAtSeaIn 4 = .ok (.getfield 36, 3) := by decide +kernel
theorem dX6_shipAtSeaIn_7 : decode cX6_shipAtSeaIn 7 = .ok (.if_icmp .ge 36, 3) := by decide +kernel
theorem dX6_shipAtSeaIn_10 : decode cX6_shipAtSeaIn 10 = .ok (.aload_n 0, 1) := by decide +kernel
theorem dX6_shipAtSeaIn_11 : decode cX6_shipAtSeaIn 11 = .ok (.getfield 29, 3) := by decide +kernel
theorem dX6_shipAtSeaIn_14 : decode cX6_shipAtSeaIn 14 = .ok (.iload_n 2, 1) := by decide +kernel
theorem dX6_shipAtSeaIn_15 : decode cX6_shipAtSeaIn 15 = .ok (.aaload, 1) := by decide +kernel
theorem dX6_shipAtSeaIn_16 : decode cX6_shipAtSeaIn 16 = .ok (.getfield 97, 3) := by decide +kernel
theorem dX6_shipAtSeaIn_19 : decode cX6_shipAtSeaIn 19 = .ok (.ifCond .ne 18, 3) := by decide +kernel
theorem dX6_shipAtSeaIn_22 : decode cX6_shipAtSeaIn 22 = .ok (.aload_n 0, 1) := by decide +kernel
theorem dX6_shipAtSeaIn_23 : decode cX6_shipAtSeaIn 23 = .ok (.getfield 29, 3) := by decide +kernel
theorem dX6_shipAtSeaIn_26 : decode cX6_shipAtSeaIn 26 = .ok (.iload_n 2, 1) := by decide +kernel
theorem dX6_shipAtSeaIn_27 : decode cX6_shipAtSeaIn 27 = .ok (.aaload, 1) := by decide +kernel
theorem dX6_shipAtSeaIn_28 : decode cX6_shipAtSeaIn 28 = .ok (.getfield 100, 3) := by decide +kernel
theorem dX6_shipAtSeaIn_31 : decode cX6_shipAtSeaIn 31 = .ok (.iload_n 1, 1) := by decide +kernel
theorem dX6_shipAtSeaIn_32 : decode cX6_shipAtSeaIn 32 = .ok (.if_icmp .ne 5, 3) := by decide +kernel
theorem dX6_shipAtSeaIn_35 : decode cX6_shipAtSeaIn 35 = .ok (.iload_n 2, 1) := by decide +kernel
theorem dX6_shipAtSeaIn_36 : decode cX6_shipAtSeaIn 36 = .ok (.ireturn, 1) := by decide +kernel
theorem dX6_shipAtSeaIn_37 : decode cX6_shipAtSeaIn 37 = .ok (.iinc 2 1, 3) := by decide +kernel
theorem dX6_shipAtSeaIn_40 : decode cX6_shipAtSeaIn 40 = .ok (.goto (-38), 3) := by decide +kernel
theorem dX6_shipAtSeaIn_43 : decode cX6_shipAtSeaIn 43 = .ok (.bipush (-5), 2) := by decide +kernel
theorem dX6_shipAtSeaIn_45 : decode cX6_shipAtSeaIn 45 = .ok (.ireturn, 1) := by decide +kernel
theorem dX6_shipsThatAre_0 : decode cX6_shipsThatAre 0 = .ok (.iconst 0, 1) := by decide +kernel
theorem dX6_shipsThatAre_1 : decode cX6_shipsThatAre 1 = .ok (.istore_n 2, 1) := by decide +kernel
theorem dX6_shipsThatAre_2 : decode cX6_shipsThatAre 2 = .ok (.iconst 0, 1) := by decide +kernel
theorem dX6_shipsThatAre_3 : decode cX6_shipsThatAre 3 = .ok (.istore_n 3, 1) := by decide +kernel
theorem dX6_shipsThatAre_4 : decode cX6_shipsThatAre 4 = .ok (.iload_n 3, 1) := by decide +kernel
theorem dX6_shipsThatAre_5 : decode cX6_shipsThatAre 5 = .ok (.aload_n 0, 1) := by decide +kernel
theorem dX6_shipsThatAre_6 : decode cX6_shipsThatAre 6 = .ok (.getfield 36, 3) := by decide +kernel
theorem dX6_shipsThatAre_9 : decode cX6_shipsThatAre 9 = .ok (.if_icmp .ge 25, 3) := by decide +kernel
theorem dX6_shipsThatAre_12 : decode cX6_shipsThatAre 12 = .ok (.aload_n 0, 1) := by decide +kernel
theorem dX6_shipsThatAre_13 : decode cX6_shipsThatAre 13 = .ok (.getfield 29, 3) := by decide +kernel
theorem dX6_shipsThatAre_16 : decode cX6_shipsThatAre 16 = .ok (.iload_n 3, 1) := by decide +kernel
theorem dX6_shipsThatAre_17 : decode cX6_shipsThatAre 17 = .ok (.aaload, 1) := by decide +kernel
theorem dX6_shipsThatAre_18 : decode cX6_shipsThatAre 18 = .ok (.getfield 97, 3) := by decide +kernel
theorem dX6_shipsThatAre_21 : decode cX6_shipsThatAre 21 = .ok (.iload_n 1, 1) := by decide +kernel
theorem dX6_shipsThatAre_22 : decode cX6_shipsThatAre 22 = .ok (.if_icmp .ne 6, 3) := by decide +kernel
theorem dX6_shipsThatAre_25 : decode cX6_shipsThatAre 25 = .ok (.iinc 2 1, 3) := by decide +kernel
theorem dX6_shipsThatAre_28 : decode cX6_shipsThatAre 28 = .ok (.iinc 3 1, 3) := by decide +kernel
theorem dX6_shipsThatAre_31 : decode cX6_shipsThatAre 31 = .ok (.goto (-27), 3) := by decide +kernel
theorem dX6_shipsThatAre_34 : decode cX6_shipsThatAre 34 = .ok (.iload_n 2, 1) := by decide +kernel
theorem dX6_shipsThatAre_35 : decode cX6_shipsThatAre 35 = .ok (.ireturn, 1) := by decide +kernel
theorem dX6_worthHome_0 : decode cX6_worthHome 0 = .ok (.iconst 0, 1) := by decide +kernel
theorem dX6_worthHome_1 : decode cX6_worthHome 1 = .ok (.istore_n 1, 1) := by decide +kernel
theorem dX6_worthHome_2 : decode cX6_worthHome 2 = .ok (.iconst 0, 1) := by decide +kernel
theorem dX6_worthHome_3 : decode cX6_worthHome 3 = .ok (.istore_n 2, 1) := by decide +kernel
theorem dX6_worthHome_4 : decode cX6_worthHome 4 = .ok (.iload_n 2, 1) := by decide +kernel
theorem dX6_worthHome_5 : decode cX6_worthHome 5 = .ok (.aload_n 0, 1) := by decide +kernel
theorem dX6_worthHome_6 : decode cX6_worthHome 6 = .ok (.getfield 36, 3) := by decide +kernel
theorem dX6_worthHome_9 : decode cX6_worthHome 9 = .ok (.if_icmp .ge 34, 3) := by decide +kernel
theorem dX6_worthHome_12 : decode cX6_worthHome 12 = .ok (.aload_n 0, 1) := by decide +kernel
theorem dX6_worthHome_13 : decode cX6_worthHome 13 = .ok (.getfield 29, 3) := by decide +kernel
theorem dX6_worthHome_16 : decode cX6_worthHome 16 = .ok (.iload_n 2, 1) := by decide +kernel
theorem dX6_worthHome_17 : decode cX6_worthHome 17 = .ok (.aaload, 1) := by decide +kernel
theorem dX6_worthHome_18 : decode cX6_worthHome 18 = .ok (.getfield 97, 3) := by decide +kernel
theorem dX6_worthHome_21 : decode cX6_worthHome 21 = .ok (.iconst 1, 1) := by decide +kernel
theorem dX6_worthHome_22 : decode cX6_worthHome 22 = .ok (.if_icmp .ne 15, 3) := by decide +kernel
theorem dX6_worthHome_25 : decode cX6_worthHome 25 = .ok (.iload_n 1, 1) := by decide +kernel
theorem dX6_worthHome_26 : decode cX6_worthHome 26 = .ok (.aload_n 0, 1) := by decide +kernel
theorem dX6_worthHome_27 : decode cX6_worthHome 27 = .ok (.getfield 29, 3) := by decide +kernel
theorem dX6_worthHome_30 : decode cX6_worthHome 30 = .ok (.iload_n 2, 1) := by decide +kernel
theorem dX6_worthHome_31 : decode cX6_worthHome 31 = .ok (.aaload, 1) := by decide +kernel
theorem dX6_worthHome_32 : decode cX6_worthHome 32 = .ok (.getfield 94, 3) := by decide +kernel
theorem dX6_worthHome_35 : decode cX6_worthHome 35 = .ok (.iadd, 1) := by decide +kernel
theorem dX6_worthHome_36 : decode cX6_worthHome 36 = .ok (.istore_n 1, 1) := by decide +kernel
theorem dX6_worthHome_37 : decode cX6_worthHome 37 = .ok (.iinc 2 1, 3) := by decide +kernel
theorem dX6_worthHome_40 : decode cX6_worthHome 40 = .ok (.goto (-36), 3) := by decide +kernel
theorem dX6_worthHome_43 : decode cX6_worthHome 43 = .ok (.iload_n 1, 1) := by decide +kernel
theorem dX6_worthHome_44 : decode cX6_worthHome 44 = .ok (.ireturn, 1) := by decide +kernel
theorem dX6_placeOf_0 : decode cX6_placeOf 0 = .ok (.aload_n 0, 1) := by decide +kernel
theorem dX6_placeOf_1 : decode cX6_placeOf 1 = .ok (.getfield 29, 3) := by decide +kernel
theorem dX6_placeOf_4 : decode cX6_placeOf 4 = .ok (.iload_n 1, 1) := by decide +kernel
theorem dX6_placeOf_5 : decode cX6_placeOf 5 = .ok (.aaload, 1) := by decide +kernel
theorem dX6_placeOf_6 : decode cX6_placeOf 6 = .ok (.getfield 97, 3) := by decide +kernel
theorem dX6_placeOf_9 : decode cX6_placeOf 9 = .ok (.ifCond .eq 6, 3) := by decide +kernel
theorem dX6_placeOf_12 : decode cX6_placeOf 12 = .ok (.bipush (-5), 2) := by decide +kernel
theorem dX6_placeOf_14 : decode cX6_placeOf 14 = .ok (.ireturn, 1) := by decide +kernel
theorem dX6_placeOf_15 : decode cX6_placeOf 15 = .ok (.iconst 0, 1) := by decide +kernel
theorem dX6_placeOf_16 : decode cX6_placeOf 16 = .ok (.istore_n 2, 1) := by decide +kernel
theorem dX6_placeOf_17 : decode cX6_placeOf 17 = .ok (.iconst 0, 1) := by decide +kernel
theorem dX6_placeOf_18 : decode cX6_placeOf 18 = .ok (.istore_n 3, 1) := by decide +kernel
theorem dX6_placeOf_19 : decode cX6_placeOf 19 = .ok (.iload_n 3, 1) := by decide +kernel
theorem dX6_placeOf_20 : decode cX6_placeOf 20 = .ok (.aload_n 0, 1) := by decide +kernel
theorem dX6_placeOf_21 : decode cX6_placeOf 21 = .ok (.getfield 36, 3) := by decide +kernel
theorem dX6_placeOf_24 : decode cX6_placeOf 24 = .ok (.if_icmp .ge 39, 3) := by decide +kernel
theorem dX6_placeOf_27 : decode cX6_placeOf 27 = .ok (.aload_n 0, 1) := by decide +kernel
theorem dX6_placeOf_28 : decode cX6_placeOf 28 = .ok (.getfield 33, 3) := by decide +kernel
theorem dX6_placeOf_31 : decode cX6_placeOf 31 = .ok (.iload_n 3, 1) := by decide +kernel
theorem dX6_placeOf_32 : decode cX6_placeOf 32 = .ok (.iaload, 1) := by decide +kernel
theorem dX6_placeOf_33 : decode cX6_placeOf 33 = .ok (.iload_n 1, 1) := by decide +kernel
theorem dX6_placeOf_34 : decode cX6_placeOf 34 = .ok (.if_icmp .eq 29, 3) := by decide +kernel
theorem dX6_placeOf_37 : decode cX6_placeOf 37 = .ok (.aload_n 0, 1) := by decide +kernel
theorem dX6_placeOf_38 : decode cX6_placeOf 38 = .ok (.getfield 29, 3) := by decide +kernel
theorem dX6_placeOf_41 : decode cX6_placeOf 41 = .ok (.aload_n 0, 1) := by decide +kernel
theorem dX6_placeOf_42 : decode cX6_placeOf 42 = .ok (.getfield 33, 3) := by decide +kernel
theorem dX6_placeOf_45 : decode cX6_placeOf 45 = .ok (.iload_n 3, 1) := by decide +kernel
theorem dX6_placeOf_46 : decode cX6_placeOf 46 = .ok (.iaload, 1) := by decide +kernel
theorem dX6_placeOf_47 : decode cX6_placeOf 47 = .ok (.aaload, 1) := by decide +kernel
theorem dX6_placeOf_48 : decode cX6_placeOf 48 = .ok (.getfield 97, 3) := by decide +kernel
theorem dX6_placeOf_51 : decode cX6_placeOf 51 = .ok (.ifCond .ne 6, 3) := by decide +kernel
theorem dX6_placeOf_54 : decode cX6_placeOf 54 = .ok (.iinc 2 1, 3) := by decide +kernel
theorem dX6_placeOf_57 : decode cX6_placeOf 57 = .ok (.iinc 3 1, 3) := by decide +kernel
theorem dX6_placeOf_60 : decode cX6_placeOf 60 = .ok (.goto (-41), 3) := by decide +kernel
theorem dX6_placeOf_63 : decode cX6_placeOf 63 = .ok (.iload_n 2, 1) := by decide +kernel
theorem dX6_placeOf_64 : decode cX6_placeOf 64 = .ok (.ireturn, 1) := by decide +kernel
theorem dX6_canLayCard_0 : decode cX6_canLayCard 0 = .ok (.iload_n 1, 1) := by decide +kernel
theorem dX6_canLayCard_1 : decode cX6_canLayCard 1 = .ok (.iload_n 2, 1) := by decide +kernel
theorem dX6_canLayCard_2 : decode cX6_canLayCard 2 = .ok (.if_icmp .eq 33, 3) := by decide +kernel
theorem dX6_canLayCard_5 : decode cX6_canLayCard 5 = .ok (.aload_n 0, 1) := by decide +kernel
theorem dX6_canLayCard_6 : decode cX6_canLayCard 6 = .ok (.getfield 23, 3) := by decide +kernel
theorem dX6_canLayCard_9 : decode cX6_canLayCard 9 = .ok (.iload_n 1, 1) := by decide +kernel
theorem dX6_canLayCard_10 : decode cX6_canLayCard 10 = .ok (.aaload, 1) := by decide +kernel
theorem dX6_canLayCard_11 : decode cX6_canLayCard 11 = .ok (.getfield 103, 3) := by decide +kernel
theorem dX6_canLayCard_14 : decode cX6_canLayCard 14 = .ok (.ifCond .le 21, 3) := by decide +kernel
theorem dX6_canLayCard_17 : decode cX6_canLayCard 17 = .ok (.aload_n 0, 1) := by decide +kernel
theorem dX6_canLayCard_18 : decode cX6_canLayCard 18 = .ok (.getfield 17, 3) := by decide +kernel
theorem dX6_canLayCard_21 : decode cX6_canLayCard 21 = .ok (.iload_n 2, 1) := by decide +kernel
theorem dX6_canLayCard_22 : decode cX6_canLayCard 22 = .ok (.aaload, 1) := by decide +kernel
theorem dX6_canLayCard_23 : decode cX6_canLayCard 23 = .ok (.getfield 106, 3) := by decide +kernel
theorem dX6_canLayCard_26 : decode cX6_canLayCard 26 = .ok (.bipush 9, 2) := by decide +kernel
theorem dX6_canLayCard_28 : decode cX6_canLayCard 28 = .ok (.if_icmp .ge 7, 3) := by decide +kernel
theorem dX6_canLayCard_31 : decode cX6_canLayCard 31 = .ok (.iconst 1, 1) := by decide +kernel
theorem dX6_canLayCard_32 : decode cX6_canLayCard 32 = .ok (.goto 4, 3) := by decide +kernel
theorem dX6_canLayCard_35 : decode cX6_canLayCard 35 = .ok (.iconst 0, 1) := by decide +kernel
theorem dX6_canLayCard_36 : decode cX6_canLayCard 36 = .ok (.ireturn, 1) := by decide +kernel
theorem dX6_debts_0 : decode cX6_debts 0 = .ok (.iconst 0, 1) := by decide +kernel
theorem dX6_debts_1 : decode cX6_debts 1 = .ok (.istore_n 1, 1) := by decide +kernel
theorem dX6_debts_2 : decode cX6_debts 2 = .ok (.aload_n 0, 1) := by decide +kernel
theorem dX6_debts_3 : decode cX6_debts 3 = .ok (.getfield 23, 3) := by decide +kernel
theorem dX6_debts_6 : decode cX6_debts 6 = .ok (.astore_n 2, 1) := by decide +kernel
theorem dX6_debts_7 : decode cX6_debts 7 = .ok (.aload_n 2, 1) := by decide +kernel
theorem dX6_debts_8 : decode cX6_debts 8 = .ok (.arraylength, 1) := by decide +kernel
theorem dX6_debts_9 : decode cX6_debts 9 = .ok (.istore_n 3, 1) := by decide +kernel
theorem dX6_debts_10 : decode cX6_debts 10 = .ok (.iconst 0, 1) := by decide +kernel
theorem dX6_debts_11 : decode cX6_debts 11 = .ok (.istore 4, 2) := by decide +kernel
theorem dX6_debts_13 : decode cX6_debts 13 = .ok (.iload 4, 2) := by decide +kernel
theorem dX6_debts_15 : decode cX6_debts 15 = .ok (.iload_n 3, 1) := by decide +kernel
theorem dX6_debts_16 : decode cX6_debts 16 = .ok (.if_icmp .ge 23, 3) := by decide +kernel
theorem dX6_debts_19 : decode cX6_debts 19 = .ok (.aload_n 2, 1) := by decide +kernel
theorem dX6_debts_20 : decode cX6_debts 20 = .ok (.iload 4, 2) := by decide +kernel
theorem dX6_debts_22 : decode cX6_debts 22 = .ok (.aaload, 1) := by decide +kernel
theorem dX6_debts_23 : decode cX6_debts 23 = .ok (.astore 5, 2) := by decide +kernel
theorem dX6_debts_25 : decode cX6_debts 25 = .ok (.iload_n 1, 1) := by decide +kernel
theorem dX6_debts_26 : decode cX6_debts 26 = .ok (.aload 5, 2) := by decide +kernel
theorem dX6_debts_28 : decode cX6_debts 28 = .ok (.getfield 109, 3) := by decide +kernel
theorem dX6_debts_31 : decode cX6_debts 31 = .ok (.iadd, 1) := by decide +kernel
theorem dX6_debts_32 : decode cX6_debts 32 = .ok (.istore_n 1, 1) := by decide +kernel
theorem dX6_debts_33 : decode cX6_debts 33 = .ok (.iinc 4 1, 3) := by decide +kernel
theorem dX6_debts_36 : decode cX6_debts 36 = .ok (.goto (-23), 3) := by decide +kernel
theorem dX6_debts_39 : decode cX6_debts 39 = .ok (.iload_n 1, 1) := by decide +kernel
theorem dX6_debts_40 : decode cX6_debts 40 = .ok (.ireturn, 1) := by decide +kernel
theorem dX6_paid_0 : decode cX6_paid 0 = .ok (.iconst 0, 1) := by decide +kernel
theorem dX6_paid_1 : decode cX6_paid 1 = .ok (.istore_n 1, 1) := by decide +kernel
theorem dX6_paid_2 : decode cX6_paid 2 = .ok (.aload_n 0, 1) := by decide +kernel
theorem dX6_paid_3 : decode cX6_paid 3 = .ok (.getfield 23, 3) := by decide +kernel
theorem dX6_paid_6 : decode cX6_paid 6 = .ok (.astore_n 2, 1) := by decide +kernel
theorem dX6_paid_7 : decode cX6_paid 7 = .ok (.aload_n 2, 1) := by decide +kernel
theorem dX6_paid_8 : decode cX6_paid 8 = .ok (.arraylength, 1) := by decide +kernel
theorem dX6_paid_9 : decode cX6_paid 9 = .ok (.istore_n 3, 1) := by decide +kernel
theorem dX6_paid_10 : decode cX6_paid 10 = .ok (.iconst 0, 1) := by decide +kernel
theorem dX6_paid_11 : decode cX6_paid 11 = .ok (.istore 4, 2) := by decide +kernel
theorem dX6_paid_13 : decode cX6_paid 13 = .ok (.iload 4, 2) := by decide +kernel
theorem dX6_paid_15 : decode cX6_paid 15 = .ok (.iload_n 3, 1) := by decide +kernel
theorem dX6_paid_16 : decode cX6_paid 16 = .ok (.if_icmp .ge 23, 3) := by decide +kernel
theorem dX6_paid_19 : decode cX6_paid 19 = .ok (.aload_n 2, 1) := by decide +kernel
theorem dX6_paid_20 : decode cX6_paid 20 = .ok (.iload 4, 2) := by decide +kernel
theorem dX6_paid_22 : decode cX6_paid 22 = .ok (.aaload, 1) := by decide +kernel
theorem dX6_paid_23 : decode cX6_paid 23 = .ok (.astore 5, 2) := by decide +kernel
theorem dX6_paid_25 : decode cX6_paid 25 = .ok (.iload_n 1, 1) := by decide +kernel
theorem dX6_paid_26 : decode cX6_paid 26 = .ok (.aload 5, 2) := by decide +kernel
theorem dX6_paid_28 : decode cX6_paid 28 = .ok (.getfield 112, 3) := by decide +kernel
theorem dX6_paid_31 : decode cX6_paid 31 = .ok (.iadd, 1) := by decide +kernel
theorem dX6_paid_32 : decode cX6_paid 32 = .ok (.istore_n 1, 1) := by decide +kernel
theorem dX6_paid_33 : decode cX6_paid 33 = .ok (.iinc 4 1, 3) := by decide +kernel
theorem dX6_paid_36 : decode cX6_paid 36 = .ok (.goto (-23), 3) := by decide +kernel
theorem dX6_paid_39 : decode cX6_paid 39 = .ok (.iload_n 1, 1) := by decide +kernel
theorem dX6_paid_40 : decode cX6_paid 40 = .ok (.ireturn, 1) := by decide +kernel
theorem dX6_litBy_0 : decode cX6_litBy 0 = .ok (.iconst 0, 1) := by decide +kernel
theorem dX6_litBy_1 : decode cX6_litBy 1 = .ok (.istore 4, 2) := by decide +kernel
theorem dX6_litBy_3 : decode cX6_litBy 3 = .ok (.iconst 0, 1) := by decide +kernel
theorem dX6_litBy_4 : decode cX6_litBy 4 = .ok (.istore 5, 2) := by decide +kernel
theorem dX6_litBy_6 : decode cX6_litBy 6 = .ok (.iload 5, 2) := by decide +kernel
theorem dX6_litBy_8 : decode cX6_litBy 8 = .ok (.iconst 4, 1) := by decide +kernel
theorem dX6_litBy_9 : decode cX6_litBy 9 = .ok (.if_icmp .ge 34, 3) := by decide +kernel
theorem dX6_litBy_12 : decode cX6_litBy 12 = .ok (.aload_n 0, 1) := by decide +kernel
theorem dX6_litBy_13 : decode cX6_litBy 13 = .ok (.getfield 17, 3) := by decide +kernel
theorem dX6_litBy_16 : decode cX6_litBy 16 = .ok (.iload 5, 2) := by decide +kernel
theorem dX6_litBy_18 : decode cX6_litBy 18 = .ok (.aaload, 1) := by decide +kernel
theorem dX6_litBy_19 : decode cX6_litBy 19 = .ok (.iload_n 1, 1) := by decide +kernel
theorem dX6_litBy_20 : decode cX6_litBy 20 = .ok (.iload_n 2, 1) := by decide +kernel
theorem dX6_litBy_21 : decode cX6_litBy 21 = .ok (.iload_n 3, 1) := by decide +kernel
theorem dX6_litBy_22 : decode cX6_litBy 22 = .ok (.invokevirtual 115, 3) := by decide +kernel
theorem dX6_litBy_25 : decode cX6_litBy 25 = .ok (.ifCond .eq 12, 3) := by decide +kernel
theorem dX6_litBy_28 : decode cX6_litBy 28 = .ok (.iload 4, 2) := by decide +kernel
theorem dX6_litBy_30 : decode cX6_litBy 30 = .ok (.iconst 1, 1) := by decide +kernel
theorem dX6_litBy_31 : decode cX6_litBy 31 = .ok (.iload 5, 2) := by decide +kernel
theorem dX6_litBy_33 : decode cX6_litBy 33 = .ok (.ishl, 1) := by decide +kernel
theorem dX6_litBy_34 : decode cX6_litBy 34 = .ok (.ior, 1) := by decide +kernel
theorem dX6_litBy_35 : decode cX6_litBy 35 = .ok (.istore 4, 2) := by decide +kernel
theorem dX6_litBy_37 : decode cX6_litBy 37 = .ok (.iinc 5 1, 3) := by decide +kernel
theorem dX6_litBy_40 : decode cX6_litBy 40 = .ok (.goto (-34), 3) := by decide +kernel
theorem dX6_litBy_43 : decode cX6_litBy 43 = .ok (.iload 4, 2) := by decide +kernel
theorem dX6_litBy_45 : decode cX6_litBy 45 = .ok (.ireturn, 1) := by decide +kernel
theorem dX6_litCells_0 : decode cX6_litCells 0 = .ok (.iconst 0, 1) := by decide +kernel
theorem dX6_litCells_1 : decode cX6_litCells 1 = .ok (.istore_n 2, 1) := by decide +kernel
theorem dX6_litCells_2 : decode cX6_litCells 2 = .ok (.iconst 0, 1) := by decide +kernel
theorem dX6_litCells_3 : decode cX6_litCells 3 = .ok (.istore_n 3, 1) := by decide +kernel
theorem dX6_litCells_4 : decode cX6_litCells 4 = .ok (.iload_n 3, 1) := by decide +kernel
theorem dX6_litCells_5 : decode cX6_litCells 5 = .ok (.bipush 100, 2) := by decide +kernel
theorem dX6_litCells_7 : decode cX6_litCells 7 = .ok (.if_icmp .ge 37, 3) := by decide +kernel
theorem dX6_litCells_10 : decode cX6_litCells 10 = .ok (.iload_n 1, 1) := by decide +kernel
theorem dX6_litCells_11 : decode cX6_litCells 11 = .ok (.ifCond .eq 11, 3) := by decide +kernel
theorem dX6_litCells_14 : decode cX6_litCells 14 = .ok (.aload_n 0, 1) := by decide +kernel
theorem dX6_litCells_15 : decode cX6_litCells 15 = .ok (.iload_n 3, 1) := by decide +kernel
theorem dX6_litCells_16 : decode cX6_litCells 16 = .ok (.invokevirtual 84, 3) := by decide +kernel
theorem dX6_litCells_19 : decode cX6_litCells 19 = .ok (.ifCond .eq 19, 3) := by decide +kernel
theorem dX6_litCells_22 : decode cX6_litCells 22 = .ok (.aload_n 0, 1) := by decide +kernel
theorem dX6_litCells_23 : decode cX6_litCells 23 = .ok (.iload_n 3, 1) := by decide +kernel
theorem dX6_litCells_24 : decode cX6_litCells 24 = .ok (.aload_n 0, 1) := by decide +kernel
theorem dX6_litCells_25 : decode cX6_litCells 25 = .ok (.getfield 43, 3) := by decide +kernel
theorem dX6_litCells_28 : decode cX6_litCells 28 = .ok (.iconst 0, 1) := by decide +kernel
theorem dX6_litCells_29 : decode cX6_litCells 29 = .ok (.invokevirtual 119, 3) := by decide +kernel
theorem dX6_litCells_32 : decode cX6_litCells 32 = .ok (.ifCond .eq 6, 3) := by decide +kernel
theorem dX6_litCells_35 : decode cX6_litCells 35 = .ok (.iinc 2 1, 3) := by decide +kernel
theorem dX6_litCells_38 : decode cX6_litCells 38 = .ok (.iinc 3 1, 3) := by decide +kernel
theorem dX6_litCells_41 : decode cX6_litCells 41 = .ok (.goto (-37), 3) := by decide +kernel
theorem dX6_litCells_44 : decode cX6_litCells 44 = .ok (.iload_n 2, 1) := by decide +kernel
theorem dX6_litCells_45 : decode cX6_litCells 45 = .ok (.ireturn, 1) := by decide +kernel
theorem dX6_passError_0 : decode cX6_passError 0 = .ok (.iload_n 1, 1) := by decide +kernel
theorem dX6_passError_1 : decode cX6_passError 1 = .ok (.iconst 1, 1) := by decide +kernel
theorem dX6_passError_2 : decode cX6_passError 2 = .ok (.if_icmp .lt 9, 3) := by decide +kernel
theorem dX6_passError_5 : decode cX6_passError 5 = .ok (.iload_n 1, 1) := by decide +kernel
theorem dX6_passError_6 : decode cX6_passError 6 = .ok (.bipush 20, 2) := by decide +kernel
theorem dX6_passError_8 : decode cX6_passError 8 = .ok (.if_icmp .le 6, 3) := by decide +kernel
theorem dX6_passError_11 : decode cX6_passError 11 = .ok (.bipush (-2), 2) := by decide +kernel
theorem dX6_passError_13 : decode cX6_passError 13 = .ok (.ireturn, 1) := by decide +kernel
theorem dX6_passError_14 : decode cX6_passError 14 = .ok (.aload_n 0, 1) := by decide +kernel
theorem dX6_passError_15 : decode cX6_passError 15 = .ok (.getfield 43, 3) := by decide +kernel
theorem dX6_passError_18 : decode cX6_passError 18 = .ok (.iload_n 1, 1) := by decide +kernel
theorem dX6_passError_19 : decode cX6_passError 19 = .ok (.iadd, 1) := by decide +kernel
theorem dX6_passError_20 : decode cX6_passError 20 = .ok (.sipush 9999, 3) := by decide +kernel
theorem dX6_passError_23 : decode cX6_passError 23 = .ok (.if_icmp .le 8, 3) := by decide +kernel
theorem dX6_passError_26 : decode cX6_passError 26 = .ok (.bipush (-3), 2) := by decide +kernel
theorem dX6_passError_28 : decode cX6_passError 28 = .ok (.goto 4, 3) := by decide +kernel
theorem dX6_passError_31 : decode cX6_passError 31 = .ok (.iconst 0, 1) := by decide +kernel
theorem dX6_passError_32 : decode cX6_passError 32 = .ok (.ireturn, 1) := by decide +kernel
theorem dX6_passHours_0 : decode cX6_passHours 0 = .ok (.iconst 0, 1) := by decide +kernel
theorem dX6_passHours_1 : decode cX6_passHours 1 = .ok (.istore_n 2, 1) := by decide +kernel
theorem dX6_passHours_2 : decode cX6_passHours 2 = .ok (.iconst 0, 1) := by decide +kernel
theorem dX6_passHours_3 : decode cX6_passHours 3 = .ok (.istore_n 3, 1) := by decide +kernel
theorem dX6_passHours_4 : decode cX6_passHours 4 = .ok (.iload_n 3, 1) := by decide +kernel
theorem dX6_passHours_5 : decode cX6_passHours 5 = .ok (.iload_n 1, 1) := by decide +kernel
theorem dX6_passHours_6 : decode cX6_passHours 6 = .ok (.if_icmp .ge 141, 3) := by decide +kernel
theorem dX6_passHours_9 : decode cX6_passHours 9 = .ok (.iconst 0, 1) := by decide +kernel
theorem dX6_passHours_10 : decode cX6_passHours 10 = .ok (.istore 4, 2) := by decide +kernel
theorem dX6_passHours_12 : decode cX6_passHours 12 = .ok (.iload 4, 2) := by decide +kernel
theorem dX6_passHours_14 : decode cX6_passHours 14 = .ok (.aload_n 0, 1) := by decide +kernel
theorem dX6_passHours_15 : decode cX6_passHours 15 = .ok (.getfield 36, 3) := by decide +kernel
theorem dX6_passHours_18 : decode cX6_passHours 18 = .ok (.if_icmp .ge 31, 3) := by decide +kernel
theorem dX6_passHours_21 : decode cX6_passHours 21 = .ok (.aload_n 0, 1) := by decide +kernel
theorem dX6_passHours_22 : decode cX6_passHours 22 = .ok (.aload_n 0, 1) := by decide +kernel
theorem dX6_passHours_23 : decode cX6_passHours 23 = .ok (.getfield 29, 3) := by decide +kernel
theorem dX6_passHours_26 : decode cX6_passHours 26 = .ok (.aload_n 0, 1) := by decide +kernel
theorem dX6_passHours_27 : decode cX6_passHours 27 = .ok (.getfield 33, 3) := by decide +kernel
theorem dX6_passHours_30 : decode cX6_passHours 30 = .ok (.iload 4, 2) := by decide +kernel
theorem dX6_passHours_32 : decode cX6_passHours 32 = .ok (.iaload, 1) := by decide +kernel
theorem dX6_passHours_33 : decode cX6_passHours 33 = .ok (.aaload, 1) := by decide +kernel
theorem dX6_passHours_34 : decode cX6_passHours 34 = .ok (.invokevirtual 123, 3) := by decide +kernel
theorem dX6_passHours_37 : decode cX6_passHours 37 = .ok (.ifCond .eq 6, 3) := by decide +kernel
theorem dX6_passHours_40 : decode cX6_passHours 40 = .ok (.iinc 2 1, 3) := by decide +kernel
theorem dX6_passHours_43 : decode cX6_passHours 43 = .ok (.iinc 4 1, 3) := by decide +kernel
theorem dX6_passHours_46 : decode cX6_passHours 46 = .ok (.goto (-34), 3) := by decide +kernel
theorem dX6_passHours_49 : decode cX6_passHours 49 = .ok (.aload_n 0, 1) := by decide +kernel
theorem dX6_passHours_50 : decode cX6_passHours 50 = .ok (.getfield 23, 3) := by decide +kernel
theorem dX6_passHours_53 : decode cX6_passHours 53 = .ok (.astore 4, 2) := by decide +kernel
theorem dX6_passHours_55 : decode cX6_passHours 55 = .ok (.aload 4, 2) := by decide +kernel
theorem dX6_passHours_57 : decode cX6_passHours 57 = .ok (.arraylength, 1) := by decide +kernel
theorem dX6_passHours_58 : decode cX6_passHours 58 = .ok (.istore 5, 2) := by decide +kernel
theorem dX6_passHours_60 : decode cX6_passHours 60 = .ok (.iconst 0, 1) := by decide +kernel
theorem dX6_passHours_61 : decode cX6_passHours 61 = .ok (.istore 6, 2) := by decide +kernel
theorem dX6_passHours_63 : decode cX6_passHours 63 = .ok (.iload 6, 2) := by decide +kernel
theorem dX6_passHours_65 : decode cX6_passHours 65 = .ok (.iload 5, 2) := by decide +kernel
theorem dX6_passHours_67 : decode cX6_passHours 67 = .ok (.if_icmp .ge 25, 3) := by decide +kernel
theorem dX6_passHours_70 : decode cX6_passHours 70 = .ok (.aload 4, 2) := by decide +kernel
theorem dX6_passHours_72 : decode cX6_passHours 72 = .ok (.iload 6, 2) := by decide +kernel
theorem dX6_passHours_74 : decode cX6_passHours 74 = .ok (.aaload, 1) := by decide +kernel
theorem dX6_passHours_75 : decode cX6_passHours 75 = .ok (.astore 7, 2) := by decide +kernel
theorem dX6_passHours_77 : decode cX6_passHours 77 = .ok (.aload 7, 2) := by decide +kernel
theorem dX6_passHours_79 : decode cX6_passHours 79 = .ok (.aload_n 0, 1) := by decide +kernel
theorem dX6_passHours_80 : decode cX6_passHours 80 = .ok (.getfield 40, 3) := by decide +kernel
theorem dX6_passHours_83 : decode cX6_passHours 83 = .ok (.invokevirtual 127, 3) := by decide +kernel
theorem dX6_passHours_86 : decode cX6_passHours 86 = .ok (.iinc 6 1, 3) := by decide +kernel
theorem dX6_passHours_89 : decode cX6_passHours 89 = .ok (.goto (-26), 3) := by decide +kernel
theorem dX6_passHours_92 : decode cX6_passHours 92 = .ok (.aload_n 0, 1) := by decide +kernel
theorem dX6_passHours_93 : decode cX6_passHours 93 = .ok (.getfield 17, 3) := by decide +kernel
theorem dX6_passHours_96 : decode cX6_passHours 96 = .ok (.astore 4, 2) := by decide +kernel
theorem dX6_passHours_98 : decode cX6_passHours 98 = .ok (.aload 4, 2) := by decide +kernel
theorem dX6_passHours_100 : decode cX6_passHours 100 = .ok (.arraylength, 1) := by decide +kernel
theorem dX6_passHours_101 : decode cX6_passHours 101 = .ok (.istore 5, 2) := by decide +kernel
theorem dX6_passHours_103 : decode cX6_passHours 103 = .ok (.iconst 0, 1) := by decide +kernel
theorem dX6_passHours_104 : decode cX6_passHours 104 = .ok (.istore 6, 2) := by decide +kernel
theorem dX6_passHours_106 : decode cX6_passHours 106 = .ok (.iload 6, 2) := by decide +kernel
theorem dX6_passHours_108 : decode cX6_passHours 108 = .ok (.iload 5, 2) := by decide +kernel
theorem dX6_passHours_110 : decode cX6_passHours 110 = .ok (.if_icmp .ge 21, 3) := by decide +kernel
theorem dX6_passHours_113 : decode cX6_passHours 113 = .ok (.aload 4, 2) := by decide +kernel
theorem dX6_passHours_115 : decode cX6_passHours 115 = .ok (.iload 6, 2) := by decide +kernel
theorem dX6_passHours_117 : decode cX6_passHours 117 = .ok (.aaload, 1) := by decide +kernel
theorem dX6_passHours_118 : decode cX6_passHours 118 = .ok (.astore 7, 2) := by decide +kernel
theorem dX6_passHours_120 : decode cX6_passHours 120 = .ok (.aload 7, 2) := by decide +kernel
theorem dX6_passHours_122 : decode cX6_passHours 122 = .ok (.invokevirtual 131, 3) := by decide +kernel
theorem dX6_passHours_125 : decode cX6_passHours 125 = .ok (.iinc 6 1, 3) := by decide +kernel
theorem dX6_passHours_128 : decode cX6_passHours 128 = .ok (.goto (-22), 3) := by decide +kernel
theorem dX6_passHours_131 : decode cX6_passHours 131 = .ok (.aload_n 0, 1) := by decide +kernel
theorem dX6_passHours_132 : decode cX6_passHours 132 = .ok (.dup, 1) := by decide +kernel
theorem dX6_passHours_133 : decode cX6_passHours 133 = .ok (.getfield 43, 3) := by decide +kernel
theorem dX6_passHours_136 : decode cX6_passHours 136 = .ok (.iconst 1, 1) := by decide +kernel
theorem dX6_passHours_137 : decode cX6_passHours 137 = .ok (.iadd, 1) := by decide +kernel
theorem dX6_passHours_138 : decode cX6_passHours 138 = .ok (.putfield 43, 3) := by decide +kernel
theorem dX6_passHours_141 : decode cX6_passHours 141 = .ok (.iinc 3 1, 3) := by decide +kernel
theorem dX6_passHours_144 : decode cX6_passHours 144 = .ok (.goto (-140), 3) := by decide +kernel
theorem dX6_passHours_147 : decode cX6_passHours 147 = .ok (.iload_n 2, 1) := by decide +kernel
theorem dX6_passHours_148 : decode cX6_passHours 148 = .ok (.ireturn, 1) := by decide +kernel
theorem dX6_goesToWreck_0 : decode cX6_goesToWreck 0 = .ok (.aload_n 1, 1) := by decide +kernel
theorem dX6_goesToWreck_1 : decode cX6_goesToWreck 1 = .ok (.getfield 97, 3) := by decide +kernel
theorem dX6_goesToWreck_4 : decode cX6_goesToWreck 4 = .ok (.ifCond .eq 5, 3) := by decide +kernel
theorem dX6_goesToWreck_7 : decode cX6_goesToWreck 7 = .ok (.iconst 0, 1) := by decide +kernel
theorem dX6_goesToWreck_8 : decode cX6_goesToWreck 8 = .ok (.ireturn, 1) := by decide +kernel
theorem dX6_goesToWreck_9 : decode cX6_goesToWreck 9 = .ok (.aload_n 1, 1) := by decide +kernel
theorem dX6_goesToWreck_10 : decode cX6_goesToWreck 10 = .ok (.invokevirtual 134, 3) := by decide +kernel
theorem dX6_goesToWreck_13 : decode cX6_goesToWreck 13 = .ok (.istore_n 2, 1) := by decide +kernel
theorem dX6_goesToWreck_14 : decode cX6_goesToWreck 14 = .ok (.aload_n 0, 1) := by decide +kernel
theorem dX6_goesToWreck_15 : decode cX6_goesToWreck 15 = .ok (.iload_n 2, 1) := by decide +kernel
theorem dX6_goesToWreck_16 : decode cX6_goesToWreck 16 = .ok (.invokevirtual 84, 3) := by decide +kernel
theorem dX6_goesToWreck_19 : decode cX6_goesToWreck 19 = .ok (.istore_n 3, 1) := by decide +kernel
theorem dX6_goesToWreck_20 : decode cX6_goesToWreck 20 = .ok (.aload_n 0, 1) := by decide +kernel
theorem dX6_goesToWreck_21 : decode cX6_goesToWreck 21 = .ok (.iload_n 2, 1) := by decide +kernel
theorem dX6_goesToWreck_22 : decode cX6_goesToWreck 22 = .ok (.invokevirtual 87, 3) := by decide +kernel
theorem dX6_goesToWreck_25 : decode cX6_goesToWreck 25 = .ok (.bipush (-5), 2) := by decide +kernel
theorem dX6_goesToWreck_27 : decode cX6_goesToWreck 27 = .ok (.if_icmp .ne 20, 3) := by decide +kernel
theorem dX6_goesToWreck_30 : decode cX6_goesToWreck 30 = .ok (.iload_n 3, 1) := by decide +kernel
theorem dX6_goesToWreck_31 : decode cX6_goesToWreck 31 = .ok (.ifCond .eq 28, 3) := by decide +kernel
theorem dX6_goesToWreck_34 : decode cX6_goesToWreck 34 = .ok (.aload_n 0, 1) := by decide +kernel
theorem dX6_goesToWreck_35 : decode cX6_goesToWreck 35 = .ok (.iload_n 2, 1) := by decide +kernel
theorem dX6_goesToWreck_36 : decode cX6_goesToWreck 36 = .ok (.aload_n 0, 1) := by decide +kernel
theorem dX6_goesToWreck_37 : decode cX6_goesToWreck 37 = .ok (.getfield 43, 3) := by decide +kernel
theorem dX6_goesToWreck_40 : decode cX6_goesToWreck 40 = .ok (.iconst 0, 1) := by decide +kernel
theorem dX6_goesToWreck_41 : decode cX6_goesToWreck 41 = .ok (.invokevirtual 119, 3) := by decide +kernel
theorem dX6_goesToWreck_44 : decode cX6_goesToWreck 44 = .ok (.ifCond .eq 15, 3) := by decide +kernel
theorem dX6_goesToWreck_47 : decode cX6_goesToWreck 47 = .ok (.aload_n 1, 1) := by decide +kernel
theorem dX6_goesToWreck_48 : decode cX6_goesToWreck 48 = .ok (.dup, 1) := by decide +kernel
theorem dX6_goesToWreck_49 : decode cX6_goesToWreck 49 = .ok (.getfield 138, 3) := by decide +kernel
theorem dX6_goesToWreck_52 : decode cX6_goesToWreck 52 = .ok (.iconst 1, 1) := by decide +kernel
theorem dX6_goesToWreck_53 : decode cX6_goesToWreck 53 = .ok (.iadd, 1) := by decide +kernel
theorem dX6_goesToWreck_54 : decode cX6_goesToWreck 54 = .ok (.putfield 138, 3) := by decide +kernel
theorem dX6_goesToWreck_57 : decode cX6_goesToWreck 57 = .ok (.iconst 0, 1) := by decide +kernel
theorem dX6_goesToWreck_58 : decode cX6_goesToWreck 58 = .ok (.ireturn, 1) := by decide +kernel
theorem dX6_goesToWreck_59 : decode cX6_goesToWreck 59 = .ok (.iload_n 3, 1) := by decide +kernel
theorem dX6_goesToWreck_60 : decode cX6_goesToWreck 60 = .ok (.ifCond .eq 31, 3) := by decide +kernel
theorem dX6_goesToWreck_63 : decode cX6_goesToWreck 63 = .ok (.aload_n 1, 1) := by decide +kernel
theorem dX6_goesToWreck_64 : decode cX6_goesToWreck 64 = .ok (.iload_n 2, 1) := by decide +kernel
theorem dX6_goesToWreck_65 : decode cX6_goesToWreck 65 = .ok (.invokevirtual 141, 3) := by decide +kernel
theorem dX6_goesToWreck_68 : decode cX6_goesToWreck 68 = .ok (.aload_n 0, 1) := by decide +kernel
theorem dX6_goesToWreck_69 : decode cX6_goesToWreck 69 = .ok (.getfield 23, 3) := by decide +kernel
theorem dX6_goesToWreck_72 : decode cX6_goesToWreck 72 = .ok (.aload_n 0, 1) := by decide +kernel
theorem dX6_goesToWreck_73 : decode cX6_goesToWreck 73 = .ok (.getfield 46, 3) := by decide +kernel
theorem dX6_goesToWreck_76 : decode cX6_goesToWreck 76 = .ok (.getfield 144, 3) := by decide +kernel
theorem dX6_goesToWreck_79 : decode cX6_goesToWreck 79 = .ok (.iload_n 2, 1) := by decide +kernel
theorem dX6_goesToWreck_80 : decode cX6_goesToWreck 80 = .ok (.iaload, 1) := by decide +kernel
theorem dX6_goesToWreck_81 : decode cX6_goesToWreck 81 = .ok (.aaload, 1) := by decide +kernel
theorem dX6_goesToWreck_82 : decode cX6_goesToWreck 82 = .ok (.aload_n 1, 1) := by decide +kernel
theorem dX6_goesToWreck_83 : decode cX6_goesToWreck 83 = .ok (.getfield 94, 3) := by decide +kernel
theorem dX6_goesToWreck_86 : decode cX6_goesToWreck 86 = .ok (.invokevirtual 149, 3) := by decide +kernel
theorem dX6_goesToWreck_89 : decode cX6_goesToWreck 89 = .ok (.iconst 1, 1) := by decide +kernel
theorem dX6_goesToWreck_90 : decode cX6_goesToWreck 90 = .ok (.ireturn, 1) := by decide +kernel
theorem dX6_goesToWreck_91 : decode cX6_goesToWreck 91 = .ok (.aload_n 1, 1) := by decide +kernel
theorem dX6_goesToWreck_92 : decode cX6_goesToWreck 92 = .ok (.iload_n 2, 1) := by decide +kernel
theorem dX6_goesToWreck_93 : decode cX6_goesToWreck 93 = .ok (.invokevirtual 152, 3) := by decide +kernel
theorem dX6_goesToWreck_96 : decode cX6_goesToWreck 96 = .ok (.iconst 0, 1) := by decide +kernel
theorem dX6_goesToWreck_97 : decode cX6_goesToWreck 97 = .ok (.ireturn, 1) := by decide +kernel
theorem dX6_doPart_0 : decode cX6_doPart 0 = .ok (.iconst 0, 1) := by decide +kernel
theorem dX6_doPart_1 : decode cX6_doPart 1 = .ok (.istore_n 2, 1) := by decide +kernel
theorem dX6_doPart_2 : decode cX6_doPart 2 = .ok (.aload_n 1, 1) := by decide +kernel
theorem dX6_doPart_3 : decode cX6_doPart 3 = .ok (.getfield 155, 3) := by decide +kernel
theorem dX6_doPart_6 : decode cX6_doPart 6 = .ok (.bipush 114, 2) := by decide +kernel
theorem dX6_doPart_8 : decode cX6_doPart 8 = .ok (.if_icmp .ne 27, 3) := by decide +kernel
theorem dX6_doPart_11 : decode cX6_doPart 11 = .ok (.aload_n 0, 1) := by decide +kernel
theorem dX6_doPart_12 : decode cX6_doPart 12 = .ok (.aload_n 1, 1) := by decide +kernel
theorem dX6_doPart_13 : decode cX6_doPart 13 = .ok (.getfield 161, 3) := by decide +kernel
theorem dX6_doPart_16 : decode cX6_doPart 16 = .ok (.invokevirtual 162, 3) := by decide +kernel
theorem dX6_doPart_19 : decode cX6_doPart 19 = .ok (.istore_n 2, 1) := by decide +kernel
theorem dX6_doPart_20 : decode cX6_doPart 20 = .ok (.iload_n 2, 1) := by decide +kernel
theorem dX6_doPart_21 : decode cX6_doPart 21 = .ok (.ifCond .ne 123, 3) := by decide +kernel
theorem dX6_doPart_24 : decode cX6_doPart 24 = .ok (.aload_n 0, 1) := by decide +kernel
theorem dX6_doPart_25 : decode cX6_doPart 25 = .ok (.aload_n 1, 1) := by decide +kernel
theorem dX6_doPart_26 : decode cX6_doPart 26 = .ok (.getfield 161, 3) := by decide +kernel
theorem dX6_doPart_29 : decode cX6_doPart 29 = .ok (.invokevirtual 165, 3) := by decide +kernel
theorem dX6_doPart_32 : decode cX6_doPart 32 = .ok (.goto 112, 3) := by decide +kernel
theorem dX6_doPart_35 : decode cX6_doPart 35 = .ok (.aload_n 1, 1) := by decide +kernel
theorem dX6_doPart_36 : decode cX6_doPart 36 = .ok (.getfield 155, 3) := by decide +kernel
theorem dX6_doPart_39 : decode cX6_doPart 39 = .ok (.bipush 115, 2) := by decide +kernel
theorem dX6_doPart_41 : decode cX6_doPart 41 = .ok (.if_icmp .ne 44, 3) := by decide +kernel
theorem dX6_doPart_44 : decode cX6_doPart 44 = .ok (.aload_n 0, 1) := by decide +kernel
theorem dX6_doPart_45 : decode cX6_doPart 45 = .ok (.aload_n 1, 1) := by decide +kernel
theorem dX6_doPart_46 : decode cX6_doPart 46 = .ok (.getfield 168, 3) := by decide +kernel
theorem dX6_doPart_49 : decode cX6_doPart 49 = .ok (.aload_n 1, 1) := by decide +kernel
theorem dX6_doPart_50 : decode cX6_doPart 50 = .ok (.getfield 161, 3) := by decide +kernel
theorem dX6_doPart_53 : decode cX6_doPart 53 = .ok (.aload_n 1, 1) := by decide +kernel
theorem dX6_doPart_54 : decode cX6_doPart 54 = .ok (.getfield 171, 3) := by decide +kernel
theorem dX6_doPart_57 : decode cX6_doPart 57 = .ok (.invokevirtual 174, 3) := by decide +kernel
theorem dX6_doPart_60 : decode cX6_doPart 60 = .ok (.istore_n 2, 1) := by decide +kernel
theorem dX6_doPart_61 : decode cX6_doPart 61 = .ok (.iload_n 2, 1) := by decide +kernel
theorem dX6_doPart_62 : decode cX6_doPart 62 = .ok (.ifCond .ne 82, 3) := by decide +kernel
theorem dX6_doPart_65 : decode cX6_doPart 65 = .ok (.aload_n 0, 1) := by decide +kernel
theorem dX6_doPart_66 : decode cX6_doPart 66 = .ok (.aload_n 1, 1) := by decide +kernel
theorem dX6_doPart_67 : decode cX6_doPart 67 = .ok (.getfield 168, 3) := by decide +kernel
theorem dX6_doPart_70 : decode cX6_doPart 70 = .ok (.aload_n 1, 1) := by decide +kernel
theorem dX6_doPart_71 : decode cX6_doPart 71 = .ok (.getfield 161, 3) := by decide +kernel
theorem dX6_doPart_74 : decode cX6_doPart 74 = .ok (.aload_n 1, 1) := by decide +kernel
theorem dX6_doPart_75 : decode cX6_doPart 75 = .ok (.getfield 171, 3) := by decide +kernel
theorem dX6_doPart_78 : decode cX6_doPart 78 = .ok (.invokevirtual 177, 3) := by decide +kernel
theorem dX6_doPart_81 : decode cX6_doPart 81 = .ok (.pop, 1) := by decide +kernel
theorem dX6_doPart_82 : decode cX6_doPart 82 = .ok (.goto 62, 3) := by decide +kernel
theorem dX6_doPart_85 : decode cX6_doPart 85 = .ok (.aload_n 1, 1) := by decide +kernel
theorem dX6_doPart_86 : decode cX6_doPart 86 = .ok (.getfield 155, 3) := by decide +kernel
theorem dX6_doPart_89 : decode cX6_doPart 89 = .ok (.bipush 100, 2) := by decide +kernel
theorem dX6_doPart_91 : decode cX6_doPart 91 = .ok (.if_icmp .ne 22, 3) := by decide +kernel
theorem dX6_doPart_94 : decode cX6_doPart 94 = .ok (.aload_n 0, 1) := by decide +kernel
theorem dX6_doPart_95 : decode cX6_doPart 95 = .ok (.getfield 17, 3) := by decide +kernel
theorem dX6_doPart_98 : decode cX6_doPart 98 = .ok (.aload_n 1, 1) := by decide +kernel
theorem dX6_doPart_99 : decode cX6_doPart 99 = .ok (.getfield 168, 3) := by decide +kernel
theorem dX6_doPart_102 : decode cX6_doPart 102 = .ok (.aaload, 1) := by decide +kernel
theorem dX6_doPart_103 : decode cX6_doPart 103 = .ok (.aload_n 1, 1) := by decide +kernel
theorem dX6_doPart_104 : decode cX6_doPart 104 = .ok (.getfield 180, 3) := by decide +kernel
theorem dX6_doPart_107 : decode cX6_doPart 107 = .ok (.invokevirtual 183, 3) := by decide +kernel
theorem dX6_doPart_110 : decode cX6_doPart 110 = .ok (.goto 34, 3) := by decide +kernel
theorem dX6_doPart_113 : decode cX6_doPart 113 = .ok (.aload_n 1, 1) := by decide +kernel
theorem dX6_doPart_114 : decode cX6_doPart 114 = .ok (.getfield 155, 3) := by decide +kernel
theorem dX6_doPart_117 : decode cX6_doPart 117 = .ok (.bipush 104, 2) := by decide +kernel
theorem dX6_doPart_119 : decode cX6_doPart 119 = .ok (.if_icmp .ne 25, 3) := by decide +kernel
theorem dX6_doPart_122 : decode cX6_doPart 122 = .ok (.aload_n 0, 1) := by decide +kernel
theorem dX6_doPart_123 : decode cX6_doPart 123 = .ok (.aload_n 1, 1) := by decide +kernel
theorem dX6_doPart_124 : decode cX6_doPart 124 = .ok (.getfield 168, 3) := by decide +kernel
theorem dX6_doPart_127 : decode cX6_doPart 127 = .ok (.invokevirtual 186, 3) := by decide +kernel
theorem dX6_doPart_130 : decode cX6_doPart 130 = .ok (.istore_n 2, 1) := by decide +kernel
theorem dX6_doPart_131 : decode cX6_doPart 131 = .ok (.iload_n 2, 1) := by decide +kernel
theorem dX6_doPart_132 : decode cX6_doPart 132 = .ok (.ifCond .ne 12, 3) := by decide +kernel
theorem dX6_doPart_135 : decode cX6_doPart 135 = .ok (.aload_n 0, 1) := by decide +kernel
theorem dX6_doPart_136 : decode cX6_doPart 136 = .ok (.aload_n 1, 1) := by decide +kernel
theorem dX6_doPart_137 : decode cX6_doPart 137 = .ok (.getfield 168, 3) := by decide +kernel
theorem dX6_doPart_140 : decode cX6_doPart 140 = .ok (.invokevirtual 189, 3) := by decide +kernel
theorem dX6_doPart_143 : decode cX6_doPart 143 = .ok (.pop, 1) := by decide +kernel
theorem dX6_doPart_144 : decode cX6_doPart 144 = .ok (.iload_n 2, 1) := by decide +kernel
theorem dX6_doPart_145 : decode cX6_doPart 145 = .ok (.ireturn, 1) := by decide +kernel
theorem dX5_init_0 : decode cX5_init 0 = .ok (.aload_n 0, 1) := by decide +kernel
theorem dX5_init_1 : decode cX5_init 1 = .ok (.invokespecial 3, 3) := by decide +kernel
theorem dX5_init_4 : decode cX5_init 4 = .ok (.aload_n 0, 1) := by decide +kernel
theorem dX5_init_5 : decode cX5_init 5 = .ok (.iconst 0, 1) := by decide +kernel
theorem dX5_init_6 : decode cX5_init 6 = .ok (.putfield 9, 3) := by decide +kernel
theorem dX5_init_9 : decode cX5_init 9 = .ok (.aload_n 0, 1) := by decide +kernel
theorem dX5_init_10 : decode cX5_init 10 = .ok (.iconst 0, 1) := by decide +kernel
theorem dX5_init_11 : decode cX5_init 11 = .ok (.putfield 15, 3) := by decide +kernel
theorem dX5_init_14 : decode cX5_init 14 = .ok (.aload_n 0, 1) := by decide +kernel
theorem dX5_init_15 : decode cX5_init 15 = .ok (.iconst 0, 1) := by decide +kernel
theorem dX5_init_16 : decode cX5_init 16 = .ok (.putfield 18, 3) := by decide +kernel
theorem dX5_init_19 : decode cX5_init 19 = .ok (.aload_n 0, 1) := by decide +kernel
theorem dX5_init_20 : decode cX5_init 20 = .ok (.iconst 0, 1) := by decide +kernel
theorem dX5_init_21 : decode cX5_init 21 = .ok (.putfield 21, 3) := by decide +kernel
theorem dX5_init_24 : decode cX5_init 24 = .ok (.aload_n 0, 1) := by decide +kernel
theorem dX5_init_25 : decode cX5_init 25 = .ok (.iconst 0, 1) := by decide +kernel
theorem dX5_init_26 : decode cX5_init 26 = .ok (.putfield 24, 3) := by decide +kernel
theorem dX5_init_29 : decode cX5_init 29 = .ok (.return_, 1) := by decide +kernel
theorem dX5_copyFrom_0 : decode cX5_copyFrom 0 = .ok (.aload_n 0, 1) := by decide +kernel
theorem dX5_copyFrom_1 : decode cX5_copyFrom 1 = .ok (.aload_n 1, 1) := by decide +kernel
theorem dX5_copyFrom_2 : decode cX5_copyFrom 2 = .ok (.getfield 9, 3) := by decide +kernel
theorem dX5_copyFrom_5 : decode cX5_copyFrom 5 = .ok (.putfield 9, 3) := by decide +kernel
theorem dX5_copyFrom_8 : decode cX5_copyFrom 8 = .ok (.aload_n 0, 1) := by decide +kernel
theorem dX5_copyFrom_9 : decode cX5_copyFrom 9 = .ok (.aload_n 1, 1) := by decide +kernel
theorem dX5_copyFrom_10 : decode cX5_copyFrom 10 = .ok (.getfield 15, 3) := by decide +kernel
theorem dX5_copyFrom_13 : decode cX5_copyFrom 13 = .ok (.putfield 15, 3) := by decide +kernel
theorem dX5_copyFrom_16 : decode cX5_copyFrom 16 = .ok (.aload_n 0, 1) := by decide +kernel
theorem dX5_copyFrom_17 : decode cX5_copyFrom 17 = .ok (.aload_n 1, 1) := by decide +kernel
theorem dX5_copyFrom_18 : decode cX5_copyFrom 18 = .ok (.getfield 18, 3) := by decide +kernel
theorem dX5_copyFrom_21 : decode cX5_copyFrom 21 = .ok (.putfield 18, 3) := by decide +kernel
theorem dX5_copyFrom_24 : decode cX5_copyFrom 24 = .ok (.aload_n 0, 1) := by decide +kernel
theorem dX5_copyFrom_25 : decode cX5_copyFrom 25 = .ok (.aload_n 1, 1) := by decide +kernel
theorem dX5_copyFrom_26 : decode cX5_copyFrom 26 = .ok (.getfield 21, 3) := by decide +kernel
theorem dX5_copyFrom_29 : decode cX5_copyFrom 29 = .ok (.putfield 21, 3) := by decide +kernel
theorem dX5_copyFrom_32 : decode cX5_copyFrom 32 = .ok (.aload_n 0, 1) := by decide +kernel
theorem dX5_copyFrom_33 : decode cX5_copyFrom 33 = .ok (.aload_n 1, 1) := by decide +kernel
theorem dX5_copyFrom_34 : decode cX5_copyFrom 34 = .ok (.getfield 24, 3) := by decide +kernel
theorem dX5_copyFrom_37 : decode cX5_copyFrom 37 = .ok (.putfield 24, 3) := by decide +kernel
theorem dX5_copyFrom_40 : decode cX5_copyFrom 40 = .ok (.return_, 1) := by decide +kernel
theorem dX5_begin_0 : decode cX5_begin 0 = .ok (.aload_n 0, 1) := by decide +kernel
theorem dX5_begin_1 : decode cX5_begin 1 = .ok (.iload_n 1, 1) := by decide +kernel
theorem dX5_begin_2 : decode cX5_begin 2 = .ok (.putfield 9, 3) := by decide +kernel
theorem dX5_begin_5 : decode cX5_begin 5 = .ok (.aload_n 0, 1) := by decide +kernel
theorem dX5_begin_6 : decode cX5_begin 6 = .ok (.iload_n 2, 1) := by decide +kernel
theorem dX5_begin_7 : decode cX5_begin 7 = .ok (.putfield 15, 3) := by decide +kernel
theorem dX5_begin_10 : decode cX5_begin 10 = .ok (.aload_n 0, 1) := by decide +kernel
theorem dX5_begin_11 : decode cX5_begin 11 = .ok (.iload_n 3, 1) := by decide +kernel
theorem dX5_begin_12 : decode cX5_begin 12 = .ok (.putfield 18, 3) := by decide +kernel
theorem dX5_begin_15 : decode cX5_begin 15 = .ok (.aload_n 0, 1) := by decide +kernel
theorem dX5_begin_16 : decode cX5_begin 16 = .ok (.iconst 0, 1) := by decide +kernel
theorem dX5_begin_17 : decode cX5_begin 17 = .ok (.putfield 21, 3) := by decide +kernel
theorem dX5_begin_20 : decode cX5_begin 20 = .ok (.aload_n 0, 1) := by decide +kernel
theorem dX5_begin_21 : decode cX5_begin 21 = .ok (.iconst 0, 1) := by decide +kernel
theorem dX5_begin_22 : decode cX5_begin 22 = .ok (.putfield 24, 3) := by decide +kernel
theorem dX5_begin_25 : decode cX5_begin 25 = .ok (.return_, 1) := by decide +kernel
theorem dX5_told_0 : decode cX5_told 0 = .ok (.iload_n 1, 1) := by decide +kernel
theorem dX5_told_1 : decode cX5_told 1 = .ok (.tableswitch 76 0 5 #[39, 44, 49, 54, 59, 64], 39) := by decide +kernel
theorem dX5_told_40 : decode cX5_told 40 = .ok (.aload_n 0, 1) := by decide +kernel
theorem dX5_told_41 : decode cX5_told 41 = .ok (.getfield 9, 3) := by decide +kernel
theorem dX5_told_44 : decode cX5_told 44 = .ok (.ireturn, 1) := by decide +kernel
theorem dX5_told_45 : decode cX5_told 45 = .ok (.aload_n 0, 1) := by decide +kernel
theorem dX5_told_46 : decode cX5_told 46 = .ok (.getfield 15, 3) := by decide +kernel
theorem dX5_told_49 : decode cX5_told 49 = .ok (.ireturn, 1) := by decide +kernel
theorem dX5_told_50 : decode cX5_told 50 = .ok (.aload_n 0, 1) := by decide +kernel
theorem dX5_told_51 : decode cX5_told 51 = .ok (.getfield 18, 3) := by decide +kernel
theorem dX5_told_54 : decode cX5_told 54 = .ok (.ireturn, 1) := by decide +kernel
theorem dX5_told_55 : decode cX5_told 55 = .ok (.aload_n 0, 1) := by decide +kernel
theorem dX5_told_56 : decode cX5_told 56 = .ok (.getfield 21, 3) := by decide +kernel
theorem dX5_told_59 : decode cX5_told 59 = .ok (.ireturn, 1) := by decide +kernel
theorem dX5_told_60 : decode cX5_told 60 = .ok (.aload_n 0, 1) := by decide +kernel
theorem dX5_told_61 : decode cX5_told 61 = .ok (.getfield 24, 3) := by decide +kernel
theorem dX5_told_64 : decode cX5_told 64 = .ok (.ireturn, 1) := by decide +kernel
theorem dX5_told_65 : decode cX5_told 65 = .ok (.aload_n 0, 1) := by decide +kernel
theorem dX5_told_66 : decode cX5_told 66 = .ok (.getfield 15, 3) := by decide +kernel
theorem dX5_told_69 : decode cX5_told 69 = .ok (.aload_n 0, 1) := by decide +kernel
theorem dX5_told_70 : decode cX5_told 70 = .ok (.getfield 18, 3) := by decide +kernel
theorem dX5_told_73 : decode cX5_told 73 = .ok (.invokestatic 27, 3) := by decide +kernel
theorem dX5_told_76 : decode cX5_told 76 = .ok (.ireturn, 1) := by decide +kernel
theorem dX5_told_77 : decode cX5_told 77 = .ok (.bipush (-2), 2) := by decide +kernel
theorem dX5_told_79 : decode cX5_told 79 = .ok (.ireturn, 1) := by decide +kernel
theorem dX5_nextCell_0 : decode cX5_nextCell 0 = .ok (.aload_n 0, 1) := by decide +kernel
theorem dX5_nextCell_1 : decode cX5_nextCell 1 = .ok (.getfield 18, 3) := by decide +kernel
theorem dX5_nextCell_4 : decode cX5_nextCell 4 = .ok (.bipush 10, 2) := by decide +kernel
theorem dX5_nextCell_6 : decode cX5_nextCell 6 = .ok (.irem, 1) := by decide +kernel
theorem dX5_nextCell_7 : decode cX5_nextCell 7 = .ok (.aload_n 0, 1) := by decide +kernel
theorem dX5_nextCell_8 : decode cX5_nextCell 8 = .ok (.getfield 15, 3) := by decide +kernel
theorem dX5_nextCell_11 : decode cX5_nextCell 11 = .ok (.bipush 10, 2) := by decide +kernel
theorem dX5_nextCell_13 : decode cX5_nextCell 13 = .ok (.irem, 1) := by decide +kernel
theorem dX5_nextCell_14 : decode cX5_nextCell 14 = .ok (.invokestatic 31, 3) := by decide +kernel
theorem dX5_nextCell_17 : decode cX5_nextCell 17 = .ok (.istore_n 1, 1) := by decide +kernel
theorem dX5_nextCell_18 : decode cX5_nextCell 18 = .ok (.aload_n 0, 1) := by decide +kernel
theorem dX5_nextCell_19 : decode cX5_nextCell 19 = .ok (.getfield 18, 3) := by decide +kernel
theorem dX5_nextCell_22 : decode cX5_nextCell 22 = .ok (.bipush 10, 2) := by decide +kernel
theorem dX5_nextCell_24 : decode cX5_nextCell 24 = .ok (.idiv, 1) := by decide +kernel
theorem dX5_nextCell_25 : decode cX5_nextCell 25 = .ok (.aload_n 0, 1) := by decide +kernel
theorem dX5_nextCell_26 : decode cX5_nextCell 26 = .ok (.getfield 15, 3) := by decide +kernel
theorem dX5_nextCell_29 : decode cX5_nextCell 29 = .ok (.bipush 10, 2) := by decide +kernel
theorem dX5_nextCell_31 : decode cX5_nextCell 31 = .ok (.idiv, 1) := by decide +kernel
theorem dX5_nextCell_32 : decode cX5_nextCell 32 = .ok (.invokestatic 31, 3) := by decide +kernel
theorem dX5_nextCell_35 : decode cX5_nextCell 35 = .ok (.istore_n 2, 1) := by decide +kernel
theorem dX5_nextCell_36 : decode cX5_nextCell 36 = .ok (.aload_n 0, 1) := by decide +kernel
theorem dX5_nextCell_37 : decode cX5_nextCell 37 = .ok (.getfield 15, 3) := by decide +kernel
theorem dX5_nextCell_40 : decode cX5_nextCell 40 = .ok (.iload_n 1, 1) := by decide +kernel
theorem dX5_nextCell_41 : decode cX5_nextCell 41 = .ok (.iadd, 1) := by decide +kernel
theorem dX5_nextCell_42 : decode cX5_nextCell 42 = .ok (.bipush 10, 2) := by decide +kernel
theorem dX5_nextCell_44 : decode cX5_nextCell 44 = .ok (.iload_n 2, 1) := by decide +kernel
theorem dX5_nextCell_45 : decode cX5_nextCell 45 = .ok (.imul, 1) := by decide +kernel
theorem dX5_nextCell_46 : decode cX5_nextCell 46 = .ok (.iadd, 1) := by decide +kernel
theorem dX5_nextCell_47 : decode cX5_nextCell 47 = .ok (.ireturn, 1) := by decide +kernel
theorem dX5_comeTo_0 : decode cX5_comeTo 0 = .ok (.aload_n 0, 1) := by decide +kernel
theorem dX5_comeTo_1 : decode cX5_comeTo 1 = .ok (.iload_n 1, 1) := by decide +kernel
theorem dX5_comeTo_2 : decode cX5_comeTo 2 = .ok (.putfield 15, 3) := by decide +kernel
theorem dX5_comeTo_5 : decode cX5_comeTo 5 = .ok (.aload_n 0, 1) := by decide +kernel
theorem dX5_comeTo_6 : decode cX5_comeTo 6 = .ok (.getfield 15, 3) := by decide +kernel
theorem dX5_comeTo_9 : decode cX5_comeTo 9 = .ok (.aload_n 0, 1) := by decide +kernel
theorem dX5_comeTo_10 : decode cX5_comeTo 10 = .ok (.getfield 18, 3) := by decide +kernel
theorem dX5_comeTo_13 : decode cX5_comeTo 13 = .ok (.if_icmp .ne 8, 3) := by decide +kernel
theorem dX5_comeTo_16 : decode cX5_comeTo 16 = .ok (.aload_n 0, 1) := by decide +kernel
theorem dX5_comeTo_17 : decode cX5_comeTo 17 = .ok (.iconst 1, 1) := by decide +kernel
theorem dX5_comeTo_18 : decode cX5_comeTo 18 = .ok (.putfield 21, 3) := by decide +kernel
theorem dX5_comeTo_21 : decode cX5_comeTo 21 = .ok (.return_, 1) := by decide +kernel
theorem dX5_breakIn_0 : decode cX5_breakIn 0 = .ok (.aload_n 0, 1) := by decide +kernel
theorem dX5_breakIn_1 : decode cX5_breakIn 1 = .ok (.iload_n 1, 1) := by decide +kernel
theorem dX5_breakIn_2 : decode cX5_breakIn 2 = .ok (.putfield 15, 3) := by decide +kernel
theorem dX5_breakIn_5 : decode cX5_breakIn 5 = .ok (.aload_n 0, 1) := by decide +kernel
theorem dX5_breakIn_6 : decode cX5_breakIn 6 = .ok (.iconst 2, 1) := by decide +kernel
theorem dX5_breakIn_7 : decode cX5_breakIn 7 = .ok (.putfield 21, 3) := by decide +kernel
theorem dX5_breakIn_10 : decode cX5_breakIn 10 = .ok (.return_, 1) := by decide +kernel
theorem dX0_init_0 : decode cX0_init 0 = .ok (.aload_n 0, 1) := by decide +kernel
theorem dX0_init_1 : decode cX0_init 1 = .ok (.invokespecial 3, 3) := by decide +kernel
theorem dX0_init_4 : decode cX0_init 4 = .ok (.aload_n 0, 1) := by decide +kernel
theorem dX0_init_5 : decode cX0_init 5 = .ok (.iconst 4, 1) := by decide +kernel
theorem dX0_init_6 : decode cX0_init 6 = .ok (.bipush 100, 2) := by decide +kernel
theorem dX0_init_8 : decode cX0_init 8 = .ok (.multianewarray 9 2, 4) := by decide +kernel
theorem dX0_init_12 : decode cX0_init 12 = .ok (.putfield 11, 3) := by decide +kernel
theorem dX0_init_15 : decode cX0_init 15 = .ok (.aload_n 0, 1) := by decide +kernel
theorem dX0_init_16 : decode cX0_init 16 = .ok (.iconst 4, 1) := by decide +kernel
theorem dX0_init_17 : decode cX0_init 17 = .ok (.bipush 100, 2) := by decide +kernel
theorem dX0_init_19 : decode cX0_init 19 = .ok (.multianewarray 9 2, 4) := by decide +kernel
theorem dX0_init_23 : decode cX0_init 23 = .ok (.putfield 16, 3) := by decide +kernel
theorem dX0_init_26 : decode cX0_init 26 = .ok (.aload_n 0, 1) := by decide +kernel
theorem dX0_init_27 : decode cX0_init 27 = .ok (.bipush 100, 2) := by decide +kernel
theorem dX0_init_29 : decode cX0_init 29 = .ok (.newarray .int, 2) := by decide +kernel
theorem dX0_init_31 : decode cX0_init 31 = .ok (.putfield 19, 3) := by decide +kernel
theorem dX0_init_34 : decode cX0_init 34 = .ok (.iconst 0, 1) := by decide +kernel
theorem dX0_init_35 : decode cX0_init 35 = .ok (.istore_n 1, 1) := by decide +kernel
theorem dX0_init_36 : decode cX0_init 36 = .ok (.iload_n 1, 1) := by decide +kernel
theorem dX0_init_37 : decode cX0_init 37 = .ok (.bipush 100, 2) := by decide +kernel
theorem dX0_init_39 : decode cX0_init 39 = .ok (.if_icmp .ge 101, 3) := by decide +kernel
theorem dX0_init_42 : decode cX0_init 42 = .ok (.iconst 0, 1) := by decide +kernel
theorem dX0_init_43 : decode cX0_init 43 = .ok (.istore_n 2, 1) := by decide +kernel
theorem dX0_init_44 : decode cX0_init 44 = .ok (.iload_n 2, 1) := by decide +kernel
theorem dX0_init_45 : decode cX0_init 45 = .ok (.iconst 4, 1) := by decide +kernel
theorem dX0_init_46 : decode cX0_init 46 = .ok (.if_icmp .ge 88, 3) := by decide +kernel
theorem dX0_init_49 : decode cX0_init 49 = .ok (.getstatic 23, 3) := by decide +kernel
theorem dX0_init_52 : decode cX0_init 52 = .ok (.iload_n 2, 1) := by decide +kernel
theorem dX0_init_53 : decode cX0_init 53 = .ok (.iaload, 1) := by decide +kernel
theorem dX0_init_54 : decode cX0_init 54 = .ok (.istore_n 3, 1) := by decide +kernel
theorem dX0_init_55 : decode cX0_init 55 = .ok (.aload_n 0, 1) := by decide +kernel
theorem dX0_init_56 : decode cX0_init 56 = .ok (.getfield 11, 3) := by decide +kernel
theorem dX0_init_59 : decode cX0_init 59 = .ok (.iload_n 2, 1) := by decide +kernel
theorem dX0_init_60 : decode cX0_init 60 = .ok (.aaload, 1) := by decide +kernel
theorem dX0_init_61 : decode cX0_init 61 = .ok (.iload_n 1, 1) := by decide +kernel
theorem dX0_init_62 : decode cX0_init 62 = .ok (.iload_n 1, 1) := by decide +kernel
theorem dX0_init_63 : decode cX0_init 63 = .ok (.bipush 10, 2) := by decide +kernel
theorem dX0_init_65 : decode cX0_init 65 = .ok (.irem, 1) := by decide +kernel
theorem dX0_init_66 : decode cX0_init 66 = .ok (.iload_n 3, 1) := by decide +kernel
theorem dX0_init_67 : decode cX0_init 67 = .ok (.bipush 10, 2) := by decide +kernel
theorem dX0_init_69 : decode cX0_init 69 = .ok (.irem, 1) := by decide +kernel
theorem dX0_init_70 : decode cX0_init 70 = .ok (.isub, 1) := by decide +kernel
theorem dX0_init_71 : decode cX0_init 71 = .ok (.iload_n 1, 1) := by decide +kernel
theorem dX0_init_72 : decode cX0_init 72 = .ok (.bipush 10, 2) := by decide +kernel
theorem dX0_init_74 : decode cX0_init 74 = .ok (.idiv, 1) := by decide +kernel
theorem dX0_init_75 : decode cX0_init 75 = .ok (.iload_n 3, 1) := by decide +kernel
theorem dX0_init_76 : decode cX0_init 76 = .ok (.bipush 10, 2) := by decide +kernel
theorem dX0_init_78 : decode cX0_init 78 = .ok (.idiv, 1) := by decide +kernel
theorem dX0_init_79 : decode cX0_init 79 = .ok (.isub, 1) := by decide +kernel
theorem dX0_init_80 : decode cX0_init 80 = .ok (.invokestatic 26, 3) := by decide +kernel
theorem dX0_init_83 : decode cX0_init 83 = .ok (.iastore, 1) := by decide +kernel
theorem dX0_init_84 : decode cX0_init 84 = .ok (.aload_n 0, 1) := by decide +kernel
theorem dX0_init_85 : decode cX0_init 85 = .ok (.getfield 16, 3) := by decide +kernel
theorem dX0_init_88 : decode cX0_init 88 = .ok (.iload_n 2, 1) := by decide +kernel
theorem dX0_init_89 : decode cX0_init 89 = .ok (.aaload, 1) := by decide +kernel
theorem dX0_init_90 : decode cX0_init 90 = .ok (.iload_n 1, 1) := by decide +kernel
theorem dX0_init_91 : decode cX0_init 91 = .ok (.iload_n 3, 1) := by decide +kernel
theorem dX0_init_92 : decode cX0_init 92 = .ok (.iload_n 1, 1) := by decide +kernel
theorem dX0_init_93 : decode cX0_init 93 = .ok (.invokestatic 30, 3) := by decide +kernel
theorem dX0_init_96 : decode cX0_init 96 = .ok (.iastore, 1) := by decide +kernel
theorem dX0_init_97 : decode cX0_init 97 = .ok (.aload_n 0, 1) := by decide +kernel
theorem dX0_init_98 : decode cX0_init 98 = .ok (.getfield 16, 3) := by decide +kernel
theorem dX0_init_101 : decode cX0_init 101 = .ok (.iload_n 2, 1) := by decide +kernel
theorem dX0_init_102 : decode cX0_init 102 = .ok (.aaload, 1) := by decide +kernel
theorem dX0_init_103 : decode cX0_init 103 = .ok (.iload_n 1, 1) := by decide +kernel
theorem dX0_init_104 : decode cX0_init 104 = .ok (.iaload, 1) := by decide +kernel
theorem dX0_init_105 : decode cX0_init 105 = .ok (.aload_n 0, 1) := by decide +kernel
theorem dX0_init_106 : decode cX0_init 106 = .ok (.getfield 16, 3) := by decide +kernel
theorem dX0_init_109 : decode cX0_init 109 = .ok (.aload_n 0, 1) := by decide +kernel
theorem dX0_init_110 : decode cX0_init 110 = .ok (.getfield 19, 3) := by decide +kernel
theorem dX0_init_113 : decode cX0_init 113 = .ok (.iload_n 1, 1) := by decide +kernel
theorem dX0_init_114 : decode cX0_init 114 = .ok (.iaload, 1) := by decide +kernel
theorem dX0_init_115 : decode cX0_init 115 = .ok (.aaload, 1) := by decide +kernel
theorem dX0_init_116 : decode cX0_init 116 = .ok (.iload_n 1, 1) := by decide +kernel
theorem dX0_init_117 : decode cX0_init 117 = .ok (.iaload, 1) := by decide +kernel
theorem dX0_init_118 : decode cX0_init 118 = .ok (.if_icmp .ge 10, 3) := by decide +kernel
theorem dX0_init_121 : decode cX0_init 121 = .ok (.aload_n 0, 1) := by decide +kernel
theorem dX0_init_122 : decode cX0_init 122 = .ok (.getfield 19, 3) := by decide +kernel
theorem dX0_init_125 : decode cX0_init 125 = .ok (.iload_n 1, 1) := by decide +kernel
theorem dX0_init_126 : decode cX0_init 126 = .ok (.iload_n 2, 1) := by decide +kernel
theorem dX0_init_127 : decode cX0_init 127 = .ok (.iastore, 1) := by decide +kernel
theorem dX0_init_128 : decode cX0_init 128 = .ok (.iinc 2 1, 3) := by decide +kernel
theorem dX0_init_131 : decode cX0_init 131 = .ok (.goto (-87), 3) := by decide +kernel
theorem dX0_init_134 : decode cX0_init 134 = .ok (.iinc 1 1, 3) := by decide +kernel
theorem dX0_init_137 : decode cX0_init 137 = .ok (.goto (-101), 3) := by decide +kernel
theorem dX0_init_140 : decode cX0_init 140 = .ok (.return_, 1) := by decide +kernel
theorem dX0_windOf_0 : decode cX0_windOf 0 = .ok (.iload_n 0, 1) := by decide +kernel
theorem dX0_windOf_1 : decode cX0_windOf 1 = .ok (.invokestatic 33, 3) := by decide +kernel
theorem dX0_windOf_4 : decode cX0_windOf 4 = .ok (.istore_n 2, 1) := by decide +kernel
theorem dX0_windOf_5 : decode cX0_windOf 5 = .ok (.iload_n 1, 1) := by decide +kernel
theorem dX0_windOf_6 : decode cX0_windOf 6 = .ok (.invokestatic 33, 3) := by decide +kernel
theorem dX0_windOf_9 : decode cX0_windOf 9 = .ok (.istore_n 3, 1) := by decide +kernel
theorem dX0_windOf_10 : decode cX0_windOf 10 = .ok (.iload_n 2, 1) := by decide +kernel
theorem dX0_windOf_11 : decode cX0_windOf 11 = .ok (.ifCond .ne 9, 3) := by decide +kernel
theorem dX0_windOf_14 : decode cX0_windOf 14 = .ok (.iload_n 3, 1) := by decide +kernel
theorem dX0_windOf_15 : decode cX0_windOf 15 = .ok (.ifCond .ne 5, 3) := by decide +kernel
theorem dX0_windOf_18 : decode cX0_windOf 18 = .ok (.iconst (-1), 1) := by decide +kernel
theorem dX0_windOf_19 : decode cX0_windOf 19 = .ok (.ireturn, 1) := by decide +kernel
theorem dX0_windOf_20 : decode cX0_windOf 20 = .ok (.iconst 2, 1) := by decide +kernel
theorem dX0_windOf_21 : decode cX0_windOf 21 = .ok (.iload_n 3, 1) := by decide +kernel
theorem dX0_windOf_22 : decode cX0_windOf 22 = .ok (.imul, 1) := by decide +kernel
theorem dX0_windOf_23 : decode cX0_windOf 23 = .ok (.iload_n 2, 1) := by decide +kernel
theorem dX0_windOf_24 : decode cX0_windOf 24 = .ok (.if_icmp .gt 13, 3) := by decide +kernel
theorem dX0_windOf_27 : decode cX0_windOf 27 = .ok (.iload_n 0, 1) := by decide +kernel
theorem dX0_windOf_28 : decode cX0_windOf 28 = .ok (.ifCond .le 7, 3) := by decide +kernel
theorem dX0_windOf_31 : decode cX0_windOf 31 = .ok (.iconst 0, 1) := by decide +kernel
theorem dX0_windOf_32 : decode cX0_windOf 32 = .ok (.goto 4, 3) := by decide +kernel
theorem dX0_windOf_35 : decode cX0_windOf 35 = .ok (.iconst 4, 1) := by decide +kernel
theorem dX0_windOf_36 : decode cX0_windOf 36 = .ok (.ireturn, 1) := by decide +kernel
theorem dX0_windOf_37 : decode cX0_windOf 37 = .ok (.iconst 2, 1) := by decide +kernel
theorem dX0_windOf_38 : decode cX0_windOf 38 = .ok (.iload_n 2, 1) := by decide +kernel
theorem dX0_windOf_39 : decode cX0_windOf 39 = .ok (.imul, 1) := by decide +kernel
theorem dX0_windOf_40 : decode cX0_windOf 40 = .ok (.iload_n 3, 1) := by decide +kernel
theorem dX0_windOf_41 : decode cX0_windOf 41 = .ok (.if_icmp .gt 14, 3) := by decide +kernel
theorem dX0_windOf_44 : decode cX0_windOf 44 = .ok (.iload_n 1, 1) := by decide +kernel
theorem dX0_windOf_45 : decode cX0_windOf 45 = .ok (.ifCond .le 7, 3) := by decide +kernel
theorem dX0_windOf_48 : decode cX0_windOf 48 = .ok (.iconst 2, 1) := by decide +kernel
theorem dX0_windOf_49 : decode cX0_windOf 49 = .ok (.goto 5, 3) := by decide +kernel
theorem dX0_windOf_52 : decode cX0_windOf 52 = .ok (.bipush 6, 2) := by decide +kernel
theorem dX0_windOf_54 : decode cX0_windOf 54 = .ok (.ireturn, 1) := by decide +kernel
theorem dX0_windOf_55 : decode cX0_windOf 55 = .ok (.iload_n 1, 1) := by decide +kernel
theorem dX0_windOf_56 : decode cX0_windOf 56 = .ok (.ifCond .le 13, 3) := by decide +kernel
theorem dX0_windOf_59 : decode cX0_windOf 59 = .ok (.iload_n 0, 1) := by decide +kernel
theorem dX0_windOf_60 : decode cX0_windOf 60 = .ok (.ifCond .le 7, 3) := by decide +kernel
theorem dX0_windOf_63 : decode cX0_windOf 63 = .ok (.iconst 1, 1) := by decide +kernel
theorem dX0_windOf_64 : decode cX0_windOf 64 = .ok (.goto 4, 3) := by decide +kernel
theorem dX0_windOf_67 : decode cX0_windOf 67 = .ok (.iconst 3, 1) := by decide +kernel
theorem dX0_windOf_68 : decode cX0_windOf 68 = .ok (.ireturn, 1) := by decide +kernel
theorem dX0_windOf_69 : decode cX0_windOf 69 = .ok (.iload_n 0, 1) := by decide +kernel
theorem dX0_windOf_70 : decode cX0_windOf 70 = .ok (.ifCond .le 8, 3) := by decide +kernel
theorem dX0_windOf_73 : decode cX0_windOf 73 = .ok (.bipush 7, 2) := by decide +kernel
theorem dX0_windOf_75 : decode cX0_windOf 75 = .ok (.goto 4, 3) := by decide +kernel
theorem dX0_windOf_78 : decode cX0_windOf 78 = .ok (.iconst 5, 1) := by decide +kernel
theorem dX0_windOf_79 : decode cX0_windOf 79 = .ok (.ireturn, 1) := by decide +kernel
end
section
theorem dX1_init_0 : decode cX1_init 0 = .ok (.aload_n 0, 1) := by decide +kernel
theorem dX1_init_1 : decode cX1_init 1 = .ok (.invokespecial 3, 3) := by decide +kernel
theorem dX1_init_4 : decode cX1_init 4 = .ok (.aload_n 0, 1) := by decide +kernel
theorem dX1_init_5 : decode cX1_init 5 = .ok (.iconst 4, 1) := by decide +kernel
theorem dX1_init_6 : decode cX1_init 6 = .ok (.anewarray 9, 3) := by decide +kernel
theorem dX1_init_9 : decode cX1_init 9 = .ok (.putfield 11, 3) := by decide +kernel
theorem dX1_init_12 : decode cX1_init 12 = .ok (.aload_n 0, 1) := by decide +kernel
theorem dX1_init_13 : decode cX1_init 13 = .ok (.iconst 0, 1) := by decide +kernel
theorem dX1_init_14 : decode cX1_init 14 = .ok (.putfield 17, 3) := by decide +kernel
theorem dX1_init_17 : decode cX1_init 17 = .ok (.iconst 0, 1) := by decide +kernel
theorem dX1_init_18 : decode cX1_init 18 = .ok (.istore_n 2, 1) := by decide +kernel
theorem dX1_init_19 : decode cX1_init 19 = .ok (.iload_n 2, 1) := by decide +kernel
theorem dX1_init_20 : decode cX1_init 20 = .ok (.iconst 4, 1) := by decide +kernel
theorem dX1_init_21 : decode cX1_init 21 = .ok (.if_icmp .ge 23, 3) := by decide +kernel
theorem dX1_init_24 : decode cX1_init 24 = .ok (.aload_n 0, 1) := by decide +kernel
theorem dX1_init_25 : decode cX1_init 25 = .ok (.getfield 11, 3) := by decide +kernel
theorem dX1_init_28 : decode cX1_init 28 = .ok (.iload_n 2, 1) := by decide +kernel
theorem dX1_init_29 : decode cX1_init 29 = .ok (.new 9, 3) := by decide +kernel
theorem dX1_init_32 : decode cX1_init 32 = .ok (.dup, 1) := by decide +kernel
theorem dX1_init_33 : decode cX1_init 33 = .ok (.aload_n 1, 1) := by decide +kernel
theorem dX1_init_34 : decode cX1_init 34 = .ok (.invokespecial 21, 3) := by decide +kernel
theorem dX1_init_37 : decode cX1_init 37 = .ok (.aastore, 1) := by decide +kernel
theorem dX1_init_38 : decode cX1_init 38 = .ok (.iinc 2 1, 3) := by decide +kernel
theorem dX1_init_41 : decode cX1_init 41 = .ok (.goto (-22), 3) := by decide +kernel
theorem dX1_init_44 : decode cX1_init 44 = .ok (.return_, 1) := by decide +kernel
theorem dX1_record_0 : decode cX1_record 0 = .ok (.aload_n 0, 1) := by decide +kernel
theorem dX1_record_1 : decode cX1_record 1 = .ok (.getfield 17, 3) := by decide +kernel
theorem dX1_record_4 : decode cX1_record 4 = .ok (.iconst 4, 1) := by decide +kernel
theorem dX1_record_5 : decode cX1_record 5 = .ok (.if_icmp .ne 7, 3) := by decide +kernel
theorem dX1_record_8 : decode cX1_record 8 = .ok (.aload_n 0, 1) := by decide +kernel
theorem dX1_record_9 : decode cX1_record 9 = .ok (.invokevirtual 24, 3) := by decide +kernel
theorem dX1_record_12 : decode cX1_record 12 = .ok (.aload_n 0, 1) := by decide +kernel
theorem dX1_record_13 : decode cX1_record 13 = .ok (.getfield 11, 3) := by decide +kernel
theorem dX1_record_16 : decode cX1_record 16 = .ok (.aload_n 0, 1) := by decide +kernel
theorem dX1_record_17 : decode cX1_record 17 = .ok (.getfield 17, 3) := by decide +kernel
theorem dX1_record_20 : decode cX1_record 20 = .ok (.aaload, 1) := by decide +kernel
theorem dX1_record_21 : decode cX1_record 21 = .ok (.aload_n 1, 1) := by decide +kernel
theorem dX1_record_22 : decode cX1_record 22 = .ok (.invokevirtual 27, 3) := by decide +kernel
theorem dX1_record_25 : decode cX1_record 25 = .ok (.aload_n 0, 1) := by decide +kernel
theorem dX1_record_26 : decode cX1_record 26 = .ok (.dup, 1) := by decide +kernel
theorem dX1_record_27 : decode cX1_record 27 = .ok (.getfield 17, 3) := by decide +kernel
theorem dX1_record_30 : decode cX1_record 30 = .ok (.iconst 1, 1) := by decide +kernel
theorem dX1_record_31 : decode cX1_record 31 = .ok (.iadd, 1) := by decide +kernel
theorem dX1_record_32 : decode cX1_record 32 = .ok (.putfield 17, 3) := by decide +kernel
theorem dX1_record_35 : decode cX1_record 35 = .ok (.return_, 1) := by decide +kernel
theorem dX1_dropOldest_0 : decode cX1_dropOldest 0 = .ok (.aload_n 0, 1) := by decide +kernel
theorem dX1_dropOldest_1 : decode cX1_dropOldest 1 = .ok (.getfield 11, 3) := by decide +kernel
theorem dX1_dropOldest_4 : decode cX1_dropOldest 4 = .ok (.iconst 0, 1) := by decide +kernel
theorem dX1_dropOldest_5 : decode cX1_dropOldest 5 = .ok (.aaload, 1) := by decide +kernel
theorem dX1_dropOldest_6 : decode cX1_dropOldest 6 = .ok (.astore_n 1, 1) := by decide +kernel
theorem dX1_dropOldest_7 : decode cX1_dropOldest 7 = .ok (.iconst 1, 1) := by decide +kernel
theorem dX1_dropOldest_8 : decode cX1_dropOldest 8 = .ok (.istore_n 2, 1) := by decide +kernel
theorem dX1_dropOldest_9 : decode cX1_dropOldest 9 = .ok (.iload_n 2, 1) := by decide +kernel
theorem dX1_dropOldest_10 : decode cX1_dropOldest 10 = .ok (.iconst 4, 1) := by decide +kernel
theorem dX1_dropOldest_11 : decode cX1_dropOldest 11 = .ok (.if_icmp .ge 23, 3) := by decide +kernel
theorem dX1_dropOldest_14 : decode cX1_dropOldest 14 = .ok (.aload_n 0, 1) := by decide +kernel
theorem dX1_dropOldest_15 : decode cX1_dropOldest 15 = .ok (.getfield 11, 3) := by decide +kernel
theorem dX1_dropOldest_18 : decode cX1_dropOldest 18 = .ok (.iload_n 2, 1) := by decide +kernel
theorem dX1_dropOldest_19 : decode cX1_dropOldest 19 = .ok (.iconst 1, 1) := by decide +kernel
theorem dX1_dropOldest_20 : decode cX1_dropOldest 20 = .ok (.isub, 1) := by decide +kernel
theorem dX1_dropOldest_21 : decode cX1_dropOldest 21 = .ok (.aload_n 0, 1) := by decide +kernel
theorem dX1_dropOldest_22 : decode cX1_dropOldest 22 = .ok (.getfield 11, 3) := by decide +kernel
theorem dX1_dropOldest_25 : decode cX1_dropOldest 25 = .ok (.iload_n 2, 1) := by decide +kernel
theorem dX1_dropOldest_26 : decode cX1_dropOldest 26 = .ok (.aaload, 1) := by decide +kernel
theorem dX1_dropOldest_27 : decode cX1_dropOldest 27 = .ok (.aastore, 1) := by decide +kernel
theorem dX1_dropOldest_28 : decode cX1_dropOldest 28 = .ok (.iinc 2 1, 3) := by decide +kernel
theorem dX1_dropOldest_31 : decode cX1_dropOldest 31 = .ok (.goto (-22), 3) := by decide +kernel
theorem dX1_dropOldest_34 : decode cX1_dropOldest 34 = .ok (.aload_n 0, 1) := by decide +kernel
theorem dX1_dropOldest_35 : decode cX1_dropOldest 35 = .ok (.getfield 11, 3) := by decide +kernel
theorem dX1_dropOldest_38 : decode cX1_dropOldest 38 = .ok (.iconst 3, 1) := by decide +kernel
theorem dX1_dropOldest_39 : decode cX1_dropOldest 39 = .ok (.aload_n 1, 1) := by decide +kernel
theorem dX1_dropOldest_40 : decode cX1_dropOldest 40 = .ok (.aastore, 1) := by decide +kernel
theorem dX1_dropOldest_41 : decode cX1_dropOldest 41 = .ok (.aload_n 0, 1) := by decide +kernel
theorem dX1_dropOldest_42 : decode cX1_dropOldest 42 = .ok (.dup, 1) := by decide +kernel
theorem dX1_dropOldest_43 : decode cX1_dropOldest 43 = .ok (.getfield 17, 3) := by decide +kernel
theorem dX1_dropOldest_46 : decode cX1_dropOldest 46 = .ok (.iconst 1, 1) := by decide +kernel
theorem dX1_dropOldest_47 : decode cX1_dropOldest 47 = .ok (.isub, 1) := by decide +kernel
theorem dX1_dropOldest_48 : decode cX1_dropOldest 48 = .ok (.putfield 17, 3) := by decide +kernel
theorem dX1_dropOldest_51 : decode cX1_dropOldest 51 = .ok (.return_, 1) := by decide +kernel
theorem dX1_takeBack_0 : decode cX1_takeBack 0 = .ok (.aload_n 0, 1) := by decide +kernel
theorem dX1_takeBack_1 : decode cX1_takeBack 1 = .ok (.getfield 17, 3) := by decide +kernel
theorem dX1_takeBack_4 : decode cX1_takeBack 4 = .ok (.ifCond .ne 6, 3) := by decide +kernel
theorem dX1_takeBack_7 : decode cX1_takeBack 7 = .ok (.bipush (-5), 2) := by decide +kernel
theorem dX1_takeBack_9 : decode cX1_takeBack 9 = .ok (.ireturn, 1) := by decide +kernel
theorem dX1_takeBack_10 : decode cX1_takeBack 10 = .ok (.aload_n 0, 1) := by decide +kernel
theorem dX1_takeBack_11 : decode cX1_takeBack 11 = .ok (.dup, 1) := by decide +kernel
theorem dX1_takeBack_12 : decode cX1_takeBack 12 = .ok (.getfield 17, 3) := by decide +kernel
theorem dX1_takeBack_15 : decode cX1_takeBack 15 = .ok (.iconst 1, 1) := by decide +kernel
theorem dX1_takeBack_16 : decode cX1_takeBack 16 = .ok (.isub, 1) := by decide +kernel
theorem dX1_takeBack_17 : decode cX1_takeBack 17 = .ok (.putfield 17, 3) := by decide +kernel
theorem dX1_takeBack_20 : decode cX1_takeBack 20 = .ok (.aload_n 1, 1) := by decide +kernel
theorem dX1_takeBack_21 : decode cX1_takeBack 21 = .ok (.aload_n 0, 1) := by decide +kernel
theorem dX1_takeBack_22 : decode cX1_takeBack 22 = .ok (.getfield 11, 3) := by decide +kernel
theorem dX1_takeBack_25 : decode cX1_takeBack 25 = .ok (.aload_n 0, 1) := by decide +kernel
theorem dX1_takeBack_26 : decode cX1_takeBack 26 = .ok (.getfield 17, 3) := by decide +kernel
theorem dX1_takeBack_29 : decode cX1_takeBack 29 = .ok (.aaload, 1) := by decide +kernel
theorem dX1_takeBack_30 : decode cX1_takeBack 30 = .ok (.invokevirtual 27, 3) := by decide +kernel
theorem dX1_takeBack_33 : decode cX1_takeBack 33 = .ok (.aload_n 0, 1) := by decide +kernel
theorem dX1_takeBack_34 : decode cX1_takeBack 34 = .ok (.getfield 17, 3) := by decide +kernel
theorem dX1_takeBack_37 : decode cX1_takeBack 37 = .ok (.ireturn, 1) := by decide +kernel
theorem dX2_init_0 : decode cX2_init 0 = .ok (.aload_n 0, 1) := by decide +kernel
theorem dX2_init_1 : decode cX2_init 1 = .ok (.invokespecial 3, 3) := by decide +kernel
theorem dX2_init_4 : decode cX2_init 4 = .ok (.aload_n 0, 1) := by decide +kernel
theorem dX2_init_5 : decode cX2_init 5 = .ok (.iconst 0, 1) := by decide +kernel
theorem dX2_init_6 : decode cX2_init 6 = .ok (.putfield 9, 3) := by decide +kernel
theorem dX2_init_9 : decode cX2_init 9 = .ok (.aload_n 0, 1) := by decide +kernel
theorem dX2_init_10 : decode cX2_init 10 = .ok (.iconst 0, 1) := by decide +kernel
theorem dX2_init_11 : decode cX2_init 11 = .ok (.putfield 15, 3) := by decide +kernel
theorem dX2_init_14 : decode cX2_init 14 = .ok (.aload_n 0, 1) := by decide +kernel
theorem dX2_init_15 : decode cX2_init 15 = .ok (.iconst 3, 1) := by decide +kernel
theorem dX2_init_16 : decode cX2_init 16 = .ok (.putfield 18, 3) := by decide +kernel
theorem dX2_init_19 : decode cX2_init 19 = .ok (.aload_n 0, 1) := by decide +kernel
theorem dX2_init_20 : decode cX2_init 20 = .ok (.iconst 0, 1) := by decide +kernel
theorem dX2_init_21 : decode cX2_init 21 = .ok (.putfield 21, 3) := by decide +kernel
theorem dX2_init_24 : decode cX2_init 24 = .ok (.aload_n 0, 1) := by decide +kernel
theorem dX2_init_25 : decode cX2_init 25 = .ok (.iconst 0, 1) := by decide +kernel
theorem dX2_init_26 : decode cX2_init 26 = .ok (.putfield 24, 3) := by decide +kernel
theorem dX2_init_29 : decode cX2_init 29 = .ok (.return_, 1) := by decide +kernel
theorem dX2_copyFrom_0 : decode cX2_copyFrom 0 = .ok (.aload_n 0, 1) := by decide +kernel
theorem dX2_copyFrom_1 : decode cX2_copyFrom 1 = .ok (.aload_n 1, 1) := by decide +kernel
theorem dX2_copyFrom_2 : decode cX2_copyFrom 2 = .ok (.getfield 9, 3) := by decide +kernel
theorem dX2_copyFrom_5 : decode cX2_copyFrom 5 = .ok (.putfield 9, 3) := by decide +kernel
theorem dX2_copyFrom_8 : decode cX2_copyFrom 8 = .ok (.aload_n 0, 1) := by decide +kernel
theorem dX2_copyFrom_9 : decode cX2_copyFrom 9 = .ok (.aload_n 1, 1) := by decide +kernel
theorem dX2_copyFrom_10 : decode cX2_copyFrom 10 = .ok (.getfield 15, 3) := by decide +kernel
theorem dX2_copyFrom_13 : decode cX2_copyFrom 13 = .ok (.putfield 15, 3) := by decide +kernel
theorem dX2_copyFrom_16 : decode cX2_copyFrom 16 = .ok (.aload_n 0, 1) := by decide +kernel
theorem dX2_copyFrom_17 : decode cX2_copyFrom 17 = .ok (.aload_n 1, 1) := by decide +kernel
theorem dX2_copyFrom_18 : decode cX2_copyFrom 18 = .ok (.getfield 18, 3) := by decide +kernel
theorem dX2_copyFrom_21 : decode cX2_copyFrom 21 = .ok (.putfield 18, 3) := by decide +kernel
theorem dX2_copyFrom_24 : decode cX2_copyFrom 24 = .ok (.aload_n 0, 1) := by decide +kernel
theorem dX2_copyFrom_25 : decode cX2_copyFrom 25 = .ok (.aload_n 1, 1) := by decide +kernel
theorem dX2_copyFrom_26 : decode cX2_copyFrom 26 = .ok (.getfield 21, 3) := by decide +kernel
theorem dX2_copyFrom_29 : decode cX2_copyFrom 29 = .ok (.putfield 21, 3) := by decide +kernel
theorem dX2_copyFrom_32 : decode cX2_copyFrom 32 = .ok (.aload_n 0, 1) := by decide +kernel
theorem dX2_copyFrom_33 : decode cX2_copyFrom 33 = .ok (.aload_n 1, 1) := by decide +kernel
theorem dX2_copyFrom_34 : decode cX2_copyFrom 34 = .ok (.getfield 24, 3) := by decide +kernel
theorem dX2_copyFrom_37 : decode cX2_copyFrom 37 = .ok (.putfield 24, 3) := by decide +kernel
theorem dX2_copyFrom_40 : decode cX2_copyFrom 40 = .ok (.return_, 1) := by decide +kernel
theorem dX2_told_0 : decode cX2_told 0 = .ok (.iload_n 1, 1) := by decide +kernel
theorem dX2_told_1 : decode cX2_told 1 = .ok (.tableswitch 60 0 4 #[35, 40, 45, 50, 55], 35) := by decide +kernel
theorem dX2_told_36 : decode cX2_told 36 = .ok (.aload_n 0, 1) := by decide +kernel
theorem dX2_told_37 : decode cX2_told 37 = .ok (.getfield 9, 3) := by decide +kernel
theorem dX2_told_40 : decode cX2_told 40 = .ok (.ireturn, 1) := by decide +kernel
theorem dX2_told_41 : decode cX2_told 41 = .ok (.aload_n 0, 1) := by decide +kernel
theorem dX2_told_42 : decode cX2_told 42 = .ok (.getfield 15, 3) := by decide +kernel
theorem dX2_told_45 : decode cX2_told 45 = .ok (.ireturn, 1) := by decide +kernel
theorem dX2_told_46 : decode cX2_told 46 = .ok (.aload_n 0, 1) := by decide +kernel
theorem dX2_told_47 : decode cX2_told 47 = .ok (.getfield 18, 3) := by decide +kernel
theorem dX2_told_50 : decode cX2_told 50 = .ok (.ireturn, 1) := by decide +kernel
theorem dX2_told_51 : decode cX2_told 51 = .ok (.aload_n 0, 1) := by decide +kernel
theorem dX2_told_52 : decode cX2_told 52 = .ok (.getfield 21, 3) := by decide +kernel
theorem dX2_told_55 : decode cX2_told 55 = .ok (.ireturn, 1) := by decide +kernel
theorem dX2_told_56 : decode cX2_told 56 = .ok (.aload_n 0, 1) := by decide +kernel
theorem dX2_told_57 : decode cX2_told 57 = .ok (.getfield 24, 3) := by decide +kernel
theorem dX2_told_60 : decode cX2_told 60 = .ok (.ireturn, 1) := by decide +kernel
theorem dX2_told_61 : decode cX2_told 61 = .ok (.bipush (-2), 2) := by decide +kernel
theorem dX2_told_63 : decode cX2_told 63 = .ok (.ireturn, 1) := by decide +kernel
theorem dX2_oweWreck_0 : decode cX2_oweWreck 0 = .ok (.aload_n 0, 1) := by decide +kernel
theorem dX2_oweWreck_1 : decode cX2_oweWreck 1 = .ok (.dup, 1) := by decide +kernel
theorem dX2_oweWreck_2 : decode cX2_oweWreck 2 = .ok (.getfield 15, 3) := by decide +kernel
theorem dX2_oweWreck_5 : decode cX2_oweWreck 5 = .ok (.iload_n 1, 1) := by decide +kernel
theorem dX2_oweWreck_6 : decode cX2_oweWreck 6 = .ok (.iadd, 1) := by decide +kernel
theorem dX2_oweWreck_7 : decode cX2_oweWreck 7 = .ok (.putfield 15, 3) := by decide +kernel
theorem dX2_oweWreck_10 : decode cX2_oweWreck 10 = .ok (.aload_n 0, 1) := by decide +kernel
theorem dX2_oweWreck_11 : decode cX2_oweWreck 11 = .ok (.dup, 1) := by decide +kernel
theorem dX2_oweWreck_12 : decode cX2_oweWreck 12 = .ok (.getfield 21, 3) := by decide +kernel
theorem dX2_oweWreck_15 : decode cX2_oweWreck 15 = .ok (.iconst 1, 1) := by decide +kernel
theorem dX2_oweWreck_16 : decode cX2_oweWreck 16 = .ok (.iadd, 1) := by decide +kernel
theorem dX2_oweWreck_17 : decode cX2_oweWreck 17 = .ok (.putfield 21, 3) := by decide +kernel
theorem dX2_oweWreck_20 : decode cX2_oweWreck 20 = .ok (.return_, 1) := by decide +kernel
theorem dX2_earn_0 : decode cX2_earn 0 = .ok (.aload_n 0, 1) := by decide +kernel
theorem dX2_earn_1 : decode cX2_earn 1 = .ok (.dup, 1) := by decide +kernel
theorem dX2_earn_2 : decode cX2_earn 2 = .ok (.getfield 9, 3) := by decide +kernel
theorem dX2_earn_5 : decode cX2_earn 5 = .ok (.iload_n 1, 1) := by decide +kernel
theorem dX2_earn_6 : decode cX2_earn 6 = .ok (.iadd, 1) := by decide +kernel
theorem dX2_earn_7 : decode cX2_earn 7 = .ok (.putfield 9, 3) := by decide +kernel
theorem dX2_earn_10 : decode cX2_earn 10 = .ok (.aload_n 0, 1) := by decide +kernel
theorem dX2_earn_11 : decode cX2_earn 11 = .ok (.getfield 9, 3) := by decide +kernel
theorem dX2_earn_14 : decode cX2_earn 14 = .ok (.aload_n 0, 1) := by decide +kernel
theorem dX2_earn_15 : decode cX2_earn 15 = .ok (.getfield 15, 3) := by decide +kernel
theorem dX2_earn_18 : decode cX2_earn 18 = .ok (.invokestatic 27, 3) := by decide +kernel
theorem dX2_earn_21 : decode cX2_earn 21 = .ok (.istore_n 2, 1) := by decide +kernel
theorem dX2_earn_22 : decode cX2_earn 22 = .ok (.aload_n 0, 1) := by decide +kernel
theorem dX2_earn_23 : decode cX2_earn 23 = .ok (.dup, 1) := by decide +kernel
theorem dX2_earn_24 : decode cX2_earn 24 = .ok (.getfield 9, 3) := by decide +kernel
theorem dX2_earn_27 : decode cX2_earn 27 = .ok (.iload_n 2, 1) := by decide +kernel
theorem dX2_earn_28 : decode cX2_earn 28 = .ok (.isub, 1) := by decide +kernel
theorem dX2_earn_29 : decode cX2_earn 29 = .ok (.putfield 9, 3) := by decide +kernel
theorem dX2_earn_32 : decode cX2_earn 32 = .ok (.aload_n 0, 1) := by decide +kernel
theorem dX2_earn_33 : decode cX2_earn 33 = .ok (.dup, 1) := by decide +kernel
theorem dX2_earn_34 : decode cX2_earn 34 = .ok (.getfield 15, 3) := by decide +kernel
theorem dX2_earn_37 : decode cX2_earn 37 = .ok (.iload_n 2, 1) := by decide +kernel
theorem dX2_earn_38 : decode cX2_earn 38 = .ok (.isub, 1) := by decide +kernel
theorem dX2_earn_39 : decode cX2_earn 39 = .ok (.putfield 15, 3) := by decide +kernel
theorem dX2_earn_42 : decode cX2_earn 42 = .ok (.aload_n 0, 1) := by decide +kernel
theorem dX2_earn_43 : decode cX2_earn 43 = .ok (.dup, 1) := by decide +kernel
theorem dX2_earn_44 : decode cX2_earn 44 = .ok (.getfield 24, 3) := by decide +kernel
theorem dX2_earn_47 : decode cX2_earn 47 = .ok (.iload_n 2, 1) := by decide +kernel
theorem dX2_earn_48 : decode cX2_earn 48 = .ok (.iadd, 1) := by decide +kernel
theorem dX2_earn_49 : decode cX2_earn 49 = .ok (.putfield 24, 3) := by decide +kernel
theorem dX2_earn_52 : decode cX2_earn 52 = .ok (.return_, 1) := by decide +kernel
theorem dX3_init_0 : decode cX3_init 0 = .ok (.aload_n 0, 1) := by decide +kernel
theorem dX3_init_1 : decode cX3_init 1 = .ok (.invokespecial 3, 3) := by decide +kernel
theorem dX3_init_4 : decode cX3_init 4 = .ok (.aload_n 0, 1) := by decide +kernel
theorem dX3_init_5 : decode cX3_init 5 = .ok (.iconst 1, 1) := by decide +kernel
theorem dX3_init_6 : decode cX3_init 6 = .ok (.putfield 9, 3) := by decide +kernel
theorem dX3_init_9 : decode cX3_init 9 = .ok (.aload_n 0, 1) := by decide +kernel
theorem dX3_init_10 : decode cX3_init 10 = .ok (.iconst 5, 1) := by decide +kernel
theorem dX3_init_11 : decode cX3_init 11 = .ok (.putfield 15, 3) := by decide +kernel
theorem dX3_init_14 : decode cX3_init 14 = .ok (.aload_n 0, 1) := by decide +kernel
theorem dX3_init_15 : decode cX3_init 15 = .ok (.iconst 0, 1) := by decide +kernel
theorem dX3_init_16 : decode cX3_init 16 = .ok (.putfield 18, 3) := by decide +kernel
theorem dX3_init_19 : decode cX3_init 19 = .ok (.aload_n 0, 1) := by decide +kernel
theorem dX3_init_20 : decode cX3_init 20 = .ok (.iconst 0, 1) := by decide +kernel
theorem dX3_init_21 : decode cX3_init 21 = .ok (.putfield 21, 3) := by decide +kernel
theorem dX3_init_24 : decode cX3_init 24 = .ok (.aload_n 0, 1) := by decide +kernel
theorem dX3_init_25 : decode cX3_init 25 = .ok (.getstatic 24, 3) := by decide +kernel
theorem dX3_init_28 : decode cX3_init 28 = .ok (.iload_n 1, 1) := by decide +kernel
theorem dX3_init_29 : decode cX3_init 29 = .ok (.iaload, 1) := by decide +kernel
theorem dX3_init_30 : decode cX3_init 30 = .ok (.putfield 28, 3) := by decide +kernel
theorem dX3_init_33 : decode cX3_init 33 = .ok (.aload_n 0, 1) := by decide +kernel
theorem dX3_init_34 : decode cX3_init 34 = .ok (.aload_n 2, 1) := by decide +kernel
theorem dX3_init_35 : decode cX3_init 35 = .ok (.getfield 31, 3) := by decide +kernel
theorem dX3_init_38 : decode cX3_init 38 = .ok (.iload_n 1, 1) := by decide +kernel
theorem dX3_init_39 : decode cX3_init 39 = .ok (.aaload, 1) := by decide +kernel
theorem dX3_init_40 : decode cX3_init 40 = .ok (.putfield 37, 3) := by decide +kernel
theorem dX3_init_43 : decode cX3_init 43 = .ok (.aload_n 0, 1) := by decide +kernel
theorem dX3_init_44 : decode cX3_init 44 = .ok (.aload_n 2, 1) := by decide +kernel
theorem dX3_init_45 : decode cX3_init 45 = .ok (.getfield 39, 3) := by decide +kernel
theorem dX3_init_48 : decode cX3_init 48 = .ok (.iload_n 1, 1) := by decide +kernel
theorem dX3_init_49 : decode cX3_init 49 = .ok (.aaload, 1) := by decide +kernel
theorem dX3_init_50 : decode cX3_init 50 = .ok (.putfield 42, 3) := by decide +kernel
theorem dX3_init_53 : decode cX3_init 53 = .ok (.aload_n 0, 1) := by decide +kernel
theorem dX3_init_54 : decode cX3_init 54 = .ok (.iload_n 1, 1) := by decide +kernel
theorem dX3_init_55 : decode cX3_init 55 = .ok (.putfield 44, 3) := by decide +kernel
theorem dX3_init_58 : decode cX3_init 58 = .ok (.return_, 1) := by decide +kernel
theorem dX3_copyFrom_0 : decode cX3_copyFrom 0 = .ok (.aload_n 0, 1) := by decide +kernel
theorem dX3_copyFrom_1 : decode cX3_copyFrom 1 = .ok (.aload_n 1, 1) := by decide +kernel
theorem dX3_copyFrom_2 : decode cX3_copyFrom 2 = .ok (.getfield 44, 3) := by decide +kernel
theorem dX3_copyFrom_5 : decode cX3_copyFrom 5 = .ok (.putfield 44, 3) := by decide +kernel
theorem dX3_copyFrom_8 : decode cX3_copyFrom 8 = .ok (.aload_n 0, 1) := by decide +kernel
theorem dX3_copyFrom_9 : decode cX3_copyFrom 9 = .ok (.aload_n 1, 1) := by decide +kernel
theorem dX3_copyFrom_10 : decode cX3_copyFrom 10 = .ok (.getfield 9, 3) := by decide +kernel
theorem dX3_copyFrom_13 : decode cX3_copyFrom 13 = .ok (.putfield 9, 3) := by decide +kernel
theorem dX3_copyFrom_16 : decode cX3_copyFrom 16 = .ok (.aload_n 0, 1) := by decide +kernel
theorem dX3_copyFrom_17 : decode cX3_copyFrom 17 = .ok (.aload_n 1, 1) := by decide +kernel
theorem dX3_copyFrom_18 : decode cX3_copyFrom 18 = .ok (.getfield 15, 3) := by decide +kernel
theorem dX3_copyFrom_21 : decode cX3_copyFrom 21 = .ok (.putfield 15, 3) := by decide +kernel
theorem dX3_copyFrom_24 : decode cX3_copyFrom 24 = .ok (.aload_n 0, 1) := by decide +kernel
theorem dX3_copyFrom_25 : decode cX3_copyFrom 25 = .ok (.aload_n 1, 1) := by decide +kernel
theorem dX3_copyFrom_26 : decode cX3_copyFrom 26 = .ok (.getfield 18, 3) := by decide +kernel
theorem dX3_copyFrom_29 : decode cX3_copyFrom 29 = .ok (.putfield 18, 3) := by decide +kernel
theorem dX3_copyFrom_32 : decode cX3_copyFrom 32 = .ok (.aload_n 0, 1) := by decide +kernel
theorem dX3_copyFrom_33 : decode cX3_copyFrom 33 = .ok (.aload_n 1, 1) := by decide +kernel
theorem dX3_copyFrom_34 : decode cX3_copyFrom 34 = .ok (.getfield 21, 3) := by decide +kernel
theorem dX3_copyFrom_37 : decode cX3_copyFrom 37 = .ok (.putfield 21, 3) := by decide +kernel
theorem dX3_copyFrom_40 : decode cX3_copyFrom 40 = .ok (.return_, 1) := by decide +kernel
theorem dX3_told_0 : decode cX3_told 0 = .ok (.iload_n 1, 1) := by decide +kernel
theorem dX3_told_1 : decode cX3_told 1 = .ok (.tableswitch 80 0 6 #[43, 48, 53, 58, 63, 68, 74], 43) := by decide +kernel
theorem dX3_told_44 : decode cX3_told 44 = .ok (.aload_n 0, 1) := by decide +kernel
theorem dX3_told_45 : decode cX3_told 45 = .ok (.getfield 44, 3) := by decide +kernel
theorem dX3_told_48 : decode cX3_told 48 = .ok (.ireturn, 1) := by decide +kernel
theorem dX3_told_49 : decode cX3_told 49 = .ok (.aload_n 0, 1) := by decide +kernel
theorem dX3_told_50 : decode cX3_told 50 = .ok (.getfield 9, 3) := by decide +kernel
theorem dX3_told_53 : decode cX3_told 53 = .ok (.ireturn, 1) := by decide +kernel
theorem dX3_told_54 : decode cX3_told 54 = .ok (.aload_n 0, 1) := by decide +kernel
theorem dX3_told_55 : decode cX3_told 55 = .ok (.getfield 15, 3) := by decide +kernel
theorem dX3_told_58 : decode cX3_told 58 = .ok (.ireturn, 1) := by decide +kernel
theorem dX3_told_59 : decode cX3_told 59 = .ok (.aload_n 0, 1) := by decide +kernel
theorem dX3_told_60 : decode cX3_told 60 = .ok (.getfield 18, 3) := by decide +kernel
theorem dX3_told_63 : decode cX3_told 63 = .ok (.ireturn, 1) := by decide +kernel
theorem dX3_told_64 : decode cX3_told 64 = .ok (.aload_n 0, 1) := by decide +kernel
theorem dX3_told_65 : decode cX3_told 65 = .ok (.getfield 21, 3) := by decide +kernel
theorem dX3_told_68 : decode cX3_told 68 = .ok (.ireturn, 1) := by decide +kernel
theorem dX3_told_69 : decode cX3_told 69 = .ok (.aload_n 0, 1) := by decide +kernel
theorem dX3_told_70 : decode cX3_told 70 = .ok (.iload_n 2, 1) := by decide +kernel
theorem dX3_told_71 : decode cX3_told 71 = .ok (.invokevirtual 47, 3) := by decide +kernel
theorem dX3_told_74 : decode cX3_told 74 = .ok (.ireturn, 1) := by decide +kernel
theorem dX3_told_75 : decode cX3_told 75 = .ok (.aload_n 0, 1) := by decide +kernel
theorem dX3_told_76 : decode cX3_told 76 = .ok (.iload_n 2, 1) := by decide +kernel
theorem dX3_told_77 : decode cX3_told 77 = .ok (.invokevirtual 51, 3) := by decide +kernel
theorem dX3_told_80 : decode cX3_told 80 = .ok (.ireturn, 1) := by decide +kernel
theorem dX3_told_81 : decode cX3_told 81 = .ok (.bipush (-2), 2) := by decide +kernel
theorem dX3_told_83 : decode cX3_told 83 = .ok (.ireturn, 1) := by decide +kernel
theorem dX3_set_0 : decode cX3_set 0 = .ok (.iload_n 1, 1) := by decide +kernel
theorem dX3_set_1 : decode cX3_set 1 = .ok (.tableswitch 51 0 2 #[27, 35, 43], 27) := by decide +kernel
theorem dX3_set_28 : decode cX3_set 28 = .ok (.aload_n 0, 1) := by decide +kernel
theorem dX3_set_29 : decode cX3_set 29 = .ok (.iload_n 2, 1) := by decide +kernel
theorem dX3_set_30 : decode cX3_set 30 = .ok (.putfield 44, 3) := by decide +kernel
theorem dX3_set_33 : decode cX3_set 33 = .ok (.goto 24, 3) := by decide +kernel
theorem dX3_set_36 : decode cX3_set 36 = .ok (.aload_n 0, 1) := by decide +kernel
theorem dX3_set_37 : decode cX3_set 37 = .ok (.iload_n 2, 1) := by decide +kernel
theorem dX3_set_38 : decode cX3_set 38 = .ok (.putfield 9, 3) := by decide +kernel
theorem dX3_set_41 : decode cX3_set 41 = .ok (.goto 16, 3) := by decide +kernel
theorem dX3_set_44 : decode cX3_set 44 = .ok (.aload_n 0, 1) := by decide +kernel
theorem dX3_set_45 : decode cX3_set 45 = .ok (.iload_n 2, 1) := by decide +kernel
theorem dX3_set_46 : decode cX3_set 46 = .ok (.putfield 15, 3) := by decide +kernel
theorem dX3_set_49 : decode cX3_set 49 = .ok (.goto 8, 3) := by decide +kernel
theorem dX3_set_52 : decode cX3_set 52 = .ok (.aload_n 0, 1) := by decide +kernel
theorem dX3_set_53 : decode cX3_set 53 = .ok (.iload_n 2, 1) := by decide +kernel
theorem dX3_set_54 : decode cX3_set 54 = .ok (.putfield 18, 3) := by decide +kernel
theorem dX3_set_57 : decode cX3_set 57 = .ok (.return_, 1) := by decide +kernel
theorem dX3_turnDark_0 : decode cX3_turnDark 0 = .ok (.aload_n 0, 1) := by decide +kernel
theorem dX3_turnDark_1 : decode cX3_turnDark 1 = .ok (.dup, 1) := by decide +kernel
theorem dX3_turnDark_2 : decode cX3_turnDark 2 = .ok (.getfield 18, 3) := by decide +kernel
theorem dX3_turnDark_5 : decode cX3_turnDark 5 = .ok (.iconst 1, 1) := by decide +kernel
theorem dX3_turnDark_6 : decode cX3_turnDark 6 = .ok (.iload_n 1, 1) := by decide +kernel
theorem dX3_turnDark_7 : decode cX3_turnDark 7 = .ok (.ishl, 1) := by decide +kernel
theorem dX3_turnDark_8 : decode cX3_turnDark 8 = .ok (.ixor, 1) := by decide +kernel
theorem dX3_turnDark_9 : decode cX3_turnDark 9 = .ok (.putfield 18, 3) := by decide +kernel
theorem dX3_turnDark_12 : decode cX3_turnDark 12 = .ok (.return_, 1) := by decide +kernel
theorem dX3_layCard_0 : decode cX3_layCard 0 = .ok (.aload_n 0, 1) := by decide +kernel
theorem dX3_layCard_1 : decode cX3_layCard 1 = .ok (.aload_n 0, 1) := by decide +kernel
theorem dX3_layCard_2 : decode cX3_layCard 2 = .ok (.getfield 21, 3) := by decide +kernel
theorem dX3_layCard_5 : decode cX3_layCard 5 = .ok (.iconst 3, 1) := by decide +kernel
theorem dX3_layCard_6 : decode cX3_layCard 6 = .ok (.iadd, 1) := by decide +kernel
theorem dX3_layCard_7 : decode cX3_layCard 7 = .ok (.bipush 9, 2) := by decide +kernel
theorem dX3_layCard_9 : decode cX3_layCard 9 = .ok (.invokestatic 54, 3) := by decide +kernel
theorem dX3_layCard_12 : decode cX3_layCard 12 = .ok (.putfield 21, 3) := by decide +kernel
theorem dX3_layCard_15 : decode cX3_layCard 15 = .ok (.return_, 1) := by decide +kernel
theorem dX3_thinFog_0 : decode cX3_thinFog 0 = .ok (.aload_n 0, 1) := by decide +kernel
theorem dX3_thinFog_1 : decode cX3_thinFog 1 = .ok (.getfield 21, 3) := by decide +kernel
theorem dX3_thinFog_4 : decode cX3_thinFog 4 = .ok (.ifCond .le 13, 3) := by decide +kernel
theorem dX3_thinFog_7 : decode cX3_thinFog 7 = .ok (.aload_n 0, 1) := by decide +kernel
theorem dX3_thinFog_8 : decode cX3_thinFog 8 = .ok (.dup, 1) := by decide +kernel
theorem dX3_thinFog_9 : decode cX3_thinFog 9 = .ok (.getfield 21, 3) := by decide +kernel
theorem dX3_thinFog_12 : decode cX3_thinFog 12 = .ok (.iconst 1, 1) := by decide +kernel
theorem dX3_thinFog_13 : decode cX3_thinFog 13 = .ok (.isub, 1) := by decide +kernel
theorem dX3_thinFog_14 : decode cX3_thinFog 14 = .ok (.putfield 21, 3) := by decide +kernel
theorem dX3_thinFog_17 : decode cX3_thinFog 17 = .ok (.return_, 1) := by decide +kernel
theorem dX3_beamWind_0 : decode cX3_beamWind 0 = .ok (.aload_n 0, 1) := by decide +kernel
theorem dX3_beamWind_1 : decode cX3_beamWind 1 = .ok (.getfield 44, 3) := by decide +kernel
theorem dX3_beamWind_4 : decode cX3_beamWind 4 = .ok (.iload_n 1, 1) := by decide +kernel
theorem dX3_beamWind_5 : decode cX3_beamWind 5 = .ok (.aload_n 0, 1) := by decide +kernel
theorem dX3_beamWind_6 : decode cX3_beamWind 6 = .ok (.getfield 9, 3) := by decide +kernel
theorem dX3_beamWind_9 : decode cX3_beamWind 9 = .ok (.imul, 1) := by decide +kernel
theorem dX3_beamWind_10 : decode cX3_beamWind 10 = .ok (.iadd, 1) := by decide +kernel
theorem dX3_beamWind_11 : decode cX3_beamWind 11 = .ok (.bipush 8, 2) := by decide +kernel
theorem dX3_beamWind_13 : decode cX3_beamWind 13 = .ok (.irem, 1) := by decide +kernel
theorem dX3_beamWind_14 : decode cX3_beamWind 14 = .ok (.ireturn, 1) := by decide +kernel
theorem dX3_isDark_0 : decode cX3_isDark 0 = .ok (.aload_n 0, 1) := by decide +kernel
theorem dX3_isDark_1 : decode cX3_isDark 1 = .ok (.getfield 18, 3) := by decide +kernel
theorem dX3_isDark_4 : decode cX3_isDark 4 = .ok (.iload_n 1, 1) := by decide +kernel
theorem dX3_isDark_5 : decode cX3_isDark 5 = .ok (.ishr, 1) := by decide +kernel
theorem dX3_isDark_6 : decode cX3_isDark 6 = .ok (.iconst 1, 1) := by decide +kernel
theorem dX3_isDark_7 : decode cX3_isDark 7 = .ok (.iand, 1) := by decide +kernel
theorem dX3_isDark_8 : decode cX3_isDark 8 = .ok (.ifCond .eq 7, 3) := by decide +kernel
theorem dX3_isDark_11 : decode cX3_isDark 11 = .ok (.iconst 1, 1) := by decide +kernel
theorem dX3_isDark_12 : decode cX3_isDark 12 = .ok (.goto 4, 3) := by decide +kernel
theorem dX3_isDark_15 : decode cX3_isDark 15 = .ok (.iconst 0, 1) := by decide +kernel
theorem dX3_isDark_16 : decode cX3_isDark 16 = .ok (.ireturn, 1) := by decide +kernel
theorem dX3_reach_0 : decode cX3_reach 0 = .ok (.aload_n 0, 1) := by decide +kernel
theorem dX3_reach_1 : decode cX3_reach 1 = .ok (.getfield 21, 3) := by decide +kernel
theorem dX3_reach_4 : decode cX3_reach 4 = .ok (.iload_n 1, 1) := by decide +kernel
theorem dX3_reach_5 : decode cX3_reach 5 = .ok (.if_icmp .le 17, 3) := by decide +kernel
theorem dX3_reach_8 : decode cX3_reach 8 = .ok (.aload_n 0, 1) := by decide +kernel
theorem dX3_reach_9 : decode cX3_reach 9 = .ok (.getfield 15, 3) := by decide +kernel
theorem dX3_reach_12 : decode cX3_reach 12 = .ok (.aload_n 0, 1) := by decide +kernel
theorem dX3_reach_13 : decode cX3_reach 13 = .ok (.getfield 21, 3) := by decide +kernel
theorem dX3_reach_16 : decode cX3_reach 16 = .ok (.iload_n 1, 1) := by decide +kernel
theorem dX3_reach_17 : decode cX3_reach 17 = .ok (.isub, 1) := by decide +kernel
theorem dX3_reach_18 : decode cX3_reach 18 = .ok (.isub, 1) := by decide +kernel
theorem dX3_reach_19 : decode cX3_reach 19 = .ok (.goto 7, 3) := by decide +kernel
theorem dX3_reach_22 : decode cX3_reach 22 = .ok (.aload_n 0, 1) := by decide +kernel
theorem dX3_reach_23 : decode cX3_reach 23 = .ok (.getfield 15, 3) := by decide +kernel
theorem dX3_reach_26 : decode cX3_reach 26 = .ok (.ireturn, 1) := by decide +kernel
theorem dX3_lightsCell_0 : decode cX3_lightsCell 0 = .ok (.iload_n 1, 1) := by decide +kernel
theorem dX3_lightsCell_1 : decode cX3_lightsCell 1 = .ok (.aload_n 0, 1) := by decide +kernel
theorem dX3_lightsCell_2 : decode cX3_lightsCell 2 = .ok (.getfield 28, 3) := by decide +kernel
theorem dX3_lightsCell_5 : decode cX3_lightsCell 5 = .ok (.if_icmp .ne 5, 3) := by decide +kernel
theorem dX3_lightsCell_8 : decode cX3_lightsCell 8 = .ok (.iconst 1, 1) := by decide +kernel
theorem dX3_lightsCell_9 : decode cX3_lightsCell 9 = .ok (.ireturn, 1) := by decide +kernel
theorem dX3_lightsCell_10 : decode cX3_lightsCell 10 = .ok (.aload_n 0, 1) := by decide +kernel
theorem dX3_lightsCell_11 : decode cX3_lightsCell 11 = .ok (.getfield 37, 3) := by decide +kernel
theorem dX3_lightsCell_14 : decode cX3_lightsCell 14 = .ok (.iload_n 1, 1) := by decide +kernel
theorem dX3_lightsCell_15 : decode cX3_lightsCell 15 = .ok (.iaload, 1) := by decide +kernel
theorem dX3_lightsCell_16 : decode cX3_lightsCell 16 = .ok (.istore 4, 2) := by decide +kernel
theorem dX3_lightsCell_18 : decode cX3_lightsCell 18 = .ok (.iload 4, 2) := by decide +kernel
theorem dX3_lightsCell_20 : decode cX3_lightsCell 20 = .ok (.aload_n 0, 1) := by decide +kernel
theorem dX3_lightsCell_21 : decode cX3_lightsCell 21 = .ok (.iload_n 2, 1) := by decide +kernel
theorem dX3_lightsCell_22 : decode cX3_lightsCell 22 = .ok (.invokevirtual 47, 3) := by decide +kernel
theorem dX3_lightsCell_25 : decode cX3_lightsCell 25 = .ok (.if_icmp .ne 30, 3) := by decide +kernel
theorem dX3_lightsCell_28 : decode cX3_lightsCell 28 = .ok (.aload_n 0, 1) := by decide +kernel
theorem dX3_lightsCell_29 : decode cX3_lightsCell 29 = .ok (.getfield 42, 3) := by decide +kernel
theorem dX3_lightsCell_32 : decode cX3_lightsCell 32 = .ok (.iload_n 1, 1) := by decide +kernel
theorem dX3_lightsCell_33 : decode cX3_lightsCell 33 = .ok (.iaload, 1) := by decide +kernel
theorem dX3_lightsCell_34 : decode cX3_lightsCell 34 = .ok (.aload_n 0, 1) := by decide +kernel
theorem dX3_lightsCell_35 : decode cX3_lightsCell 35 = .ok (.iload_n 3, 1) := by decide +kernel
theorem dX3_lightsCell_36 : decode cX3_lightsCell 36 = .ok (.invokevirtual 60, 3) := by decide +kernel
theorem dX3_lightsCell_39 : decode cX3_lightsCell 39 = .ok (.if_icmp .gt 16, 3) := by decide +kernel
theorem dX3_lightsCell_42 : decode cX3_lightsCell 42 = .ok (.aload_n 0, 1) := by decide +kernel
theorem dX3_lightsCell_43 : decode cX3_lightsCell 43 = .ok (.iload 4, 2) := by decide +kernel
theorem dX3_lightsCell_45 : decode cX3_lightsCell 45 = .ok (.invokevirtual 63, 3) := by decide +kernel
theorem dX3_lightsCell_48 : decode cX3_lightsCell 48 = .ok (.ifCond .ne 7, 3) := by decide +kernel
theorem dX3_lightsCell_51 : decode cX3_lightsCell 51 = .ok (.iconst 1, 1) := by decide +kernel
theorem dX3_lightsCell_52 : decode cX3_lightsCell 52 = .ok (.goto 4, 3) := by decide +kernel
theorem dX3_lightsCell_55 : decode cX3_lightsCell 55 = .ok (.iconst 0, 1) := by decide +kernel
theorem dX3_lightsCell_56 : decode cX3_lightsCell 56 = .ok (.ireturn, 1) := by decide +kernel
theorem dX3_meetsOnWalk_0 : decode cX3_meetsOnWalk 0 = .ok (.iload_n 1, 1) := by decide +kernel
theorem dX3_meetsOnWalk_1 : decode cX3_meetsOnWalk 1 = .ok (.aload_n 0, 1) := by decide +kernel
theorem dX3_meetsOnWalk_2 : decode cX3_meetsOnWalk 2 = .ok (.getfield 28, 3) := by decide +kernel
theorem dX3_meetsOnWalk_5 : decode cX3_meetsOnWalk 5 = .ok (.if_icmp .ne 5, 3) := by decide +kernel
theorem dX3_meetsOnWalk_8 : decode cX3_meetsOnWalk 8 = .ok (.iconst 1, 1) := by decide +kernel
theorem dX3_meetsOnWalk_9 : decode cX3_meetsOnWalk 9 = .ok (.ireturn, 1) := by decide +kernel
theorem dX3_meetsOnWalk_10 : decode cX3_meetsOnWalk 10 = .ok (.aload_n 0, 1) := by decide +kernel
theorem dX3_meetsOnWalk_11 : decode cX3_meetsOnWalk 11 = .ok (.iload_n 2, 1) := by decide +kernel
theorem dX3_meetsOnWalk_12 : decode cX3_meetsOnWalk 12 = .ok (.invokevirtual 47, 3) := by decide +kernel
theorem dX3_meetsOnWalk_15 : decode cX3_meetsOnWalk 15 = .ok (.istore_n 3, 1) := by decide +kernel
theorem dX3_meetsOnWalk_16 : decode cX3_meetsOnWalk 16 = .ok (.aload_n 0, 1) := by decide +kernel
theorem dX3_meetsOnWalk_17 : decode cX3_meetsOnWalk 17 = .ok (.iload_n 3, 1) := by decide +kernel
theorem dX3_meetsOnWalk_18 : decode cX3_meetsOnWalk 18 = .ok (.invokevirtual 63, 3) := by decide +kernel
theorem dX3_meetsOnWalk_21 : decode cX3_meetsOnWalk 21 = .ok (.ifCond .eq 5, 3) := by decide +kernel
theorem dX3_meetsOnWalk_24 : decode cX3_meetsOnWalk 24 = .ok (.iconst 0, 1) := by decide +kernel
theorem dX3_meetsOnWalk_25 : decode cX3_meetsOnWalk 25 = .ok (.ireturn, 1) := by decide +kernel
theorem dX3_meetsOnWalk_26 : decode cX3_meetsOnWalk 26 = .ok (.aload_n 0, 1) := by decide +kernel
theorem dX3_meetsOnWalk_27 : decode cX3_meetsOnWalk 27 = .ok (.iconst 0, 1) := by decide +kernel
theorem dX3_meetsOnWalk_28 : decode cX3_meetsOnWalk 28 = .ok (.invokevirtual 60, 3) := by decide +kernel
theorem dX3_meetsOnWalk_31 : decode cX3_meetsOnWalk 31 = .ok (.istore 4, 2) := by decide +kernel
theorem dX3_meetsOnWalk_33 : decode cX3_meetsOnWalk 33 = .ok (.iconst 1, 1) := by decide +kernel
theorem dX3_meetsOnWalk_34 : decode cX3_meetsOnWalk 34 = .ok (.istore 5, 2) := by decide +kernel
theorem dX3_meetsOnWalk_36 : decode cX3_meetsOnWalk 36 = .ok (.iload 5, 2) := by decide +kernel
theorem dX3_meetsOnWalk_38 : decode cX3_meetsOnWalk 38 = .ok (.iload 4, 2) := by decide +kernel
theorem dX3_meetsOnWalk_40 : decode cX3_meetsOnWalk 40 = .ok (.if_icmp .gt 73, 3) := by decide +kernel
theorem dX3_meetsOnWalk_43 : decode cX3_meetsOnWalk 43 = .ok (.iload_n 3, 1) := by decide +kernel
theorem dX3_meetsOnWalk_44 : decode cX3_meetsOnWalk 44 = .ok (.iload 5, 2) := by decide +kernel
theorem dX3_meetsOnWalk_46 : decode cX3_meetsOnWalk 46 = .ok (.imul, 1) := by decide +kernel
theorem dX3_meetsOnWalk_47 : decode cX3_meetsOnWalk 47 = .ok (.istore 6, 2) := by decide +kernel
theorem dX3_meetsOnWalk_49 : decode cX3_meetsOnWalk 49 = .ok (.iload_n 3, 1) := by decide +kernel
theorem dX3_meetsOnWalk_50 : decode cX3_meetsOnWalk 50 = .ok (.iconst 2, 1) := by decide +kernel
theorem dX3_meetsOnWalk_51 : decode cX3_meetsOnWalk 51 = .ok (.irem, 1) := by decide +kernel
theorem dX3_meetsOnWalk_52 : decode cX3_meetsOnWalk 52 = .ok (.ifCond .ne 10, 3) := by decide +kernel
theorem dX3_meetsOnWalk_55 : decode cX3_meetsOnWalk 55 = .ok (.iload 5, 2) := by decide +kernel
theorem dX3_meetsOnWalk_57 : decode cX3_meetsOnWalk 57 = .ok (.iconst 2, 1) := by decide +kernel
theorem dX3_meetsOnWalk_58 : decode cX3_meetsOnWalk 58 = .ok (.idiv, 1) := by decide +kernel
theorem dX3_meetsOnWalk_59 : decode cX3_meetsOnWalk 59 = .ok (.goto 9, 3) := by decide +kernel
theorem dX3_meetsOnWalk_62 : decode cX3_meetsOnWalk 62 = .ok (.iload 5, 2) := by decide +kernel
theorem dX3_meetsOnWalk_64 : decode cX3_meetsOnWalk 64 = .ok (.iconst 1, 1) := by decide +kernel
theorem dX3_meetsOnWalk_65 : decode cX3_meetsOnWalk 65 = .ok (.isub, 1) := by decide +kernel
theorem dX3_meetsOnWalk_66 : decode cX3_meetsOnWalk 66 = .ok (.iconst 2, 1) := by decide +kernel
theorem dX3_meetsOnWalk_67 : decode cX3_meetsOnWalk 67 = .ok (.idiv, 1) := by decide +kernel
theorem dX3_meetsOnWalk_68 : decode cX3_meetsOnWalk 68 = .ok (.istore 7, 2) := by decide +kernel
theorem dX3_meetsOnWalk_70 : decode cX3_meetsOnWalk 70 = .ok (.iload 6, 2) := by decide +kernel
theorem dX3_meetsOnWalk_72 : decode cX3_meetsOnWalk 72 = .ok (.iload 7, 2) := by decide +kernel
theorem dX3_meetsOnWalk_74 : decode cX3_meetsOnWalk 74 = .ok (.isub, 1) := by decide +kernel
theorem dX3_meetsOnWalk_75 : decode cX3_meetsOnWalk 75 = .ok (.istore 8, 2) := by decide +kernel
theorem dX3_meetsOnWalk_77 : decode cX3_meetsOnWalk 77 = .ok (.iload 8, 2) := by decide +kernel
theorem dX3_meetsOnWalk_79 : decode cX3_meetsOnWalk 79 = .ok (.iload 6, 2) := by decide +kernel
theorem dX3_meetsOnWalk_81 : decode cX3_meetsOnWalk 81 = .ok (.iload 7, 2) := by decide +kernel
theorem dX3_meetsOnWalk_83 : decode cX3_meetsOnWalk 83 = .ok (.iadd, 1) := by decide +kernel
theorem dX3_meetsOnWalk_84 : decode cX3_meetsOnWalk 84 = .ok (.if_icmp .gt 23, 3) := by decide +kernel
theorem dX3_meetsOnWalk_87 : decode cX3_meetsOnWalk 87 = .ok (.aload_n 0, 1) := by decide +kernel
theorem dX3_meetsOnWalk_88 : decode cX3_meetsOnWalk 88 = .ok (.iload 5, 2) := by decide +kernel
theorem dX3_meetsOnWalk_90 : decode cX3_meetsOnWalk 90 = .ok (.iload 8, 2) := by decide +kernel
theorem dX3_meetsOnWalk_92 : decode cX3_meetsOnWalk 92 = .ok (.invokevirtual 67, 3) := by decide +kernel
theorem dX3_meetsOnWalk_95 : decode cX3_meetsOnWalk 95 = .ok (.iload_n 1, 1) := by decide +kernel
theorem dX3_meetsOnWalk_96 : decode cX3_meetsOnWalk 96 = .ok (.if_icmp .ne 5, 3) := by decide +kernel
theorem dX3_meetsOnWalk_99 : decode cX3_meetsOnWalk 99 = .ok (.iconst 1, 1) := by decide +kernel
theorem dX3_meetsOnWalk_100 : decode cX3_meetsOnWalk 100 = .ok (.ireturn, 1) := by decide +kernel
theorem dX3_meetsOnWalk_101 : decode cX3_meetsOnWalk 101 = .ok (.iinc 8 1, 3) := by decide +kernel
theorem dX3_meetsOnWalk_104 : decode cX3_meetsOnWalk 104 = .ok (.goto (-27), 3) := by decide +kernel
theorem dX3_meetsOnWalk_107 : decode cX3_meetsOnWalk 107 = .ok (.iinc 5 1, 3) := by decide +kernel
theorem dX3_meetsOnWalk_110 : decode cX3_meetsOnWalk 110 = .ok (.goto (-74), 3) := by decide +kernel
theorem dX3_meetsOnWalk_113 : decode cX3_meetsOnWalk 113 = .ok (.iconst 0, 1) := by decide +kernel
theorem dX3_meetsOnWalk_114 : decode cX3_meetsOnWalk 114 = .ok (.ireturn, 1) := by decide +kernel
theorem dX3_cellOnRing_0 : decode cX3_cellOnRing 0 = .ok (.aload_n 0, 1) := by decide +kernel
theorem dX3_cellOnRing_1 : decode cX3_cellOnRing 1 = .ok (.getfield 28, 3) := by decide +kernel
theorem dX3_cellOnRing_4 : decode cX3_cellOnRing 4 = .ok (.bipush 10, 2) := by decide +kernel
theorem dX3_cellOnRing_6 : decode cX3_cellOnRing 6 = .ok (.irem, 1) := by decide +kernel
theorem dX3_cellOnRing_7 : decode cX3_cellOnRing 7 = .ok (.iload_n 1, 1) := by decide +kernel
theorem dX3_cellOnRing_8 : decode cX3_cellOnRing 8 = .ok (.iload_n 2, 1) := by decide +kernel
theorem dX3_cellOnRing_9 : decode cX3_cellOnRing 9 = .ok (.invokestatic 70, 3) := by decide +kernel
theorem dX3_cellOnRing_12 : decode cX3_cellOnRing 12 = .ok (.iadd, 1) := by decide +kernel
theorem dX3_cellOnRing_13 : decode cX3_cellOnRing 13 = .ok (.istore_n 3, 1) := by decide +kernel
theorem dX3_cellOnRing_14 : decode cX3_cellOnRing 14 = .ok (.aload_n 0, 1) := by decide +kernel
theorem dX3_cellOnRing_15 : decode cX3_cellOnRing 15 = .ok (.getfield 28, 3) := by decide +kernel
theorem dX3_cellOnRing_18 : decode cX3_cellOnRing 18 = .ok (.bipush 10, 2) := by decide +kernel
theorem dX3_cellOnRing_20 : decode cX3_cellOnRing 20 = .ok (.idiv, 1) := by decide +kernel
theorem dX3_cellOnRing_21 : decode cX3_cellOnRing 21 = .ok (.iload_n 1, 1) := by decide +kernel
theorem dX3_cellOnRing_22 : decode cX3_cellOnRing 22 = .ok (.iload_n 2, 1) := by decide +kernel
theorem dX3_cellOnRing_23 : decode cX3_cellOnRing 23 = .ok (.iconst 2, 1) := by decide +kernel
theorem dX3_cellOnRing_24 : decode cX3_cellOnRing 24 = .ok (.iload_n 1, 1) := by decide +kernel
theorem dX3_cellOnRing_25 : decode cX3_cellOnRing 25 = .ok (.imul, 1) := by decide +kernel
theorem dX3_cellOnRing_26 : decode cX3_cellOnRing 26 = .ok (.isub, 1) := by decide +kernel
theorem dX3_cellOnRing_27 : decode cX3_cellOnRing 27 = .ok (.invokestatic 70, 3) := by decide +kernel
theorem dX3_cellOnRing_30 : decode cX3_cellOnRing 30 = .ok (.iadd, 1) := by decide +kernel
theorem dX3_cellOnRing_31 : decode cX3_cellOnRing 31 = .ok (.istore 4, 2) := by decide +kernel
theorem dX3_cellOnRing_33 : decode cX3_cellOnRing 33 = .ok (.iload_n 3, 1) := by decide +kernel
theorem dX3_cellOnRing_34 : decode cX3_cellOnRing 34 = .ok (.ifCond .lt 21, 3) := by decide +kernel
theorem dX3_cellOnRing_37 : decode cX3_cellOnRing 37 = .ok (.iload_n 3, 1) := by decide +kernel
theorem dX3_cellOnRing_38 : decode cX3_cellOnRing 38 = .ok (.bipush 10, 2) := by decide +kernel
theorem dX3_cellOnRing_40 : decode cX3_cellOnRing 40 = .ok (.if_icmp .ge 15, 3) := by decide +kernel
theorem dX3_cellOnRing_43 : decode cX3_cellOnRing 43 = .ok (.iload 4, 2) := by decide +kernel
theorem dX3_cellOnRing_45 : decode cX3_cellOnRing 45 = .ok (.ifCond .lt 10, 3) := by decide +kernel
theorem dX3_cellOnRing_48 : decode cX3_cellOnRing 48 = .ok (.iload 4, 2) := by decide +kernel
theorem dX3_cellOnRing_50 : decode cX3_cellOnRing 50 = .ok (.bipush 10, 2) := by decide +kernel
theorem dX3_cellOnRing_52 : decode cX3_cellOnRing 52 = .ok (.if_icmp .lt 6, 3) := by decide +kernel
theorem dX3_cellOnRing_55 : decode cX3_cellOnRing 55 = .ok (.bipush (-5), 2) := by decide +kernel
theorem dX3_cellOnRing_57 : decode cX3_cellOnRing 57 = .ok (.ireturn, 1) := by decide +kernel
theorem dX3_cellOnRing_58 : decode cX3_cellOnRing 58 = .ok (.bipush 10, 2) := by decide +kernel
theorem dX3_cellOnRing_60 : decode cX3_cellOnRing 60 = .ok (.iload 4, 2) := by decide +kernel
theorem dX3_cellOnRing_62 : decode cX3_cellOnRing 62 = .ok (.imul, 1) := by decide +kernel
theorem dX3_cellOnRing_63 : decode cX3_cellOnRing 63 = .ok (.iload_n 3, 1) := by decide +kernel
theorem dX3_cellOnRing_64 : decode cX3_cellOnRing 64 = .ok (.iadd, 1) := by decide +kernel
theorem dX3_cellOnRing_65 : decode cX3_cellOnRing 65 = .ok (.ireturn, 1) := by decide +kernel
theorem dX3_eastOnRing_0 : decode cX3_eastOnRing 0 = .ok (.iload_n 1, 1) := by decide +kernel
theorem dX3_eastOnRing_1 : decode cX3_eastOnRing 1 = .ok (.bipush 8, 2) := by decide +kernel
theorem dX3_eastOnRing_3 : decode cX3_eastOnRing 3 = .ok (.iload_n 0, 1) := by decide +kernel
theorem dX3_eastOnRing_4 : decode cX3_eastOnRing 4 = .ok (.imul, 1) := by decide +kernel
theorem dX3_eastOnRing_5 : decode cX3_eastOnRing 5 = .ok (.invokestatic 73, 3) := by decide +kernel
theorem dX3_eastOnRing_8 : decode cX3_eastOnRing 8 = .ok (.iconst 4, 1) := by decide +kernel
theorem dX3_eastOnRing_9 : decode cX3_eastOnRing 9 = .ok (.iload_n 0, 1) := by decide +kernel
theorem dX3_eastOnRing_10 : decode cX3_eastOnRing 10 = .ok (.imul, 1) := by decide +kernel
theorem dX3_eastOnRing_11 : decode cX3_eastOnRing 11 = .ok (.isub, 1) := by decide +kernel
theorem dX3_eastOnRing_12 : decode cX3_eastOnRing 12 = .ok (.invokestatic 76, 3) := by decide +kernel
theorem dX3_eastOnRing_15 : decode cX3_eastOnRing 15 = .ok (.istore_n 2, 1) := by decide +kernel
theorem dX3_eastOnRing_16 : decode cX3_eastOnRing 16 = .ok (.iload_n 0, 1) := by decide +kernel
theorem dX3_eastOnRing_17 : decode cX3_eastOnRing 17 = .ok (.ineg, 1) := by decide +kernel
theorem dX3_eastOnRing_18 : decode cX3_eastOnRing 18 = .ok (.iload_n 0, 1) := by decide +kernel
theorem dX3_eastOnRing_19 : decode cX3_eastOnRing 19 = .ok (.iload_n 2, 1) := by decide +kernel
theorem dX3_eastOnRing_20 : decode cX3_eastOnRing 20 = .ok (.iconst 2, 1) := by decide +kernel
theorem dX3_eastOnRing_21 : decode cX3_eastOnRing 21 = .ok (.iload_n 0, 1) := by decide +kernel
theorem dX3_eastOnRing_22 : decode cX3_eastOnRing 22 = .ok (.imul, 1) := by decide +kernel
theorem dX3_eastOnRing_23 : decode cX3_eastOnRing 23 = .ok (.isub, 1) := by decide +kernel
theorem dX3_eastOnRing_24 : decode cX3_eastOnRing 24 = .ok (.invokestatic 54, 3) := by decide +kernel
theorem dX3_eastOnRing_27 : decode cX3_eastOnRing 27 = .ok (.invokestatic 79, 3) := by decide +kernel
theorem dX3_eastOnRing_30 : decode cX3_eastOnRing 30 = .ok (.ireturn, 1) := by decide +kernel
theorem dX3_litCells_0 : decode cX3_litCells 0 = .ok (.iconst 0, 1) := by decide +kernel
theorem dX3_litCells_1 : decode cX3_litCells 1 = .ok (.istore_n 2, 1) := by decide +kernel
theorem dX3_litCells_2 : decode cX3_litCells 2 = .ok (.iconst 0, 1) := by decide +kernel
theorem dX3_litCells_3 : decode cX3_litCells 3 = .ok (.istore_n 3, 1) := by decide +kernel
theorem dX3_litCells_4 : decode cX3_litCells 4 = .ok (.iload_n 3, 1) := by decide +kernel
theorem dX3_litCells_5 : decode cX3_litCells 5 = .ok (.bipush 100, 2) := by decide +kernel
theorem dX3_litCells_7 : decode cX3_litCells 7 = .ok (.if_icmp .ge 22, 3) := by decide +kernel
theorem dX3_litCells_10 : decode cX3_litCells 10 = .ok (.aload_n 0, 1) := by decide +kernel
theorem dX3_litCells_11 : decode cX3_litCells 11 = .ok (.iload_n 3, 1) := by decide +kernel
theorem dX3_litCells_12 : decode cX3_litCells 12 = .ok (.iload_n 1, 1) := by decide +kernel
theorem dX3_litCells_13 : decode cX3_litCells 13 = .ok (.iconst 0, 1) := by decide +kernel
theorem dX3_litCells_14 : decode cX3_litCells 14 = .ok (.invokevirtual 82, 3) := by decide +kernel
theorem dX3_litCells_17 : decode cX3_litCells 17 = .ok (.ifCond .eq 6, 3) := by decide +kernel
theorem dX3_litCells_20 : decode cX3_litCells 20 = .ok (.iinc 2 1, 3) := by decide +kernel
theorem dX3_litCells_23 : decode cX3_litCells 23 = .ok (.iinc 3 1, 3) := by decide +kernel
theorem dX3_litCells_26 : decode cX3_litCells 26 = .ok (.goto (-22), 3) := by decide +kernel
theorem dX3_litCells_29 : decode cX3_litCells 29 = .ok (.iload_n 2, 1) := by decide +kernel
theorem dX3_litCells_30 : decode cX3_litCells 30 = .ok (.ireturn, 1) := by decide +kernel
theorem dX3_whyDark_0 : decode cX3_whyDark 0 = .ok (.iload_n 1, 1) := by decide +kernel
theorem dX3_whyDark_1 : decode cX3_whyDark 1 = .ok (.aload_n 0, 1) := by decide +kernel
theorem dX3_whyDark_2 : decode cX3_whyDark 2 = .ok (.getfield 28, 3) := by decide +kernel
theorem dX3_whyDark_5 : decode cX3_whyDark 5 = .ok (.if_icmp .ne 5, 3) := by decide +kernel
theorem dX3_whyDark_8 : decode cX3_whyDark 8 = .ok (.iconst 0, 1) := by decide +kernel
theorem dX3_whyDark_9 : decode cX3_whyDark 9 = .ok (.ireturn, 1) := by decide +kernel
theorem dX3_whyDark_10 : decode cX3_whyDark 10 = .ok (.aload_n 0, 1) := by decide +kernel
theorem dX3_whyDark_11 : decode cX3_whyDark 11 = .ok (.getfield 37, 3) := by decide +kernel
theorem dX3_whyDark_14 : decode cX3_whyDark 14 = .ok (.iload_n 1, 1) := by decide +kernel
theorem dX3_whyDark_15 : decode cX3_whyDark 15 = .ok (.iaload, 1) := by decide +kernel
theorem dX3_whyDark_16 : decode cX3_whyDark 16 = .ok (.istore_n 3, 1) := by decide +kernel
theorem dX3_whyDark_17 : decode cX3_whyDark 17 = .ok (.aload_n 0, 1) := by decide +kernel
theorem dX3_whyDark_18 : decode cX3_whyDark 18 = .ok (.getfield 42, 3) := by decide +kernel
theorem dX3_whyDark_21 : decode cX3_whyDark 21 = .ok (.iload_n 1, 1) := by decide +kernel
theorem dX3_whyDark_22 : decode cX3_whyDark 22 = .ok (.iaload, 1) := by decide +kernel
theorem dX3_whyDark_23 : decode cX3_whyDark 23 = .ok (.istore 4, 2) := by decide +kernel
theorem dX3_whyDark_25 : decode cX3_whyDark 25 = .ok (.aload_n 0, 1) := by decide +kernel
theorem dX3_whyDark_26 : decode cX3_whyDark 26 = .ok (.iload_n 3, 1) := by decide +kernel
theorem dX3_whyDark_27 : decode cX3_whyDark 27 = .ok (.invokevirtual 63, 3) := by decide +kernel
theorem dX3_whyDark_30 : decode cX3_whyDark 30 = .ok (.ifCond .eq 5, 3) := by decide +kernel
theorem dX3_whyDark_33 : decode cX3_whyDark 33 = .ok (.iconst 1, 1) := by decide +kernel
theorem dX3_whyDark_34 : decode cX3_whyDark 34 = .ok (.ireturn, 1) := by decide +kernel
theorem dX3_whyDark_35 : decode cX3_whyDark 35 = .ok (.iload 4, 2) := by decide +kernel
theorem dX3_whyDark_37 : decode cX3_whyDark 37 = .ok (.aload_n 0, 1) := by decide +kernel
theorem dX3_whyDark_38 : decode cX3_whyDark 38 = .ok (.getfield 15, 3) := by decide +kernel
theorem dX3_whyDark_41 : decode cX3_whyDark 41 = .ok (.if_icmp .le 5, 3) := by decide +kernel
theorem dX3_whyDark_44 : decode cX3_whyDark 44 = .ok (.iconst 2, 1) := by decide +kernel
theorem dX3_whyDark_45 : decode cX3_whyDark 45 = .ok (.ireturn, 1) := by decide +kernel
theorem dX3_whyDark_46 : decode cX3_whyDark 46 = .ok (.iload 4, 2) := by decide +kernel
theorem dX3_whyDark_48 : decode cX3_whyDark 48 = .ok (.aload_n 0, 1) := by decide +kernel
theorem dX3_whyDark_49 : decode cX3_whyDark 49 = .ok (.iconst 0, 1) := by decide +kernel
theorem dX3_whyDark_50 : decode cX3_whyDark 50 = .ok (.invokevirtual 60, 3) := by decide +kernel
theorem dX3_whyDark_53 : decode cX3_whyDark 53 = .ok (.if_icmp .le 5, 3) := by decide +kernel
theorem dX3_whyDark_56 : decode cX3_whyDark 56 = .ok (.iconst 3, 1) := by decide +kernel
theorem dX3_whyDark_57 : decode cX3_whyDark 57 = .ok (.ireturn, 1) := by decide +kernel
theorem dX3_whyDark_58 : decode cX3_whyDark 58 = .ok (.iload_n 3, 1) := by decide +kernel
theorem dX3_whyDark_59 : decode cX3_whyDark 59 = .ok (.aload_n 0, 1) := by decide +kernel
theorem dX3_whyDark_60 : decode cX3_whyDark 60 = .ok (.iload_n 2, 1) := by decide +kernel
theorem dX3_whyDark_61 : decode cX3_whyDark 61 = .ok (.invokevirtual 47, 3) := by decide +kernel
theorem dX3_whyDark_64 : decode cX3_whyDark 64 = .ok (.if_icmp .ne 7, 3) := by decide +kernel
theorem dX3_whyDark_67 : decode cX3_whyDark 67 = .ok (.iconst 0, 1) := by decide +kernel
theorem dX3_whyDark_68 : decode cX3_whyDark 68 = .ok (.goto 4, 3) := by decide +kernel
theorem dX3_whyDark_71 : decode cX3_whyDark 71 = .ok (.iconst 4, 1) := by decide +kernel
theorem dX3_whyDark_72 : decode cX3_whyDark 72 = .ok (.ireturn, 1) := by decide +kernel
theorem dX4_init_0 : decode cX4_init 0 = .ok (.aload_n 0, 1) := by decide +kernel
theorem dX4_init_1 : decode cX4_init 1 = .ok (.invokespecial 1, 3) := by decide +kernel
theorem dX4_init_4 : decode cX4_init 4 = .ok (.aload_n 0, 1) := by decide +kernel
theorem dX4_init_5 : decode cX4_init 5 = .ok (.bipush 32, 2) := by decide +kernel
theorem dX4_init_7 : decode cX4_init 7 = .ok (.putfield 7, 3) := by decide +kernel
theorem dX4_init_10 : decode cX4_init 10 = .ok (.aload_n 0, 1) := by decide +kernel
theorem dX4_init_11 : decode cX4_init 11 = .ok (.iconst 0, 1) := by decide +kernel
theorem dX4_init_12 : decode cX4_init 12 = .ok (.putfield 13, 3) := by decide +kernel
theorem dX4_init_15 : decode cX4_init 15 = .ok (.aload_n 0, 1) := by decide +kernel
theorem dX4_init_16 : decode cX4_init 16 = .ok (.iconst 0, 1) := by decide +kernel
theorem dX4_init_17 : decode cX4_init 17 = .ok (.putfield 17, 3) := by decide +kernel
theorem dX4_init_20 : decode cX4_init 20 = .ok (.aload_n 0, 1) := by decide +kernel
theorem dX4_init_21 : decode cX4_init 21 = .ok (.iconst 0, 1) := by decide +kernel
theorem dX4_init_22 : decode cX4_init 22 = .ok (.putfield 20, 3) := by decide +kernel
theorem dX4_init_25 : decode cX4_init 25 = .ok (.aload_n 0, 1) := by decide +kernel
theorem dX4_init_26 : decode cX4_init 26 = .ok (.iconst 0, 1) := by decide +kernel
theorem dX4_init_27 : decode cX4_init 27 = .ok (.putfield 23, 3) := by decide +kernel
theorem dX4_init_30 : decode cX4_init 30 = .ok (.return_, 1) := by decide +kernel
theorem dL_law_0 : decode cL_law 0 = .ok (.new 7, 3) := by decide +kernel
theorem dL_law_3 : decode cL_law 3 = .ok (.dup, 1) := by decide +kernel
theorem dL_law_4 : decode cL_law 4 = .ok (.invokespecial 9, 3) := by decide +kernel
theorem dL_law_7 : decode cL_law 7 = .ok (.astore_n 1, 1) := by decide +kernel
theorem dL_law_8 : decode cL_law 8 = .ok (.new 10, 3) := by decide +kernel
theorem dL_law_11 : decode cL_law 11 = .ok (.dup, 1) := by decide +kernel
theorem dL_law_12 : decode cL_law 12 = .ok (.invokespecial 12, 3) := by decide +kernel
theorem dL_law_15 : decode cL_law 15 = .ok (.astore_n 2, 1) := by decide +kernel
theorem dL_law_16 : decode cL_law 16 = .ok (.iconst 0, 1) := by decide +kernel
theorem dL_law_17 : decode cL_law 17 = .ok (.istore_n 3, 1) := by decide +kernel
theorem dL_law_18 : decode cL_law 18 = .ok (.iload_n 3, 1) := by decide +kernel
theorem dL_law_19 : decode cL_law 19 = .ok (.aload_n 0, 1) := by decide +kernel
theorem dL_law_20 : decode cL_law 20 = .ok (.arraylength, 1) := by decide +kernel
theorem dL_law_21 : decode cL_law 21 = .ok (.iconst 5, 1) := by decide +kernel
theorem dL_law_22 : decode cL_law 22 = .ok (.isub, 1) := by decide +kernel
theorem dL_law_23 : decode cL_law 23 = .ok (.if_icmp .gt 781, 3) := by decide +kernel
theorem dL_law_26 : decode cL_law 26 = .ok (.aload_n 0, 1) := by decide +kernel
theorem dL_law_27 : decode cL_law 27 = .ok (.iload_n 3, 1) := by decide +kernel
theorem dL_law_28 : decode cL_law 28 = .ok (.iaload, 1) := by decide +kernel
theorem dL_law_29 : decode cL_law 29 = .ok (.bipush 31, 2) := by decide +kernel
theorem dL_law_31 : decode cL_law 31 = .ok (.iand, 1) := by decide +kernel
theorem dL_law_32 : decode cL_law 32 = .ok (.tableswitch 766 0 23 #[112, 135, 178, 221, 234, 267, 290, 313, 338, 351, 364, 377, 390, 403, 436, 469, 502, 535, 588, 621, 644, 697, 720, 743], 112) := by decide +kernel
theorem dL_law_144 : decode cL_law 144 = .ok (.aload_n 1, 1) := by decide +kernel
theorem dL_law_145 : decode cL_law 145 = .ok (.aload_n 0, 1) := by decide +kernel
theorem dL_law_146 : decode cL_law 146 = .ok (.iload_n 3, 1) := by decide +kernel
theorem dL_law_147 : decode cL_law 147 = .ok (.iconst 1, 1) := by decide +kernel
theorem dL_law_148 : decode cL_law 148 = .ok (.iadd, 1) := by decide +kernel
theorem dL_law_149 : decode cL_law 149 = .ok (.iaload, 1) := by decide +kernel
theorem dL_law_150 : decode cL_law 150 = .ok (.invokevirtual 13, 3) := by decide +kernel
theorem dL_law_153 : decode cL_law 153 = .ok (.aload_n 2, 1) := by decide +kernel
theorem dL_law_154 : decode cL_law 154 = .ok (.aload_n 0, 1) := by decide +kernel
theorem dL_law_155 : decode cL_law 155 = .ok (.iload_n 3, 1) := by decide +kernel
theorem dL_law_156 : decode cL_law 156 = .ok (.iconst 1, 1) := by decide +kernel
theorem dL_law_157 : decode cL_law 157 = .ok (.iadd, 1) := by decide +kernel
theorem dL_law_158 : decode cL_law 158 = .ok (.iaload, 1) := by decide +kernel
theorem dL_law_159 : decode cL_law 159 = .ok (.invokevirtual 17, 3) := by decide +kernel
theorem dL_law_162 : decode cL_law 162 = .ok (.if_icmp .eq 636, 3) := by decide +kernel
theorem dL_law_165 : decode cL_law 165 = .ok (.iconst 0, 1) := by decide +kernel
theorem dL_law_166 : decode cL_law 166 = .ok (.ireturn, 1) := by decide +kernel
theorem dL_law_167 : decode cL_law 167 = .ok (.aload_n 1, 1) := by decide +kernel
theorem dL_law_168 : decode cL_law 168 = .ok (.aload_n 0, 1) := by decide +kernel
theorem dL_law_169 : decode cL_law 169 = .ok (.iload_n 3, 1) := by decide +kernel
theorem dL_law_170 : decode cL_law 170 = .ok (.iconst 1, 1) := by decide +kernel
theorem dL_law_171 : decode cL_law 171 = .ok (.iadd, 1) := by decide +kernel
theorem dL_law_172 : decode cL_law 172 = .ok (.iaload, 1) := by decide +kernel
theorem dL_law_173 : decode cL_law 173 = .ok (.aload_n 0, 1) := by decide +kernel
theorem dL_law_174 : decode cL_law 174 = .ok (.iload_n 3, 1) := by decide +kernel
theorem dL_law_175 : decode cL_law 175 = .ok (.iconst 2, 1) := by decide +kernel
theorem dL_law_176 : decode cL_law 176 = .ok (.iadd, 1) := by decide +kernel
theorem dL_law_177 : decode cL_law 177 = .ok (.iaload, 1) := by decide +kernel
theorem dL_law_178 : decode cL_law 178 = .ok (.aload_n 0, 1) := by decide +kernel
theorem dL_law_179 : decode cL_law 179 = .ok (.iload_n 3, 1) := by decide +kernel
theorem dL_law_180 : decode cL_law 180 = .ok (.iconst 3, 1) := by decide +kernel
theorem dL_law_181 : decode cL_law 181 = .ok (.iadd, 1) := by decide +kernel
theorem dL_law_182 : decode cL_law 182 = .ok (.iaload, 1) := by decide +kernel
theorem dL_law_183 : decode cL_law 183 = .ok (.invokevirtual 18, 3) := by decide +kernel
theorem dL_law_186 : decode cL_law 186 = .ok (.aload_n 2, 1) := by decide +kernel
theorem dL_law_187 : decode cL_law 187 = .ok (.aload_n 0, 1) := by decide +kernel
theorem dL_law_188 : decode cL_law 188 = .ok (.iload_n 3, 1) := by decide +kernel
theorem dL_law_189 : decode cL_law 189 = .ok (.iconst 1, 1) := by decide +kernel
theorem dL_law_190 : decode cL_law 190 = .ok (.iadd, 1) := by decide +kernel
theorem dL_law_191 : decode cL_law 191 = .ok (.iaload, 1) := by decide +kernel
theorem dL_law_192 : decode cL_law 192 = .ok (.aload_n 0, 1) := by decide +kernel
theorem dL_law_193 : decode cL_law 193 = .ok (.iload_n 3, 1) := by decide +kernel
theorem dL_law_194 : decode cL_law 194 = .ok (.iconst 2, 1) := by decide +kernel
theorem dL_law_195 : decode cL_law 195 = .ok (.iadd, 1) := by decide +kernel
theorem dL_law_196 : decode cL_law 196 = .ok (.iaload, 1) := by decide +kernel
theorem dL_law_197 : decode cL_law 197 = .ok (.aload_n 0, 1) := by decide +kernel
theorem dL_law_198 : decode cL_law 198 = .ok (.iload_n 3, 1) := by decide +kernel
theorem dL_law_199 : decode cL_law 199 = .ok (.iconst 3, 1) := by decide +kernel
theorem dL_law_200 : decode cL_law 200 = .ok (.iadd, 1) := by decide +kernel
theorem dL_law_201 : decode cL_law 201 = .ok (.iaload, 1) := by decide +kernel
theorem dL_law_202 : decode cL_law 202 = .ok (.invokevirtual 22, 3) := by decide +kernel
theorem dL_law_205 : decode cL_law 205 = .ok (.if_icmp .eq 593, 3) := by decide +kernel
theorem dL_law_208 : decode cL_law 208 = .ok (.iconst 0, 1) := by decide +kernel
theorem dL_law_209 : decode cL_law 209 = .ok (.ireturn, 1) := by decide +kernel
theorem dL_law_210 : decode cL_law 210 = .ok (.aload_n 1, 1) := by decide +kernel
theorem dL_law_211 : decode cL_law 211 = .ok (.aload_n 0, 1) := by decide +kernel
theorem dL_law_212 : decode cL_law 212 = .ok (.iload_n 3, 1) := by decide +kernel
theorem dL_law_213 : decode cL_law 213 = .ok (.iconst 1, 1) := by decide +kernel
theorem dL_law_214 : decode cL_law 214 = .ok (.iadd, 1) := by decide +kernel
theorem dL_law_215 : decode cL_law 215 = .ok (.iaload, 1) := by decide +kernel
theorem dL_law_216 : decode cL_law 216 = .ok (.aload_n 0, 1) := by decide +kernel
theorem dL_law_217 : decode cL_law 217 = .ok (.iload_n 3, 1) := by decide +kernel
theorem dL_law_218 : decode cL_law 218 = .ok (.iconst 2, 1) := by decide +kernel
theorem dL_law_219 : decode cL_law 219 = .ok (.iadd, 1) := by decide +kernel
theorem dL_law_220 : decode cL_law 220 = .ok (.iaload, 1) := by decide +kernel
theorem dL_law_221 : decode cL_law 221 = .ok (.aload_n 0, 1) := by decide +kernel
theorem dL_law_222 : decode cL_law 222 = .ok (.iload_n 3, 1) := by decide +kernel
theorem dL_law_223 : decode cL_law 223 = .ok (.iconst 3, 1) := by decide +kernel
theorem dL_law_224 : decode cL_law 224 = .ok (.iadd, 1) := by decide +kernel
theorem dL_law_225 : decode cL_law 225 = .ok (.iaload, 1) := by decide +kernel
theorem dL_law_226 : decode cL_law 226 = .ok (.invokevirtual 23, 3) := by decide +kernel
theorem dL_law_229 : decode cL_law 229 = .ok (.aload_n 2, 1) := by decide +kernel
theorem dL_law_230 : decode cL_law 230 = .ok (.aload_n 0, 1) := by decide +kernel
theorem dL_law_231 : decode cL_law 231 = .ok (.iload_n 3, 1) := by decide +kernel
theorem dL_law_232 : decode cL_law 232 = .ok (.iconst 1, 1) := by decide +kernel
theorem dL_law_233 : decode cL_law 233 = .ok (.iadd, 1) := by decide +kernel
theorem dL_law_234 : decode cL_law 234 = .ok (.iaload, 1) := by decide +kernel
theorem dL_law_235 : decode cL_law 235 = .ok (.aload_n 0, 1) := by decide +kernel
theorem dL_law_236 : decode cL_law 236 = .ok (.iload_n 3, 1) := by decide +kernel
theorem dL_law_237 : decode cL_law 237 = .ok (.iconst 2, 1) := by decide +kernel
theorem dL_law_238 : decode cL_law 238 = .ok (.iadd, 1) := by decide +kernel
theorem dL_law_239 : decode cL_law 239 = .ok (.iaload, 1) := by decide +kernel
theorem dL_law_240 : decode cL_law 240 = .ok (.aload_n 0, 1) := by decide +kernel
theorem dL_law_241 : decode cL_law 241 = .ok (.iload_n 3, 1) := by decide +kernel
theorem dL_law_242 : decode cL_law 242 = .ok (.iconst 3, 1) := by decide +kernel
theorem dL_law_243 : decode cL_law 243 = .ok (.iadd, 1) := by decide +kernel
theorem dL_law_244 : decode cL_law 244 = .ok (.iaload, 1) := by decide +kernel
theorem dL_law_245 : decode cL_law 245 = .ok (.invokevirtual 26, 3) := by decide +kernel
theorem dL_law_248 : decode cL_law 248 = .ok (.if_icmp .eq 550, 3) := by decide +kernel
theorem dL_law_251 : decode cL_law 251 = .ok (.iconst 0, 1) := by decide +kernel
theorem dL_law_252 : decode cL_law 252 = .ok (.ireturn, 1) := by decide +kernel
theorem dL_law_253 : decode cL_law 253 = .ok (.aload_n 1, 1) := by decide +kernel
theorem dL_law_254 : decode cL_law 254 = .ok (.invokevirtual 27, 3) := by decide +kernel
theorem dL_law_257 : decode cL_law 257 = .ok (.aload_n 2, 1) := by decide +kernel
theorem dL_law_258 : decode cL_law 258 = .ok (.invokevirtual 31, 3) := by decide +kernel
theorem dL_law_261 : decode cL_law 261 = .ok (.if_icmp .eq 537, 3) := by decide +kernel
theorem dL_law_264 : decode cL_law 264 = .ok (.iconst 0, 1) := by decide +kernel
theorem dL_law_265 : decode cL_law 265 = .ok (.ireturn, 1) := by decide +kernel
theorem dL_law_266 : decode cL_law 266 = .ok (.aload_n 1, 1) := by decide +kernel
theorem dL_law_267 : decode cL_law 267 = .ok (.aload_n 0, 1) := by decide +kernel
theorem dL_law_268 : decode cL_law 268 = .ok (.iload_n 3, 1) := by decide +kernel
theorem dL_law_269 : decode cL_law 269 = .ok (.iconst 1, 1) := by decide +kernel
theorem dL_law_270 : decode cL_law 270 = .ok (.iadd, 1) := by decide +kernel
theorem dL_law_271 : decode cL_law 271 = .ok (.iaload, 1) := by decide +kernel
theorem dL_law_272 : decode cL_law 272 = .ok (.aload_n 0, 1) := by decide +kernel
theorem dL_law_273 : decode cL_law 273 = .ok (.iload_n 3, 1) := by decide +kernel
theorem dL_law_274 : decode cL_law 274 = .ok (.iconst 2, 1) := by decide +kernel
theorem dL_law_275 : decode cL_law 275 = .ok (.iadd, 1) := by decide +kernel
theorem dL_law_276 : decode cL_law 276 = .ok (.iaload, 1) := by decide +kernel
theorem dL_law_277 : decode cL_law 277 = .ok (.invokevirtual 32, 3) := by decide +kernel
theorem dL_law_280 : decode cL_law 280 = .ok (.aload_n 2, 1) := by decide +kernel
theorem dL_law_281 : decode cL_law 281 = .ok (.aload_n 0, 1) := by decide +kernel
theorem dL_law_282 : decode cL_law 282 = .ok (.iload_n 3, 1) := by decide +kernel
theorem dL_law_283 : decode cL_law 283 = .ok (.iconst 1, 1) := by decide +kernel
theorem dL_law_284 : decode cL_law 284 = .ok (.iadd, 1) := by decide +kernel
theorem dL_law_285 : decode cL_law 285 = .ok (.iaload, 1) := by decide +kernel
theorem dL_law_286 : decode cL_law 286 = .ok (.aload_n 0, 1) := by decide +kernel
theorem dL_law_287 : decode cL_law 287 = .ok (.iload_n 3, 1) := by decide +kernel
theorem dL_law_288 : decode cL_law 288 = .ok (.iconst 2, 1) := by decide +kernel
theorem dL_law_289 : decode cL_law 289 = .ok (.iadd, 1) := by decide +kernel
theorem dL_law_290 : decode cL_law 290 = .ok (.iaload, 1) := by decide +kernel
theorem dL_law_291 : decode cL_law 291 = .ok (.invokevirtual 36, 3) := by decide +kernel
theorem dL_law_294 : decode cL_law 294 = .ok (.if_icmp .eq 504, 3) := by decide +kernel
theorem dL_law_297 : decode cL_law 297 = .ok (.iconst 0, 1) := by decide +kernel
theorem dL_law_298 : decode cL_law 298 = .ok (.ireturn, 1) := by decide +kernel
theorem dL_law_299 : decode cL_law 299 = .ok (.aload_n 1, 1) := by decide +kernel
theorem dL_law_300 : decode cL_law 300 = .ok (.aload_n 0, 1) := by decide +kernel
theorem dL_law_301 : decode cL_law 301 = .ok (.iload_n 3, 1) := by decide +kernel
theorem dL_law_302 : decode cL_law 302 = .ok (.iconst 1, 1) := by decide +kernel
theorem dL_law_303 : decode cL_law 303 = .ok (.iadd, 1) := by decide +kernel
theorem dL_law_304 : decode cL_law 304 = .ok (.iaload, 1) := by decide +kernel
theorem dL_law_305 : decode cL_law 305 = .ok (.invokevirtual 37, 3) := by decide +kernel
theorem dL_law_308 : decode cL_law 308 = .ok (.aload_n 2, 1) := by decide +kernel
theorem dL_law_309 : decode cL_law 309 = .ok (.aload_n 0, 1) := by decide +kernel
theorem dL_law_310 : decode cL_law 310 = .ok (.iload_n 3, 1) := by decide +kernel
theorem dL_law_311 : decode cL_law 311 = .ok (.iconst 1, 1) := by decide +kernel
theorem dL_law_312 : decode cL_law 312 = .ok (.iadd, 1) := by decide +kernel
theorem dL_law_313 : decode cL_law 313 = .ok (.iaload, 1) := by decide +kernel
theorem dL_law_314 : decode cL_law 314 = .ok (.invokevirtual 40, 3) := by decide +kernel
theorem dL_law_317 : decode cL_law 317 = .ok (.if_icmp .eq 481, 3) := by decide +kernel
theorem dL_law_320 : decode cL_law 320 = .ok (.iconst 0, 1) := by decide +kernel
theorem dL_law_321 : decode cL_law 321 = .ok (.ireturn, 1) := by decide +kernel
theorem dL_law_322 : decode cL_law 322 = .ok (.aload_n 1, 1) := by decide +kernel
theorem dL_law_323 : decode cL_law 323 = .ok (.aload_n 0, 1) := by decide +kernel
theorem dL_law_324 : decode cL_law 324 = .ok (.iload_n 3, 1) := by decide +kernel
theorem dL_law_325 : decode cL_law 325 = .ok (.iconst 1, 1) := by decide +kernel
theorem dL_law_326 : decode cL_law 326 = .ok (.iadd, 1) := by decide +kernel
theorem dL_law_327 : decode cL_law 327 = .ok (.iaload, 1) := by decide +kernel
theorem dL_law_328 : decode cL_law 328 = .ok (.invokevirtual 41, 3) := by decide +kernel
theorem dL_law_331 : decode cL_law 331 = .ok (.aload_n 2, 1) := by decide +kernel
theorem dL_law_332 : decode cL_law 332 = .ok (.aload_n 0, 1) := by decide +kernel
theorem dL_law_333 : decode cL_law 333 = .ok (.iload_n 3, 1) := by decide +kernel
theorem dL_law_334 : decode cL_law 334 = .ok (.iconst 1, 1) := by decide +kernel
theorem dL_law_335 : decode cL_law 335 = .ok (.iadd, 1) := by decide +kernel
theorem dL_law_336 : decode cL_law 336 = .ok (.iaload, 1) := by decide +kernel
theorem dL_law_337 : decode cL_law 337 = .ok (.invokevirtual 44, 3) := by decide +kernel
theorem dL_law_340 : decode cL_law 340 = .ok (.if_icmp .eq 458, 3) := by decide +kernel
theorem dL_law_343 : decode cL_law 343 = .ok (.iconst 0, 1) := by decide +kernel
theorem dL_law_344 : decode cL_law 344 = .ok (.ireturn, 1) := by decide +kernel
theorem dL_law_345 : decode cL_law 345 = .ok (.aload_n 1, 1) := by decide +kernel
theorem dL_law_346 : decode cL_law 346 = .ok (.aload_n 0, 1) := by decide +kernel
theorem dL_law_347 : decode cL_law 347 = .ok (.iload_n 3, 1) := by decide +kernel
theorem dL_law_348 : decode cL_law 348 = .ok (.iconst 1, 1) := by decide +kernel
theorem dL_law_349 : decode cL_law 349 = .ok (.iadd, 1) := by decide +kernel
theorem dL_law_350 : decode cL_law 350 = .ok (.iaload, 1) := by decide +kernel
theorem dL_law_351 : decode cL_law 351 = .ok (.i2c, 1) := by decide +kernel
theorem dL_law_352 : decode cL_law 352 = .ok (.invokevirtual 45, 3) := by decide +kernel
theorem dL_law_355 : decode cL_law 355 = .ok (.aload_n 2, 1) := by decide +kernel
theorem dL_law_356 : decode cL_law 356 = .ok (.aload_n 0, 1) := by decide +kernel
theorem dL_law_357 : decode cL_law 357 = .ok (.iload_n 3, 1) := by decide +kernel
theorem dL_law_358 : decode cL_law 358 = .ok (.iconst 1, 1) := by decide +kernel
theorem dL_law_359 : decode cL_law 359 = .ok (.iadd, 1) := by decide +kernel
theorem dL_law_360 : decode cL_law 360 = .ok (.iaload, 1) := by decide +kernel
theorem dL_law_361 : decode cL_law 361 = .ok (.i2c, 1) := by decide +kernel
theorem dL_law_362 : decode cL_law 362 = .ok (.invokevirtual 49, 3) := by decide +kernel
theorem dL_law_365 : decode cL_law 365 = .ok (.if_icmp .eq 433, 3) := by decide +kernel
theorem dL_law_368 : decode cL_law 368 = .ok (.iconst 0, 1) := by decide +kernel
theorem dL_law_369 : decode cL_law 369 = .ok (.ireturn, 1) := by decide +kernel
theorem dL_law_370 : decode cL_law 370 = .ok (.aload_n 1, 1) := by decide +kernel
theorem dL_law_371 : decode cL_law 371 = .ok (.invokevirtual 50, 3) := by decide +kernel
theorem dL_law_374 : decode cL_law 374 = .ok (.aload_n 2, 1) := by decide +kernel
theorem dL_law_375 : decode cL_law 375 = .ok (.invokevirtual 53, 3) := by decide +kernel
theorem dL_law_378 : decode cL_law 378 = .ok (.if_icmp .eq 420, 3) := by decide +kernel
theorem dL_law_381 : decode cL_law 381 = .ok (.iconst 0, 1) := by decide +kernel
theorem dL_law_382 : decode cL_law 382 = .ok (.ireturn, 1) := by decide +kernel
theorem dL_law_383 : decode cL_law 383 = .ok (.aload_n 1, 1) := by decide +kernel
theorem dL_law_384 : decode cL_law 384 = .ok (.invokevirtual 54, 3) := by decide +kernel
theorem dL_law_387 : decode cL_law 387 = .ok (.aload_n 2, 1) := by decide +kernel
theorem dL_law_388 : decode cL_law 388 = .ok (.invokevirtual 57, 3) := by decide +kernel
theorem dL_law_391 : decode cL_law 391 = .ok (.if_icmp .eq 407, 3) := by decide +kernel
theorem dL_law_394 : decode cL_law 394 = .ok (.iconst 0, 1) := by decide +kernel
theorem dL_law_395 : decode cL_law 395 = .ok (.ireturn, 1) := by decide +kernel
theorem dL_law_396 : decode cL_law 396 = .ok (.aload_n 1, 1) := by decide +kernel
theorem dL_law_397 : decode cL_law 397 = .ok (.invokevirtual 58, 3) := by decide +kernel
theorem dL_law_400 : decode cL_law 400 = .ok (.aload_n 2, 1) := by decide +kernel
theorem dL_law_401 : decode cL_law 401 = .ok (.invokevirtual 61, 3) := by decide +kernel
theorem dL_law_404 : decode cL_law 404 = .ok (.if_icmp .eq 394, 3) := by decide +kernel
theorem dL_law_407 : decode cL_law 407 = .ok (.iconst 0, 1) := by decide +kernel
theorem dL_law_408 : decode cL_law 408 = .ok (.ireturn, 1) := by decide +kernel
theorem dL_law_409 : decode cL_law 409 = .ok (.aload_n 1, 1) := by decide +kernel
theorem dL_law_410 : decode cL_law 410 = .ok (.invokevirtual 62, 3) := by decide +kernel
theorem dL_law_413 : decode cL_law 413 = .ok (.aload_n 2, 1) := by decide +kernel
theorem dL_law_414 : decode cL_law 414 = .ok (.invokevirtual 65, 3) := by decide +kernel
theorem dL_law_417 : decode cL_law 417 = .ok (.if_icmp .eq 381, 3) := by decide +kernel
theorem dL_law_420 : decode cL_law 420 = .ok (.iconst 0, 1) := by decide +kernel
theorem dL_law_421 : decode cL_law 421 = .ok (.ireturn, 1) := by decide +kernel
theorem dL_law_422 : decode cL_law 422 = .ok (.aload_n 1, 1) := by decide +kernel
theorem dL_law_423 : decode cL_law 423 = .ok (.invokevirtual 66, 3) := by decide +kernel
theorem dL_law_426 : decode cL_law 426 = .ok (.aload_n 2, 1) := by decide +kernel
theorem dL_law_427 : decode cL_law 427 = .ok (.invokevirtual 69, 3) := by decide +kernel
theorem dL_law_430 : decode cL_law 430 = .ok (.if_icmp .eq 368, 3) := by decide +kernel
theorem dL_law_433 : decode cL_law 433 = .ok (.iconst 0, 1) := by decide +kernel
theorem dL_law_434 : decode cL_law 434 = .ok (.ireturn, 1) := by decide +kernel
theorem dL_law_435 : decode cL_law 435 = .ok (.aload_n 1, 1) := by decide +kernel
theorem dL_law_436 : decode cL_law 436 = .ok (.aload_n 0, 1) := by decide +kernel
theorem dL_law_437 : decode cL_law 437 = .ok (.iload_n 3, 1) := by decide +kernel
theorem dL_law_438 : decode cL_law 438 = .ok (.iconst 1, 1) := by decide +kernel
theorem dL_law_439 : decode cL_law 439 = .ok (.iadd, 1) := by decide +kernel
theorem dL_law_440 : decode cL_law 440 = .ok (.iaload, 1) := by decide +kernel
theorem dL_law_441 : decode cL_law 441 = .ok (.aload_n 0, 1) := by decide +kernel
theorem dL_law_442 : decode cL_law 442 = .ok (.iload_n 3, 1) := by decide +kernel
theorem dL_law_443 : decode cL_law 443 = .ok (.iconst 2, 1) := by decide +kernel
theorem dL_law_444 : decode cL_law 444 = .ok (.iadd, 1) := by decide +kernel
theorem dL_law_445 : decode cL_law 445 = .ok (.iaload, 1) := by decide +kernel
theorem dL_law_446 : decode cL_law 446 = .ok (.invokevirtual 70, 3) := by decide +kernel
theorem dL_law_449 : decode cL_law 449 = .ok (.aload_n 2, 1) := by decide +kernel
theorem dL_law_450 : decode cL_law 450 = .ok (.aload_n 0, 1) := by decide +kernel
theorem dL_law_451 : decode cL_law 451 = .ok (.iload_n 3, 1) := by decide +kernel
theorem dL_law_452 : decode cL_law 452 = .ok (.iconst 1, 1) := by decide +kernel
theorem dL_law_453 : decode cL_law 453 = .ok (.iadd, 1) := by decide +kernel
theorem dL_law_454 : decode cL_law 454 = .ok (.iaload, 1) := by decide +kernel
theorem dL_law_455 : decode cL_law 455 = .ok (.aload_n 0, 1) := by decide +kernel
theorem dL_law_456 : decode cL_law 456 = .ok (.iload_n 3, 1) := by decide +kernel
theorem dL_law_457 : decode cL_law 457 = .ok (.iconst 2, 1) := by decide +kernel
theorem dL_law_458 : decode cL_law 458 = .ok (.iadd, 1) := by decide +kernel
theorem dL_law_459 : decode cL_law 459 = .ok (.iaload, 1) := by decide +kernel
theorem dL_law_460 : decode cL_law 460 = .ok (.invokevirtual 73, 3) := by decide +kernel
theorem dL_law_463 : decode cL_law 463 = .ok (.if_icmp .eq 335, 3) := by decide +kernel
theorem dL_law_466 : decode cL_law 466 = .ok (.iconst 0, 1) := by decide +kernel
theorem dL_law_467 : decode cL_law 467 = .ok (.ireturn, 1) := by decide +kernel
theorem dL_law_468 : decode cL_law 468 = .ok (.aload_n 1, 1) := by decide +kernel
theorem dL_law_469 : decode cL_law 469 = .ok (.aload_n 0, 1) := by decide +kernel
theorem dL_law_470 : decode cL_law 470 = .ok (.iload_n 3, 1) := by decide +kernel
theorem dL_law_471 : decode cL_law 471 = .ok (.iconst 1, 1) := by decide +kernel
theorem dL_law_472 : decode cL_law 472 = .ok (.iadd, 1) := by decide +kernel
theorem dL_law_473 : decode cL_law 473 = .ok (.iaload, 1) := by decide +kernel
theorem dL_law_474 : decode cL_law 474 = .ok (.aload_n 0, 1) := by decide +kernel
theorem dL_law_475 : decode cL_law 475 = .ok (.iload_n 3, 1) := by decide +kernel
theorem dL_law_476 : decode cL_law 476 = .ok (.iconst 2, 1) := by decide +kernel
theorem dL_law_477 : decode cL_law 477 = .ok (.iadd, 1) := by decide +kernel
theorem dL_law_478 : decode cL_law 478 = .ok (.iaload, 1) := by decide +kernel
theorem dL_law_479 : decode cL_law 479 = .ok (.invokevirtual 74, 3) := by decide +kernel
theorem dL_law_482 : decode cL_law 482 = .ok (.aload_n 2, 1) := by decide +kernel
theorem dL_law_483 : decode cL_law 483 = .ok (.aload_n 0, 1) := by decide +kernel
theorem dL_law_484 : decode cL_law 484 = .ok (.iload_n 3, 1) := by decide +kernel
theorem dL_law_485 : decode cL_law 485 = .ok (.iconst 1, 1) := by decide +kernel
theorem dL_law_486 : decode cL_law 486 = .ok (.iadd, 1) := by decide +kernel
theorem dL_law_487 : decode cL_law 487 = .ok (.iaload, 1) := by decide +kernel
theorem dL_law_488 : decode cL_law 488 = .ok (.aload_n 0, 1) := by decide +kernel
theorem dL_law_489 : decode cL_law 489 = .ok (.iload_n 3, 1) := by decide +kernel
theorem dL_law_490 : decode cL_law 490 = .ok (.iconst 2, 1) := by decide +kernel
theorem dL_law_491 : decode cL_law 491 = .ok (.iadd, 1) := by decide +kernel
theorem dL_law_492 : decode cL_law 492 = .ok (.iaload, 1) := by decide +kernel
theorem dL_law_493 : decode cL_law 493 = .ok (.invokevirtual 77, 3) := by decide +kernel
theorem dL_law_496 : decode cL_law 496 = .ok (.if_icmp .eq 302, 3) := by decide +kernel
theorem dL_law_499 : decode cL_law 499 = .ok (.iconst 0, 1) := by decide +kernel
theorem dL_law_500 : decode cL_law 500 = .ok (.ireturn, 1) := by decide +kernel
theorem dL_law_501 : decode cL_law 501 = .ok (.aload_n 1, 1) := by decide +kernel
theorem dL_law_502 : decode cL_law 502 = .ok (.aload_n 0, 1) := by decide +kernel
theorem dL_law_503 : decode cL_law 503 = .ok (.iload_n 3, 1) := by decide +kernel
theorem dL_law_504 : decode cL_law 504 = .ok (.iconst 1, 1) := by decide +kernel
theorem dL_law_505 : decode cL_law 505 = .ok (.iadd, 1) := by decide +kernel
theorem dL_law_506 : decode cL_law 506 = .ok (.iaload, 1) := by decide +kernel
theorem dL_law_507 : decode cL_law 507 = .ok (.aload_n 0, 1) := by decide +kernel
theorem dL_law_508 : decode cL_law 508 = .ok (.iload_n 3, 1) := by decide +kernel
theorem dL_law_509 : decode cL_law 509 = .ok (.iconst 2, 1) := by decide +kernel
theorem dL_law_510 : decode cL_law 510 = .ok (.iadd, 1) := by decide +kernel
theorem dL_law_511 : decode cL_law 511 = .ok (.iaload, 1) := by decide +kernel
theorem dL_law_512 : decode cL_law 512 = .ok (.invokevirtual 78, 3) := by decide +kernel
theorem dL_law_515 : decode cL_law 515 = .ok (.aload_n 2, 1) := by decide +kernel
theorem dL_law_516 : decode cL_law 516 = .ok (.aload_n 0, 1) := by decide +kernel
theorem dL_law_517 : decode cL_law 517 = .ok (.iload_n 3, 1) := by decide +kernel
theorem dL_law_518 : decode cL_law 518 = .ok (.iconst 1, 1) := by decide +kernel
theorem dL_law_519 : decode cL_law 519 = .ok (.iadd, 1) := by decide +kernel
theorem dL_law_520 : decode cL_law 520 = .ok (.iaload, 1) := by decide +kernel
theorem dL_law_521 : decode cL_law 521 = .ok (.aload_n 0, 1) := by decide +kernel
theorem dL_law_522 : decode cL_law 522 = .ok (.iload_n 3, 1) := by decide +kernel
theorem dL_law_523 : decode cL_law 523 = .ok (.iconst 2, 1) := by decide +kernel
theorem dL_law_524 : decode cL_law 524 = .ok (.iadd, 1) := by decide +kernel
theorem dL_law_525 : decode cL_law 525 = .ok (.iaload, 1) := by decide +kernel
theorem dL_law_526 : decode cL_law 526 = .ok (.invokevirtual 81, 3) := by decide +kernel
theorem dL_law_529 : decode cL_law 529 = .ok (.if_icmp .eq 269, 3) := by decide +kernel
theorem dL_law_532 : decode cL_law 532 = .ok (.iconst 0, 1) := by decide +kernel
theorem dL_law_533 : decode cL_law 533 = .ok (.ireturn, 1) := by decide +kernel
theorem dL_law_534 : decode cL_law 534 = .ok (.aload_n 1, 1) := by decide +kernel
theorem dL_law_535 : decode cL_law 535 = .ok (.aload_n 0, 1) := by decide +kernel
theorem dL_law_536 : decode cL_law 536 = .ok (.iload_n 3, 1) := by decide +kernel
theorem dL_law_537 : decode cL_law 537 = .ok (.iconst 1, 1) := by decide +kernel
theorem dL_law_538 : decode cL_law 538 = .ok (.iadd, 1) := by decide +kernel
theorem dL_law_539 : decode cL_law 539 = .ok (.iaload, 1) := by decide +kernel
theorem dL_law_540 : decode cL_law 540 = .ok (.aload_n 0, 1) := by decide +kernel
theorem dL_law_541 : decode cL_law 541 = .ok (.iload_n 3, 1) := by decide +kernel
theorem dL_law_542 : decode cL_law 542 = .ok (.iconst 2, 1) := by decide +kernel
theorem dL_law_543 : decode cL_law 543 = .ok (.iadd, 1) := by decide +kernel
theorem dL_law_544 : decode cL_law 544 = .ok (.iaload, 1) := by decide +kernel
theorem dL_law_545 : decode cL_law 545 = .ok (.invokevirtual 82, 3) := by decide +kernel
theorem dL_law_548 : decode cL_law 548 = .ok (.aload_n 2, 1) := by decide +kernel
theorem dL_law_549 : decode cL_law 549 = .ok (.aload_n 0, 1) := by decide +kernel
theorem dL_law_550 : decode cL_law 550 = .ok (.iload_n 3, 1) := by decide +kernel
theorem dL_law_551 : decode cL_law 551 = .ok (.iconst 1, 1) := by decide +kernel
theorem dL_law_552 : decode cL_law 552 = .ok (.iadd, 1) := by decide +kernel
theorem dL_law_553 : decode cL_law 553 = .ok (.iaload, 1) := by decide +kernel
theorem dL_law_554 : decode cL_law 554 = .ok (.aload_n 0, 1) := by decide +kernel
theorem dL_law_555 : decode cL_law 555 = .ok (.iload_n 3, 1) := by decide +kernel
theorem dL_law_556 : decode cL_law 556 = .ok (.iconst 2, 1) := by decide +kernel
theorem dL_law_557 : decode cL_law 557 = .ok (.iadd, 1) := by decide +kernel
theorem dL_law_558 : decode cL_law 558 = .ok (.iaload, 1) := by decide +kernel
theorem dL_law_559 : decode cL_law 559 = .ok (.invokevirtual 85, 3) := by decide +kernel
theorem dL_law_562 : decode cL_law 562 = .ok (.if_icmp .eq 236, 3) := by decide +kernel
theorem dL_law_565 : decode cL_law 565 = .ok (.iconst 0, 1) := by decide +kernel
theorem dL_law_566 : decode cL_law 566 = .ok (.ireturn, 1) := by decide +kernel
theorem dL_law_567 : decode cL_law 567 = .ok (.aload_n 1, 1) := by decide +kernel
theorem dL_law_568 : decode cL_law 568 = .ok (.aload_n 0, 1) := by decide +kernel
theorem dL_law_569 : decode cL_law 569 = .ok (.iload_n 3, 1) := by decide +kernel
theorem dL_law_570 : decode cL_law 570 = .ok (.iconst 1, 1) := by decide +kernel
theorem dL_law_571 : decode cL_law 571 = .ok (.iadd, 1) := by decide +kernel
theorem dL_law_572 : decode cL_law 572 = .ok (.iaload, 1) := by decide +kernel
theorem dL_law_573 : decode cL_law 573 = .ok (.aload_n 0, 1) := by decide +kernel
theorem dL_law_574 : decode cL_law 574 = .ok (.iload_n 3, 1) := by decide +kernel
theorem dL_law_575 : decode cL_law 575 = .ok (.iconst 2, 1) := by decide +kernel
theorem dL_law_576 : decode cL_law 576 = .ok (.iadd, 1) := by decide +kernel
theorem dL_law_577 : decode cL_law 577 = .ok (.iaload, 1) := by decide +kernel
theorem dL_law_578 : decode cL_law 578 = .ok (.aload_n 0, 1) := by decide +kernel
theorem dL_law_579 : decode cL_law 579 = .ok (.iload_n 3, 1) := by decide +kernel
theorem dL_law_580 : decode cL_law 580 = .ok (.iconst 3, 1) := by decide +kernel
theorem dL_law_581 : decode cL_law 581 = .ok (.iadd, 1) := by decide +kernel
theorem dL_law_582 : decode cL_law 582 = .ok (.iaload, 1) := by decide +kernel
theorem dL_law_583 : decode cL_law 583 = .ok (.aload_n 0, 1) := by decide +kernel
theorem dL_law_584 : decode cL_law 584 = .ok (.iload_n 3, 1) := by decide +kernel
theorem dL_law_585 : decode cL_law 585 = .ok (.iconst 4, 1) := by decide +kernel
theorem dL_law_586 : decode cL_law 586 = .ok (.iadd, 1) := by decide +kernel
theorem dL_law_587 : decode cL_law 587 = .ok (.iaload, 1) := by decide +kernel
theorem dL_law_588 : decode cL_law 588 = .ok (.invokevirtual 86, 3) := by decide +kernel
theorem dL_law_591 : decode cL_law 591 = .ok (.aload_n 2, 1) := by decide +kernel
theorem dL_law_592 : decode cL_law 592 = .ok (.aload_n 0, 1) := by decide +kernel
theorem dL_law_593 : decode cL_law 593 = .ok (.iload_n 3, 1) := by decide +kernel
theorem dL_law_594 : decode cL_law 594 = .ok (.iconst 1, 1) := by decide +kernel
theorem dL_law_595 : decode cL_law 595 = .ok (.iadd, 1) := by decide +kernel
theorem dL_law_596 : decode cL_law 596 = .ok (.iaload, 1) := by decide +kernel
theorem dL_law_597 : decode cL_law 597 = .ok (.aload_n 0, 1) := by decide +kernel
theorem dL_law_598 : decode cL_law 598 = .ok (.iload_n 3, 1) := by decide +kernel
theorem dL_law_599 : decode cL_law 599 = .ok (.iconst 2, 1) := by decide +kernel
theorem dL_law_600 : decode cL_law 600 = .ok (.iadd, 1) := by decide +kernel
theorem dL_law_601 : decode cL_law 601 = .ok (.iaload, 1) := by decide +kernel
theorem dL_law_602 : decode cL_law 602 = .ok (.aload_n 0, 1) := by decide +kernel
theorem dL_law_603 : decode cL_law 603 = .ok (.iload_n 3, 1) := by decide +kernel
theorem dL_law_604 : decode cL_law 604 = .ok (.iconst 3, 1) := by decide +kernel
theorem dL_law_605 : decode cL_law 605 = .ok (.iadd, 1) := by decide +kernel
theorem dL_law_606 : decode cL_law 606 = .ok (.iaload, 1) := by decide +kernel
theorem dL_law_607 : decode cL_law 607 = .ok (.aload_n 0, 1) := by decide +kernel
theorem dL_law_608 : decode cL_law 608 = .ok (.iload_n 3, 1) := by decide +kernel
theorem dL_law_609 : decode cL_law 609 = .ok (.iconst 4, 1) := by decide +kernel
theorem dL_law_610 : decode cL_law 610 = .ok (.iadd, 1) := by decide +kernel
theorem dL_law_611 : decode cL_law 611 = .ok (.iaload, 1) := by decide +kernel
theorem dL_law_612 : decode cL_law 612 = .ok (.invokevirtual 90, 3) := by decide +kernel
theorem dL_law_615 : decode cL_law 615 = .ok (.if_icmp .eq 183, 3) := by decide +kernel
theorem dL_law_618 : decode cL_law 618 = .ok (.iconst 0, 1) := by decide +kernel
theorem dL_law_619 : decode cL_law 619 = .ok (.ireturn, 1) := by decide +kernel
theorem dL_law_620 : decode cL_law 620 = .ok (.aload_n 1, 1) := by decide +kernel
theorem dL_law_621 : decode cL_law 621 = .ok (.aload_n 0, 1) := by decide +kernel
theorem dL_law_622 : decode cL_law 622 = .ok (.iload_n 3, 1) := by decide +kernel
theorem dL_law_623 : decode cL_law 623 = .ok (.iconst 1, 1) := by decide +kernel
theorem dL_law_624 : decode cL_law 624 = .ok (.iadd, 1) := by decide +kernel
theorem dL_law_625 : decode cL_law 625 = .ok (.iaload, 1) := by decide +kernel
theorem dL_law_626 : decode cL_law 626 = .ok (.aload_n 0, 1) := by decide +kernel
theorem dL_law_627 : decode cL_law 627 = .ok (.iload_n 3, 1) := by decide +kernel
theorem dL_law_628 : decode cL_law 628 = .ok (.iconst 2, 1) := by decide +kernel
theorem dL_law_629 : decode cL_law 629 = .ok (.iadd, 1) := by decide +kernel
theorem dL_law_630 : decode cL_law 630 = .ok (.iaload, 1) := by decide +kernel
theorem dL_law_631 : decode cL_law 631 = .ok (.invokevirtual 91, 3) := by decide +kernel
theorem dL_law_634 : decode cL_law 634 = .ok (.aload_n 2, 1) := by decide +kernel
theorem dL_law_635 : decode cL_law 635 = .ok (.aload_n 0, 1) := by decide +kernel
theorem dL_law_636 : decode cL_law 636 = .ok (.iload_n 3, 1) := by decide +kernel
theorem dL_law_637 : decode cL_law 637 = .ok (.iconst 1, 1) := by decide +kernel
theorem dL_law_638 : decode cL_law 638 = .ok (.iadd, 1) := by decide +kernel
theorem dL_law_639 : decode cL_law 639 = .ok (.iaload, 1) := by decide +kernel
theorem dL_law_640 : decode cL_law 640 = .ok (.aload_n 0, 1) := by decide +kernel
theorem dL_law_641 : decode cL_law 641 = .ok (.iload_n 3, 1) := by decide +kernel
theorem dL_law_642 : decode cL_law 642 = .ok (.iconst 2, 1) := by decide +kernel
theorem dL_law_643 : decode cL_law 643 = .ok (.iadd, 1) := by decide +kernel
theorem dL_law_644 : decode cL_law 644 = .ok (.iaload, 1) := by decide +kernel
theorem dL_law_645 : decode cL_law 645 = .ok (.invokevirtual 94, 3) := by decide +kernel
theorem dL_law_648 : decode cL_law 648 = .ok (.if_icmp .eq 150, 3) := by decide +kernel
theorem dL_law_651 : decode cL_law 651 = .ok (.iconst 0, 1) := by decide +kernel
theorem dL_law_652 : decode cL_law 652 = .ok (.ireturn, 1) := by decide +kernel
theorem dL_law_653 : decode cL_law 653 = .ok (.aload_n 1, 1) := by decide +kernel
theorem dL_law_654 : decode cL_law 654 = .ok (.aload_n 0, 1) := by decide +kernel
theorem dL_law_655 : decode cL_law 655 = .ok (.iload_n 3, 1) := by decide +kernel
theorem dL_law_656 : decode cL_law 656 = .ok (.iconst 1, 1) := by decide +kernel
theorem dL_law_657 : decode cL_law 657 = .ok (.iadd, 1) := by decide +kernel
theorem dL_law_658 : decode cL_law 658 = .ok (.iaload, 1) := by decide +kernel
theorem dL_law_659 : decode cL_law 659 = .ok (.invokevirtual 95, 3) := by decide +kernel
theorem dL_law_662 : decode cL_law 662 = .ok (.aload_n 2, 1) := by decide +kernel
theorem dL_law_663 : decode cL_law 663 = .ok (.aload_n 0, 1) := by decide +kernel
theorem dL_law_664 : decode cL_law 664 = .ok (.iload_n 3, 1) := by decide +kernel
theorem dL_law_665 : decode cL_law 665 = .ok (.iconst 1, 1) := by decide +kernel
theorem dL_law_666 : decode cL_law 666 = .ok (.iadd, 1) := by decide +kernel
theorem dL_law_667 : decode cL_law 667 = .ok (.iaload, 1) := by decide +kernel
theorem dL_law_668 : decode cL_law 668 = .ok (.invokevirtual 98, 3) := by decide +kernel
theorem dL_law_671 : decode cL_law 671 = .ok (.if_icmp .eq 127, 3) := by decide +kernel
theorem dL_law_674 : decode cL_law 674 = .ok (.iconst 0, 1) := by decide +kernel
theorem dL_law_675 : decode cL_law 675 = .ok (.ireturn, 1) := by decide +kernel
theorem dL_law_676 : decode cL_law 676 = .ok (.aload_n 1, 1) := by decide +kernel
theorem dL_law_677 : decode cL_law 677 = .ok (.aload_n 0, 1) := by decide +kernel
theorem dL_law_678 : decode cL_law 678 = .ok (.iload_n 3, 1) := by decide +kernel
theorem dL_law_679 : decode cL_law 679 = .ok (.iconst 1, 1) := by decide +kernel
theorem dL_law_680 : decode cL_law 680 = .ok (.iadd, 1) := by decide +kernel
theorem dL_law_681 : decode cL_law 681 = .ok (.iaload, 1) := by decide +kernel
theorem dL_law_682 : decode cL_law 682 = .ok (.invokevirtual 99, 3) := by decide +kernel
theorem dL_law_685 : decode cL_law 685 = .ok (.f2d, 1) := by decide +kernel
theorem dL_law_686 : decode cL_law 686 = .ok (.dstore 4, 2) := by decide +kernel
theorem dL_law_688 : decode cL_law 688 = .ok (.aload_n 2, 1) := by decide +kernel
theorem dL_law_689 : decode cL_law 689 = .ok (.aload_n 0, 1) := by decide +kernel
theorem dL_law_690 : decode cL_law 690 = .ok (.iload_n 3, 1) := by decide +kernel
theorem dL_law_691 : decode cL_law 691 = .ok (.iconst 1, 1) := by decide +kernel
theorem dL_law_692 : decode cL_law 692 = .ok (.iadd, 1) := by decide +kernel
theorem dL_law_693 : decode cL_law 693 = .ok (.iaload, 1) := by decide +kernel
theorem dL_law_694 : decode cL_law 694 = .ok (.invokevirtual 103, 3) := by decide +kernel
theorem dL_law_697 : decode cL_law 697 = .ok (.f2d, 1) := by decide +kernel
theorem dL_law_698 : decode cL_law 698 = .ok (.dstore 6, 2) := by decide +kernel
theorem dL_law_700 : decode cL_law 700 = .ok (.dload 4, 2) := by decide +kernel
theorem dL_law_702 : decode cL_law 702 = .ok (.dload 6, 2) := by decide +kernel
theorem dL_law_704 : decode cL_law 704 = .ok (.dcmp .l, 1) := by decide +kernel
theorem dL_law_705 : decode cL_law 705 = .ok (.ifCond .eq 21, 3) := by decide +kernel
theorem dL_law_708 : decode cL_law 708 = .ok (.dload 4, 2) := by decide +kernel
theorem dL_law_710 : decode cL_law 710 = .ok (.dload 4, 2) := by decide +kernel
theorem dL_law_712 : decode cL_law 712 = .ok (.dcmp .l, 1) := by decide +kernel
theorem dL_law_713 : decode cL_law 713 = .ok (.ifCond .eq 11, 3) := by decide +kernel
theorem dL_law_716 : decode cL_law 716 = .ok (.dload 6, 2) := by decide +kernel
theorem dL_law_718 : decode cL_law 718 = .ok (.dload 6, 2) := by decide +kernel
theorem dL_law_720 : decode cL_law 720 = .ok (.dcmp .l, 1) := by decide +kernel
theorem dL_law_721 : decode cL_law 721 = .ok (.ifCond .ne 5, 3) := by decide +kernel
theorem dL_law_724 : decode cL_law 724 = .ok (.iconst 0, 1) := by decide +kernel
theorem dL_law_725 : decode cL_law 725 = .ok (.ireturn, 1) := by decide +kernel
theorem dL_law_726 : decode cL_law 726 = .ok (.goto 72, 3) := by decide +kernel
theorem dL_law_729 : decode cL_law 729 = .ok (.aload_n 1, 1) := by decide +kernel
theorem dL_law_730 : decode cL_law 730 = .ok (.aload_n 0, 1) := by decide +kernel
theorem dL_law_731 : decode cL_law 731 = .ok (.iload_n 3, 1) := by decide +kernel
theorem dL_law_732 : decode cL_law 732 = .ok (.iconst 1, 1) := by decide +kernel
theorem dL_law_733 : decode cL_law 733 = .ok (.iadd, 1) := by decide +kernel
theorem dL_law_734 : decode cL_law 734 = .ok (.iaload, 1) := by decide +kernel
theorem dL_law_735 : decode cL_law 735 = .ok (.invokevirtual 104, 3) := by decide +kernel
theorem dL_law_738 : decode cL_law 738 = .ok (.aload_n 2, 1) := by decide +kernel
theorem dL_law_739 : decode cL_law 739 = .ok (.aload_n 0, 1) := by decide +kernel
theorem dL_law_740 : decode cL_law 740 = .ok (.iload_n 3, 1) := by decide +kernel
theorem dL_law_741 : decode cL_law 741 = .ok (.iconst 1, 1) := by decide +kernel
theorem dL_law_742 : decode cL_law 742 = .ok (.iadd, 1) := by decide +kernel
theorem dL_law_743 : decode cL_law 743 = .ok (.iaload, 1) := by decide +kernel
theorem dL_law_744 : decode cL_law 744 = .ok (.invokevirtual 107, 3) := by decide +kernel
theorem dL_law_747 : decode cL_law 747 = .ok (.if_icmp .eq 51, 3) := by decide +kernel
theorem dL_law_750 : decode cL_law 750 = .ok (.iconst 0, 1) := by decide +kernel
theorem dL_law_751 : decode cL_law 751 = .ok (.ireturn, 1) := by decide +kernel
theorem dL_law_752 : decode cL_law 752 = .ok (.aload_n 1, 1) := by decide +kernel
theorem dL_law_753 : decode cL_law 753 = .ok (.aload_n 0, 1) := by decide +kernel
theorem dL_law_754 : decode cL_law 754 = .ok (.iload_n 3, 1) := by decide +kernel
theorem dL_law_755 : decode cL_law 755 = .ok (.iconst 1, 1) := by decide +kernel
theorem dL_law_756 : decode cL_law 756 = .ok (.iadd, 1) := by decide +kernel
theorem dL_law_757 : decode cL_law 757 = .ok (.iaload, 1) := by decide +kernel
theorem dL_law_758 : decode cL_law 758 = .ok (.invokevirtual 108, 3) := by decide +kernel
theorem dL_law_761 : decode cL_law 761 = .ok (.aload_n 2, 1) := by decide +kernel
theorem dL_law_762 : decode cL_law 762 = .ok (.aload_n 0, 1) := by decide +kernel
theorem dL_law_763 : decode cL_law 763 = .ok (.iload_n 3, 1) := by decide +kernel
theorem dL_law_764 : decode cL_law 764 = .ok (.iconst 1, 1) := by decide +kernel
theorem dL_law_765 : decode cL_law 765 = .ok (.iadd, 1) := by decide +kernel
theorem dL_law_766 : decode cL_law 766 = .ok (.iaload, 1) := by decide +kernel
theorem dL_law_767 : decode cL_law 767 = .ok (.invokevirtual 111, 3) := by decide +kernel
theorem dL_law_770 : decode cL_law 770 = .ok (.if_icmp .eq 28, 3) := by decide +kernel
theorem dL_law_773 : decode cL_law 773 = .ok (.iconst 0, 1) := by decide +kernel
theorem dL_law_774 : decode cL_law 774 = .ok (.ireturn, 1) := by decide +kernel
theorem dL_law_775 : decode cL_law 775 = .ok (.aload_n 1, 1) := by decide +kernel
theorem dL_law_776 : decode cL_law 776 = .ok (.aload_n 0, 1) := by decide +kernel
theorem dL_law_777 : decode cL_law 777 = .ok (.iload_n 3, 1) := by decide +kernel
theorem dL_law_778 : decode cL_law 778 = .ok (.iconst 1, 1) := by decide +kernel
theorem dL_law_779 : decode cL_law 779 = .ok (.iadd, 1) := by decide +kernel
theorem dL_law_780 : decode cL_law 780 = .ok (.iaload, 1) := by decide +kernel
theorem dL_law_781 : decode cL_law 781 = .ok (.invokevirtual 112, 3) := by decide +kernel
theorem dL_law_784 : decode cL_law 784 = .ok (.aload_n 2, 1) := by decide +kernel
theorem dL_law_785 : decode cL_law 785 = .ok (.aload_n 0, 1) := by decide +kernel
theorem dL_law_786 : decode cL_law 786 = .ok (.iload_n 3, 1) := by decide +kernel
theorem dL_law_787 : decode cL_law 787 = .ok (.iconst 1, 1) := by decide +kernel
theorem dL_law_788 : decode cL_law 788 = .ok (.iadd, 1) := by decide +kernel
theorem dL_law_789 : decode cL_law 789 = .ok (.iaload, 1) := by decide +kernel
theorem dL_law_790 : decode cL_law 790 = .ok (.invokevirtual 115, 3) := by decide +kernel
theorem dL_law_793 : decode cL_law 793 = .ok (.if_icmp .eq 5, 3) := by decide +kernel
theorem dL_law_796 : decode cL_law 796 = .ok (.iconst 0, 1) := by decide +kernel
theorem dL_law_797 : decode cL_law 797 = .ok (.ireturn, 1) := by decide +kernel
theorem dL_law_798 : decode cL_law 798 = .ok (.iinc 3 5, 3) := by decide +kernel
theorem dL_law_801 : decode cL_law 801 = .ok (.goto (-783), 3) := by decide +kernel
theorem dL_law_804 : decode cL_law 804 = .ok (.iconst 1, 1) := by decide +kernel
theorem dL_law_805 : decode cL_law 805 = .ok (.ireturn, 1) := by decide +kernel
end
section
/-! words of the tables, each by its place -/
def bkTB : List Cond := lw_tbl.filter goodWord
theorem bk_w {w : Cond} (i : Nat) (h : lw_tbl[i]? = some w) (g : goodWord w = true) : w ∈ bkTB := List.mem_filter.mpr ⟨List.mem_of_getElem? h, g⟩
theorem bk_in {C : String} {T : u_T} {N : Nat} (h : ∀ k, k < N → u_lay C T k ∈ bkTB) : ∀ w ∈ u_ws C T N, w ∈ bkTB := fun w hw => by
  obtain ⟨k, hk, rfl⟩ := List.mem_map.mp hw
  exact h k (List.mem_range.mp hk)
theorem ini_L : Cond.initialized RL ∈ bkTB := bk_w 48 (by decide +kernel) rfl
theorem ini_X8 : Cond.initialized RX8 ∈ bkTB := bk_w 49 (by decide +kernel) rfl
theorem ini_X0 : Cond.initialized RX0 ∈ bkTB := bk_w 50 (by decide +kernel) rfl
theorem ini_J9 : Cond.initialized RJ9 ∈ bkTB := bk_w 51 (by decide +kernel) rfl
theorem ini_X6 : Cond.initialized RX6 ∈ bkTB := bk_w 52 (by decide +kernel) rfl
theorem ini_X3 : Cond.initialized RX3 ∈ bkTB := bk_w 53 (by decide +kernel) rfl
theorem ini_X2 : Cond.initialized RX2 ∈ bkTB := bk_w 54 (by decide +kernel) rfl
theorem ini_X5 : Cond.initialized RX5 ∈ bkTB := bk_w 55 (by decide +kernel) rfl
theorem ini_X1 : Cond.initialized RX1 ∈ bkTB := bk_w 56 (by decide +kernel) rfl
theorem ini_X7 : Cond.initialized RX7 ∈ bkTB := bk_w 57 (by decide +kernel) rfl
theorem ini_X4 : Cond.initialized RX4 ∈ bkTB := bk_w 58 (by decide +kernel) rfl
theorem ini_X9 : Cond.initialized RX9 ∈ bkTB := bk_w 59 (by decide +kernel) rfl
theorem ini_J10 : Cond.initialized RJ10 ∈ bkTB := bk_w 60 (by decide +kernel) rfl
theorem ini_J6 : Cond.initialized RJ6 ∈ bkTB := bk_w 61 (by decide +kernel) rfl
theorem cl_L_7 : Cond.classLink RL 7 RX8 ∈ bkTB := bk_w 62 (by decide +kernel) rfl
theorem ins_X8 : Cond.instantiable RX8 7 ∈ bkTB := bk_w 63 (by decide +kernel) rfl
theorem ml_L_9 : Cond.methodLink RL 9 yX8_init ∈ bkTB := bk_w 64 (by decide +kernel) rfl
theorem im_X8_init : Cond.instanceMethod yX8_init ∈ bkTB := bk_w 65 (by decide +kernel) rfl
theorem cd_X8_init : Cond.code yX8_init cX8_init 1 none ∈ bkTB := bk_w 66 (by decide +kernel) rfl
theorem ml_X8_1 : Cond.methodLink RX8 1 objectInit ∈ bkTB := bk_w 67 (by decide +kernel) rfl
theorem im_objectInit : Cond.instanceMethod objectInit ∈ bkTB := bk_w 68 (by decide +kernel) rfl
theorem cd_objectInit : Cond.code objectInit ⟨#[0xb1]⟩ 1 none ∈ bkTB := bk_w 69 (by decide +kernel) rfl
theorem cl_X8_7 : Cond.classLink RX8 7 RX0 ∈ bkTB := bk_w 70 (by decide +kernel) rfl
theorem ins_X0 : Cond.instantiable RX0 3 ∈ bkTB := bk_w 71 (by decide +kernel) rfl
theorem ml_X8_9 : Cond.methodLink RX8 9 yX0_init ∈ bkTB := bk_w 72 (by decide +kernel) rfl
theorem im_X0_init : Cond.instanceMethod yX0_init ∈ bkTB := bk_w 73 (by decide +kernel) rfl
theorem cd_X0_init : Cond.code yX0_init cX0_init 4 none ∈ bkTB := bk_w 74 (by decide +kernel) rfl
theorem ml_X0_3 : Cond.methodLink RX0 3 objectInit ∈ bkTB := bk_w 75 (by decide +kernel) rfl
theorem cl_X0_9 : Cond.classLink RX0 9 "[[I" ∈ bkTB := bk_w 76 (by decide +kernel) rfl
theorem ml_X0_26 : Cond.methodLink RX0 26 yX0_windOf ∈ bkTB := bk_w 80 (by decide +kernel) rfl
theorem st_X0_windOf : Cond.static yX0_windOf ∈ bkTB := bk_w 81 (by decide +kernel) rfl
theorem cd_X0_windOf : Cond.code yX0_windOf cX0_windOf 4 (some .int) ∈ bkTB := bk_w 82 (by decide +kernel) rfl
theorem ml_X0_33 : Cond.methodLink RX0 33 yJ9_abs_0f7a4 ∈ bkTB := bk_w 83 (by decide +kernel) rfl
theorem st_J9_abs_0f7a4 : Cond.static yJ9_abs_0f7a4 ∈ bkTB := bk_w 84 (by decide +kernel) rfl
theorem cd_J9_abs_0f7a4 : Cond.code yJ9_abs_0f7a4 cJ9_abs_0f7a4 1 (some .int) ∈ bkTB := bk_w 85 (by decide +kernel) rfl
theorem st_X8_distanceBetween : Cond.static yX8_distanceBetween ∈ bkTB := bk_w 87 (by decide +kernel) rfl
theorem cd_X8_distanceBetween : Cond.code yX8_distanceBetween cX8_distanceBetween 4 (some .int) ∈ bkTB := bk_w 88 (by decide +kernel) rfl
theorem ml_X8_233 : Cond.methodLink RX8 233 yJ9_abs_0f7a4 ∈ bkTB := bk_w 89 (by decide +kernel) rfl
theorem ml_X8_238 : Cond.methodLink RX8 238 yJ9_max_7cf53 ∈ bkTB := bk_w 90 (by decide +kernel) rfl
theorem st_J9_max_7cf53 : Cond.static yJ9_max_7cf53 ∈ bkTB := bk_w 91 (by decide +kernel) rfl
theorem cd_J9_max_7cf53 : Cond.code yJ9_max_7cf53 cJ9_max_7cf53 2 (some .int) ∈ bkTB := bk_w 92 (by decide +kernel) rfl
theorem fl_X0_11 : Cond.fieldLink RX0 11 "BeamKeepers$Bearings" "winds" "[[I" ∈ bkTB := bk_w 93 (by decide +kernel) rfl
theorem fl_X3_31 : Cond.fieldLink RX3 31 "BeamKeepers$Bearings" "winds" "[[I" ∈ bkTB := bk_w 94 (by decide +kernel) rfl
theorem fl_X0_16 : Cond.fieldLink RX0 16 "BeamKeepers$Bearings" "distances" "[[I" ∈ bkTB := bk_w 95 (by decide +kernel) rfl
theorem fl_X3_39 : Cond.fieldLink RX3 39 "BeamKeepers$Bearings" "distances" "[[I" ∈ bkTB := bk_w 96 (by decide +kernel) rfl
theorem fl_X0_19 : Cond.fieldLink RX0 19 "BeamKeepers$Bearings" "nearest" "[I" ∈ bkTB := bk_w 97 (by decide +kernel) rfl
theorem fl_X8_165 : Cond.fieldLink RX8 165 "BeamKeepers$Bearings" "nearest" "[I" ∈ bkTB := bk_w 98 (by decide +kernel) rfl
theorem fl_X6_144 : Cond.fieldLink RX6 144 "BeamKeepers$Bearings" "nearest" "[I" ∈ bkTB := bk_w 99 (by decide +kernel) rfl
theorem ac_int : Cond.arrayClass .int ∈ bkTB := bk_w 107 (by decide +kernel) rfl
theorem cl_X8_16 : Cond.classLink RX8 16 RX6 ∈ bkTB := bk_w 108 (by decide +kernel) rfl
theorem ins_X6 : Cond.instantiable RX6 9 ∈ bkTB := bk_w 109 (by decide +kernel) rfl
theorem ml_X8_18 : Cond.methodLink RX8 18 yX6_init ∈ bkTB := bk_w 110 (by decide +kernel) rfl
theorem im_X6_init : Cond.instanceMethod yX6_init ∈ bkTB := bk_w 111 (by decide +kernel) rfl
theorem cd_X6_init : Cond.code yX6_init cX6_init 3 none ∈ bkTB := bk_w 112 (by decide +kernel) rfl
theorem ml_X6_3 : Cond.methodLink RX6 3 objectInit ∈ bkTB := bk_w 113 (by decide +kernel) rfl
theorem cl_X6_15 : Cond.classLink RX6 15 RX3 ∈ bkTB := bk_w 114 (by decide +kernel) rfl
theorem cl_X6_21 : Cond.classLink RX6 21 RX2 ∈ bkTB := bk_w 116 (by decide +kernel) rfl
theorem cl_X6_27 : Cond.classLink RX6 27 RX5 ∈ bkTB := bk_w 118 (by decide +kernel) rfl
theorem ins_X3 : Cond.instantiable RX3 8 ∈ bkTB := bk_w 120 (by decide +kernel) rfl
theorem ml_X6_50 : Cond.methodLink RX6 50 yX3_init ∈ bkTB := bk_w 121 (by decide +kernel) rfl
theorem im_X3_init : Cond.instanceMethod yX3_init ∈ bkTB := bk_w 122 (by decide +kernel) rfl
theorem cd_X3_init : Cond.code yX3_init cX3_init 3 none ∈ bkTB := bk_w 123 (by decide +kernel) rfl
theorem ml_X3_3 : Cond.methodLink RX3 3 objectInit ∈ bkTB := bk_w 124 (by decide +kernel) rfl
theorem fl_X3_28 : Cond.fieldLink RX3 28 "BeamKeepers$Light" "ownCell" "I" ∈ bkTB := bk_w 126 (by decide +kernel) rfl
theorem fl_X3_37 : Cond.fieldLink RX3 37 "BeamKeepers$Light" "winds" "[I" ∈ bkTB := bk_w 127 (by decide +kernel) rfl
theorem fl_X3_42 : Cond.fieldLink RX3 42 "BeamKeepers$Light" "distances" "[I" ∈ bkTB := bk_w 128 (by decide +kernel) rfl
theorem fl_X3_44 : Cond.fieldLink RX3 44 "BeamKeepers$Light" "start" "I" ∈ bkTB := bk_w 129 (by decide +kernel) rfl
theorem fl_X3_9 : Cond.fieldLink RX3 9 "BeamKeepers$Light" "pace" "I" ∈ bkTB := bk_w 130 (by decide +kernel) rfl
theorem fl_X3_15 : Cond.fieldLink RX3 15 "BeamKeepers$Light" "range" "I" ∈ bkTB := bk_w 131 (by decide +kernel) rfl
theorem fl_X3_18 : Cond.fieldLink RX3 18 "BeamKeepers$Light" "dark" "I" ∈ bkTB := bk_w 132 (by decide +kernel) rfl
theorem fl_X3_21 : Cond.fieldLink RX3 21 "BeamKeepers$Light" "fog" "I" ∈ bkTB := bk_w 133 (by decide +kernel) rfl
theorem fl_X8_130 : Cond.fieldLink RX8 130 "BeamKeepers$Light" "fog" "I" ∈ bkTB := bk_w 134 (by decide +kernel) rfl
theorem fl_X6_106 : Cond.fieldLink RX6 106 "BeamKeepers$Light" "fog" "I" ∈ bkTB := bk_w 135 (by decide +kernel) rfl
theorem ins_X2 : Cond.instantiable RX2 5 ∈ bkTB := bk_w 153 (by decide +kernel) rfl
theorem im_X2_init : Cond.instanceMethod yX2_init ∈ bkTB := bk_w 155 (by decide +kernel) rfl
theorem cd_X2_init : Cond.code yX2_init cX2_init 1 none ∈ bkTB := bk_w 156 (by decide +kernel) rfl
theorem ml_X2_3 : Cond.methodLink RX2 3 objectInit ∈ bkTB := bk_w 157 (by decide +kernel) rfl
theorem fl_X2_9 : Cond.fieldLink RX2 9 "BeamKeepers$Keeper" "coins" "I" ∈ bkTB := bk_w 158 (by decide +kernel) rfl
theorem fl_X2_15 : Cond.fieldLink RX2 15 "BeamKeepers$Keeper" "debt" "I" ∈ bkTB := bk_w 159 (by decide +kernel) rfl
theorem fl_X6_109 : Cond.fieldLink RX6 109 "BeamKeepers$Keeper" "debt" "I" ∈ bkTB := bk_w 160 (by decide +kernel) rfl
theorem fl_X2_18 : Cond.fieldLink RX2 18 "BeamKeepers$Keeper" "cards" "I" ∈ bkTB := bk_w 161 (by decide +kernel) rfl
theorem fl_X8_122 : Cond.fieldLink RX8 122 "BeamKeepers$Keeper" "cards" "I" ∈ bkTB := bk_w 162 (by decide +kernel) rfl
theorem fl_X6_103 : Cond.fieldLink RX6 103 "BeamKeepers$Keeper" "cards" "I" ∈ bkTB := bk_w 163 (by decide +kernel) rfl
theorem fl_X2_21 : Cond.fieldLink RX2 21 "BeamKeepers$Keeper" "wrecks" "I" ∈ bkTB := bk_w 164 (by decide +kernel) rfl
theorem fl_X2_24 : Cond.fieldLink RX2 24 "BeamKeepers$Keeper" "paid" "I" ∈ bkTB := bk_w 165 (by decide +kernel) rfl
theorem fl_X6_112 : Cond.fieldLink RX6 112 "BeamKeepers$Keeper" "paid" "I" ∈ bkTB := bk_w 166 (by decide +kernel) rfl
theorem ins_X5 : Cond.instantiable RX5 5 ∈ bkTB := bk_w 178 (by decide +kernel) rfl
theorem im_X5_init : Cond.instanceMethod yX5_init ∈ bkTB := bk_w 180 (by decide +kernel) rfl
theorem cd_X5_init : Cond.code yX5_init cX5_init 1 none ∈ bkTB := bk_w 181 (by decide +kernel) rfl
theorem ml_X5_3 : Cond.methodLink RX5 3 objectInit ∈ bkTB := bk_w 182 (by decide +kernel) rfl
theorem fl_X5_9 : Cond.fieldLink RX5 9 "BeamKeepers$Ship" "worth" "I" ∈ bkTB := bk_w 183 (by decide +kernel) rfl
theorem fl_X6_94 : Cond.fieldLink RX6 94 "BeamKeepers$Ship" "worth" "I" ∈ bkTB := bk_w 184 (by decide +kernel) rfl
theorem fl_X8_221 : Cond.fieldLink RX8 221 "BeamKeepers$Ship" "worth" "I" ∈ bkTB := bk_w 185 (by decide +kernel) rfl
theorem fl_X5_15 : Cond.fieldLink RX5 15 "BeamKeepers$Ship" "cell" "I" ∈ bkTB := bk_w 186 (by decide +kernel) rfl
theorem fl_X6_100 : Cond.fieldLink RX6 100 "BeamKeepers$Ship" "cell" "I" ∈ bkTB := bk_w 187 (by decide +kernel) rfl
theorem fl_X5_18 : Cond.fieldLink RX5 18 "BeamKeepers$Ship" "harbour" "I" ∈ bkTB := bk_w 188 (by decide +kernel) rfl
theorem fl_X5_21 : Cond.fieldLink RX5 21 "BeamKeepers$Ship" "condition" "I" ∈ bkTB := bk_w 189 (by decide +kernel) rfl
theorem fl_X6_97 : Cond.fieldLink RX6 97 "BeamKeepers$Ship" "condition" "I" ∈ bkTB := bk_w 190 (by decide +kernel) rfl
theorem fl_X8_224 : Cond.fieldLink RX8 224 "BeamKeepers$Ship" "condition" "I" ∈ bkTB := bk_w 191 (by decide +kernel) rfl
theorem fl_X5_24 : Cond.fieldLink RX5 24 "BeamKeepers$Ship" "waited" "I" ∈ bkTB := bk_w 192 (by decide +kernel) rfl
theorem fl_X6_138 : Cond.fieldLink RX6 138 "BeamKeepers$Ship" "waited" "I" ∈ bkTB := bk_w 193 (by decide +kernel) rfl
theorem fl_X6_46 : Cond.fieldLink RX6 46 "BeamKeepers$State" "bearings" "LBeamKeepers$Bearings;" ∈ bkTB := bk_w 205 (by decide +kernel) rfl
theorem fl_X6_9 : Cond.fieldLink RX6 9 "BeamKeepers$State" "rockRows" "[I" ∈ bkTB := bk_w 206 (by decide +kernel) rfl
theorem fl_X6_17 : Cond.fieldLink RX6 17 "BeamKeepers$State" "lights" "[LBeamKeepers$Light;" ∈ bkTB := bk_w 207 (by decide +kernel) rfl
theorem fl_X8_73 : Cond.fieldLink RX8 73 "BeamKeepers$State" "lights" "[LBeamKeepers$Light;" ∈ bkTB := bk_w 208 (by decide +kernel) rfl
theorem fl_X6_23 : Cond.fieldLink RX6 23 "BeamKeepers$State" "keepers" "[LBeamKeepers$Keeper;" ∈ bkTB := bk_w 209 (by decide +kernel) rfl
theorem fl_X8_118 : Cond.fieldLink RX8 118 "BeamKeepers$State" "keepers" "[LBeamKeepers$Keeper;" ∈ bkTB := bk_w 210 (by decide +kernel) rfl
theorem fl_X6_29 : Cond.fieldLink RX6 29 "BeamKeepers$State" "ships" "[LBeamKeepers$Ship;" ∈ bkTB := bk_w 211 (by decide +kernel) rfl
theorem fl_X8_177 : Cond.fieldLink RX8 177 "BeamKeepers$State" "ships" "[LBeamKeepers$Ship;" ∈ bkTB := bk_w 212 (by decide +kernel) rfl
theorem fl_X6_33 : Cond.fieldLink RX6 33 "BeamKeepers$State" "goingOrder" "[I" ∈ bkTB := bk_w 213 (by decide +kernel) rfl
theorem fl_X6_36 : Cond.fieldLink RX6 36 "BeamKeepers$State" "shipCount" "I" ∈ bkTB := bk_w 214 (by decide +kernel) rfl
theorem fl_X8_171 : Cond.fieldLink RX8 171 "BeamKeepers$State" "shipCount" "I" ∈ bkTB := bk_w 215 (by decide +kernel) rfl
theorem fl_X6_40 : Cond.fieldLink RX6 40 "BeamKeepers$State" "wage" "I" ∈ bkTB := bk_w 216 (by decide +kernel) rfl
theorem fl_X8_139 : Cond.fieldLink RX8 139 "BeamKeepers$State" "wage" "I" ∈ bkTB := bk_w 217 (by decide +kernel) rfl
theorem fl_X6_43 : Cond.fieldLink RX6 43 "BeamKeepers$State" "hour" "I" ∈ bkTB := bk_w 218 (by decide +kernel) rfl
theorem fl_X8_77 : Cond.fieldLink RX8 77 "BeamKeepers$State" "hour" "I" ∈ bkTB := bk_w 219 (by decide +kernel) rfl
theorem cl_X8_35 : Cond.classLink RX8 35 RX1 ∈ bkTB := bk_w 239 (by decide +kernel) rfl
theorem ins_X1 : Cond.instantiable RX1 2 ∈ bkTB := bk_w 240 (by decide +kernel) rfl
theorem ml_X8_37 : Cond.methodLink RX8 37 yX1_init ∈ bkTB := bk_w 241 (by decide +kernel) rfl
theorem im_X1_init : Cond.instanceMethod yX1_init ∈ bkTB := bk_w 242 (by decide +kernel) rfl
theorem cd_X1_init : Cond.code yX1_init cX1_init 3 none ∈ bkTB := bk_w 243 (by decide +kernel) rfl
theorem ml_X1_3 : Cond.methodLink RX1 3 objectInit ∈ bkTB := bk_w 244 (by decide +kernel) rfl
theorem cl_X1_9 : Cond.classLink RX1 9 RX6 ∈ bkTB := bk_w 245 (by decide +kernel) rfl
theorem ml_X1_21 : Cond.methodLink RX1 21 yX6_init ∈ bkTB := bk_w 247 (by decide +kernel) rfl
theorem fl_X1_11 : Cond.fieldLink RX1 11 "BeamKeepers$History" "states" "[LBeamKeepers$State;" ∈ bkTB := bk_w 248 (by decide +kernel) rfl
theorem fl_X1_17 : Cond.fieldLink RX1 17 "BeamKeepers$History" "size" "I" ∈ bkTB := bk_w 249 (by decide +kernel) rfl
theorem fl_X8_210 : Cond.fieldLink RX8 210 "BeamKeepers$History" "size" "I" ∈ bkTB := bk_w 250 (by decide +kernel) rfl
theorem cl_X8_42 : Cond.classLink RX8 42 RX7 ∈ bkTB := bk_w 256 (by decide +kernel) rfl
theorem ins_X7 : Cond.instantiable RX7 5 ∈ bkTB := bk_w 257 (by decide +kernel) rfl
theorem ml_X8_44 : Cond.methodLink RX8 44 yX7_init ∈ bkTB := bk_w 258 (by decide +kernel) rfl
theorem im_X7_init : Cond.instanceMethod yX7_init ∈ bkTB := bk_w 259 (by decide +kernel) rfl
theorem cd_X7_init : Cond.code yX7_init cX7_init 2 none ∈ bkTB := bk_w 260 (by decide +kernel) rfl
theorem ml_X7_3 : Cond.methodLink RX7 3 objectInit ∈ bkTB := bk_w 261 (by decide +kernel) rfl
theorem cl_X7_19 : Cond.classLink RX7 19 RX4 ∈ bkTB := bk_w 262 (by decide +kernel) rfl
theorem ins_X4 : Cond.instantiable RX4 5 ∈ bkTB := bk_w 264 (by decide +kernel) rfl
theorem im_X4_init : Cond.instanceMethod yX4_init ∈ bkTB := bk_w 266 (by decide +kernel) rfl
theorem cd_X4_init : Cond.code yX4_init cX4_init 1 none ∈ bkTB := bk_w 267 (by decide +kernel) rfl
theorem ml_X4_1 : Cond.methodLink RX4 1 objectInit ∈ bkTB := bk_w 268 (by decide +kernel) rfl
theorem fl_X4_7 : Cond.fieldLink RX4 7 "BeamKeepers$Part" "kind" "C" ∈ bkTB := bk_w 269 (by decide +kernel) rfl
theorem fl_X7_40 : Cond.fieldLink RX7 40 "BeamKeepers$Part" "kind" "C" ∈ bkTB := bk_w 270 (by decide +kernel) rfl
theorem fl_X6_155 : Cond.fieldLink RX6 155 "BeamKeepers$Part" "kind" "C" ∈ bkTB := bk_w 271 (by decide +kernel) rfl
theorem fl_X4_13 : Cond.fieldLink RX4 13 "BeamKeepers$Part" "number" "I" ∈ bkTB := bk_w 272 (by decide +kernel) rfl
theorem fl_X7_58 : Cond.fieldLink RX7 58 "BeamKeepers$Part" "number" "I" ∈ bkTB := bk_w 273 (by decide +kernel) rfl
theorem fl_X6_168 : Cond.fieldLink RX6 168 "BeamKeepers$Part" "number" "I" ∈ bkTB := bk_w 274 (by decide +kernel) rfl
theorem fl_X4_17 : Cond.fieldLink RX4 17 "BeamKeepers$Part" "cell" "I" ∈ bkTB := bk_w 275 (by decide +kernel) rfl
theorem fl_X7_48 : Cond.fieldLink RX7 48 "BeamKeepers$Part" "cell" "I" ∈ bkTB := bk_w 276 (by decide +kernel) rfl
theorem fl_X6_161 : Cond.fieldLink RX6 161 "BeamKeepers$Part" "cell" "I" ∈ bkTB := bk_w 277 (by decide +kernel) rfl
theorem fl_X4_20 : Cond.fieldLink RX4 20 "BeamKeepers$Part" "harbour" "I" ∈ bkTB := bk_w 278 (by decide +kernel) rfl
theorem fl_X7_68 : Cond.fieldLink RX7 68 "BeamKeepers$Part" "harbour" "I" ∈ bkTB := bk_w 279 (by decide +kernel) rfl
theorem fl_X6_171 : Cond.fieldLink RX6 171 "BeamKeepers$Part" "harbour" "I" ∈ bkTB := bk_w 280 (by decide +kernel) rfl
theorem fl_X4_23 : Cond.fieldLink RX4 23 "BeamKeepers$Part" "wind" "I" ∈ bkTB := bk_w 281 (by decide +kernel) rfl
theorem fl_X7_61 : Cond.fieldLink RX7 61 "BeamKeepers$Part" "wind" "I" ∈ bkTB := bk_w 282 (by decide +kernel) rfl
theorem fl_X6_180 : Cond.fieldLink RX6 180 "BeamKeepers$Part" "wind" "I" ∈ bkTB := bk_w 283 (by decide +kernel) rfl
theorem ac_char : Cond.arrayClass .char ∈ bkTB := bk_w 295 (by decide +kernel) rfl
theorem fl_X7_9 : Cond.fieldLink RX7 9 "BeamKeepers$Text" "characters" "[C" ∈ bkTB := bk_w 296 (by decide +kernel) rfl
theorem fl_X7_15 : Cond.fieldLink RX7 15 "BeamKeepers$Text" "length" "I" ∈ bkTB := bk_w 297 (by decide +kernel) rfl
theorem fl_X8_146 : Cond.fieldLink RX8 146 "BeamKeepers$Text" "length" "I" ∈ bkTB := bk_w 298 (by decide +kernel) rfl
theorem fl_X7_21 : Cond.fieldLink RX7 21 "BeamKeepers$Text" "parts" "[LBeamKeepers$Part;" ∈ bkTB := bk_w 299 (by decide +kernel) rfl
theorem fl_X8_107 : Cond.fieldLink RX8 107 "BeamKeepers$Text" "parts" "[LBeamKeepers$Part;" ∈ bkTB := bk_w 300 (by decide +kernel) rfl
theorem fl_X7_25 : Cond.fieldLink RX7 25 "BeamKeepers$Text" "partCount" "I" ∈ bkTB := bk_w 301 (by decide +kernel) rfl
theorem fl_X8_104 : Cond.fieldLink RX8 104 "BeamKeepers$Text" "partCount" "I" ∈ bkTB := bk_w 302 (by decide +kernel) rfl
theorem fl_X7_28 : Cond.fieldLink RX7 28 "BeamKeepers$Text" "place" "I" ∈ bkTB := bk_w 303 (by decide +kernel) rfl
theorem fl_X8_10 : Cond.fieldLink RX8 10 "BeamKeepers" "bearings" "LBeamKeepers$Bearings;" ∈ bkTB := bk_w 315 (by decide +kernel) rfl
theorem fl_X8_21 : Cond.fieldLink RX8 21 "BeamKeepers" "state" "LBeamKeepers$State;" ∈ bkTB := bk_w 316 (by decide +kernel) rfl
theorem fl_X8_25 : Cond.fieldLink RX8 25 "BeamKeepers" "trial" "LBeamKeepers$State;" ∈ bkTB := bk_w 317 (by decide +kernel) rfl
theorem fl_X8_28 : Cond.fieldLink RX8 28 "BeamKeepers" "snapshot" "LBeamKeepers$State;" ∈ bkTB := bk_w 318 (by decide +kernel) rfl
theorem fl_X8_31 : Cond.fieldLink RX8 31 "BeamKeepers" "hasSnapshot" "Z" ∈ bkTB := bk_w 319 (by decide +kernel) rfl
theorem fl_X8_38 : Cond.fieldLink RX8 38 "BeamKeepers" "history" "LBeamKeepers$History;" ∈ bkTB := bk_w 320 (by decide +kernel) rfl
theorem fl_X8_45 : Cond.fieldLink RX8 45 "BeamKeepers" "text" "LBeamKeepers$Text;" ∈ bkTB := bk_w 321 (by decide +kernel) rfl
theorem ml_L_13 : Cond.methodLink RL 13 yX8_rock ∈ bkTB := bk_w 337 (by decide +kernel) rfl
theorem im_X8_rock : Cond.instanceMethod yX8_rock ∈ bkTB := bk_w 338 (by decide +kernel) rfl
theorem se_X8_rock : Cond.selects RX8 yX8_rock yX8_rock ∈ bkTB := bk_w 339 (by decide +kernel) rfl
theorem cd_X8_rock : Cond.code yX8_rock cX8_rock 3 (some .int) ∈ bkTB := bk_w 340 (by decide +kernel) rfl
theorem ml_X8_49 : Cond.methodLink RX8 49 yX6_rockError ∈ bkTB := bk_w 341 (by decide +kernel) rfl
theorem im_X6_rockError : Cond.instanceMethod yX6_rockError ∈ bkTB := bk_w 342 (by decide +kernel) rfl
theorem se_X6_rockError : Cond.selects RX6 yX6_rockError yX6_rockError ∈ bkTB := bk_w 343 (by decide +kernel) rfl
theorem cd_X6_rockError : Cond.code yX6_rockError cX6_rockError 6 (some .int) ∈ bkTB := bk_w 344 (by decide +kernel) rfl
theorem st_X8_isCell : Cond.static yX8_isCell ∈ bkTB := bk_w 346 (by decide +kernel) rfl
theorem cd_X8_isCell : Cond.code yX8_isCell cX8_isCell 1 (some .boolean) ∈ bkTB := bk_w 347 (by decide +kernel) rfl
theorem ml_X8_53 : Cond.methodLink RX8 53 yX1_record ∈ bkTB := bk_w 349 (by decide +kernel) rfl
theorem im_X1_record : Cond.instanceMethod yX1_record ∈ bkTB := bk_w 350 (by decide +kernel) rfl
theorem se_X1_record : Cond.selects RX1 yX1_record yX1_record ∈ bkTB := bk_w 351 (by decide +kernel) rfl
theorem cd_X1_record : Cond.code yX1_record cX1_record 2 none ∈ bkTB := bk_w 352 (by decide +kernel) rfl
theorem ml_X1_24 : Cond.methodLink RX1 24 yX1_dropOldest ∈ bkTB := bk_w 353 (by decide +kernel) rfl
theorem im_X1_dropOldest : Cond.instanceMethod yX1_dropOldest ∈ bkTB := bk_w 355 (by decide +kernel) rfl
theorem cd_X1_dropOldest : Cond.code yX1_dropOldest cX1_dropOldest 3 none ∈ bkTB := bk_w 356 (by decide +kernel) rfl
theorem ml_X1_27 : Cond.methodLink RX1 27 yX6_copyFrom ∈ bkTB := bk_w 357 (by decide +kernel) rfl
theorem im_X6_copyFrom : Cond.instanceMethod yX6_copyFrom ∈ bkTB := bk_w 358 (by decide +kernel) rfl
theorem se_X6_copyFrom : Cond.selects RX6 yX6_copyFrom yX6_copyFrom ∈ bkTB := bk_w 359 (by decide +kernel) rfl
theorem cd_X6_copyFrom : Cond.code yX6_copyFrom cX6_copyFrom 3 none ∈ bkTB := bk_w 360 (by decide +kernel) rfl
theorem ml_X6_55 : Cond.methodLink RX6 55 arraycopyName ∈ bkTB := bk_w 361 (by decide +kernel) rfl
theorem st_arraycopy : Cond.static arraycopyName ∈ bkTB := bk_w 362 (by decide +kernel) rfl
theorem na_arraycopy : Cond.native arraycopyName ∈ bkTB := bk_w 363 (by decide +kernel) rfl
theorem ml_X6_61 : Cond.methodLink RX6 61 yX3_copyFrom ∈ bkTB := bk_w 364 (by decide +kernel) rfl
theorem im_X3_copyFrom : Cond.instanceMethod yX3_copyFrom ∈ bkTB := bk_w 365 (by decide +kernel) rfl
theorem se_X3_copyFrom : Cond.selects RX3 yX3_copyFrom yX3_copyFrom ∈ bkTB := bk_w 366 (by decide +kernel) rfl
theorem cd_X3_copyFrom : Cond.code yX3_copyFrom cX3_copyFrom 2 none ∈ bkTB := bk_w 367 (by decide +kernel) rfl
theorem ml_X6_65 : Cond.methodLink RX6 65 yX2_copyFrom ∈ bkTB := bk_w 368 (by decide +kernel) rfl
theorem im_X2_copyFrom : Cond.instanceMethod yX2_copyFrom ∈ bkTB := bk_w 369 (by decide +kernel) rfl
theorem se_X2_copyFrom : Cond.selects RX2 yX2_copyFrom yX2_copyFrom ∈ bkTB := bk_w 370 (by decide +kernel) rfl
theorem cd_X2_copyFrom : Cond.code yX2_copyFrom cX2_copyFrom 2 none ∈ bkTB := bk_w 371 (by decide +kernel) rfl
theorem ml_X6_68 : Cond.methodLink RX6 68 yX5_copyFrom ∈ bkTB := bk_w 372 (by decide +kernel) rfl
theorem im_X5_copyFrom : Cond.instanceMethod yX5_copyFrom ∈ bkTB := bk_w 373 (by decide +kernel) rfl
theorem se_X5_copyFrom : Cond.selects RX5 yX5_copyFrom yX5_copyFrom ∈ bkTB := bk_w 374 (by decide +kernel) rfl
theorem cd_X5_copyFrom : Cond.code yX5_copyFrom cX5_copyFrom 2 none ∈ bkTB := bk_w 375 (by decide +kernel) rfl
theorem ml_X8_57 : Cond.methodLink RX8 57 yX6_turnRock ∈ bkTB := bk_w 376 (by decide +kernel) rfl
theorem im_X6_turnRock : Cond.instanceMethod yX6_turnRock ∈ bkTB := bk_w 377 (by decide +kernel) rfl
theorem se_X6_turnRock : Cond.selects RX6 yX6_turnRock yX6_turnRock ∈ bkTB := bk_w 378 (by decide +kernel) rfl
theorem cd_X6_turnRock : Cond.code yX6_turnRock cX6_turnRock 2 none ∈ bkTB := bk_w 379 (by decide +kernel) rfl
theorem ml_X8_61 : Cond.methodLink RX8 61 yX6_rocks ∈ bkTB := bk_w 380 (by decide +kernel) rfl
theorem im_X6_rocks : Cond.instanceMethod yX6_rocks ∈ bkTB := bk_w 381 (by decide +kernel) rfl
theorem se_X6_rocks : Cond.selects RX6 yX6_rocks yX6_rocks ∈ bkTB := bk_w 382 (by decide +kernel) rfl
theorem cd_X6_rocks : Cond.code yX6_rocks cX6_rocks 6 (some .int) ∈ bkTB := bk_w 383 (by decide +kernel) rfl
theorem ml_X6_71 : Cond.methodLink RX6 71 yJ6_bitCount_0f7a4 ∈ bkTB := bk_w 384 (by decide +kernel) rfl
theorem st_J6_bitCount_0f7a4 : Cond.static yJ6_bitCount_0f7a4 ∈ bkTB := bk_w 385 (by decide +kernel) rfl
theorem cd_J6_bitCount_0f7a4 : Cond.code yJ6_bitCount_0f7a4 cJ6_bitCount_0f7a4 1 (some .int) ∈ bkTB := bk_w 386 (by decide +kernel) rfl
theorem co_J6_265 : Cond.constant RJ6 265 1431655765 ∈ bkTB := bk_w 387 (by decide +kernel) rfl
theorem co_J6_266 : Cond.constant RJ6 266 858993459 ∈ bkTB := bk_w 388 (by decide +kernel) rfl
theorem co_J6_267 : Cond.constant RJ6 267 252645135 ∈ bkTB := bk_w 389 (by decide +kernel) rfl
theorem ml_L_18 : Cond.methodLink RL 18 yX8_light ∈ bkTB := bk_w 390 (by decide +kernel) rfl
theorem im_X8_light : Cond.instanceMethod yX8_light ∈ bkTB := bk_w 391 (by decide +kernel) rfl
theorem se_X8_light : Cond.selects RX8 yX8_light yX8_light ∈ bkTB := bk_w 392 (by decide +kernel) rfl
theorem cd_X8_light : Cond.code yX8_light cX8_light 5 (some .int) ∈ bkTB := bk_w 393 (by decide +kernel) rfl
theorem ml_X8_65 : Cond.methodLink RX8 65 yX8_isLight ∈ bkTB := bk_w 394 (by decide +kernel) rfl
theorem st_X8_isLight : Cond.static yX8_isLight ∈ bkTB := bk_w 395 (by decide +kernel) rfl
theorem cd_X8_isLight : Cond.code yX8_isLight cX8_isLight 1 (some .boolean) ∈ bkTB := bk_w 396 (by decide +kernel) rfl
theorem ml_X8_69 : Cond.methodLink RX8 69 yX8_isSetting ∈ bkTB := bk_w 397 (by decide +kernel) rfl
theorem st_X8_isSetting : Cond.static yX8_isSetting ∈ bkTB := bk_w 398 (by decide +kernel) rfl
theorem cd_X8_isSetting : Cond.code yX8_isSetting cX8_isSetting 2 (some .boolean) ∈ bkTB := bk_w 399 (by decide +kernel) rfl
theorem fl_X8_227 : Cond.fieldLink RX8 227 "BeamKeepers" "MOST_SETTING" "[I" ∈ bkTB := bk_w 400 (by decide +kernel) rfl
theorem fl_X8_230 : Cond.fieldLink RX8 230 "BeamKeepers" "LEAST_SETTING" "[I" ∈ bkTB := bk_w 402 (by decide +kernel) rfl
theorem ml_X8_81 : Cond.methodLink RX8 81 yX3_told ∈ bkTB := bk_w 404 (by decide +kernel) rfl
theorem im_X3_told : Cond.instanceMethod yX3_told ∈ bkTB := bk_w 405 (by decide +kernel) rfl
theorem se_X3_told : Cond.selects RX3 yX3_told yX3_told ∈ bkTB := bk_w 406 (by decide +kernel) rfl
theorem cd_X3_told : Cond.code yX3_told cX3_told 3 (some .int) ∈ bkTB := bk_w 407 (by decide +kernel) rfl
theorem ml_X3_47 : Cond.methodLink RX3 47 yX3_beamWind ∈ bkTB := bk_w 408 (by decide +kernel) rfl
theorem im_X3_beamWind : Cond.instanceMethod yX3_beamWind ∈ bkTB := bk_w 409 (by decide +kernel) rfl
theorem se_X3_beamWind : Cond.selects RX3 yX3_beamWind yX3_beamWind ∈ bkTB := bk_w 410 (by decide +kernel) rfl
theorem cd_X3_beamWind : Cond.code yX3_beamWind cX3_beamWind 2 (some .int) ∈ bkTB := bk_w 411 (by decide +kernel) rfl
theorem ml_X3_51 : Cond.methodLink RX3 51 yX3_litCells ∈ bkTB := bk_w 412 (by decide +kernel) rfl
theorem im_X3_litCells : Cond.instanceMethod yX3_litCells ∈ bkTB := bk_w 414 (by decide +kernel) rfl
theorem cd_X3_litCells : Cond.code yX3_litCells cX3_litCells 4 (some .int) ∈ bkTB := bk_w 415 (by decide +kernel) rfl
theorem ml_X3_82 : Cond.methodLink RX3 82 yX3_lightsCell ∈ bkTB := bk_w 416 (by decide +kernel) rfl
theorem im_X3_lightsCell : Cond.instanceMethod yX3_lightsCell ∈ bkTB := bk_w 417 (by decide +kernel) rfl
theorem se_X3_lightsCell : Cond.selects RX3 yX3_lightsCell yX3_lightsCell ∈ bkTB := bk_w 418 (by decide +kernel) rfl
theorem cd_X3_lightsCell : Cond.code yX3_lightsCell cX3_lightsCell 5 (some .boolean) ∈ bkTB := bk_w 419 (by decide +kernel) rfl
theorem ml_X3_60 : Cond.methodLink RX3 60 yX3_reach ∈ bkTB := bk_w 420 (by decide +kernel) rfl
theorem im_X3_reach : Cond.instanceMethod yX3_reach ∈ bkTB := bk_w 422 (by decide +kernel) rfl
theorem cd_X3_reach : Cond.code yX3_reach cX3_reach 2 (some .int) ∈ bkTB := bk_w 423 (by decide +kernel) rfl
theorem ml_X3_63 : Cond.methodLink RX3 63 yX3_isDark ∈ bkTB := bk_w 424 (by decide +kernel) rfl
theorem im_X3_isDark : Cond.instanceMethod yX3_isDark ∈ bkTB := bk_w 426 (by decide +kernel) rfl
theorem cd_X3_isDark : Cond.code yX3_isDark cX3_isDark 2 (some .boolean) ∈ bkTB := bk_w 427 (by decide +kernel) rfl
theorem ml_X8_87 : Cond.methodLink RX8 87 yX3_set ∈ bkTB := bk_w 428 (by decide +kernel) rfl
theorem im_X3_set : Cond.instanceMethod yX3_set ∈ bkTB := bk_w 429 (by decide +kernel) rfl
theorem se_X3_set : Cond.selects RX3 yX3_set yX3_set ∈ bkTB := bk_w 430 (by decide +kernel) rfl
theorem cd_X3_set : Cond.code yX3_set cX3_set 3 none ∈ bkTB := bk_w 431 (by decide +kernel) rfl
theorem ml_L_23 : Cond.methodLink RL 23 yX8_ship ∈ bkTB := bk_w 432 (by decide +kernel) rfl
theorem im_X8_ship : Cond.instanceMethod yX8_ship ∈ bkTB := bk_w 433 (by decide +kernel) rfl
theorem se_X8_ship : Cond.selects RX8 yX8_ship yX8_ship ∈ bkTB := bk_w 434 (by decide +kernel) rfl
theorem cd_X8_ship : Cond.code yX8_ship cX8_ship 5 (some .int) ∈ bkTB := bk_w 435 (by decide +kernel) rfl
theorem ml_X8_91 : Cond.methodLink RX8 91 yX6_shipError ∈ bkTB := bk_w 436 (by decide +kernel) rfl
theorem im_X6_shipError : Cond.instanceMethod yX6_shipError ∈ bkTB := bk_w 437 (by decide +kernel) rfl
theorem se_X6_shipError : Cond.selects RX6 yX6_shipError yX6_shipError ∈ bkTB := bk_w 438 (by decide +kernel) rfl
theorem cd_X6_shipError : Cond.code yX6_shipError cX6_shipError 4 (some .int) ∈ bkTB := bk_w 439 (by decide +kernel) rfl
theorem ml_X6_84 : Cond.methodLink RX6 84 yX6_hasRock ∈ bkTB := bk_w 440 (by decide +kernel) rfl
theorem im_X6_hasRock : Cond.instanceMethod yX6_hasRock ∈ bkTB := bk_w 441 (by decide +kernel) rfl
theorem se_X6_hasRock : Cond.selects RX6 yX6_hasRock yX6_hasRock ∈ bkTB := bk_w 442 (by decide +kernel) rfl
theorem cd_X6_hasRock : Cond.code yX6_hasRock cX6_hasRock 2 (some .boolean) ∈ bkTB := bk_w 443 (by decide +kernel) rfl
theorem ml_X6_87 : Cond.methodLink RX6 87 yX6_shipAtSeaIn ∈ bkTB := bk_w 444 (by decide +kernel) rfl
theorem im_X6_shipAtSeaIn : Cond.instanceMethod yX6_shipAtSeaIn ∈ bkTB := bk_w 445 (by decide +kernel) rfl
theorem se_X6_shipAtSeaIn : Cond.selects RX6 yX6_shipAtSeaIn yX6_shipAtSeaIn ∈ bkTB := bk_w 446 (by decide +kernel) rfl
theorem cd_X6_shipAtSeaIn : Cond.code yX6_shipAtSeaIn cX6_shipAtSeaIn 3 (some .int) ∈ bkTB := bk_w 447 (by decide +kernel) rfl
theorem ml_X8_95 : Cond.methodLink RX8 95 yX6_addShip ∈ bkTB := bk_w 448 (by decide +kernel) rfl
theorem im_X6_addShip : Cond.instanceMethod yX6_addShip ∈ bkTB := bk_w 449 (by decide +kernel) rfl
theorem se_X6_addShip : Cond.selects RX6 yX6_addShip yX6_addShip ∈ bkTB := bk_w 450 (by decide +kernel) rfl
theorem cd_X6_addShip : Cond.code yX6_addShip cX6_addShip 6 (some .int) ∈ bkTB := bk_w 451 (by decide +kernel) rfl
theorem ml_X6_90 : Cond.methodLink RX6 90 yX5_begin ∈ bkTB := bk_w 452 (by decide +kernel) rfl
theorem im_X5_begin : Cond.instanceMethod yX5_begin ∈ bkTB := bk_w 453 (by decide +kernel) rfl
theorem se_X5_begin : Cond.selects RX5 yX5_begin yX5_begin ∈ bkTB := bk_w 454 (by decide +kernel) rfl
theorem cd_X5_begin : Cond.code yX5_begin cX5_begin 4 none ∈ bkTB := bk_w 455 (by decide +kernel) rfl
theorem ml_L_27 : Cond.methodLink RL 27 yX8_doAll ∈ bkTB := bk_w 456 (by decide +kernel) rfl
theorem im_X8_doAll : Cond.instanceMethod yX8_doAll ∈ bkTB := bk_w 457 (by decide +kernel) rfl
theorem se_X8_doAll : Cond.selects RX8 yX8_doAll yX8_doAll ∈ bkTB := bk_w 458 (by decide +kernel) rfl
theorem cd_X8_doAll : Cond.code yX8_doAll cX8_doAll 4 (some .int) ∈ bkTB := bk_w 459 (by decide +kernel) rfl
theorem ml_X8_98 : Cond.methodLink RX8 98 yX7_read ∈ bkTB := bk_w 460 (by decide +kernel) rfl
theorem im_X7_read : Cond.instanceMethod yX7_read ∈ bkTB := bk_w 461 (by decide +kernel) rfl
theorem se_X7_read : Cond.selects RX7 yX7_read yX7_read ∈ bkTB := bk_w 462 (by decide +kernel) rfl
theorem cd_X7_read : Cond.code yX7_read cX7_read 2 (some .int) ∈ bkTB := bk_w 463 (by decide +kernel) rfl
theorem ml_X7_32 : Cond.methodLink RX7 32 yX7_readPart ∈ bkTB := bk_w 464 (by decide +kernel) rfl
theorem im_X7_readPart : Cond.instanceMethod yX7_readPart ∈ bkTB := bk_w 466 (by decide +kernel) rfl
theorem cd_X7_readPart : Cond.code yX7_readPart cX7_readPart 2 (some .boolean) ∈ bkTB := bk_w 467 (by decide +kernel) rfl
theorem ml_X7_36 : Cond.methodLink RX7 36 yX7_readSign ∈ bkTB := bk_w 468 (by decide +kernel) rfl
theorem im_X7_readSign : Cond.instanceMethod yX7_readSign ∈ bkTB := bk_w 470 (by decide +kernel) rfl
theorem cd_X7_readSign : Cond.code yX7_readSign cX7_readSign 2 (some .boolean) ∈ bkTB := bk_w 471 (by decide +kernel) rfl
theorem ml_X7_44 : Cond.methodLink RX7 44 yX7_readCell ∈ bkTB := bk_w 472 (by decide +kernel) rfl
theorem im_X7_readCell : Cond.instanceMethod yX7_readCell ∈ bkTB := bk_w 474 (by decide +kernel) rfl
theorem cd_X7_readCell : Cond.code yX7_readCell cX7_readCell 3 (some .int) ∈ bkTB := bk_w 475 (by decide +kernel) rfl
theorem ml_X7_54 : Cond.methodLink RX7 54 yX7_readDigit ∈ bkTB := bk_w 476 (by decide +kernel) rfl
theorem im_X7_readDigit : Cond.instanceMethod yX7_readDigit ∈ bkTB := bk_w 478 (by decide +kernel) rfl
theorem cd_X7_readDigit : Cond.code yX7_readDigit cX7_readDigit 4 (some .int) ∈ bkTB := bk_w 479 (by decide +kernel) rfl
theorem ml_X7_51 : Cond.methodLink RX7 51 yX7_readShip ∈ bkTB := bk_w 480 (by decide +kernel) rfl
theorem im_X7_readShip : Cond.instanceMethod yX7_readShip ∈ bkTB := bk_w 482 (by decide +kernel) rfl
theorem cd_X7_readShip : Cond.code yX7_readShip cX7_readShip 2 (some .boolean) ∈ bkTB := bk_w 483 (by decide +kernel) rfl
theorem ml_X7_64 : Cond.methodLink RX7 64 yX7_readNumber ∈ bkTB := bk_w 484 (by decide +kernel) rfl
theorem im_X7_readNumber : Cond.instanceMethod yX7_readNumber ∈ bkTB := bk_w 486 (by decide +kernel) rfl
theorem cd_X7_readNumber : Cond.code yX7_readNumber cX7_readNumber 4 (some .int) ∈ bkTB := bk_w 487 (by decide +kernel) rfl
theorem ml_X7_71 : Cond.methodLink RX7 71 yJ9_min_7cf53 ∈ bkTB := bk_w 488 (by decide +kernel) rfl
theorem st_J9_min_7cf53 : Cond.static yJ9_min_7cf53 ∈ bkTB := bk_w 489 (by decide +kernel) rfl
theorem cd_J9_min_7cf53 : Cond.code yJ9_min_7cf53 cJ9_min_7cf53 2 (some .int) ∈ bkTB := bk_w 490 (by decide +kernel) rfl
theorem ml_X8_101 : Cond.methodLink RX8 101 yX6_copyFrom ∈ bkTB := bk_w 491 (by decide +kernel) rfl
theorem ml_X8_111 : Cond.methodLink RX8 111 yX6_doPart ∈ bkTB := bk_w 492 (by decide +kernel) rfl
theorem im_X6_doPart : Cond.instanceMethod yX6_doPart ∈ bkTB := bk_w 493 (by decide +kernel) rfl
theorem se_X6_doPart : Cond.selects RX6 yX6_doPart yX6_doPart ∈ bkTB := bk_w 494 (by decide +kernel) rfl
theorem cd_X6_doPart : Cond.code yX6_doPart cX6_doPart 3 (some .int) ∈ bkTB := bk_w 495 (by decide +kernel) rfl
theorem ml_X6_162 : Cond.methodLink RX6 162 yX6_rockError ∈ bkTB := bk_w 496 (by decide +kernel) rfl
theorem ml_X6_165 : Cond.methodLink RX6 165 yX6_turnRock ∈ bkTB := bk_w 497 (by decide +kernel) rfl
theorem ml_X6_174 : Cond.methodLink RX6 174 yX6_shipError ∈ bkTB := bk_w 498 (by decide +kernel) rfl
theorem ml_X6_177 : Cond.methodLink RX6 177 yX6_addShip ∈ bkTB := bk_w 499 (by decide +kernel) rfl
theorem ml_X6_183 : Cond.methodLink RX6 183 yX3_turnDark ∈ bkTB := bk_w 500 (by decide +kernel) rfl
theorem im_X3_turnDark : Cond.instanceMethod yX3_turnDark ∈ bkTB := bk_w 501 (by decide +kernel) rfl
theorem se_X3_turnDark : Cond.selects RX3 yX3_turnDark yX3_turnDark ∈ bkTB := bk_w 502 (by decide +kernel) rfl
theorem cd_X3_turnDark : Cond.code yX3_turnDark cX3_turnDark 2 none ∈ bkTB := bk_w 503 (by decide +kernel) rfl
theorem ml_X6_186 : Cond.methodLink RX6 186 yX6_passError ∈ bkTB := bk_w 504 (by decide +kernel) rfl
theorem im_X6_passError : Cond.instanceMethod yX6_passError ∈ bkTB := bk_w 505 (by decide +kernel) rfl
theorem se_X6_passError : Cond.selects RX6 yX6_passError yX6_passError ∈ bkTB := bk_w 506 (by decide +kernel) rfl
theorem cd_X6_passError : Cond.code yX6_passError cX6_passError 2 (some .int) ∈ bkTB := bk_w 507 (by decide +kernel) rfl
theorem ml_X6_189 : Cond.methodLink RX6 189 yX6_passHours ∈ bkTB := bk_w 508 (by decide +kernel) rfl
theorem im_X6_passHours : Cond.instanceMethod yX6_passHours ∈ bkTB := bk_w 509 (by decide +kernel) rfl
theorem se_X6_passHours : Cond.selects RX6 yX6_passHours yX6_passHours ∈ bkTB := bk_w 510 (by decide +kernel) rfl
theorem cd_X6_passHours : Cond.code yX6_passHours cX6_passHours 8 (some .int) ∈ bkTB := bk_w 511 (by decide +kernel) rfl
theorem ml_X6_123 : Cond.methodLink RX6 123 yX6_goesToWreck ∈ bkTB := bk_w 512 (by decide +kernel) rfl
theorem im_X6_goesToWreck : Cond.instanceMethod yX6_goesToWreck ∈ bkTB := bk_w 514 (by decide +kernel) rfl
theorem cd_X6_goesToWreck : Cond.code yX6_goesToWreck cX6_goesToWreck 4 (some .boolean) ∈ bkTB := bk_w 515 (by decide +kernel) rfl
theorem ml_X6_134 : Cond.methodLink RX6 134 yX5_nextCell ∈ bkTB := bk_w 516 (by decide +kernel) rfl
theorem im_X5_nextCell : Cond.instanceMethod yX5_nextCell ∈ bkTB := bk_w 517 (by decide +kernel) rfl
theorem se_X5_nextCell : Cond.selects RX5 yX5_nextCell yX5_nextCell ∈ bkTB := bk_w 518 (by decide +kernel) rfl
theorem cd_X5_nextCell : Cond.code yX5_nextCell cX5_nextCell 3 (some .int) ∈ bkTB := bk_w 519 (by decide +kernel) rfl
theorem ml_X5_31 : Cond.methodLink RX5 31 yJ6_compare_7cf53 ∈ bkTB := bk_w 520 (by decide +kernel) rfl
theorem st_J6_compare_7cf53 : Cond.static yJ6_compare_7cf53 ∈ bkTB := bk_w 521 (by decide +kernel) rfl
theorem cd_J6_compare_7cf53 : Cond.code yJ6_compare_7cf53 cJ6_compare_7cf53 2 (some .int) ∈ bkTB := bk_w 522 (by decide +kernel) rfl
theorem ml_X6_119 : Cond.methodLink RX6 119 yX6_litBy ∈ bkTB := bk_w 523 (by decide +kernel) rfl
theorem im_X6_litBy : Cond.instanceMethod yX6_litBy ∈ bkTB := bk_w 524 (by decide +kernel) rfl
theorem se_X6_litBy : Cond.selects RX6 yX6_litBy yX6_litBy ∈ bkTB := bk_w 525 (by decide +kernel) rfl
theorem cd_X6_litBy : Cond.code yX6_litBy cX6_litBy 6 (some .int) ∈ bkTB := bk_w 526 (by decide +kernel) rfl
theorem ml_X6_115 : Cond.methodLink RX6 115 yX3_lightsCell ∈ bkTB := bk_w 527 (by decide +kernel) rfl
theorem ml_X6_141 : Cond.methodLink RX6 141 yX5_breakIn ∈ bkTB := bk_w 528 (by decide +kernel) rfl
theorem im_X5_breakIn : Cond.instanceMethod yX5_breakIn ∈ bkTB := bk_w 529 (by decide +kernel) rfl
theorem se_X5_breakIn : Cond.selects RX5 yX5_breakIn yX5_breakIn ∈ bkTB := bk_w 530 (by decide +kernel) rfl
theorem cd_X5_breakIn : Cond.code yX5_breakIn cX5_breakIn 2 none ∈ bkTB := bk_w 531 (by decide +kernel) rfl
theorem ml_X6_149 : Cond.methodLink RX6 149 yX2_oweWreck ∈ bkTB := bk_w 532 (by decide +kernel) rfl
theorem im_X2_oweWreck : Cond.instanceMethod yX2_oweWreck ∈ bkTB := bk_w 533 (by decide +kernel) rfl
theorem se_X2_oweWreck : Cond.selects RX2 yX2_oweWreck yX2_oweWreck ∈ bkTB := bk_w 534 (by decide +kernel) rfl
theorem cd_X2_oweWreck : Cond.code yX2_oweWreck cX2_oweWreck 2 none ∈ bkTB := bk_w 535 (by decide +kernel) rfl
theorem ml_X6_152 : Cond.methodLink RX6 152 yX5_comeTo ∈ bkTB := bk_w 536 (by decide +kernel) rfl
theorem im_X5_comeTo : Cond.instanceMethod yX5_comeTo ∈ bkTB := bk_w 537 (by decide +kernel) rfl
theorem se_X5_comeTo : Cond.selects RX5 yX5_comeTo yX5_comeTo ∈ bkTB := bk_w 538 (by decide +kernel) rfl
theorem cd_X5_comeTo : Cond.code yX5_comeTo cX5_comeTo 2 none ∈ bkTB := bk_w 539 (by decide +kernel) rfl
theorem ml_X6_127 : Cond.methodLink RX6 127 yX2_earn ∈ bkTB := bk_w 540 (by decide +kernel) rfl
theorem im_X2_earn : Cond.instanceMethod yX2_earn ∈ bkTB := bk_w 541 (by decide +kernel) rfl
theorem se_X2_earn : Cond.selects RX2 yX2_earn yX2_earn ∈ bkTB := bk_w 542 (by decide +kernel) rfl
theorem cd_X2_earn : Cond.code yX2_earn cX2_earn 3 none ∈ bkTB := bk_w 543 (by decide +kernel) rfl
theorem ml_X2_27 : Cond.methodLink RX2 27 yJ9_min_7cf53 ∈ bkTB := bk_w 544 (by decide +kernel) rfl
theorem ml_X6_131 : Cond.methodLink RX6 131 yX3_thinFog ∈ bkTB := bk_w 545 (by decide +kernel) rfl
theorem im_X3_thinFog : Cond.instanceMethod yX3_thinFog ∈ bkTB := bk_w 546 (by decide +kernel) rfl
theorem se_X3_thinFog : Cond.selects RX3 yX3_thinFog yX3_thinFog ∈ bkTB := bk_w 547 (by decide +kernel) rfl
theorem cd_X3_thinFog : Cond.code yX3_thinFog cX3_thinFog 1 none ∈ bkTB := bk_w 548 (by decide +kernel) rfl
theorem ml_L_32 : Cond.methodLink RL 32 yX8_card ∈ bkTB := bk_w 549 (by decide +kernel) rfl
theorem im_X8_card : Cond.instanceMethod yX8_card ∈ bkTB := bk_w 550 (by decide +kernel) rfl
theorem se_X8_card : Cond.selects RX8 yX8_card yX8_card ∈ bkTB := bk_w 551 (by decide +kernel) rfl
theorem cd_X8_card : Cond.code yX8_card cX8_card 3 (some .int) ∈ bkTB := bk_w 552 (by decide +kernel) rfl
theorem ml_X8_115 : Cond.methodLink RX8 115 yX6_canLayCard ∈ bkTB := bk_w 553 (by decide +kernel) rfl
theorem im_X6_canLayCard : Cond.instanceMethod yX6_canLayCard ∈ bkTB := bk_w 554 (by decide +kernel) rfl
theorem se_X6_canLayCard : Cond.selects RX6 yX6_canLayCard yX6_canLayCard ∈ bkTB := bk_w 555 (by decide +kernel) rfl
theorem cd_X6_canLayCard : Cond.code yX6_canLayCard cX6_canLayCard 3 (some .boolean) ∈ bkTB := bk_w 556 (by decide +kernel) rfl
theorem ml_X8_127 : Cond.methodLink RX8 127 yX3_layCard ∈ bkTB := bk_w 557 (by decide +kernel) rfl
theorem im_X3_layCard : Cond.instanceMethod yX3_layCard ∈ bkTB := bk_w 558 (by decide +kernel) rfl
theorem se_X3_layCard : Cond.selects RX3 yX3_layCard yX3_layCard ∈ bkTB := bk_w 559 (by decide +kernel) rfl
theorem cd_X3_layCard : Cond.code yX3_layCard cX3_layCard 1 none ∈ bkTB := bk_w 560 (by decide +kernel) rfl
theorem ml_X3_54 : Cond.methodLink RX3 54 yJ9_min_7cf53 ∈ bkTB := bk_w 561 (by decide +kernel) rfl
theorem ml_L_37 : Cond.methodLink RL 37 yX8_pass ∈ bkTB := bk_w 562 (by decide +kernel) rfl
theorem im_X8_pass : Cond.instanceMethod yX8_pass ∈ bkTB := bk_w 563 (by decide +kernel) rfl
theorem se_X8_pass : Cond.selects RX8 yX8_pass yX8_pass ∈ bkTB := bk_w 564 (by decide +kernel) rfl
theorem cd_X8_pass : Cond.code yX8_pass cX8_pass 3 (some .int) ∈ bkTB := bk_w 565 (by decide +kernel) rfl
theorem ml_X8_133 : Cond.methodLink RX8 133 yX6_passError ∈ bkTB := bk_w 566 (by decide +kernel) rfl
theorem ml_X8_136 : Cond.methodLink RX8 136 yX6_passHours ∈ bkTB := bk_w 567 (by decide +kernel) rfl
theorem ml_L_41 : Cond.methodLink RL 41 yX8_wage ∈ bkTB := bk_w 568 (by decide +kernel) rfl
theorem im_X8_wage : Cond.instanceMethod yX8_wage ∈ bkTB := bk_w 569 (by decide +kernel) rfl
theorem se_X8_wage : Cond.selects RX8 yX8_wage yX8_wage ∈ bkTB := bk_w 570 (by decide +kernel) rfl
theorem cd_X8_wage : Cond.code yX8_wage cX8_wage 3 (some .int) ∈ bkTB := bk_w 571 (by decide +kernel) rfl
theorem ml_L_45 : Cond.methodLink RL 45 yX8_type ∈ bkTB := bk_w 572 (by decide +kernel) rfl
theorem im_X8_type : Cond.instanceMethod yX8_type ∈ bkTB := bk_w 573 (by decide +kernel) rfl
theorem se_X8_type : Cond.selects RX8 yX8_type yX8_type ∈ bkTB := bk_w 574 (by decide +kernel) rfl
theorem cd_X8_type : Cond.code yX8_type cX8_type 2 (some .int) ∈ bkTB := bk_w 575 (by decide +kernel) rfl
theorem ml_X8_142 : Cond.methodLink RX8 142 yX7_append ∈ bkTB := bk_w 576 (by decide +kernel) rfl
theorem im_X7_append : Cond.instanceMethod yX7_append ∈ bkTB := bk_w 577 (by decide +kernel) rfl
theorem se_X7_append : Cond.selects RX7 yX7_append yX7_append ∈ bkTB := bk_w 578 (by decide +kernel) rfl
theorem cd_X7_append : Cond.code yX7_append cX7_append 2 (some .int) ∈ bkTB := bk_w 579 (by decide +kernel) rfl
theorem ml_L_50 : Cond.methodLink RL 50 yX8_clearText ∈ bkTB := bk_w 580 (by decide +kernel) rfl
theorem im_X8_clearText : Cond.instanceMethod yX8_clearText ∈ bkTB := bk_w 581 (by decide +kernel) rfl
theorem se_X8_clearText : Cond.selects RX8 yX8_clearText yX8_clearText ∈ bkTB := bk_w 582 (by decide +kernel) rfl
theorem cd_X8_clearText : Cond.code yX8_clearText cX8_clearText 2 (some .int) ∈ bkTB := bk_w 583 (by decide +kernel) rfl
theorem ml_L_54 : Cond.methodLink RL 54 yX8_fault ∈ bkTB := bk_w 584 (by decide +kernel) rfl
theorem im_X8_fault : Cond.instanceMethod yX8_fault ∈ bkTB := bk_w 585 (by decide +kernel) rfl
theorem se_X8_fault : Cond.selects RX8 yX8_fault yX8_fault ∈ bkTB := bk_w 586 (by decide +kernel) rfl
theorem cd_X8_fault : Cond.code yX8_fault cX8_fault 1 (some .int) ∈ bkTB := bk_w 587 (by decide +kernel) rfl
theorem ml_L_58 : Cond.methodLink RL 58 yX8_undo ∈ bkTB := bk_w 588 (by decide +kernel) rfl
theorem im_X8_undo : Cond.instanceMethod yX8_undo ∈ bkTB := bk_w 589 (by decide +kernel) rfl
theorem se_X8_undo : Cond.selects RX8 yX8_undo yX8_undo ∈ bkTB := bk_w 590 (by decide +kernel) rfl
theorem cd_X8_undo : Cond.code yX8_undo cX8_undo 1 (some .int) ∈ bkTB := bk_w 591 (by decide +kernel) rfl
theorem ml_X8_149 : Cond.methodLink RX8 149 yX1_takeBack ∈ bkTB := bk_w 592 (by decide +kernel) rfl
theorem im_X1_takeBack : Cond.instanceMethod yX1_takeBack ∈ bkTB := bk_w 593 (by decide +kernel) rfl
theorem se_X1_takeBack : Cond.selects RX1 yX1_takeBack yX1_takeBack ∈ bkTB := bk_w 594 (by decide +kernel) rfl
theorem cd_X1_takeBack : Cond.code yX1_takeBack cX1_takeBack 2 (some .int) ∈ bkTB := bk_w 595 (by decide +kernel) rfl
theorem ml_L_62 : Cond.methodLink RL 62 yX8_keep ∈ bkTB := bk_w 596 (by decide +kernel) rfl
theorem im_X8_keep : Cond.instanceMethod yX8_keep ∈ bkTB := bk_w 597 (by decide +kernel) rfl
theorem se_X8_keep : Cond.selects RX8 yX8_keep yX8_keep ∈ bkTB := bk_w 598 (by decide +kernel) rfl
theorem cd_X8_keep : Cond.code yX8_keep cX8_keep 1 (some .int) ∈ bkTB := bk_w 599 (by decide +kernel) rfl
theorem ml_L_66 : Cond.methodLink RL 66 yX8_restore ∈ bkTB := bk_w 600 (by decide +kernel) rfl
theorem im_X8_restore : Cond.instanceMethod yX8_restore ∈ bkTB := bk_w 601 (by decide +kernel) rfl
theorem se_X8_restore : Cond.selects RX8 yX8_restore yX8_restore ∈ bkTB := bk_w 602 (by decide +kernel) rfl
theorem cd_X8_restore : Cond.code yX8_restore cX8_restore 1 (some .int) ∈ bkTB := bk_w 603 (by decide +kernel) rfl
theorem ml_L_70 : Cond.methodLink RL 70 yX8_cellOf ∈ bkTB := bk_w 604 (by decide +kernel) rfl
theorem im_X8_cellOf : Cond.instanceMethod yX8_cellOf ∈ bkTB := bk_w 605 (by decide +kernel) rfl
theorem se_X8_cellOf : Cond.selects RX8 yX8_cellOf yX8_cellOf ∈ bkTB := bk_w 606 (by decide +kernel) rfl
theorem cd_X8_cellOf : Cond.code yX8_cellOf cX8_cellOf 3 (some .int) ∈ bkTB := bk_w 607 (by decide +kernel) rfl
theorem ml_X8_153 : Cond.methodLink RX8 153 yX8_isCell ∈ bkTB := bk_w 608 (by decide +kernel) rfl
theorem ml_X8_156 : Cond.methodLink RX8 156 yX6_hasRock ∈ bkTB := bk_w 609 (by decide +kernel) rfl
theorem ml_X8_159 : Cond.methodLink RX8 159 yX6_shipAtSeaIn ∈ bkTB := bk_w 610 (by decide +kernel) rfl
theorem ml_X8_162 : Cond.methodLink RX8 162 yX6_litBy ∈ bkTB := bk_w 611 (by decide +kernel) rfl
theorem ml_L_74 : Cond.methodLink RL 74 yX8_lightOf ∈ bkTB := bk_w 612 (by decide +kernel) rfl
theorem im_X8_lightOf : Cond.instanceMethod yX8_lightOf ∈ bkTB := bk_w 613 (by decide +kernel) rfl
theorem se_X8_lightOf : Cond.selects RX8 yX8_lightOf yX8_lightOf ∈ bkTB := bk_w 614 (by decide +kernel) rfl
theorem cd_X8_lightOf : Cond.code yX8_lightOf cX8_lightOf 3 (some .int) ∈ bkTB := bk_w 615 (by decide +kernel) rfl
theorem ml_L_78 : Cond.methodLink RL 78 yX8_keeperOf ∈ bkTB := bk_w 616 (by decide +kernel) rfl
theorem im_X8_keeperOf : Cond.instanceMethod yX8_keeperOf ∈ bkTB := bk_w 617 (by decide +kernel) rfl
theorem se_X8_keeperOf : Cond.selects RX8 yX8_keeperOf yX8_keeperOf ∈ bkTB := bk_w 618 (by decide +kernel) rfl
theorem cd_X8_keeperOf : Cond.code yX8_keeperOf cX8_keeperOf 3 (some .int) ∈ bkTB := bk_w 619 (by decide +kernel) rfl
theorem ml_X8_169 : Cond.methodLink RX8 169 yX2_told ∈ bkTB := bk_w 620 (by decide +kernel) rfl
theorem im_X2_told : Cond.instanceMethod yX2_told ∈ bkTB := bk_w 621 (by decide +kernel) rfl
theorem se_X2_told : Cond.selects RX2 yX2_told yX2_told ∈ bkTB := bk_w 622 (by decide +kernel) rfl
theorem cd_X2_told : Cond.code yX2_told cX2_told 2 (some .int) ∈ bkTB := bk_w 623 (by decide +kernel) rfl
theorem ml_L_82 : Cond.methodLink RL 82 yX8_shipOf ∈ bkTB := bk_w 624 (by decide +kernel) rfl
theorem im_X8_shipOf : Cond.instanceMethod yX8_shipOf ∈ bkTB := bk_w 625 (by decide +kernel) rfl
theorem se_X8_shipOf : Cond.selects RX8 yX8_shipOf yX8_shipOf ∈ bkTB := bk_w 626 (by decide +kernel) rfl
theorem cd_X8_shipOf : Cond.code yX8_shipOf cX8_shipOf 3 (some .int) ∈ bkTB := bk_w 627 (by decide +kernel) rfl
theorem ml_X8_174 : Cond.methodLink RX8 174 yX6_placeOf ∈ bkTB := bk_w 628 (by decide +kernel) rfl
theorem im_X6_placeOf : Cond.instanceMethod yX6_placeOf ∈ bkTB := bk_w 629 (by decide +kernel) rfl
theorem se_X6_placeOf : Cond.selects RX6 yX6_placeOf yX6_placeOf ∈ bkTB := bk_w 630 (by decide +kernel) rfl
theorem cd_X6_placeOf : Cond.code yX6_placeOf cX6_placeOf 4 (some .int) ∈ bkTB := bk_w 631 (by decide +kernel) rfl
theorem ml_X8_181 : Cond.methodLink RX8 181 yX5_told ∈ bkTB := bk_w 632 (by decide +kernel) rfl
theorem im_X5_told : Cond.instanceMethod yX5_told ∈ bkTB := bk_w 633 (by decide +kernel) rfl
theorem se_X5_told : Cond.selects RX5 yX5_told yX5_told ∈ bkTB := bk_w 634 (by decide +kernel) rfl
theorem cd_X5_told : Cond.code yX5_told cX5_told 2 (some .int) ∈ bkTB := bk_w 635 (by decide +kernel) rfl
theorem ml_L_86 : Cond.methodLink RL 86 yX8_isLit ∈ bkTB := bk_w 637 (by decide +kernel) rfl
theorem im_X8_isLit : Cond.instanceMethod yX8_isLit ∈ bkTB := bk_w 638 (by decide +kernel) rfl
theorem se_X8_isLit : Cond.selects RX8 yX8_isLit yX8_isLit ∈ bkTB := bk_w 639 (by decide +kernel) rfl
theorem cd_X8_isLit : Cond.code yX8_isLit cX8_isLit 7 (some .int) ∈ bkTB := bk_w 640 (by decide +kernel) rfl
theorem ml_X8_184 : Cond.methodLink RX8 184 yX3_lightsCell ∈ bkTB := bk_w 641 (by decide +kernel) rfl
theorem ml_X8_188 : Cond.methodLink RX8 188 yX3_meetsOnWalk ∈ bkTB := bk_w 642 (by decide +kernel) rfl
theorem im_X3_meetsOnWalk : Cond.instanceMethod yX3_meetsOnWalk ∈ bkTB := bk_w 643 (by decide +kernel) rfl
theorem se_X3_meetsOnWalk : Cond.selects RX3 yX3_meetsOnWalk yX3_meetsOnWalk ∈ bkTB := bk_w 644 (by decide +kernel) rfl
theorem cd_X3_meetsOnWalk : Cond.code yX3_meetsOnWalk cX3_meetsOnWalk 9 (some .boolean) ∈ bkTB := bk_w 645 (by decide +kernel) rfl
theorem ml_X3_67 : Cond.methodLink RX3 67 yX3_cellOnRing ∈ bkTB := bk_w 646 (by decide +kernel) rfl
theorem im_X3_cellOnRing : Cond.instanceMethod yX3_cellOnRing ∈ bkTB := bk_w 648 (by decide +kernel) rfl
theorem cd_X3_cellOnRing : Cond.code yX3_cellOnRing cX3_cellOnRing 5 (some .int) ∈ bkTB := bk_w 649 (by decide +kernel) rfl
theorem ml_X3_70 : Cond.methodLink RX3 70 yX3_eastOnRing ∈ bkTB := bk_w 650 (by decide +kernel) rfl
theorem st_X3_eastOnRing : Cond.static yX3_eastOnRing ∈ bkTB := bk_w 651 (by decide +kernel) rfl
theorem cd_X3_eastOnRing : Cond.code yX3_eastOnRing cX3_eastOnRing 3 (some .int) ∈ bkTB := bk_w 652 (by decide +kernel) rfl
theorem ml_X3_73 : Cond.methodLink RX3 73 yJ9_floorMod_7cf53 ∈ bkTB := bk_w 653 (by decide +kernel) rfl
theorem st_J9_floorMod_7cf53 : Cond.static yJ9_floorMod_7cf53 ∈ bkTB := bk_w 654 (by decide +kernel) rfl
theorem cd_J9_floorMod_7cf53 : Cond.code yJ9_floorMod_7cf53 cJ9_floorMod_7cf53 3 (some .int) ∈ bkTB := bk_w 655 (by decide +kernel) rfl
theorem ml_X3_76 : Cond.methodLink RX3 76 yJ9_abs_0f7a4 ∈ bkTB := bk_w 656 (by decide +kernel) rfl
theorem ml_X3_79 : Cond.methodLink RX3 79 yJ9_max_7cf53 ∈ bkTB := bk_w 657 (by decide +kernel) rfl
theorem ml_L_91 : Cond.methodLink RL 91 yX8_why ∈ bkTB := bk_w 658 (by decide +kernel) rfl
theorem im_X8_why : Cond.instanceMethod yX8_why ∈ bkTB := bk_w 659 (by decide +kernel) rfl
theorem se_X8_why : Cond.selects RX8 yX8_why yX8_why ∈ bkTB := bk_w 660 (by decide +kernel) rfl
theorem cd_X8_why : Cond.code yX8_why cX8_why 3 (some .int) ∈ bkTB := bk_w 661 (by decide +kernel) rfl
theorem ml_X8_191 : Cond.methodLink RX8 191 yX3_whyDark ∈ bkTB := bk_w 662 (by decide +kernel) rfl
theorem im_X3_whyDark : Cond.instanceMethod yX3_whyDark ∈ bkTB := bk_w 663 (by decide +kernel) rfl
theorem se_X3_whyDark : Cond.selects RX3 yX3_whyDark yX3_whyDark ∈ bkTB := bk_w 664 (by decide +kernel) rfl
theorem cd_X3_whyDark : Cond.code yX3_whyDark cX3_whyDark 5 (some .int) ∈ bkTB := bk_w 665 (by decide +kernel) rfl
theorem ml_L_95 : Cond.methodLink RL 95 yX8_count ∈ bkTB := bk_w 666 (by decide +kernel) rfl
theorem im_X8_count : Cond.instanceMethod yX8_count ∈ bkTB := bk_w 667 (by decide +kernel) rfl
theorem se_X8_count : Cond.selects RX8 yX8_count yX8_count ∈ bkTB := bk_w 668 (by decide +kernel) rfl
theorem cd_X8_count : Cond.code yX8_count cX8_count 2 (some .int) ∈ bkTB := bk_w 669 (by decide +kernel) rfl
theorem ml_X8_194 : Cond.methodLink RX8 194 yX6_shipsThatAre ∈ bkTB := bk_w 670 (by decide +kernel) rfl
theorem im_X6_shipsThatAre : Cond.instanceMethod yX6_shipsThatAre ∈ bkTB := bk_w 671 (by decide +kernel) rfl
theorem se_X6_shipsThatAre : Cond.selects RX6 yX6_shipsThatAre yX6_shipsThatAre ∈ bkTB := bk_w 672 (by decide +kernel) rfl
theorem cd_X6_shipsThatAre : Cond.code yX6_shipsThatAre cX6_shipsThatAre 4 (some .int) ∈ bkTB := bk_w 673 (by decide +kernel) rfl
theorem ml_X8_197 : Cond.methodLink RX8 197 yX6_litCells ∈ bkTB := bk_w 674 (by decide +kernel) rfl
theorem im_X6_litCells : Cond.instanceMethod yX6_litCells ∈ bkTB := bk_w 675 (by decide +kernel) rfl
theorem se_X6_litCells : Cond.selects RX6 yX6_litCells yX6_litCells ∈ bkTB := bk_w 676 (by decide +kernel) rfl
theorem cd_X6_litCells : Cond.code yX6_litCells cX6_litCells 4 (some .int) ∈ bkTB := bk_w 677 (by decide +kernel) rfl
theorem ml_X8_201 : Cond.methodLink RX8 201 yX6_debts ∈ bkTB := bk_w 678 (by decide +kernel) rfl
theorem im_X6_debts : Cond.instanceMethod yX6_debts ∈ bkTB := bk_w 679 (by decide +kernel) rfl
theorem se_X6_debts : Cond.selects RX6 yX6_debts yX6_debts ∈ bkTB := bk_w 680 (by decide +kernel) rfl
theorem cd_X6_debts : Cond.code yX6_debts cX6_debts 6 (some .int) ∈ bkTB := bk_w 681 (by decide +kernel) rfl
theorem ml_X8_204 : Cond.methodLink RX8 204 yX6_paid ∈ bkTB := bk_w 682 (by decide +kernel) rfl
theorem im_X6_paid : Cond.instanceMethod yX6_paid ∈ bkTB := bk_w 683 (by decide +kernel) rfl
theorem se_X6_paid : Cond.selects RX6 yX6_paid yX6_paid ∈ bkTB := bk_w 684 (by decide +kernel) rfl
theorem cd_X6_paid : Cond.code yX6_paid cX6_paid 6 (some .int) ∈ bkTB := bk_w 685 (by decide +kernel) rfl
theorem ml_X8_207 : Cond.methodLink RX8 207 yX6_worthHome ∈ bkTB := bk_w 686 (by decide +kernel) rfl
theorem im_X6_worthHome : Cond.instanceMethod yX6_worthHome ∈ bkTB := bk_w 687 (by decide +kernel) rfl
theorem se_X6_worthHome : Cond.selects RX6 yX6_worthHome yX6_worthHome ∈ bkTB := bk_w 688 (by decide +kernel) rfl
theorem cd_X6_worthHome : Cond.code yX6_worthHome cX6_worthHome 3 (some .int) ∈ bkTB := bk_w 689 (by decide +kernel) rfl
theorem ml_L_99 : Cond.methodLink RL 99 yX8_share ∈ bkTB := bk_w 690 (by decide +kernel) rfl
theorem im_X8_share : Cond.instanceMethod yX8_share ∈ bkTB := bk_w 691 (by decide +kernel) rfl
theorem se_X8_share : Cond.selects RX8 yX8_share yX8_share ∈ bkTB := bk_w 692 (by decide +kernel) rfl
theorem cd_X8_share : Cond.code yX8_share cX8_share 4 (some .float) ∈ bkTB := bk_w 693 (by decide +kernel) rfl
theorem co_X8_213 : Cond.constantFloat RX8 213 3212836864 ∈ bkTB := bk_w 694 (by decide +kernel) rfl
theorem co_X8_214 : Cond.constantFloat RX8 214 1090519040 ∈ bkTB := bk_w 695 (by decide +kernel) rfl
theorem ml_L_104 : Cond.methodLink RL 104 yX8_litIn ∈ bkTB := bk_w 696 (by decide +kernel) rfl
theorem im_X8_litIn : Cond.instanceMethod yX8_litIn ∈ bkTB := bk_w 697 (by decide +kernel) rfl
theorem se_X8_litIn : Cond.selects RX8 yX8_litIn yX8_litIn ∈ bkTB := bk_w 698 (by decide +kernel) rfl
theorem cd_X8_litIn : Cond.code yX8_litIn cX8_litIn 3 (some .int) ∈ bkTB := bk_w 699 (by decide +kernel) rfl
theorem ml_L_108 : Cond.methodLink RL 108 yX8_ifPassed ∈ bkTB := bk_w 700 (by decide +kernel) rfl
theorem im_X8_ifPassed : Cond.instanceMethod yX8_ifPassed ∈ bkTB := bk_w 701 (by decide +kernel) rfl
theorem se_X8_ifPassed : Cond.selects RX8 yX8_ifPassed yX8_ifPassed ∈ bkTB := bk_w 702 (by decide +kernel) rfl
theorem cd_X8_ifPassed : Cond.code yX8_ifPassed cX8_ifPassed 4 (some .int) ∈ bkTB := bk_w 703 (by decide +kernel) rfl
theorem ml_X8_215 : Cond.methodLink RX8 215 yX8_isWreckedInTrial ∈ bkTB := bk_w 704 (by decide +kernel) rfl
theorem im_X8_isWreckedInTrial : Cond.instanceMethod yX8_isWreckedInTrial ∈ bkTB := bk_w 706 (by decide +kernel) rfl
theorem cd_X8_isWreckedInTrial : Cond.code yX8_isWreckedInTrial cX8_isWreckedInTrial 2 (some .boolean) ∈ bkTB := bk_w 707 (by decide +kernel) rfl
theorem ml_L_112 : Cond.methodLink RL 112 yX8_bestCard ∈ bkTB := bk_w 708 (by decide +kernel) rfl
theorem im_X8_bestCard : Cond.instanceMethod yX8_bestCard ∈ bkTB := bk_w 709 (by decide +kernel) rfl
theorem se_X8_bestCard : Cond.selects RX8 yX8_bestCard yX8_bestCard ∈ bkTB := bk_w 710 (by decide +kernel) rfl
theorem cd_X8_bestCard : Cond.code yX8_bestCard cX8_bestCard 6 (some .int) ∈ bkTB := bk_w 711 (by decide +kernel) rfl
theorem ml_X8_218 : Cond.methodLink RX8 218 yX8_worthWreckedInTrial ∈ bkTB := bk_w 712 (by decide +kernel) rfl
theorem im_X8_worthWreckedInTrial : Cond.instanceMethod yX8_worthWreckedInTrial ∈ bkTB := bk_w 714 (by decide +kernel) rfl
theorem cd_X8_worthWreckedInTrial : Cond.code yX8_worthWreckedInTrial cX8_worthWreckedInTrial 3 (some .int) ∈ bkTB := bk_w 715 (by decide +kernel) rfl
theorem cl_L_10 : Cond.classLink RL 10 RX9 ∈ bkTB := bk_w 716 (by decide +kernel) rfl
theorem ins_X9 : Cond.instantiable RX9 15 ∈ bkTB := bk_w 717 (by decide +kernel) rfl
theorem ml_L_12 : Cond.methodLink RL 12 yX9_init ∈ bkTB := bk_w 718 (by decide +kernel) rfl
theorem im_X9_init : Cond.instanceMethod yX9_init ∈ bkTB := bk_w 719 (by decide +kernel) rfl
theorem cd_X9_init : Cond.code yX9_init cX9_init 2 none ∈ bkTB := bk_w 720 (by decide +kernel) rfl
theorem ml_X9_1 : Cond.methodLink RX9 1 objectInit ∈ bkTB := bk_w 721 (by decide +kernel) rfl
theorem ml_X9_29 : Cond.methodLink RX9 29 yX9_ofL ∈ bkTB := bk_w 722 (by decide +kernel) rfl
theorem st_X9_ofL : Cond.static yX9_ofL ∈ bkTB := bk_w 723 (by decide +kernel) rfl
theorem cd_X9_ofL : Cond.code yX9_ofL cX9_ofL 2 (some .int) ∈ bkTB := bk_w 724 (by decide +kernel) rfl
theorem ml_X9_33 : Cond.methodLink RX9 33 yX9_ofK ∈ bkTB := bk_w 725 (by decide +kernel) rfl
theorem st_X9_ofK : Cond.static yX9_ofK ∈ bkTB := bk_w 726 (by decide +kernel) rfl
theorem cd_X9_ofK : Cond.code yX9_ofK cX9_ofK 2 (some .int) ∈ bkTB := bk_w 727 (by decide +kernel) rfl
theorem fl_X9_7 : Cond.fieldLink RX9 7 "BeamKeepersModel" "s" "[I" ∈ bkTB := bk_w 728 (by decide +kernel) rfl
theorem fl_X9_13 : Cond.fieldLink RX9 13 "BeamKeepersModel" "aside" "[I" ∈ bkTB := bk_w 729 (by decide +kernel) rfl
theorem fl_X9_16 : Cond.fieldLink RX9 16 "BeamKeepersModel" "past" "[I" ∈ bkTB := bk_w 730 (by decide +kernel) rfl
theorem fl_X9_40 : Cond.fieldLink RX9 40 "BeamKeepersModel" "pasts" "I" ∈ bkTB := bk_w 731 (by decide +kernel) rfl
theorem fl_X9_19 : Cond.fieldLink RX9 19 "BeamKeepersModel" "snapshot" "[I" ∈ bkTB := bk_w 732 (by decide +kernel) rfl
theorem fl_X9_203 : Cond.fieldLink RX9 203 "BeamKeepersModel" "isKept" "Z" ∈ bkTB := bk_w 733 (by decide +kernel) rfl
theorem fl_X9_22 : Cond.fieldLink RX9 22 "BeamKeepersModel" "text" "[C" ∈ bkTB := bk_w 734 (by decide +kernel) rfl
theorem fl_X9_151 : Cond.fieldLink RX9 151 "BeamKeepersModel" "length" "I" ∈ bkTB := bk_w 735 (by decide +kernel) rfl
theorem fl_X9_26 : Cond.fieldLink RX9 26 "BeamKeepersModel" "order" "[I" ∈ bkTB := bk_w 736 (by decide +kernel) rfl
theorem fl_X9_154 : Cond.fieldLink RX9 154 "BeamKeepersModel" "spot" "I" ∈ bkTB := bk_w 737 (by decide +kernel) rfl
theorem fl_X9_157 : Cond.fieldLink RX9 157 "BeamKeepersModel" "isWrong" "Z" ∈ bkTB := bk_w 738 (by decide +kernel) rfl
theorem fl_X9_167 : Cond.fieldLink RX9 167 "BeamKeepersModel" "letter" "I" ∈ bkTB := bk_w 739 (by decide +kernel) rfl
theorem fl_X9_173 : Cond.fieldLink RX9 173 "BeamKeepersModel" "first" "I" ∈ bkTB := bk_w 740 (by decide +kernel) rfl
theorem fl_X9_182 : Cond.fieldLink RX9 182 "BeamKeepersModel" "second" "I" ∈ bkTB := bk_w 741 (by decide +kernel) rfl
theorem fl_X9_185 : Cond.fieldLink RX9 185 "BeamKeepersModel" "third" "I" ∈ bkTB := bk_w 742 (by decide +kernel) rfl
theorem ml_L_17 : Cond.methodLink RL 17 yX9_rock ∈ bkTB := bk_w 774 (by decide +kernel) rfl
theorem im_X9_rock : Cond.instanceMethod yX9_rock ∈ bkTB := bk_w 775 (by decide +kernel) rfl
theorem se_X9_rock : Cond.selects RX9 yX9_rock yX9_rock ∈ bkTB := bk_w 776 (by decide +kernel) rfl
theorem cd_X9_rock : Cond.code yX9_rock cX9_rock 3 (some .int) ∈ bkTB := bk_w 777 (by decide +kernel) rfl
theorem ml_X9_84 : Cond.methodLink RX9 84 yX9_barRock ∈ bkTB := bk_w 778 (by decide +kernel) rfl
theorem st_X9_barRock : Cond.static yX9_barRock ∈ bkTB := bk_w 779 (by decide +kernel) rfl
theorem cd_X9_barRock : Cond.code yX9_barRock cX9_barRock 1 (some .int) ∈ bkTB := bk_w 780 (by decide +kernel) rfl
theorem ml_X9_77 : Cond.methodLink RX9 77 yX9_isCell ∈ bkTB := bk_w 781 (by decide +kernel) rfl
theorem st_X9_isCell : Cond.static yX9_isCell ∈ bkTB := bk_w 782 (by decide +kernel) rfl
theorem cd_X9_isCell : Cond.code yX9_isCell cX9_isCell 1 (some .boolean) ∈ bkTB := bk_w 783 (by decide +kernel) rfl
theorem ml_X9_36 : Cond.methodLink RX9 36 yX9_in ∈ bkTB := bk_w 784 (by decide +kernel) rfl
theorem st_X9_in : Cond.static yX9_in ∈ bkTB := bk_w 785 (by decide +kernel) rfl
theorem cd_X9_in : Cond.code yX9_in cX9_in 3 (some .boolean) ∈ bkTB := bk_w 786 (by decide +kernel) rfl
theorem ml_X9_81 : Cond.methodLink RX9 81 yX9_isHome ∈ bkTB := bk_w 787 (by decide +kernel) rfl
theorem st_X9_isHome : Cond.static yX9_isHome ∈ bkTB := bk_w 788 (by decide +kernel) rfl
theorem cd_X9_isHome : Cond.code yX9_isHome cX9_isHome 1 (some .boolean) ∈ bkTB := bk_w 789 (by decide +kernel) rfl
theorem ml_X9_87 : Cond.methodLink RX9 87 yX9_records ∈ bkTB := bk_w 790 (by decide +kernel) rfl
theorem im_X9_records : Cond.instanceMethod yX9_records ∈ bkTB := bk_w 792 (by decide +kernel) rfl
theorem cd_X9_records : Cond.code yX9_records cX9_records 2 none ∈ bkTB := bk_w 793 (by decide +kernel) rfl
theorem ml_X9_90 : Cond.methodLink RX9 90 yX9_rocks ∈ bkTB := bk_w 794 (by decide +kernel) rfl
theorem im_X9_rocks : Cond.instanceMethod yX9_rocks ∈ bkTB := bk_w 796 (by decide +kernel) rfl
theorem cd_X9_rocks : Cond.code yX9_rocks cX9_rocks 3 (some .int) ∈ bkTB := bk_w 797 (by decide +kernel) rfl
theorem ml_L_22 : Cond.methodLink RL 22 yX9_light ∈ bkTB := bk_w 798 (by decide +kernel) rfl
theorem im_X9_light : Cond.instanceMethod yX9_light ∈ bkTB := bk_w 799 (by decide +kernel) rfl
theorem se_X9_light : Cond.selects RX9 yX9_light yX9_light ∈ bkTB := bk_w 800 (by decide +kernel) rfl
theorem cd_X9_light : Cond.code yX9_light cX9_light 5 (some .int) ∈ bkTB := bk_w 801 (by decide +kernel) rfl
theorem ml_X9_94 : Cond.methodLink RX9 94 yX9_isLight ∈ bkTB := bk_w 802 (by decide +kernel) rfl
theorem st_X9_isLight : Cond.static yX9_isLight ∈ bkTB := bk_w 803 (by decide +kernel) rfl
theorem cd_X9_isLight : Cond.code yX9_isLight cX9_isLight 1 (some .boolean) ∈ bkTB := bk_w 804 (by decide +kernel) rfl
theorem ml_X9_97 : Cond.methodLink RX9 97 yX9_fits ∈ bkTB := bk_w 805 (by decide +kernel) rfl
theorem st_X9_fits : Cond.static yX9_fits ∈ bkTB := bk_w 806 (by decide +kernel) rfl
theorem cd_X9_fits : Cond.code yX9_fits cX9_fits 2 (some .boolean) ∈ bkTB := bk_w 807 (by decide +kernel) rfl
theorem ml_L_26 : Cond.methodLink RL 26 yX9_ship ∈ bkTB := bk_w 808 (by decide +kernel) rfl
theorem im_X9_ship : Cond.instanceMethod yX9_ship ∈ bkTB := bk_w 809 (by decide +kernel) rfl
theorem se_X9_ship : Cond.selects RX9 yX9_ship yX9_ship ∈ bkTB := bk_w 810 (by decide +kernel) rfl
theorem cd_X9_ship : Cond.code yX9_ship cX9_ship 5 (some .int) ∈ bkTB := bk_w 811 (by decide +kernel) rfl
theorem ml_X9_106 : Cond.methodLink RX9 106 yX9_barShip ∈ bkTB := bk_w 812 (by decide +kernel) rfl
theorem im_X9_barShip : Cond.instanceMethod yX9_barShip ∈ bkTB := bk_w 814 (by decide +kernel) rfl
theorem cd_X9_barShip : Cond.code yX9_barShip cX9_barShip 5 (some .int) ∈ bkTB := bk_w 815 (by decide +kernel) rfl
theorem ml_X9_103 : Cond.methodLink RX9 103 yX9_shipIn ∈ bkTB := bk_w 816 (by decide +kernel) rfl
theorem im_X9_shipIn : Cond.instanceMethod yX9_shipIn ∈ bkTB := bk_w 818 (by decide +kernel) rfl
theorem cd_X9_shipIn : Cond.code yX9_shipIn cX9_shipIn 3 (some .int) ∈ bkTB := bk_w 819 (by decide +kernel) rfl
theorem ml_X9_100 : Cond.methodLink RX9 100 yX9_ofS ∈ bkTB := bk_w 820 (by decide +kernel) rfl
theorem st_X9_ofS : Cond.static yX9_ofS ∈ bkTB := bk_w 821 (by decide +kernel) rfl
theorem cd_X9_ofS : Cond.code yX9_ofS cX9_ofS 2 (some .int) ∈ bkTB := bk_w 822 (by decide +kernel) rfl
theorem ml_X9_110 : Cond.methodLink RX9 110 yX9_comes ∈ bkTB := bk_w 823 (by decide +kernel) rfl
theorem im_X9_comes : Cond.instanceMethod yX9_comes ∈ bkTB := bk_w 825 (by decide +kernel) rfl
theorem cd_X9_comes : Cond.code yX9_comes cX9_comes 5 (some .int) ∈ bkTB := bk_w 826 (by decide +kernel) rfl
theorem ml_L_40 : Cond.methodLink RL 40 yX9_pass ∈ bkTB := bk_w 827 (by decide +kernel) rfl
theorem im_X9_pass : Cond.instanceMethod yX9_pass ∈ bkTB := bk_w 828 (by decide +kernel) rfl
theorem se_X9_pass : Cond.selects RX9 yX9_pass yX9_pass ∈ bkTB := bk_w 829 (by decide +kernel) rfl
theorem cd_X9_pass : Cond.code yX9_pass cX9_pass 3 (some .int) ∈ bkTB := bk_w 830 (by decide +kernel) rfl
theorem ml_X9_135 : Cond.methodLink RX9 135 yX9_barPass ∈ bkTB := bk_w 831 (by decide +kernel) rfl
theorem im_X9_barPass : Cond.instanceMethod yX9_barPass ∈ bkTB := bk_w 833 (by decide +kernel) rfl
theorem cd_X9_barPass : Cond.code yX9_barPass cX9_barPass 2 (some .int) ∈ bkTB := bk_w 834 (by decide +kernel) rfl
theorem ml_X9_138 : Cond.methodLink RX9 138 yX9_passes ∈ bkTB := bk_w 835 (by decide +kernel) rfl
theorem im_X9_passes : Cond.instanceMethod yX9_passes ∈ bkTB := bk_w 837 (by decide +kernel) rfl
theorem cd_X9_passes : Cond.code yX9_passes cX9_passes 4 (some .int) ∈ bkTB := bk_w 838 (by decide +kernel) rfl
theorem ml_X9_129 : Cond.methodLink RX9 129 yX9_shipsIn ∈ bkTB := bk_w 839 (by decide +kernel) rfl
theorem im_X9_shipsIn : Cond.instanceMethod yX9_shipsIn ∈ bkTB := bk_w 841 (by decide +kernel) rfl
theorem cd_X9_shipsIn : Cond.code yX9_shipsIn cX9_shipsIn 4 (some .int) ∈ bkTB := bk_w 842 (by decide +kernel) rfl
theorem ml_X9_132 : Cond.methodLink RX9 132 yX9_hour ∈ bkTB := bk_w 843 (by decide +kernel) rfl
theorem im_X9_hour : Cond.instanceMethod yX9_hour ∈ bkTB := bk_w 845 (by decide +kernel) rfl
theorem cd_X9_hour : Cond.code yX9_hour cX9_hour 5 none ∈ bkTB := bk_w 846 (by decide +kernel) rfl
theorem ml_X9_122 : Cond.methodLink RX9 122 yX9_rank ∈ bkTB := bk_w 847 (by decide +kernel) rfl
theorem im_X9_rank : Cond.instanceMethod yX9_rank ∈ bkTB := bk_w 849 (by decide +kernel) rfl
theorem cd_X9_rank : Cond.code yX9_rank cX9_rank 5 (some .int) ∈ bkTB := bk_w 850 (by decide +kernel) rfl
theorem ml_X9_125 : Cond.methodLink RX9 125 yX9_goes ∈ bkTB := bk_w 851 (by decide +kernel) rfl
theorem im_X9_goes : Cond.instanceMethod yX9_goes ∈ bkTB := bk_w 853 (by decide +kernel) rfl
theorem cd_X9_goes : Cond.code yX9_goes cX9_goes 7 none ∈ bkTB := bk_w 854 (by decide +kernel) rfl
theorem ml_X9_113 : Cond.methodLink RX9 113 yX9_towards ∈ bkTB := bk_w 855 (by decide +kernel) rfl
theorem st_X9_towards : Cond.static yX9_towards ∈ bkTB := bk_w 856 (by decide +kernel) rfl
theorem cd_X9_towards : Cond.code yX9_towards cX9_towards 2 (some .int) ∈ bkTB := bk_w 857 (by decide +kernel) rfl
theorem ml_X9_116 : Cond.methodLink RX9 116 yX9_lightsOn ∈ bkTB := bk_w 858 (by decide +kernel) rfl
theorem im_X9_lightsOn : Cond.instanceMethod yX9_lightsOn ∈ bkTB := bk_w 860 (by decide +kernel) rfl
theorem cd_X9_lightsOn : Cond.code yX9_lightsOn cX9_lightsOn 4 (some .int) ∈ bkTB := bk_w 861 (by decide +kernel) rfl
theorem ml_X9_74 : Cond.methodLink RX9 74 yX9_litBy ∈ bkTB := bk_w 862 (by decide +kernel) rfl
theorem im_X9_litBy : Cond.instanceMethod yX9_litBy ∈ bkTB := bk_w 864 (by decide +kernel) rfl
theorem cd_X9_litBy : Cond.code yX9_litBy cX9_litBy 3 (some .boolean) ∈ bkTB := bk_w 865 (by decide +kernel) rfl
theorem ml_X9_70 : Cond.methodLink RX9 70 yX9_lights ∈ bkTB := bk_w 866 (by decide +kernel) rfl
theorem im_X9_lights : Cond.instanceMethod yX9_lights ∈ bkTB := bk_w 868 (by decide +kernel) rfl
theorem cd_X9_lights : Cond.code yX9_lights cX9_lights 6 (some .boolean) ∈ bkTB := bk_w 869 (by decide +kernel) rfl
theorem ml_X9_57 : Cond.methodLink RX9 57 yX9_wind ∈ bkTB := bk_w 870 (by decide +kernel) rfl
theorem st_X9_wind : Cond.static yX9_wind ∈ bkTB := bk_w 871 (by decide +kernel) rfl
theorem cd_X9_wind : Cond.code yX9_wind cX9_wind 4 (some .int) ∈ bkTB := bk_w 872 (by decide +kernel) rfl
theorem ml_X9_54 : Cond.methodLink RX9 54 yX9_home ∈ bkTB := bk_w 873 (by decide +kernel) rfl
theorem st_X9_home : Cond.static yX9_home ∈ bkTB := bk_w 874 (by decide +kernel) rfl
theorem cd_X9_home : Cond.code yX9_home cX9_home 1 (some .int) ∈ bkTB := bk_w 875 (by decide +kernel) rfl
theorem ml_X9_44 : Cond.methodLink RX9 44 yX9_east ∈ bkTB := bk_w 876 (by decide +kernel) rfl
theorem st_X9_east : Cond.static yX9_east ∈ bkTB := bk_w 877 (by decide +kernel) rfl
theorem cd_X9_east : Cond.code yX9_east cX9_east 2 (some .int) ∈ bkTB := bk_w 878 (by decide +kernel) rfl
theorem ml_X9_51 : Cond.methodLink RX9 51 yX9_south ∈ bkTB := bk_w 879 (by decide +kernel) rfl
theorem st_X9_south : Cond.static yX9_south ∈ bkTB := bk_w 880 (by decide +kernel) rfl
theorem cd_X9_south : Cond.code yX9_south cX9_south 2 (some .int) ∈ bkTB := bk_w 881 (by decide +kernel) rfl
theorem ml_X9_47 : Cond.methodLink RX9 47 yX9_size ∈ bkTB := bk_w 882 (by decide +kernel) rfl
theorem st_X9_size : Cond.static yX9_size ∈ bkTB := bk_w 883 (by decide +kernel) rfl
theorem cd_X9_size : Cond.code yX9_size cX9_size 1 (some .int) ∈ bkTB := bk_w 884 (by decide +kernel) rfl
theorem ml_X9_60 : Cond.methodLink RX9 60 yX9_beam ∈ bkTB := bk_w 885 (by decide +kernel) rfl
theorem im_X9_beam : Cond.instanceMethod yX9_beam ∈ bkTB := bk_w 887 (by decide +kernel) rfl
theorem cd_X9_beam : Cond.code yX9_beam cX9_beam 3 (some .int) ∈ bkTB := bk_w 888 (by decide +kernel) rfl
theorem ml_X9_63 : Cond.methodLink RX9 63 yX9_isDark ∈ bkTB := bk_w 889 (by decide +kernel) rfl
theorem im_X9_isDark : Cond.instanceMethod yX9_isDark ∈ bkTB := bk_w 891 (by decide +kernel) rfl
theorem cd_X9_isDark : Cond.code yX9_isDark cX9_isDark 3 (some .boolean) ∈ bkTB := bk_w 892 (by decide +kernel) rfl
theorem ml_X9_67 : Cond.methodLink RX9 67 yX9_distance ∈ bkTB := bk_w 893 (by decide +kernel) rfl
theorem st_X9_distance : Cond.static yX9_distance ∈ bkTB := bk_w 894 (by decide +kernel) rfl
theorem cd_X9_distance : Cond.code yX9_distance cX9_distance 4 (some .int) ∈ bkTB := bk_w 895 (by decide +kernel) rfl
theorem ml_X9_119 : Cond.methodLink RX9 119 yX9_nearest ∈ bkTB := bk_w 896 (by decide +kernel) rfl
theorem st_X9_nearest : Cond.static yX9_nearest ∈ bkTB := bk_w 897 (by decide +kernel) rfl
theorem cd_X9_nearest : Cond.code yX9_nearest cX9_nearest 3 (some .int) ∈ bkTB := bk_w 898 (by decide +kernel) rfl
theorem ml_X9_141 : Cond.methodLink RX9 141 yX9_many ∈ bkTB := bk_w 899 (by decide +kernel) rfl
theorem st_X9_many : Cond.static yX9_many ∈ bkTB := bk_w 900 (by decide +kernel) rfl
theorem cd_X9_many : Cond.code yX9_many cX9_many 3 (some .int) ∈ bkTB := bk_w 901 (by decide +kernel) rfl
theorem ml_L_44 : Cond.methodLink RL 44 yX9_wage ∈ bkTB := bk_w 902 (by decide +kernel) rfl
theorem im_X9_wage : Cond.instanceMethod yX9_wage ∈ bkTB := bk_w 903 (by decide +kernel) rfl
theorem se_X9_wage : Cond.selects RX9 yX9_wage yX9_wage ∈ bkTB := bk_w 904 (by decide +kernel) rfl
theorem cd_X9_wage : Cond.code yX9_wage cX9_wage 3 (some .int) ∈ bkTB := bk_w 905 (by decide +kernel) rfl
theorem ml_L_36 : Cond.methodLink RL 36 yX9_card ∈ bkTB := bk_w 906 (by decide +kernel) rfl
theorem im_X9_card : Cond.instanceMethod yX9_card ∈ bkTB := bk_w 907 (by decide +kernel) rfl
theorem se_X9_card : Cond.selects RX9 yX9_card yX9_card ∈ bkTB := bk_w 908 (by decide +kernel) rfl
theorem cd_X9_card : Cond.code yX9_card cX9_card 3 (some .int) ∈ bkTB := bk_w 909 (by decide +kernel) rfl
theorem ml_X9_144 : Cond.methodLink RX9 144 yX9_canLay ∈ bkTB := bk_w 910 (by decide +kernel) rfl
theorem im_X9_canLay : Cond.instanceMethod yX9_canLay ∈ bkTB := bk_w 912 (by decide +kernel) rfl
theorem cd_X9_canLay : Cond.code yX9_canLay cX9_canLay 3 (some .boolean) ∈ bkTB := bk_w 913 (by decide +kernel) rfl
theorem ml_X9_147 : Cond.methodLink RX9 147 yX9_lays ∈ bkTB := bk_w 914 (by decide +kernel) rfl
theorem im_X9_lays : Cond.instanceMethod yX9_lays ∈ bkTB := bk_w 916 (by decide +kernel) rfl
theorem cd_X9_lays : Cond.code yX9_lays cX9_lays 4 none ∈ bkTB := bk_w 917 (by decide +kernel) rfl
theorem ml_L_49 : Cond.methodLink RL 49 yX9_type ∈ bkTB := bk_w 918 (by decide +kernel) rfl
theorem im_X9_type : Cond.instanceMethod yX9_type ∈ bkTB := bk_w 919 (by decide +kernel) rfl
theorem se_X9_type : Cond.selects RX9 yX9_type yX9_type ∈ bkTB := bk_w 920 (by decide +kernel) rfl
theorem cd_X9_type : Cond.code yX9_type cX9_type 2 (some .int) ∈ bkTB := bk_w 921 (by decide +kernel) rfl
theorem ml_L_53 : Cond.methodLink RL 53 yX9_clearText ∈ bkTB := bk_w 922 (by decide +kernel) rfl
theorem im_X9_clearText : Cond.instanceMethod yX9_clearText ∈ bkTB := bk_w 923 (by decide +kernel) rfl
theorem se_X9_clearText : Cond.selects RX9 yX9_clearText yX9_clearText ∈ bkTB := bk_w 924 (by decide +kernel) rfl
theorem cd_X9_clearText : Cond.code yX9_clearText cX9_clearText 2 (some .int) ∈ bkTB := bk_w 925 (by decide +kernel) rfl
theorem ml_L_57 : Cond.methodLink RL 57 yX9_fault ∈ bkTB := bk_w 926 (by decide +kernel) rfl
theorem im_X9_fault : Cond.instanceMethod yX9_fault ∈ bkTB := bk_w 927 (by decide +kernel) rfl
theorem se_X9_fault : Cond.selects RX9 yX9_fault yX9_fault ∈ bkTB := bk_w 928 (by decide +kernel) rfl
theorem cd_X9_fault : Cond.code yX9_fault cX9_fault 1 (some .int) ∈ bkTB := bk_w 929 (by decide +kernel) rfl
theorem ml_X9_191 : Cond.methodLink RX9 191 yX9_parts ∈ bkTB := bk_w 930 (by decide +kernel) rfl
theorem im_X9_parts : Cond.instanceMethod yX9_parts ∈ bkTB := bk_w 932 (by decide +kernel) rfl
theorem cd_X9_parts : Cond.code yX9_parts cX9_parts 3 (some .int) ∈ bkTB := bk_w 933 (by decide +kernel) rfl
theorem ml_X9_188 : Cond.methodLink RX9 188 yX9_part ∈ bkTB := bk_w 934 (by decide +kernel) rfl
theorem im_X9_part : Cond.instanceMethod yX9_part ∈ bkTB := bk_w 936 (by decide +kernel) rfl
theorem cd_X9_part : Cond.code yX9_part cX9_part 1 none ∈ bkTB := bk_w 937 (by decide +kernel) rfl
theorem ml_X9_161 : Cond.methodLink RX9 161 yX9_next ∈ bkTB := bk_w 938 (by decide +kernel) rfl
theorem im_X9_next : Cond.instanceMethod yX9_next ∈ bkTB := bk_w 940 (by decide +kernel) rfl
theorem cd_X9_next : Cond.code yX9_next cX9_next 1 (some .int) ∈ bkTB := bk_w 941 (by decide +kernel) rfl
theorem ml_X9_170 : Cond.methodLink RX9 170 yX9_cell ∈ bkTB := bk_w 942 (by decide +kernel) rfl
theorem im_X9_cell : Cond.instanceMethod yX9_cell ∈ bkTB := bk_w 944 (by decide +kernel) rfl
theorem cd_X9_cell : Cond.code yX9_cell cX9_cell 3 (some .int) ∈ bkTB := bk_w 945 (by decide +kernel) rfl
theorem ml_X9_164 : Cond.methodLink RX9 164 yX9_digit ∈ bkTB := bk_w 946 (by decide +kernel) rfl
theorem im_X9_digit : Cond.instanceMethod yX9_digit ∈ bkTB := bk_w 948 (by decide +kernel) rfl
theorem cd_X9_digit : Cond.code yX9_digit cX9_digit 4 (some .int) ∈ bkTB := bk_w 949 (by decide +kernel) rfl
theorem ml_X9_176 : Cond.methodLink RX9 176 yX9_number ∈ bkTB := bk_w 950 (by decide +kernel) rfl
theorem im_X9_number : Cond.instanceMethod yX9_number ∈ bkTB := bk_w 952 (by decide +kernel) rfl
theorem cd_X9_number : Cond.code yX9_number cX9_number 4 (some .int) ∈ bkTB := bk_w 953 (by decide +kernel) rfl
theorem ml_X9_179 : Cond.methodLink RX9 179 yX9_sign ∈ bkTB := bk_w 954 (by decide +kernel) rfl
theorem im_X9_sign : Cond.instanceMethod yX9_sign ∈ bkTB := bk_w 956 (by decide +kernel) rfl
theorem cd_X9_sign : Cond.code yX9_sign cX9_sign 2 none ∈ bkTB := bk_w 957 (by decide +kernel) rfl
theorem ml_L_31 : Cond.methodLink RL 31 yX9_doAll ∈ bkTB := bk_w 958 (by decide +kernel) rfl
theorem im_X9_doAll : Cond.instanceMethod yX9_doAll ∈ bkTB := bk_w 959 (by decide +kernel) rfl
theorem se_X9_doAll : Cond.selects RX9 yX9_doAll yX9_doAll ∈ bkTB := bk_w 960 (by decide +kernel) rfl
theorem cd_X9_doAll : Cond.code yX9_doAll cX9_doAll 5 (some .int) ∈ bkTB := bk_w 961 (by decide +kernel) rfl
theorem ml_X9_194 : Cond.methodLink RX9 194 yX9_putAside ∈ bkTB := bk_w 962 (by decide +kernel) rfl
theorem im_X9_putAside : Cond.instanceMethod yX9_putAside ∈ bkTB := bk_w 964 (by decide +kernel) rfl
theorem cd_X9_putAside : Cond.code yX9_putAside cX9_putAside 2 none ∈ bkTB := bk_w 965 (by decide +kernel) rfl
theorem ml_X9_197 : Cond.methodLink RX9 197 yX9_does ∈ bkTB := bk_w 966 (by decide +kernel) rfl
theorem im_X9_does : Cond.instanceMethod yX9_does ∈ bkTB := bk_w 968 (by decide +kernel) rfl
theorem cd_X9_does : Cond.code yX9_does cX9_does 4 (some .int) ∈ bkTB := bk_w 969 (by decide +kernel) rfl
theorem ml_X9_200 : Cond.methodLink RX9 200 yX9_putBack ∈ bkTB := bk_w 970 (by decide +kernel) rfl
theorem im_X9_putBack : Cond.instanceMethod yX9_putBack ∈ bkTB := bk_w 972 (by decide +kernel) rfl
theorem cd_X9_putBack : Cond.code yX9_putBack cX9_putBack 2 none ∈ bkTB := bk_w 973 (by decide +kernel) rfl
theorem ml_L_61 : Cond.methodLink RL 61 yX9_undo ∈ bkTB := bk_w 974 (by decide +kernel) rfl
theorem im_X9_undo : Cond.instanceMethod yX9_undo ∈ bkTB := bk_w 975 (by decide +kernel) rfl
theorem se_X9_undo : Cond.selects RX9 yX9_undo yX9_undo ∈ bkTB := bk_w 976 (by decide +kernel) rfl
theorem cd_X9_undo : Cond.code yX9_undo cX9_undo 2 (some .int) ∈ bkTB := bk_w 977 (by decide +kernel) rfl
theorem ml_L_65 : Cond.methodLink RL 65 yX9_keep ∈ bkTB := bk_w 978 (by decide +kernel) rfl
theorem im_X9_keep : Cond.instanceMethod yX9_keep ∈ bkTB := bk_w 979 (by decide +kernel) rfl
theorem se_X9_keep : Cond.selects RX9 yX9_keep yX9_keep ∈ bkTB := bk_w 980 (by decide +kernel) rfl
theorem cd_X9_keep : Cond.code yX9_keep cX9_keep 2 (some .int) ∈ bkTB := bk_w 981 (by decide +kernel) rfl
theorem ml_L_69 : Cond.methodLink RL 69 yX9_restore ∈ bkTB := bk_w 982 (by decide +kernel) rfl
theorem im_X9_restore : Cond.instanceMethod yX9_restore ∈ bkTB := bk_w 983 (by decide +kernel) rfl
theorem se_X9_restore : Cond.selects RX9 yX9_restore yX9_restore ∈ bkTB := bk_w 984 (by decide +kernel) rfl
theorem cd_X9_restore : Cond.code yX9_restore cX9_restore 2 (some .int) ∈ bkTB := bk_w 985 (by decide +kernel) rfl
theorem ml_L_73 : Cond.methodLink RL 73 yX9_cellOf ∈ bkTB := bk_w 986 (by decide +kernel) rfl
theorem im_X9_cellOf : Cond.instanceMethod yX9_cellOf ∈ bkTB := bk_w 987 (by decide +kernel) rfl
theorem se_X9_cellOf : Cond.selects RX9 yX9_cellOf yX9_cellOf ∈ bkTB := bk_w 988 (by decide +kernel) rfl
theorem cd_X9_cellOf : Cond.code yX9_cellOf cX9_cellOf 3 (some .int) ∈ bkTB := bk_w 989 (by decide +kernel) rfl
theorem ml_L_77 : Cond.methodLink RL 77 yX9_lightOf ∈ bkTB := bk_w 990 (by decide +kernel) rfl
theorem im_X9_lightOf : Cond.instanceMethod yX9_lightOf ∈ bkTB := bk_w 991 (by decide +kernel) rfl
theorem se_X9_lightOf : Cond.selects RX9 yX9_lightOf yX9_lightOf ∈ bkTB := bk_w 992 (by decide +kernel) rfl
theorem cd_X9_lightOf : Cond.code yX9_lightOf cX9_lightOf 3 (some .int) ∈ bkTB := bk_w 993 (by decide +kernel) rfl
theorem ml_X9_206 : Cond.methodLink RX9 206 yX9_litCells ∈ bkTB := bk_w 994 (by decide +kernel) rfl
theorem im_X9_litCells : Cond.instanceMethod yX9_litCells ∈ bkTB := bk_w 996 (by decide +kernel) rfl
theorem cd_X9_litCells : Cond.code yX9_litCells cX9_litCells 4 (some .int) ∈ bkTB := bk_w 997 (by decide +kernel) rfl
theorem ml_L_81 : Cond.methodLink RL 81 yX9_keeperOf ∈ bkTB := bk_w 998 (by decide +kernel) rfl
theorem im_X9_keeperOf : Cond.instanceMethod yX9_keeperOf ∈ bkTB := bk_w 999 (by decide +kernel) rfl
theorem se_X9_keeperOf : Cond.selects RX9 yX9_keeperOf yX9_keeperOf ∈ bkTB := bk_w 1000 (by decide +kernel) rfl
theorem cd_X9_keeperOf : Cond.code yX9_keeperOf cX9_keeperOf 3 (some .int) ∈ bkTB := bk_w 1001 (by decide +kernel) rfl
theorem ml_L_85 : Cond.methodLink RL 85 yX9_shipOf ∈ bkTB := bk_w 1002 (by decide +kernel) rfl
theorem im_X9_shipOf : Cond.instanceMethod yX9_shipOf ∈ bkTB := bk_w 1003 (by decide +kernel) rfl
theorem se_X9_shipOf : Cond.selects RX9 yX9_shipOf yX9_shipOf ∈ bkTB := bk_w 1004 (by decide +kernel) rfl
theorem cd_X9_shipOf : Cond.code yX9_shipOf cX9_shipOf 3 (some .int) ∈ bkTB := bk_w 1005 (by decide +kernel) rfl
theorem ml_X9_209 : Cond.methodLink RX9 209 yX9_isShip ∈ bkTB := bk_w 1006 (by decide +kernel) rfl
theorem im_X9_isShip : Cond.instanceMethod yX9_isShip ∈ bkTB := bk_w 1008 (by decide +kernel) rfl
theorem cd_X9_isShip : Cond.code yX9_isShip cX9_isShip 2 (some .boolean) ∈ bkTB := bk_w 1009 (by decide +kernel) rfl
theorem ml_L_90 : Cond.methodLink RL 90 yX9_isLit ∈ bkTB := bk_w 1010 (by decide +kernel) rfl
theorem im_X9_isLit : Cond.instanceMethod yX9_isLit ∈ bkTB := bk_w 1011 (by decide +kernel) rfl
theorem se_X9_isLit : Cond.selects RX9 yX9_isLit yX9_isLit ∈ bkTB := bk_w 1012 (by decide +kernel) rfl
theorem cd_X9_isLit : Cond.code yX9_isLit cX9_isLit 5 (some .int) ∈ bkTB := bk_w 1013 (by decide +kernel) rfl
theorem ml_L_94 : Cond.methodLink RL 94 yX9_why ∈ bkTB := bk_w 1014 (by decide +kernel) rfl
theorem im_X9_why : Cond.instanceMethod yX9_why ∈ bkTB := bk_w 1015 (by decide +kernel) rfl
theorem se_X9_why : Cond.selects RX9 yX9_why yX9_why ∈ bkTB := bk_w 1016 (by decide +kernel) rfl
theorem cd_X9_why : Cond.code yX9_why cX9_why 5 (some .int) ∈ bkTB := bk_w 1017 (by decide +kernel) rfl
theorem ml_L_98 : Cond.methodLink RL 98 yX9_count ∈ bkTB := bk_w 1018 (by decide +kernel) rfl
theorem im_X9_count : Cond.instanceMethod yX9_count ∈ bkTB := bk_w 1019 (by decide +kernel) rfl
theorem se_X9_count : Cond.selects RX9 yX9_count yX9_count ∈ bkTB := bk_w 1020 (by decide +kernel) rfl
theorem cd_X9_count : Cond.code yX9_count cX9_count 2 (some .int) ∈ bkTB := bk_w 1021 (by decide +kernel) rfl
theorem ml_X9_212 : Cond.methodLink RX9 212 yX9_litNow ∈ bkTB := bk_w 1022 (by decide +kernel) rfl
theorem im_X9_litNow : Cond.instanceMethod yX9_litNow ∈ bkTB := bk_w 1024 (by decide +kernel) rfl
theorem cd_X9_litNow : Cond.code yX9_litNow cX9_litNow 4 (some .int) ∈ bkTB := bk_w 1025 (by decide +kernel) rfl
theorem ml_X9_216 : Cond.methodLink RX9 216 yX9_ofAll ∈ bkTB := bk_w 1026 (by decide +kernel) rfl
theorem im_X9_ofAll : Cond.instanceMethod yX9_ofAll ∈ bkTB := bk_w 1028 (by decide +kernel) rfl
theorem cd_X9_ofAll : Cond.code yX9_ofAll cX9_ofAll 4 (some .int) ∈ bkTB := bk_w 1029 (by decide +kernel) rfl
theorem ml_X9_219 : Cond.methodLink RX9 219 yX9_worth ∈ bkTB := bk_w 1030 (by decide +kernel) rfl
theorem im_X9_worth : Cond.instanceMethod yX9_worth ∈ bkTB := bk_w 1032 (by decide +kernel) rfl
theorem cd_X9_worth : Cond.code yX9_worth cX9_worth 4 (some .int) ∈ bkTB := bk_w 1033 (by decide +kernel) rfl
theorem ml_L_103 : Cond.methodLink RL 103 yX9_share ∈ bkTB := bk_w 1034 (by decide +kernel) rfl
theorem im_X9_share : Cond.instanceMethod yX9_share ∈ bkTB := bk_w 1035 (by decide +kernel) rfl
theorem se_X9_share : Cond.selects RX9 yX9_share yX9_share ∈ bkTB := bk_w 1036 (by decide +kernel) rfl
theorem cd_X9_share : Cond.code yX9_share cX9_share 4 (some .float) ∈ bkTB := bk_w 1037 (by decide +kernel) rfl
theorem co_X9_222 : Cond.constantFloat RX9 222 3212836864 ∈ bkTB := bk_w 1038 (by decide +kernel) rfl
theorem ml_X9_223 : Cond.methodLink RX9 223 yX9_isLitThen ∈ bkTB := bk_w 1039 (by decide +kernel) rfl
theorem im_X9_isLitThen : Cond.instanceMethod yX9_isLitThen ∈ bkTB := bk_w 1041 (by decide +kernel) rfl
theorem cd_X9_isLitThen : Cond.code yX9_isLitThen cX9_isLitThen 7 (some .boolean) ∈ bkTB := bk_w 1042 (by decide +kernel) rfl
theorem co_X9_226 : Cond.constantFloat RX9 226 1090519040 ∈ bkTB := bk_w 1043 (by decide +kernel) rfl
theorem ml_L_107 : Cond.methodLink RL 107 yX9_litIn ∈ bkTB := bk_w 1044 (by decide +kernel) rfl
theorem im_X9_litIn : Cond.instanceMethod yX9_litIn ∈ bkTB := bk_w 1045 (by decide +kernel) rfl
theorem se_X9_litIn : Cond.selects RX9 yX9_litIn yX9_litIn ∈ bkTB := bk_w 1046 (by decide +kernel) rfl
theorem cd_X9_litIn : Cond.code yX9_litIn cX9_litIn 3 (some .int) ∈ bkTB := bk_w 1047 (by decide +kernel) rfl
theorem ml_L_111 : Cond.methodLink RL 111 yX9_ifPassed ∈ bkTB := bk_w 1048 (by decide +kernel) rfl
theorem im_X9_ifPassed : Cond.instanceMethod yX9_ifPassed ∈ bkTB := bk_w 1049 (by decide +kernel) rfl
theorem se_X9_ifPassed : Cond.selects RX9 yX9_ifPassed yX9_ifPassed ∈ bkTB := bk_w 1050 (by decide +kernel) rfl
theorem cd_X9_ifPassed : Cond.code yX9_ifPassed cX9_ifPassed 3 (some .int) ∈ bkTB := bk_w 1051 (by decide +kernel) rfl
theorem ml_L_115 : Cond.methodLink RL 115 yX9_bestCard ∈ bkTB := bk_w 1052 (by decide +kernel) rfl
theorem im_X9_bestCard : Cond.instanceMethod yX9_bestCard ∈ bkTB := bk_w 1053 (by decide +kernel) rfl
theorem se_X9_bestCard : Cond.selects RX9 yX9_bestCard yX9_bestCard ∈ bkTB := bk_w 1054 (by decide +kernel) rfl
theorem cd_X9_bestCard : Cond.code yX9_bestCard cX9_bestCard 6 (some .int) ∈ bkTB := bk_w 1055 (by decide +kernel) rfl
theorem se_X1_dropOldest : Cond.selects RX1 yX1_dropOldest yX1_dropOldest ∈ bkTB := bk_w 0 (by decide +kernel) rfl
theorem se_X3_litCells : Cond.selects RX3 yX3_litCells yX3_litCells ∈ bkTB := bk_w 1 (by decide +kernel) rfl
theorem se_X3_reach : Cond.selects RX3 yX3_reach yX3_reach ∈ bkTB := bk_w 2 (by decide +kernel) rfl
theorem se_X3_isDark : Cond.selects RX3 yX3_isDark yX3_isDark ∈ bkTB := bk_w 3 (by decide +kernel) rfl
theorem se_X7_readPart : Cond.selects RX7 yX7_readPart yX7_readPart ∈ bkTB := bk_w 4 (by decide +kernel) rfl
theorem se_X7_readSign : Cond.selects RX7 yX7_readSign yX7_readSign ∈ bkTB := bk_w 5 (by decide +kernel) rfl
theorem se_X7_readCell : Cond.selects RX7 yX7_readCell yX7_readCell ∈ bkTB := bk_w 6 (by decide +kernel) rfl
theorem se_X7_readDigit : Cond.selects RX7 yX7_readDigit yX7_readDigit ∈ bkTB := bk_w 7 (by decide +kernel) rfl
theorem se_X7_readShip : Cond.selects RX7 yX7_readShip yX7_readShip ∈ bkTB := bk_w 8 (by decide +kernel) rfl
theorem se_X7_readNumber : Cond.selects RX7 yX7_readNumber yX7_readNumber ∈ bkTB := bk_w 9 (by decide +kernel) rfl
theorem se_X6_goesToWreck : Cond.selects RX6 yX6_goesToWreck yX6_goesToWreck ∈ bkTB := bk_w 10 (by decide +kernel) rfl
theorem se_X3_cellOnRing : Cond.selects RX3 yX3_cellOnRing yX3_cellOnRing ∈ bkTB := bk_w 11 (by decide +kernel) rfl
theorem se_X8_isWreckedInTrial : Cond.selects RX8 yX8_isWreckedInTrial yX8_isWreckedInTrial ∈ bkTB := bk_w 12 (by decide +kernel) rfl
theorem se_X8_worthWreckedInTrial : Cond.selects RX8 yX8_worthWreckedInTrial yX8_worthWreckedInTrial ∈ bkTB := bk_w 13 (by decide +kernel) rfl
theorem se_X9_records : Cond.selects RX9 yX9_records yX9_records ∈ bkTB := bk_w 14 (by decide +kernel) rfl
theorem se_X9_rocks : Cond.selects RX9 yX9_rocks yX9_rocks ∈ bkTB := bk_w 15 (by decide +kernel) rfl
theorem se_X9_barShip : Cond.selects RX9 yX9_barShip yX9_barShip ∈ bkTB := bk_w 16 (by decide +kernel) rfl
theorem se_X9_shipIn : Cond.selects RX9 yX9_shipIn yX9_shipIn ∈ bkTB := bk_w 17 (by decide +kernel) rfl
theorem se_X9_comes : Cond.selects RX9 yX9_comes yX9_comes ∈ bkTB := bk_w 18 (by decide +kernel) rfl
theorem se_X9_barPass : Cond.selects RX9 yX9_barPass yX9_barPass ∈ bkTB := bk_w 19 (by decide +kernel) rfl
theorem se_X9_passes : Cond.selects RX9 yX9_passes yX9_passes ∈ bkTB := bk_w 20 (by decide +kernel) rfl
theorem se_X9_shipsIn : Cond.selects RX9 yX9_shipsIn yX9_shipsIn ∈ bkTB := bk_w 21 (by decide +kernel) rfl
theorem se_X9_hour : Cond.selects RX9 yX9_hour yX9_hour ∈ bkTB := bk_w 22 (by decide +kernel) rfl
theorem se_X9_rank : Cond.selects RX9 yX9_rank yX9_rank ∈ bkTB := bk_w 23 (by decide +kernel) rfl
theorem se_X9_goes : Cond.selects RX9 yX9_goes yX9_goes ∈ bkTB := bk_w 24 (by decide +kernel) rfl
theorem se_X9_lightsOn : Cond.selects RX9 yX9_lightsOn yX9_lightsOn ∈ bkTB := bk_w 25 (by decide +kernel) rfl
theorem se_X9_litBy : Cond.selects RX9 yX9_litBy yX9_litBy ∈ bkTB := bk_w 26 (by decide +kernel) rfl
theorem se_X9_lights : Cond.selects RX9 yX9_lights yX9_lights ∈ bkTB := bk_w 27 (by decide +kernel) rfl
theorem se_X9_beam : Cond.selects RX9 yX9_beam yX9_beam ∈ bkTB := bk_w 28 (by decide +kernel) rfl
theorem se_X9_isDark : Cond.selects RX9 yX9_isDark yX9_isDark ∈ bkTB := bk_w 29 (by decide +kernel) rfl
theorem se_X9_canLay : Cond.selects RX9 yX9_canLay yX9_canLay ∈ bkTB := bk_w 30 (by decide +kernel) rfl
theorem se_X9_lays : Cond.selects RX9 yX9_lays yX9_lays ∈ bkTB := bk_w 31 (by decide +kernel) rfl
theorem se_X9_parts : Cond.selects RX9 yX9_parts yX9_parts ∈ bkTB := bk_w 32 (by decide +kernel) rfl
theorem se_X9_part : Cond.selects RX9 yX9_part yX9_part ∈ bkTB := bk_w 33 (by decide +kernel) rfl
theorem se_X9_next : Cond.selects RX9 yX9_next yX9_next ∈ bkTB := bk_w 34 (by decide +kernel) rfl
theorem se_X9_cell : Cond.selects RX9 yX9_cell yX9_cell ∈ bkTB := bk_w 35 (by decide +kernel) rfl
theorem se_X9_digit : Cond.selects RX9 yX9_digit yX9_digit ∈ bkTB := bk_w 36 (by decide +kernel) rfl
theorem se_X9_number : Cond.selects RX9 yX9_number yX9_number ∈ bkTB := bk_w 37 (by decide +kernel) rfl
theorem se_X9_sign : Cond.selects RX9 yX9_sign yX9_sign ∈ bkTB := bk_w 38 (by decide +kernel) rfl
theorem se_X9_putAside : Cond.selects RX9 yX9_putAside yX9_putAside ∈ bkTB := bk_w 39 (by decide +kernel) rfl
theorem se_X9_does : Cond.selects RX9 yX9_does yX9_does ∈ bkTB := bk_w 40 (by decide +kernel) rfl
theorem se_X9_putBack : Cond.selects RX9 yX9_putBack yX9_putBack ∈ bkTB := bk_w 41 (by decide +kernel) rfl
theorem se_X9_litCells : Cond.selects RX9 yX9_litCells yX9_litCells ∈ bkTB := bk_w 42 (by decide +kernel) rfl
theorem se_X9_isShip : Cond.selects RX9 yX9_isShip yX9_isShip ∈ bkTB := bk_w 43 (by decide +kernel) rfl
theorem se_X9_litNow : Cond.selects RX9 yX9_litNow yX9_litNow ∈ bkTB := bk_w 44 (by decide +kernel) rfl
theorem se_X9_ofAll : Cond.selects RX9 yX9_ofAll yX9_ofAll ∈ bkTB := bk_w 45 (by decide +kernel) rfl
theorem se_X9_worth : Cond.selects RX9 yX9_worth yX9_worth ∈ bkTB := bk_w 46 (by decide +kernel) rfl
theorem se_X9_isLitThen : Cond.selects RX9 yX9_isLitThen yX9_isLitThen ∈ bkTB := bk_w 47 (by decide +kernel) rfl
theorem la_X0_0 : Cond.laysFinal RX0 "BeamKeepers$Bearings" "winds" "[[I" ∈ bkTB := bk_w 100 (by decide +kernel) rfl
theorem la_X0_1 : Cond.laysFinal RX0 "BeamKeepers$Bearings" "distances" "[[I" ∈ bkTB := bk_w 102 (by decide +kernel) rfl
theorem la_X0_2 : Cond.laysFinal RX0 "BeamKeepers$Bearings" "nearest" "[I" ∈ bkTB := bk_w 104 (by decide +kernel) rfl
theorem inX0 : ∀ w ∈ u_ws RX0 TX0 3, w ∈ bkTB := bk_in fun k hk => match k, hk with
  | 0, _ => la_X0_0
  | 1, _ => la_X0_1
  | 2, _ => la_X0_2
  | k + 3, h => absurd h (by omega)
theorem la_X1_0 : Cond.laysFinal RX1 "BeamKeepers$History" "states" "[LBeamKeepers$State;" ∈ bkTB := bk_w 251 (by decide +kernel) rfl
theorem la_X1_1 : Cond.lays RX1 "BeamKeepers$History" "size" "I" ∈ bkTB := bk_w 253 (by decide +kernel) rfl
theorem inX1 : ∀ w ∈ u_ws RX1 TX1 2, w ∈ bkTB := bk_in fun k hk => match k, hk with
  | 0, _ => la_X1_0
  | 1, _ => la_X1_1
  | k + 2, h => absurd h (by omega)
theorem la_X2_0 : Cond.lays RX2 "BeamKeepers$Keeper" "coins" "I" ∈ bkTB := bk_w 167 (by decide +kernel) rfl
theorem la_X2_1 : Cond.lays RX2 "BeamKeepers$Keeper" "debt" "I" ∈ bkTB := bk_w 169 (by decide +kernel) rfl
theorem la_X2_2 : Cond.lays RX2 "BeamKeepers$Keeper" "cards" "I" ∈ bkTB := bk_w 171 (by decide +kernel) rfl
theorem la_X2_3 : Cond.lays RX2 "BeamKeepers$Keeper" "wrecks" "I" ∈ bkTB := bk_w 173 (by decide +kernel) rfl
theorem la_X2_4 : Cond.lays RX2 "BeamKeepers$Keeper" "paid" "I" ∈ bkTB := bk_w 175 (by decide +kernel) rfl
theorem inX2 : ∀ w ∈ u_ws RX2 TX2 5, w ∈ bkTB := bk_in fun k hk => match k, hk with
  | 0, _ => la_X2_0
  | 1, _ => la_X2_1
  | 2, _ => la_X2_2
  | 3, _ => la_X2_3
  | 4, _ => la_X2_4
  | k + 5, h => absurd h (by omega)
theorem la_X3_0 : Cond.laysFinal RX3 "BeamKeepers$Light" "ownCell" "I" ∈ bkTB := bk_w 136 (by decide +kernel) rfl
theorem la_X3_1 : Cond.laysFinal RX3 "BeamKeepers$Light" "winds" "[I" ∈ bkTB := bk_w 138 (by decide +kernel) rfl
theorem la_X3_2 : Cond.laysFinal RX3 "BeamKeepers$Light" "distances" "[I" ∈ bkTB := bk_w 140 (by decide +kernel) rfl
theorem la_X3_3 : Cond.lays RX3 "BeamKeepers$Light" "start" "I" ∈ bkTB := bk_w 142 (by decide +kernel) rfl
theorem la_X3_4 : Cond.lays RX3 "BeamKeepers$Light" "pace" "I" ∈ bkTB := bk_w 144 (by decide +kernel) rfl
theorem la_X3_5 : Cond.lays RX3 "BeamKeepers$Light" "range" "I" ∈ bkTB := bk_w 146 (by decide +kernel) rfl
theorem la_X3_6 : Cond.lays RX3 "BeamKeepers$Light" "dark" "I" ∈ bkTB := bk_w 148 (by decide +kernel) rfl
theorem la_X3_7 : Cond.lays RX3 "BeamKeepers$Light" "fog" "I" ∈ bkTB := bk_w 150 (by decide +kernel) rfl
theorem inX3 : ∀ w ∈ u_ws RX3 TX3 8, w ∈ bkTB := bk_in fun k hk => match k, hk with
  | 0, _ => la_X3_0
  | 1, _ => la_X3_1
  | 2, _ => la_X3_2
  | 3, _ => la_X3_3
  | 4, _ => la_X3_4
  | 5, _ => la_X3_5
  | 6, _ => la_X3_6
  | 7, _ => la_X3_7
  | k + 8, h => absurd h (by omega)
theorem la_X4_0 : Cond.lays RX4 "BeamKeepers$Part" "kind" "C" ∈ bkTB := bk_w 284 (by decide +kernel) rfl
theorem la_X4_1 : Cond.lays RX4 "BeamKeepers$Part" "number" "I" ∈ bkTB := bk_w 286 (by decide +kernel) rfl
theorem la_X4_2 : Cond.lays RX4 "BeamKeepers$Part" "cell" "I" ∈ bkTB := bk_w 288 (by decide +kernel) rfl
theorem la_X4_3 : Cond.lays RX4 "BeamKeepers$Part" "harbour" "I" ∈ bkTB := bk_w 290 (by decide +kernel) rfl
theorem la_X4_4 : Cond.lays RX4 "BeamKeepers$Part" "wind" "I" ∈ bkTB := bk_w 292 (by decide +kernel) rfl
theorem inX4 : ∀ w ∈ u_ws RX4 TX4 5, w ∈ bkTB := bk_in fun k hk => match k, hk with
  | 0, _ => la_X4_0
  | 1, _ => la_X4_1
  | 2, _ => la_X4_2
  | 3, _ => la_X4_3
  | 4, _ => la_X4_4
  | k + 5, h => absurd h (by omega)
theorem la_X5_0 : Cond.lays RX5 "BeamKeepers$Ship" "worth" "I" ∈ bkTB := bk_w 194 (by decide +kernel) rfl
theorem la_X5_1 : Cond.lays RX5 "BeamKeepers$Ship" "cell" "I" ∈ bkTB := bk_w 196 (by decide +kernel) rfl
theorem la_X5_2 : Cond.lays RX5 "BeamKeepers$Ship" "harbour" "I" ∈ bkTB := bk_w 198 (by decide +kernel) rfl
theorem la_X5_3 : Cond.lays RX5 "BeamKeepers$Ship" "condition" "I" ∈ bkTB := bk_w 200 (by decide +kernel) rfl
theorem la_X5_4 : Cond.lays RX5 "BeamKeepers$Ship" "waited" "I" ∈ bkTB := bk_w 202 (by decide +kernel) rfl
theorem inX5 : ∀ w ∈ u_ws RX5 TX5 5, w ∈ bkTB := bk_in fun k hk => match k, hk with
  | 0, _ => la_X5_0
  | 1, _ => la_X5_1
  | 2, _ => la_X5_2
  | 3, _ => la_X5_3
  | 4, _ => la_X5_4
  | k + 5, h => absurd h (by omega)
theorem la_X6_0 : Cond.laysFinal RX6 "BeamKeepers$State" "bearings" "LBeamKeepers$Bearings;" ∈ bkTB := bk_w 220 (by decide +kernel) rfl
theorem la_X6_1 : Cond.laysFinal RX6 "BeamKeepers$State" "rockRows" "[I" ∈ bkTB := bk_w 222 (by decide +kernel) rfl
theorem la_X6_2 : Cond.laysFinal RX6 "BeamKeepers$State" "lights" "[LBeamKeepers$Light;" ∈ bkTB := bk_w 224 (by decide +kernel) rfl
theorem la_X6_3 : Cond.laysFinal RX6 "BeamKeepers$State" "keepers" "[LBeamKeepers$Keeper;" ∈ bkTB := bk_w 226 (by decide +kernel) rfl
theorem la_X6_4 : Cond.laysFinal RX6 "BeamKeepers$State" "ships" "[LBeamKeepers$Ship;" ∈ bkTB := bk_w 228 (by decide +kernel) rfl
theorem la_X6_5 : Cond.laysFinal RX6 "BeamKeepers$State" "goingOrder" "[I" ∈ bkTB := bk_w 230 (by decide +kernel) rfl
theorem la_X6_6 : Cond.lays RX6 "BeamKeepers$State" "shipCount" "I" ∈ bkTB := bk_w 232 (by decide +kernel) rfl
theorem la_X6_7 : Cond.lays RX6 "BeamKeepers$State" "wage" "I" ∈ bkTB := bk_w 234 (by decide +kernel) rfl
theorem la_X6_8 : Cond.lays RX6 "BeamKeepers$State" "hour" "I" ∈ bkTB := bk_w 236 (by decide +kernel) rfl
theorem inX6 : ∀ w ∈ u_ws RX6 TX6 9, w ∈ bkTB := bk_in fun k hk => match k, hk with
  | 0, _ => la_X6_0
  | 1, _ => la_X6_1
  | 2, _ => la_X6_2
  | 3, _ => la_X6_3
  | 4, _ => la_X6_4
  | 5, _ => la_X6_5
  | 6, _ => la_X6_6
  | 7, _ => la_X6_7
  | 8, _ => la_X6_8
  | k + 9, h => absurd h (by omega)
theorem la_X7_0 : Cond.laysFinal RX7 "BeamKeepers$Text" "characters" "[C" ∈ bkTB := bk_w 304 (by decide +kernel) rfl
theorem la_X7_1 : Cond.lays RX7 "BeamKeepers$Text" "length" "I" ∈ bkTB := bk_w 306 (by decide +kernel) rfl
theorem la_X7_2 : Cond.laysFinal RX7 "BeamKeepers$Text" "parts" "[LBeamKeepers$Part;" ∈ bkTB := bk_w 308 (by decide +kernel) rfl
theorem la_X7_3 : Cond.lays RX7 "BeamKeepers$Text" "partCount" "I" ∈ bkTB := bk_w 310 (by decide +kernel) rfl
theorem la_X7_4 : Cond.lays RX7 "BeamKeepers$Text" "place" "I" ∈ bkTB := bk_w 312 (by decide +kernel) rfl
theorem inX7 : ∀ w ∈ u_ws RX7 TX7 5, w ∈ bkTB := bk_in fun k hk => match k, hk with
  | 0, _ => la_X7_0
  | 1, _ => la_X7_1
  | 2, _ => la_X7_2
  | 3, _ => la_X7_3
  | 4, _ => la_X7_4
  | k + 5, h => absurd h (by omega)
theorem la_X8_0 : Cond.laysFinal RX8 "BeamKeepers" "bearings" "LBeamKeepers$Bearings;" ∈ bkTB := bk_w 322 (by decide +kernel) rfl
theorem la_X8_1 : Cond.laysFinal RX8 "BeamKeepers" "state" "LBeamKeepers$State;" ∈ bkTB := bk_w 324 (by decide +kernel) rfl
theorem la_X8_2 : Cond.laysFinal RX8 "BeamKeepers" "trial" "LBeamKeepers$State;" ∈ bkTB := bk_w 326 (by decide +kernel) rfl
theorem la_X8_3 : Cond.laysFinal RX8 "BeamKeepers" "snapshot" "LBeamKeepers$State;" ∈ bkTB := bk_w 328 (by decide +kernel) rfl
theorem la_X8_4 : Cond.lays RX8 "BeamKeepers" "hasSnapshot" "Z" ∈ bkTB := bk_w 330 (by decide +kernel) rfl
theorem la_X8_5 : Cond.laysFinal RX8 "BeamKeepers" "history" "LBeamKeepers$History;" ∈ bkTB := bk_w 332 (by decide +kernel) rfl
theorem la_X8_6 : Cond.laysFinal RX8 "BeamKeepers" "text" "LBeamKeepers$Text;" ∈ bkTB := bk_w 334 (by decide +kernel) rfl
theorem inX8 : ∀ w ∈ u_ws RX8 TX8 7, w ∈ bkTB := bk_in fun k hk => match k, hk with
  | 0, _ => la_X8_0
  | 1, _ => la_X8_1
  | 2, _ => la_X8_2
  | 3, _ => la_X8_3
  | 4, _ => la_X8_4
  | 5, _ => la_X8_5
  | 6, _ => la_X8_6
  | k + 7, h => absurd h (by omega)
theorem la_X9_0 : Cond.laysFinal RX9 "BeamKeepersModel" "s" "[I" ∈ bkTB := bk_w 743 (by decide +kernel) rfl
theorem la_X9_1 : Cond.laysFinal RX9 "BeamKeepersModel" "aside" "[I" ∈ bkTB := bk_w 745 (by decide +kernel) rfl
theorem la_X9_2 : Cond.laysFinal RX9 "BeamKeepersModel" "past" "[I" ∈ bkTB := bk_w 747 (by decide +kernel) rfl
theorem la_X9_3 : Cond.lays RX9 "BeamKeepersModel" "pasts" "I" ∈ bkTB := bk_w 749 (by decide +kernel) rfl
theorem la_X9_4 : Cond.laysFinal RX9 "BeamKeepersModel" "snapshot" "[I" ∈ bkTB := bk_w 751 (by decide +kernel) rfl
theorem la_X9_5 : Cond.lays RX9 "BeamKeepersModel" "isKept" "Z" ∈ bkTB := bk_w 753 (by decide +kernel) rfl
theorem la_X9_6 : Cond.laysFinal RX9 "BeamKeepersModel" "text" "[C" ∈ bkTB := bk_w 755 (by decide +kernel) rfl
theorem la_X9_7 : Cond.lays RX9 "BeamKeepersModel" "length" "I" ∈ bkTB := bk_w 757 (by decide +kernel) rfl
theorem la_X9_8 : Cond.laysFinal RX9 "BeamKeepersModel" "order" "[I" ∈ bkTB := bk_w 759 (by decide +kernel) rfl
theorem la_X9_9 : Cond.lays RX9 "BeamKeepersModel" "spot" "I" ∈ bkTB := bk_w 761 (by decide +kernel) rfl
theorem la_X9_10 : Cond.lays RX9 "BeamKeepersModel" "isWrong" "Z" ∈ bkTB := bk_w 763 (by decide +kernel) rfl
theorem la_X9_11 : Cond.lays RX9 "BeamKeepersModel" "letter" "I" ∈ bkTB := bk_w 765 (by decide +kernel) rfl
theorem la_X9_12 : Cond.lays RX9 "BeamKeepersModel" "first" "I" ∈ bkTB := bk_w 767 (by decide +kernel) rfl
theorem la_X9_13 : Cond.lays RX9 "BeamKeepersModel" "second" "I" ∈ bkTB := bk_w 769 (by decide +kernel) rfl
theorem la_X9_14 : Cond.lays RX9 "BeamKeepersModel" "third" "I" ∈ bkTB := bk_w 771 (by decide +kernel) rfl
theorem inX9 : ∀ w ∈ u_ws RX9 TX9 15, w ∈ bkTB := bk_in fun k hk => match k, hk with
  | 0, _ => la_X9_0
  | 1, _ => la_X9_1
  | 2, _ => la_X9_2
  | 3, _ => la_X9_3
  | 4, _ => la_X9_4
  | 5, _ => la_X9_5
  | 6, _ => la_X9_6
  | 7, _ => la_X9_7
  | 8, _ => la_X9_8
  | 9, _ => la_X9_9
  | 10, _ => la_X9_10
  | 11, _ => la_X9_11
  | 12, _ => la_X9_12
  | 13, _ => la_X9_13
  | 14, _ => la_X9_14
  | k + 15, h => absurd h (by omega)
end
section
/-! ===== worlds as maps from addresses to cells; a judgement without heaps; rows over it ===== -/
abbrev bkM : Type := Nat → Option va_E
def bku (M : bkM) (a : Nat) (e : va_E) : bkM := fun x => if x = a then some e else M x
theorem bku_at {M : bkM} {a : Nat} {e : va_E} : bku M a e a = some e := if_pos rfl
theorem bku_ne {M : bkM} {a b : Nat} {e : va_E} (h : b ≠ a) : bku M a e b = M b := if_neg h
theorem bku_of {M : bkM} {a b : Nat} {e : va_E} {r : Option va_E} (h : b ≠ a) (g : M b = r) : bku M a e b = r := (bku_ne h).trans g
/-- tables of classes, classes of arrays, first address of ours, addresses of the static arrays -/
abbrev bkG : Type := va_G × (Nat → ClassId) × Nat × (Nat → Nat)
def bkA (G : bkG) : Nat → Prop := fun q => G.2.2.1 ≤ q
def bkT (G : bkG) : List (ClassId × FieldType) := [(G.2.1 0, .int), (G.2.1 1, .char), (G.2.1 2, .array .int), (G.2.1 3, .object RX3), (G.2.1 4, .object RX2), (G.2.1 5, .object RX5), (G.2.1 6, .object RX6), (G.2.1 7, .object RX4)]
def bkLC : Nat → Int32 := fun j => if j = 0 then 22 else if j = 1 then 27 else if j = 2 then 72 else 77
def bkMS : Nat → Int32 := fun j => if j = 0 then 7 else if j = 1 then 3 else if j = 2 then 9 else 255
def bkLS : Nat → Int32 := fun j => if j = 0 then 0 else if j = 1 then 1 else if j = 2 then 1 else 0
def bkS1 (G : bkG) (n : String) (i : Nat) (f : Nat → Int32) (U : State) (H : Heap) : Prop := va_Z RX8 n "[I" (.ref (G.2.2.2 i)) (bkA G) U H ∧ va_T .int (G.2.2.2 i) 4 (fun j => .int (f j)) (bkA G) U H
def bkS (G : bkG) (U : State) (H : Heap) : Prop := bkS1 G "LIGHT_CELLS" 0 bkLC U H ∧ bkS1 G "MOST_SETTING" 1 bkMS U H ∧ bkS1 G "LEAST_SETTING" 2 bkLS U H
/-- a class of arrays of arrays -/
def bkAO (t : FieldType) (U : State) : Prop := (Cond.arrayOver (.array t)).before #[] U = true
theorem bkAO.use {t : FieldType} {A : Array Value} {U : State} (h : bkAO t U) : (Cond.arrayOver (.array t)).before A U = true := h
theorem bkAO.moved {t : FieldType} {u U : State} (hvm : u.vm.Alike U.vm) (h : bkAO t u) : bkAO t U := by
  obtain ⟨comp, c, k, h1, h2, h3, h4, h5⟩ := arrayOverA_spec h
  obtain ⟨k', hk', he⟩ := hvm.2.2 _ _ h3
  have e1 : U.vm.bare = u.vm.bare := by first | exact hvm.bare_eq | exact hvm.bare_eq.symm
  have hi : (U.vm.classes.findIdx? fun (x : Class) => match x.kind with | .array component _ => component == comp | _ => false) = some c := ((va_idx_bare U.vm comp).symm.trans (by rw [e1]; exact va_idx_bare u.vm comp)).trans h2
  have hkind : k'.kind = .array comp (.array t) := by rw [he]; exact h4
  have f1 : U.vm.findClass (FieldType.array t).toString = some comp := by rw [hvm.findClass]; exact h1
  have f2 : U.vm.findClass ("[" ++ (FieldType.array t).toString) = some c := by rw [hvm.findClass]; exact h5
  unfold bkAO Cond.before Cond.holds
  simp only [Cond.value]
  rw [f1, Option.bind_some]
  refine (congrArg (fun o : Option Nat => (o.bind (fun c => (U.vm.classes[c]?).map fun (k : Class) => match k.kind with | .array _ ty => decide (ty = FieldType.array t) && decide (U.vm.findClass ("[" ++ (FieldType.array t).toString) = some c) | _ => false) == some true)) hi).trans ?_
  simp [hk', hkind, f2]
/-- the nest's words, the classes of arrays of objects -/
def bkN (U : State) : Prop := (va_Nw (.methodLinkNest RX0 30 yX8_distanceBetween RX8) U ∧ va_Nw (.methodLinkNest RX5 27 yX8_distanceBetween RX8) U ∧ va_Nw (.methodLinkNest RX6 53 yX2_init RX8) U ∧ va_Nw (.methodLinkNest RX6 54 yX5_init RX8) U ∧ va_Nw (.methodLinkNest RX6 77 yX8_isCell RX8) U ∧ va_Nw (.methodLinkNest RX7 31 yX4_init RX8) U)
  ∧ (va_Nw (.fieldLinkNest RX0 23 RX8 "LIGHT_CELLS" "[I" RX8) U ∧ va_Nw (.fieldLinkNest RX3 24 RX8 "LIGHT_CELLS" "[I" RX8) U ∧ va_Nw (.fieldLinkNest RX6 81 RX8 "LIGHT_CELLS" "[I" RX8) U)
  ∧ (va_AO RX2 U ∧ va_AO RX3 U ∧ va_AO RX4 U ∧ va_AO RX5 U ∧ va_AO RX6 U ∧ bkAO .int U)
def bkK (G : bkG) (U : State) (H : Heap) : Prop := va_K G.1 vwCl (bkT G) U ∧ bkS G U H ∧ bkN U
def bkP (G : bkG) (M : bkM) (H : Heap) : Prop := (∀ a e, M a = some e → va_at G.1 vwCl (a, e) H ∧ G.2.2.1 ≤ a) ∧ G.2.2.1 ≤ H.size
def bkH (G : bkG) (Z : Nat → Prop) (M : bkM) (U : State) : Prop := bkP G M U.heap ∧ Z U.heap.size ∧ bkK G U U.heap
theorem bkN.warm {s U : State} (hW : s.WarmedH U.vm) (h : bkN s) : bkN U := by
  obtain ⟨⟨a1, a2, a3, a4, a5, a6⟩, ⟨b1, b2, b3⟩, ⟨c1, c2, c3, c4, c5, c6⟩⟩ := h
  exact ⟨⟨a1.warmM hW, a2.warmM hW, a3.warmM hW, a4.warmM hW, a5.warmM hW, a6.warmM hW⟩, ⟨b1.warmF hW, b2.warmF hW, b3.warmF hW⟩, ⟨c1.moved hW.alike, c2.moved hW.alike, c3.moved hW.alike, c4.moved hW.alike, c5.moved hW.alike, c6.moved hW.alike⟩⟩
theorem bkS1.go {G : bkG} {n : String} {i : Nat} {f : Nat → Int32} {s U : State} {H H1 : Heap} (hvm : s.vm.Alike U.vm) (hq : ∀ a : Nat, a < H.size → ¬ bkA G a → H1[a]? = H[a]?) (h : bkS1 G n i f s H) : bkS1 G n i f U H1 := ⟨(h.1.moved hvm).kept hq, (h.2.moved hvm).kept hq⟩
theorem bkK.go {G : bkG} {s U : State} {H H1 : Heap} (hW : s.WarmedH U.vm) (hq : ∀ a : Nat, a < H.size → ¬ bkA G a → H1[a]? = H[a]?) (h : bkK G s H) : bkK G U H1 :=
  ⟨h.1.moved hW.alike, ⟨h.2.1.1.go hW.alike hq, h.2.1.2.1.go hW.alike hq, h.2.1.2.2.go hW.alike hq⟩, h.2.2.warm hW⟩
/-- the locals: what is known of each -/
def bkl : List (Option Value) → Nat → Option Value
  | [], _ => none
  | a :: _, 0 => a
  | _ :: l, n + 1 => bkl l n
def bks : List (Option Value) → Nat → Value → List (Option Value)
  | [], _, _ => []
  | _ :: l, 0, v => some v :: l
  | a :: l, n + 1, v => a :: bks l n v
def bkc (L : List (Option Value)) : Nat → Bool
  | 0 => true
  | n + 1 => match bkl L n with | none => true | some v => v.category == 1
def bkw : Nat → List (Option Value) → List (Nat × Value)
  | _, [] => []
  | k, none :: l => bkw (k + 1) l
  | k, some v :: l => (k, v) :: bkw (k + 1) l
theorem bks_len : ∀ (L : List (Option Value)) (i : Nat) (v : Value), (bks L i v).length = L.length
  | [], _, _ => rfl
  | _ :: _, 0, _ => rfl
  | _ :: l, i + 1, v => by show (bks l i v).length + 1 = l.length + 1; rw [bks_len l i v]
theorem bkl_same : ∀ (L : List (Option Value)) (i : Nat) (v : Value), i < L.length → bkl (bks L i v) i = some v
  | [], _, _, h => absurd h (Nat.not_lt_zero _)
  | _ :: _, 0, _, _ => rfl
  | _ :: l, i + 1, v, h => bkl_same l i v (Nat.lt_of_succ_lt_succ h)
theorem bkl_ne : ∀ (L : List (Option Value)) (i j : Nat) (v : Value), j ≠ i → bkl (bks L i v) j = bkl L j
  | [], _, _, _, _ => rfl
  | _ :: _, 0, 0, _, h => absurd rfl h
  | _ :: _, 0, _ + 1, _, _ => rfl
  | _ :: _, _ + 1, 0, _, _ => rfl
  | _ :: l, i + 1, j + 1, v, h => bkl_ne l i j v (fun e => h (by rw [e]))
theorem bkl_lt : ∀ (L : List (Option Value)) (i : Nat) (v : Value), bkl L i = some v → i < L.length
  | [], _, _, h => by cases h
  | _ :: _, 0, _, _ => Nat.zero_lt_succ _
  | _ :: l, i + 1, v, h => Nat.succ_lt_succ (bkl_lt l i v h)
theorem bkw_in : ∀ (L : List (Option Value)) (k i : Nat) (v : Value), bkl L i = some v → (k + i, v) ∈ bkw k L
  | [], _, _, _, h => by cases h
  | none :: _, _, 0, _, h => by cases h
  | some a :: l, k, 0, v, h => by
    cases h
    exact List.mem_cons_self
  | none :: l, k, i + 1, v, h => by
    have := bkw_in l (k + 1) i v h
    rw [show k + (i + 1) = k + 1 + i by omega]
    exact this
  | some a :: l, k, i + 1, v, h => by
    have := bkw_in l (k + 1) i v h
    rw [show k + (i + 1) = k + 1 + i by omega]
    exact List.mem_cons_of_mem _ this
theorem bkw_of : ∀ (L : List (Option Value)) (k : Nat) (q : Nat × Value), q ∈ bkw k L → k ≤ q.1 ∧ bkl L (q.1 - k) = some q.2
  | [], _, _, h => by cases h
  | none :: l, k, q, h => by
    obtain ⟨h1, h2⟩ := bkw_of l (k + 1) q h
    refine ⟨by omega, ?_⟩
    rw [show q.1 - k = (q.1 - (k + 1)) + 1 by omega]
    exact h2
  | some a :: l, k, q, h => by
    rcases List.mem_cons.mp h with rfl | h
    · exact ⟨Nat.le_refl _, by rw [Nat.sub_self]; rfl⟩
    · obtain ⟨h1, h2⟩ := bkw_of l (k + 1) q h
      refine ⟨by omega, ?_⟩
      rw [show q.1 - k = (q.1 - (k + 1)) + 1 by omega]
      exact h2
def bkL (ls : Array Slot) (L : List (Option Value)) : Prop := ls.size = L.length ∧ lv_wf ls ∧ ∀ i v, bkl L i = some v → ls[i]? = some (.val v)
theorem bkL.has {ls : Array Slot} {L : List (Option Value)} (h : bkL ls L) : lv_has ls L.length (bkw 0 L) :=
  ⟨h.1, h.2.1, fun q hq => h.2.2 q.1 q.2 (by have := (bkw_of L 0 q hq).2; rw [Nat.sub_zero] at this; exact this)⟩
theorem bkL.of {ls : Array Slot} {L : List (Option Value)} (h : lv_has ls L.length (bkw 0 L)) : bkL ls L :=
  ⟨h.1, h.2.1, fun i v hv => by have := bkw_in L 0 i v hv; rw [Nat.zero_add] at this; exact h.2.2 (i, v) this⟩
theorem bkL.set {ls : Array Slot} {L : List (Option Value)} {i : Nat} {v : Value} (hi : i < L.length) (hc : bkc L i = true) (h : lv_has ls L.length ((i, v) :: (bkw 0 L).filter (fun q => !(q.1 == i) && !(q.1 + 1 == i && q.2.category == 2)))) : bkL ls (bks L i v) := by
  refine ⟨by rw [bks_len]; exact h.1, h.2.1, fun j u hj => ?_⟩
  by_cases e : j = i
  · subst e
    rw [bkl_same L j v hi] at hj
    cases hj
    exact h.2.2 (j, v) List.mem_cons_self
  · rw [bkl_ne L i j v e] at hj
    have hm := bkw_in L 0 j u hj
    rw [Nat.zero_add] at hm
    refine h.2.2 (j, u) (List.mem_cons_of_mem _ (List.mem_filter.mpr ⟨hm, ?_⟩))
    have h1 : (j == i) = false := by simpa using e
    by_cases e2 : j + 1 = i
    · subst e2
      have hc' : (u.category == 1) = true := by
        have : bkc L (j + 1) = (match bkl L j with | none => true | some v => v.category == 1) := rfl
        rw [this, hj] at hc
        exact hc
      have hu : u.category = 1 := by simpa using hc'
      simp [h1, hu]
    · have h2 : (j + 1 == i) = false := by simpa using e2
      simp [h1, h2]
/-- where a method stands: what doesn't change while it runs -/
abbrev bkEnv : Type := Program × Launch × Env × Room × State × MethodId × Array Value × List Frame × Method × Code × (State → Prop)
abbrev eP (E : bkEnv) : Program := E.1
abbrev eL (E : bkEnv) : Launch := E.2.1
abbrev eE (E : bkEnv) : Env := E.2.2.1
abbrev eR (E : bkEnv) : Room := E.2.2.2.1
abbrev eS (E : bkEnv) : State := E.2.2.2.2.1
abbrev eM (E : bkEnv) : MethodId := E.2.2.2.2.2.1
abbrev eA (E : bkEnv) : Array Value := E.2.2.2.2.2.2.1
abbrev eB (E : bkEnv) : List Frame := E.2.2.2.2.2.2.2.1
abbrev eT (E : bkEnv) : Method := E.2.2.2.2.2.2.2.2.1
abbrev eC (E : bkEnv) : Code := E.2.2.2.2.2.2.2.2.2.1
abbrev eQ (E : bkEnv) : State → Prop := E.2.2.2.2.2.2.2.2.2.2
abbrev bkW (E : bkEnv) (H : Heap) (locs : List Loc) (k n : Nat) (g : JFrame) : Prop := W (eP E) (eL E) (eE E) (eR E) (eS E) (eM E) (eA E) (eB E) (eT E) (eC E) H locs k n (eQ E) g
def bkX (E : bkEnv) (G : bkG) (own : String) (cc : ByteArray) (nL : Nat) (ret : Option FieldType) (R : Room) : Prop :=
  (eP E).tables.exec = Jvm.exec ∧ (eC E).code = cc ∧ (eC E).maxLocals = nL ∧ (eS E).vm.findClass own = some (eM E).cls ∧ (∀ w ∈ bkTB, w.before (eA E) (eS E) = true) ∧ bkK G (eS E) (eS E).heap ∧ (eT E).sig.returnType = ret ∧ (eT E).locks = false ∧ eR E = R
theorem bkX.rm {E : bkEnv} {G : bkG} {own : String} {cc : ByteArray} {nL : Nat} {ret : Option FieldType} {R : Room} (X : bkX E G own cc nL ret R) : eR E = R := X.2.2.2.2.2.2.2.2
def bkV (E : bkEnv) (G : bkG) (Z : Nat → Prop) (k n : Nat) (M : bkM) (pc : Nat) (L : List (Option Value)) (st : List Value) : Prop :=
  ∀ (H : Heap) (locs : List Loc) (ls : Array Slot), bkP G M H → Z H.size → va_S (bkA G) (eS E).heap H locs → bkL ls L → bkW E H locs k n (F0 (eM E) pc ls st)
def bkR (h mc ms : Nat) : Room := { frames := h, cells := mc, slots := ms, locals := 39 * h }
/-- contracts: an int (or boolean), nothing, a float -/
def bkCi (G : bkG) (Z Z' : Nat → Prop) (y : MethodName) (code : ByteArray) (nL : Nat) (ret : Option FieldType) (h mc ms : Nat) (av : List Value) (M : bkM) (post : Int32 → bkM → Prop) : Prop :=
  ∀ l : Launch, Met l y (.code y code nL ret :: bkTB) (bkR h mc ms) (va_Pc av (bkH G Z M)) (va_Qi post (bkH G Z') (bkA G)) mc ms (bkA G)
def bkCv (G : bkG) (Z Z' : Nat → Prop) (y : MethodName) (code : ByteArray) (nL : Nat) (h mc ms : Nat) (av : List Value) (M : bkM) (post : bkM → Prop) : Prop :=
  ∀ l : Launch, Met l y (.code y code nL none :: bkTB) (bkR h mc ms) (va_Pc av (bkH G Z M)) (va_Qv post (bkH G Z') (bkA G)) mc ms (bkA G)
def bkCf (G : bkG) (Z Z' : Nat → Prop) (y : MethodName) (code : ByteArray) (nL : Nat) (h mc ms : Nat) (av : List Value) (M : bkM) (post : UInt32 → bkM → Prop) : Prop :=
  ∀ l : Launch, Met l y (.code y code nL (some .float) :: bkTB) (bkR h mc ms) (va_Pc av (bkH G Z M)) (va_Qf post (bkH G Z') (bkA G)) mc ms (bkA G)
def bkE (av : List Value) (nL : Nat) : List (Option Value) := av.map some ++ List.replicate (nL - av.length) none
theorem bkE_len {av : List Value} {nL : Nat} (h : av.length ≤ nL) : (bkE av nL).length = nL := by
  unfold bkE
  rw [List.length_append, List.length_map, List.length_replicate]
  omega
theorem bkl_none : ∀ (k i : Nat), bkl (List.replicate k none) i = none
  | 0, _ => rfl
  | _ + 1, 0 => rfl
  | k + 1, i + 1 => bkl_none k i
theorem bkl_app : ∀ (av : List Value) (k i : Nat) (v : Value), bkl (av.map some ++ List.replicate k none) i = some v → av[i]? = some v
  | [], k, i, v, h => by
    rw [List.map_nil, List.nil_append, bkl_none] at h
    cases h
  | a :: l, k, 0, v, h => by
    cases h
    rfl
  | a :: l, k, i + 1, v, h => by
    rw [List.getElem?_cons_succ]
    exact bkl_app l k i v h
theorem bk_sl : ∀ (av : List Value), (∀ v ∈ av, v.category = 1) → lg_sl av = av.map Slot.val
  | [], _ => rfl
  | a :: l, h => by
    have h1 := h a List.mem_cons_self
    have ih := bk_sl l (fun v hv => h v (List.mem_cons_of_mem _ hv))
    simp [lg_sl, h1] at ih ⊢
    first | exact ih | simpa using ih | skip
theorem bk_entry {av : List Value} {nL : Nat} (h1 : ∀ v ∈ av, v.category = 1) (h2 : av.length ≤ nL) : bkL ((lg_sl av ++ List.replicate (nL - (lg_sl av).length) Slot.unset).toArray) (bkE av nL) := by
  have hs : lg_sl av = av.map Slot.val := bk_sl av h1
  have hl : (lg_sl av).length = av.length := by rw [hs, List.length_map]
  have hE := lv_entry av (n := nL) (by rw [hl]; exact h2)
  refine ⟨by rw [bkE_len h2]; exact hE.1, hE.2.1, fun i v hv => ?_⟩
  have hv2 := bkl_app av _ i v hv
  have hlt := (List.getElem?_eq_some_iff.mp hv2).1
  rw [hs, List.getElem?_toArray, List.getElem?_append_left (by rw [List.length_map]; exact hlt), List.getElem?_map, hv2]
  rfl


section BKE
variable {G : bkG} {Z Z' : Nat → Prop} {y : MethodName} {code : ByteArray} {nL h mc ms : Nat} {ret : Option FieldType} {av : List Value} {M : bkM}
theorem bk_met {Qc : Array Value → State → Outcome → State → Prop} (L : List (Option Value)) (hL : bkE av nL = L) (hy : plainName y.cls = true) (hc : av.all (fun v => v.category == 1) = true) (ha : Nat.ble av.length nL = true)
    (body : ∀ E : bkEnv, bkX E G y.cls code nL ret (bkR h mc ms) → (eT E).name = y.name → eQ E = MQ (eB E) Qc (eA E) (eS E) mc ms (bkA G) → bkV E G Z 0 0 M 0 L []) :
    ∀ l : Launch, Met l y (.code y code nL ret :: bkTB) (bkR h mc ms) (va_Pc av (bkH G Z M)) Qc mc ms (bkA G) := by
  intro l
  refine Met.ofW (cc := code) (maxL := nL) (ret := ret) hy rfl ?_
  intro p e s m args below meth c s₁ B hml hv
  obtain ⟨rfl, hP, hZ, hK⟩ := hv
  have hts := atoms_spec (ws := .code y code nL ret :: bkTB) B.pre
  have hown : s.vm.findClass y.cls = some m.cls := findClass_of_methodNamed B.named
  have hnm : meth.name = y.name := (name_of_methodNamed B.named B.method).1
  have X : bkX (p, l, e, bkR h mc ms, s, m, av.toArray, below, meth, c, MQ below Qc av.toArray s mc ms (bkA G)) G y.cls code nL ret (bkR h mc ms) := ⟨B.exec, B.bytes, hml, hown, fun w hw => hts w (List.mem_cons_of_mem _ hw), hK, B.returns, B.notSynchronized, rfl⟩
  rw [lg_entry_eq]
  have hl := bk_entry (av := av) (nL := nL) (fun v hv => by simpa using List.all_eq_true.mp hc v hv) (Nat.le_of_ble_eq_true ha)
  rw [hL] at hl
  exact body _ X hnm rfl s.heap [] _ hP hZ va_S.rf hl
end BKE
section BKR
variable {E : bkEnv} {R : Room} {G : bkG} {Z : Nat → Prop} {k n : Nat} {M : bkM} {pc : Nat} {L : List (Option Value)} {st : List Value} {own : String} {cc : ByteArray} {nL : Nat} {ret : Option FieldType}

theorem r_iconst (X : bkX E G own cc nL ret R) {i : Int} {v : Int32} (hv : Int32.ofInt i = v) (d : decode cc pc = .ok (.iconst i, 1)) (kk : bkV E G Z k n M (pc + 1) L (.int v :: st)) : bkV E G Z k n M pc L st := fun H locs ls h1 h2 h3 h4 => lv_iconst X.1 X.2.1 d hv (kk H locs ls h1 h2 h3 h4)
theorem r_bipush (X : bkX E G own cc nL ret R) {i : Int} {v : Int32} (hv : (Int8.ofInt i).toInt32 = v) (d : decode cc pc = .ok (.bipush i, 2)) (kk : bkV E G Z k n M (pc + 2) L (.int v :: st)) : bkV E G Z k n M pc L st := fun H locs ls h1 h2 h3 h4 => lv_bipush X.1 X.2.1 d hv (kk H locs ls h1 h2 h3 h4)
theorem r_sipush (X : bkX E G own cc nL ret R) {i : Int} {v : Int32} (hv : (Int16.ofInt i).toInt32 = v) (d : decode cc pc = .ok (.sipush i, 3)) (kk : bkV E G Z k n M (pc + 3) L (.int v :: st)) : bkV E G Z k n M pc L st := fun H locs ls h1 h2 h3 h4 => lv_sipush X.1 X.2.1 d hv (kk H locs ls h1 h2 h3 h4)
theorem r_ldcw (X : bkX E G own cc nL ret R) {i : Nat} {v : Int32} (hw : Cond.constant own i v ∈ bkTB) (d : decode cc pc = .ok (.ldc_w i, 3)) (kk : bkV E G Z k n M (pc + 3) L (.int v :: st)) : bkV E G Z k n M pc L st := fun H locs ls h1 h2 h3 h4 => lv_ldcw X.1 X.2.1 X.2.2.2.1 (X.2.2.2.2.1 _ hw) d (kk H locs ls h1 h2 h3 h4)
theorem r_ldcf (X : bkX E G own cc nL ret R) {i : Nat} {v : UInt32} (hw : Cond.constantFloat own i v ∈ bkTB) (d : decode cc pc = .ok (.ldc i, 2)) (kk : bkV E G Z k n M (pc + 2) L (.float v :: st)) : bkV E G Z k n M pc L st := fun H locs ls h1 h2 h3 h4 => lv_ldcf X.1 X.2.1 X.2.2.2.1 (X.2.2.2.2.1 _ hw) d (kk H locs ls h1 h2 h3 h4)
theorem r_iload (X : bkX E G own cc nL ret R) {i : Nat} {x : Int32} (hl : bkl L i = some (.int x)) (d : decode cc pc = .ok (.iload i, 2)) (kk : bkV E G Z k n M (pc + 2) L (.int x :: st)) : bkV E G Z k n M pc L st := fun H locs ls h1 h2 h3 h4 => lv_iload X.1 X.2.1 d (h4.2.2 _ _ hl) (kk H locs ls h1 h2 h3 h4)
theorem r_iload_n (X : bkX E G own cc nL ret R) {i : Fin 4} {x : Int32} (hl : bkl L i.val = some (.int x)) (d : decode cc pc = .ok (.iload_n i, 1)) (kk : bkV E G Z k n M (pc + 1) L (.int x :: st)) : bkV E G Z k n M pc L st := fun H locs ls h1 h2 h3 h4 => lv_iload_n X.1 X.2.1 d rfl (h4.2.2 _ _ hl) (kk H locs ls h1 h2 h3 h4)
theorem r_aload (X : bkX E G own cc nL ret R) {i : Nat} {x : Nat} (hl : bkl L i = some (.ref x)) (d : decode cc pc = .ok (.aload i, 2)) (kk : bkV E G Z k n M (pc + 2) L (.ref x :: st)) : bkV E G Z k n M pc L st := fun H locs ls h1 h2 h3 h4 => lv_aload X.1 X.2.1 d (h4.2.2 _ _ hl) (kk H locs ls h1 h2 h3 h4)
theorem r_aload_n (X : bkX E G own cc nL ret R) {i : Fin 4} {x : Nat} (hl : bkl L i.val = some (.ref x)) (d : decode cc pc = .ok (.aload_n i, 1)) (kk : bkV E G Z k n M (pc + 1) L (.ref x :: st)) : bkV E G Z k n M pc L st := fun H locs ls h1 h2 h3 h4 => lv_aload_n X.1 X.2.1 d rfl (h4.2.2 _ _ hl) (kk H locs ls h1 h2 h3 h4)
theorem r_istore (X : bkX E G own cc nL ret R) {i : Nat} {x : Int32} (hi : Nat.blt i L.length = true) (hc : bkc L i = true) (d : decode cc pc = .ok (.istore i, 2)) (kk : bkV E G Z k n M (pc + 2) (bks L i (.int x)) st) : bkV E G Z k n M pc L (.int x :: st) := fun H locs ls h1 h2 h3 h4 => lv_istore X.1 X.2.1 d h4.has (Nat.blt_eq.mp hi) rfl (fun ls2 hl2 => kk H locs ls2 h1 h2 h3 (bkL.set (Nat.blt_eq.mp hi) hc hl2))
theorem r_istore_n (X : bkX E G own cc nL ret R) {i : Fin 4} {x : Int32} (hi : Nat.blt i.val L.length = true) (hc : bkc L i.val = true) (d : decode cc pc = .ok (.istore_n i, 1)) (kk : bkV E G Z k n M (pc + 1) (bks L i.val (.int x)) st) : bkV E G Z k n M pc L (.int x :: st) := fun H locs ls h1 h2 h3 h4 => lv_istore_n X.1 X.2.1 d rfl h4.has (Nat.blt_eq.mp hi) rfl (fun ls2 hl2 => kk H locs ls2 h1 h2 h3 (bkL.set (Nat.blt_eq.mp hi) hc hl2))
theorem r_astore (X : bkX E G own cc nL ret R) {i : Nat} {x : Nat} (hi : Nat.blt i L.length = true) (hc : bkc L i = true) (d : decode cc pc = .ok (.astore i, 2)) (kk : bkV E G Z k n M (pc + 2) (bks L i (.ref x)) st) : bkV E G Z k n M pc L (.ref x :: st) := fun H locs ls h1 h2 h3 h4 => lv_astore X.1 X.2.1 d h4.has (Nat.blt_eq.mp hi) rfl (fun ls2 hl2 => kk H locs ls2 h1 h2 h3 (bkL.set (Nat.blt_eq.mp hi) hc hl2))
theorem r_astore_n (X : bkX E G own cc nL ret R) {i : Fin 4} {x : Nat} (hi : Nat.blt i.val L.length = true) (hc : bkc L i.val = true) (d : decode cc pc = .ok (.astore_n i, 1)) (kk : bkV E G Z k n M (pc + 1) (bks L i.val (.ref x)) st) : bkV E G Z k n M pc L (.ref x :: st) := fun H locs ls h1 h2 h3 h4 => lv_astore_n X.1 X.2.1 d rfl h4.has (Nat.blt_eq.mp hi) rfl (fun ls2 hl2 => kk H locs ls2 h1 h2 h3 (bkL.set (Nat.blt_eq.mp hi) hc hl2))
theorem r_iinc (X : bkX E G own cc nL ret R) {i : Nat} {a : Int} {x v : Int32} (hl : bkl L i = some (.int x)) (hv : x + Int32.ofInt a = v) (hc : bkc L i = true) (d : decode cc pc = .ok (.iinc i a, 3)) (kk : bkV E G Z k n M (pc + 3) (bks L i (.int v)) st) : bkV E G Z k n M pc L st := fun H locs ls h1 h2 h3 h4 => by
  have hi := bkl_lt L i _ hl
  have hm := bkw_in L 0 i _ hl
  rw [Nat.zero_add] at hm
  obtain ⟨j, hj⟩ := List.getElem?_of_mem hm
  exact lv_iinc X.1 X.2.1 d h4.has hj hv hi rfl (fun ls2 hl2 => kk H locs ls2 h1 h2 h3 (bkL.set hi hc hl2))
theorem r_iadd (X : bkX E G own cc nL ret R) {x y : Int32} (d : decode cc pc = .ok (.iadd, 1)) (kk : bkV E G Z k n M (pc + 1) L (.int (x + y) :: st)) : bkV E G Z k n M pc L (.int y :: .int x :: st) := fun H locs ls h1 h2 h3 h4 => lv_iadd X.1 X.2.1 d (kk H locs ls h1 h2 h3 h4)
theorem r_isub (X : bkX E G own cc nL ret R) {x y : Int32} (d : decode cc pc = .ok (.isub, 1)) (kk : bkV E G Z k n M (pc + 1) L (.int (x - y) :: st)) : bkV E G Z k n M pc L (.int y :: .int x :: st) := fun H locs ls h1 h2 h3 h4 => lv_isub X.1 X.2.1 d (kk H locs ls h1 h2 h3 h4)
theorem r_imul (X : bkX E G own cc nL ret R) {x y : Int32} (d : decode cc pc = .ok (.imul, 1)) (kk : bkV E G Z k n M (pc + 1) L (.int (x * y) :: st)) : bkV E G Z k n M pc L (.int y :: .int x :: st) := fun H locs ls h1 h2 h3 h4 => lv_imul X.1 X.2.1 d (kk H locs ls h1 h2 h3 h4)
theorem r_iand (X : bkX E G own cc nL ret R) {x y : Int32} (d : decode cc pc = .ok (.iand, 1)) (kk : bkV E G Z k n M (pc + 1) L (.int (x &&& y) :: st)) : bkV E G Z k n M pc L (.int y :: .int x :: st) := fun H locs ls h1 h2 h3 h4 => lv_iand X.1 X.2.1 d (kk H locs ls h1 h2 h3 h4)
theorem r_ior (X : bkX E G own cc nL ret R) {x y : Int32} (d : decode cc pc = .ok (.ior, 1)) (kk : bkV E G Z k n M (pc + 1) L (.int (x ||| y) :: st)) : bkV E G Z k n M pc L (.int y :: .int x :: st) := fun H locs ls h1 h2 h3 h4 => lv_ior X.1 X.2.1 d (kk H locs ls h1 h2 h3 h4)
theorem r_ixor (X : bkX E G own cc nL ret R) {x y : Int32} (d : decode cc pc = .ok (.ixor, 1)) (kk : bkV E G Z k n M (pc + 1) L (.int (x ^^^ y) :: st)) : bkV E G Z k n M pc L (.int y :: .int x :: st) := fun H locs ls h1 h2 h3 h4 => lv_ixor X.1 X.2.1 d (kk H locs ls h1 h2 h3 h4)
theorem r_ishl (X : bkX E G own cc nL ret R) {x y : Int32} (d : decode cc pc = .ok (.ishl, 1)) (kk : bkV E G Z k n M (pc + 1) L (.int (x <<< (y &&& 31)) :: st)) : bkV E G Z k n M pc L (.int y :: .int x :: st) := fun H locs ls h1 h2 h3 h4 => lv_ishl X.1 X.2.1 d (kk H locs ls h1 h2 h3 h4)
theorem r_ishr (X : bkX E G own cc nL ret R) {x y : Int32} (d : decode cc pc = .ok (.ishr, 1)) (kk : bkV E G Z k n M (pc + 1) L (.int (x >>> (y &&& 31)) :: st)) : bkV E G Z k n M pc L (.int y :: .int x :: st) := fun H locs ls h1 h2 h3 h4 => lv_ishr X.1 X.2.1 d (kk H locs ls h1 h2 h3 h4)
theorem r_iushr (X : bkX E G own cc nL ret R) {x y : Int32} (d : decode cc pc = .ok (.iushr, 1)) (kk : bkV E G Z k n M (pc + 1) L (.int ((x.toUInt32 >>> (y.toUInt32 &&& Int32.toUInt32 31)).toInt32) :: st)) : bkV E G Z k n M pc L (.int y :: .int x :: st) := fun H locs ls h1 h2 h3 h4 => lv_iushr X.1 X.2.1 d rfl (kk H locs ls h1 h2 h3 h4)
theorem r_idiv (X : bkX E G own cc nL ret R) {x y : Int32} (hy : ¬ y = 0) (d : decode cc pc = .ok (.idiv, 1)) (kk : bkV E G Z k n M (pc + 1) L (.int (x / y) :: st)) : bkV E G Z k n M pc L (.int y :: .int x :: st) := fun H locs ls h1 h2 h3 h4 => lv_idiv X.1 X.2.1 d hy (kk H locs ls h1 h2 h3 h4)
theorem r_irem (X : bkX E G own cc nL ret R) {x y : Int32} (hy : ¬ y = 0) (d : decode cc pc = .ok (.irem, 1)) (kk : bkV E G Z k n M (pc + 1) L (.int (x - x / y * y) :: st)) : bkV E G Z k n M pc L (.int y :: .int x :: st) := fun H locs ls h1 h2 h3 h4 => lv_irem X.1 X.2.1 d hy (kk H locs ls h1 h2 h3 h4)
theorem r_ineg (X : bkX E G own cc nL ret R) {x : Int32} (d : decode cc pc = .ok (.ineg, 1)) (kk : bkV E G Z k n M (pc + 1) L (.int (-x) :: st)) : bkV E G Z k n M pc L (.int x :: st) := fun H locs ls h1 h2 h3 h4 => lv_ineg X.1 X.2.1 d (kk H locs ls h1 h2 h3 h4)
theorem r_i2c (X : bkX E G own cc nL ret R) {x : Int32} (d : decode cc pc = .ok (.i2c, 1)) (kk : bkV E G Z k n M (pc + 1) L (.int ((x.toUInt32 % 65536).toInt32) :: st)) : bkV E G Z k n M pc L (.int x :: st) := fun H locs ls h1 h2 h3 h4 => lv_i2c X.1 X.2.1 d rfl (kk H locs ls h1 h2 h3 h4)
theorem r_i2f (X : bkX E G own cc nL ret R) {x : Int32} (d : decode cc pc = .ok (.i2f, 1)) (kk : bkV E G Z k n M (pc + 1) L (.float (FP.i2f x) :: st)) : bkV E G Z k n M pc L (.int x :: st) := fun H locs ls h1 h2 h3 h4 => lv_i2f X.1 X.2.1 d (kk H locs ls h1 h2 h3 h4)
theorem r_fdiv (X : bkX E G own cc nL ret R) {x y : UInt32} (hn : vf_n32 (FP.fdiv x y)) (d : decode cc pc = .ok (.fdiv, 1)) (kk : bkV E G Z k n M (pc + 1) L (.float (FP.fdiv x y) :: st)) : bkV E G Z k n M pc L (.float y :: .float x :: st) := fun H locs ls h1 h2 h3 h4 => lv_fdiv X.1 X.2.1 d hn (kk H locs ls h1 h2 h3 h4)
theorem r_dup (X : bkX E G own cc nL ret R) {v : Value} (hv : v.category = 1) (d : decode cc pc = .ok (.dup, 1)) (kk : bkV E G Z k n M (pc + 1) L (v :: v :: st)) : bkV E G Z k n M pc L (v :: st) := fun H locs ls h1 h2 h3 h4 => lv_dup X.1 X.2.1 d hv (kk H locs ls h1 h2 h3 h4)
theorem r_pop (X : bkX E G own cc nL ret R) {v : Value} (hv : v.category = 1) (d : decode cc pc = .ok (.pop, 1)) (kk : bkV E G Z k n M (pc + 1) L st) : bkV E G Z k n M pc L (v :: st) := fun H locs ls h1 h2 h3 h4 => lv_pop X.1 X.2.1 d hv (kk H locs ls h1 h2 h3 h4)
theorem r_dup2 (X : bkX E G own cc nL ret R) {v u : Value} (hv : v.category = 1) (hu : u.category = 1) (d : decode cc pc = .ok (.dup2, 1)) (kk : bkV E G Z k n M (pc + 1) L (v :: u :: v :: u :: st)) : bkV E G Z k n M pc L (v :: u :: st) := fun H locs ls h1 h2 h3 h4 => lv_dup2_11 X.1 X.2.1 d hv hu (kk H locs ls h1 h2 h3 h4)
theorem r_dup_x1 (X : bkX E G own cc nL ret R) {v u : Value} (hv : v.category = 1) (hu : u.category = 1) (d : decode cc pc = .ok (.dup_x1, 1)) (kk : bkV E G Z k n M (pc + 1) L (v :: u :: v :: st)) : bkV E G Z k n M pc L (v :: u :: st) := fun H locs ls h1 h2 h3 h4 => lv_dup_x1 X.1 X.2.1 d hv hu (kk H locs ls h1 h2 h3 h4)
theorem r_if_eq (X : bkX E G own cc nL ret R) {x : Int32} {off : Int} (tgt : Nat) (ht : (pc : Int) + off = (tgt : Int)) (d : decode cc pc = .ok (.ifCond .eq off, 3)) (kt : x = 0 → bkV E G Z k n M tgt L st) (kf : ¬ x = 0 → bkV E G Z k n M (pc + 3) L st) : bkV E G Z k n M pc L (.int x :: st) := fun H locs ls h1 h2 h3 h4 => lv_if_eq X.1 X.2.1 d ht (fun q => kt q H locs ls h1 h2 h3 h4) (fun q => kf q H locs ls h1 h2 h3 h4)
theorem r_icmp_eq (X : bkX E G own cc nL ret R) {x y : Int32} {off : Int} (tgt : Nat) (ht : (pc : Int) + off = (tgt : Int)) (d : decode cc pc = .ok (.if_icmp .eq off, 3)) (kt : x = y → bkV E G Z k n M tgt L st) (kf : ¬ x = y → bkV E G Z k n M (pc + 3) L st) : bkV E G Z k n M pc L (.int y :: .int x :: st) := fun H locs ls h1 h2 h3 h4 => lv_icmp_eq X.1 X.2.1 d ht (fun q => kt q H locs ls h1 h2 h3 h4) (fun q => kf q H locs ls h1 h2 h3 h4)
theorem r_icmpN_eq (X : bkX E G own cc nL ret R) {x y : Int32} {off : Int} (tgt a b : Nat) (hx : x = nI a) (hy : y = nI b) (ha : a < 2 ^ 31) (hb : b < 2 ^ 31) (ht : (pc : Int) + off = (tgt : Int)) (d : decode cc pc = .ok (.if_icmp .eq off, 3)) (kt : a = b → bkV E G Z k n M tgt L st) (kf : a ≠ b → bkV E G Z k n M (pc + 3) L st) : bkV E G Z k n M pc L (.int y :: .int x :: st) := by
  subst hx
  subst hy
  exact r_icmp_eq X tgt ht d (fun q => kt ((nI_eq ha hb).mp q)) (fun q => kf (fun z => q ((nI_eq ha hb).mpr z)))
theorem r_if_ne (X : bkX E G own cc nL ret R) {x : Int32} {off : Int} (tgt : Nat) (ht : (pc : Int) + off = (tgt : Int)) (d : decode cc pc = .ok (.ifCond .ne off, 3)) (kt : ¬ x = 0 → bkV E G Z k n M tgt L st) (kf : x = 0 → bkV E G Z k n M (pc + 3) L st) : bkV E G Z k n M pc L (.int x :: st) := fun H locs ls h1 h2 h3 h4 => lv_if_ne X.1 X.2.1 d ht (fun q => kt q H locs ls h1 h2 h3 h4) (fun q => kf q H locs ls h1 h2 h3 h4)
theorem r_icmp_ne (X : bkX E G own cc nL ret R) {x y : Int32} {off : Int} (tgt : Nat) (ht : (pc : Int) + off = (tgt : Int)) (d : decode cc pc = .ok (.if_icmp .ne off, 3)) (kt : ¬ x = y → bkV E G Z k n M tgt L st) (kf : x = y → bkV E G Z k n M (pc + 3) L st) : bkV E G Z k n M pc L (.int y :: .int x :: st) := fun H locs ls h1 h2 h3 h4 => lv_icmp_ne X.1 X.2.1 d ht (fun q => kt q H locs ls h1 h2 h3 h4) (fun q => kf q H locs ls h1 h2 h3 h4)
theorem r_icmpN_ne (X : bkX E G own cc nL ret R) {x y : Int32} {off : Int} (tgt a b : Nat) (hx : x = nI a) (hy : y = nI b) (ha : a < 2 ^ 31) (hb : b < 2 ^ 31) (ht : (pc : Int) + off = (tgt : Int)) (d : decode cc pc = .ok (.if_icmp .ne off, 3)) (kt : a ≠ b → bkV E G Z k n M tgt L st) (kf : a = b → bkV E G Z k n M (pc + 3) L st) : bkV E G Z k n M pc L (.int y :: .int x :: st) := by
  subst hx
  subst hy
  exact r_icmp_ne X tgt ht d (fun q => kt (fun z => q ((nI_eq ha hb).mpr z))) (fun q => kf ((nI_eq ha hb).mp q))
theorem r_if_lt (X : bkX E G own cc nL ret R) {x : Int32} {off : Int} (tgt : Nat) (ht : (pc : Int) + off = (tgt : Int)) (d : decode cc pc = .ok (.ifCond .lt off, 3)) (kt : x < 0 → bkV E G Z k n M tgt L st) (kf : ¬ x < 0 → bkV E G Z k n M (pc + 3) L st) : bkV E G Z k n M pc L (.int x :: st) := fun H locs ls h1 h2 h3 h4 => lv_if_lt X.1 X.2.1 d ht (fun q => kt q H locs ls h1 h2 h3 h4) (fun q => kf q H locs ls h1 h2 h3 h4)
theorem r_icmp_lt (X : bkX E G own cc nL ret R) {x y : Int32} {off : Int} (tgt : Nat) (ht : (pc : Int) + off = (tgt : Int)) (d : decode cc pc = .ok (.if_icmp .lt off, 3)) (kt : x < y → bkV E G Z k n M tgt L st) (kf : ¬ x < y → bkV E G Z k n M (pc + 3) L st) : bkV E G Z k n M pc L (.int y :: .int x :: st) := fun H locs ls h1 h2 h3 h4 => lv_icmp_lt X.1 X.2.1 d ht (fun q => kt q H locs ls h1 h2 h3 h4) (fun q => kf q H locs ls h1 h2 h3 h4)
theorem r_icmpN_lt (X : bkX E G own cc nL ret R) {x y : Int32} {off : Int} (tgt a b : Nat) (hx : x = nI a) (hy : y = nI b) (ha : a < 2 ^ 31) (hb : b < 2 ^ 31) (ht : (pc : Int) + off = (tgt : Int)) (d : decode cc pc = .ok (.if_icmp .lt off, 3)) (kt : a < b → bkV E G Z k n M tgt L st) (kf : b ≤ a → bkV E G Z k n M (pc + 3) L st) : bkV E G Z k n M pc L (.int y :: .int x :: st) := by
  subst hx
  subst hy
  exact r_icmp_lt X tgt ht d (fun q => kt ((nI_ltI ha hb).mp q)) (fun q => kf (Nat.not_lt.mp fun z => q ((nI_ltI ha hb).mpr z)))
theorem r_if_ge (X : bkX E G own cc nL ret R) {x : Int32} {off : Int} (tgt : Nat) (ht : (pc : Int) + off = (tgt : Int)) (d : decode cc pc = .ok (.ifCond .ge off, 3)) (kt : 0 ≤ x → bkV E G Z k n M tgt L st) (kf : ¬ 0 ≤ x → bkV E G Z k n M (pc + 3) L st) : bkV E G Z k n M pc L (.int x :: st) := fun H locs ls h1 h2 h3 h4 => lv_if_ge X.1 X.2.1 d ht (fun q => kt q H locs ls h1 h2 h3 h4) (fun q => kf q H locs ls h1 h2 h3 h4)
theorem r_icmp_ge (X : bkX E G own cc nL ret R) {x y : Int32} {off : Int} (tgt : Nat) (ht : (pc : Int) + off = (tgt : Int)) (d : decode cc pc = .ok (.if_icmp .ge off, 3)) (kt : y ≤ x → bkV E G Z k n M tgt L st) (kf : ¬ y ≤ x → bkV E G Z k n M (pc + 3) L st) : bkV E G Z k n M pc L (.int y :: .int x :: st) := fun H locs ls h1 h2 h3 h4 => lv_icmp_ge X.1 X.2.1 d ht (fun q => kt q H locs ls h1 h2 h3 h4) (fun q => kf q H locs ls h1 h2 h3 h4)
theorem r_icmpN_ge (X : bkX E G own cc nL ret R) {x y : Int32} {off : Int} (tgt a b : Nat) (hx : x = nI a) (hy : y = nI b) (ha : a < 2 ^ 31) (hb : b < 2 ^ 31) (ht : (pc : Int) + off = (tgt : Int)) (d : decode cc pc = .ok (.if_icmp .ge off, 3)) (kt : b ≤ a → bkV E G Z k n M tgt L st) (kf : a < b → bkV E G Z k n M (pc + 3) L st) : bkV E G Z k n M pc L (.int y :: .int x :: st) := by
  subst hx
  subst hy
  exact r_icmp_ge X tgt ht d (fun q => kt ((nI_leI hb ha).mp q)) (fun q => kf (Nat.not_le.mp fun z => q ((nI_leI hb ha).mpr z)))
theorem r_if_gt (X : bkX E G own cc nL ret R) {x : Int32} {off : Int} (tgt : Nat) (ht : (pc : Int) + off = (tgt : Int)) (d : decode cc pc = .ok (.ifCond .gt off, 3)) (kt : 0 < x → bkV E G Z k n M tgt L st) (kf : ¬ 0 < x → bkV E G Z k n M (pc + 3) L st) : bkV E G Z k n M pc L (.int x :: st) := fun H locs ls h1 h2 h3 h4 => lv_if_gt X.1 X.2.1 d ht (fun q => kt q H locs ls h1 h2 h3 h4) (fun q => kf q H locs ls h1 h2 h3 h4)
theorem r_icmp_gt (X : bkX E G own cc nL ret R) {x y : Int32} {off : Int} (tgt : Nat) (ht : (pc : Int) + off = (tgt : Int)) (d : decode cc pc = .ok (.if_icmp .gt off, 3)) (kt : y < x → bkV E G Z k n M tgt L st) (kf : ¬ y < x → bkV E G Z k n M (pc + 3) L st) : bkV E G Z k n M pc L (.int y :: .int x :: st) := fun H locs ls h1 h2 h3 h4 => lv_icmp_gt X.1 X.2.1 d ht (fun q => kt q H locs ls h1 h2 h3 h4) (fun q => kf q H locs ls h1 h2 h3 h4)
theorem r_icmpN_gt (X : bkX E G own cc nL ret R) {x y : Int32} {off : Int} (tgt a b : Nat) (hx : x = nI a) (hy : y = nI b) (ha : a < 2 ^ 31) (hb : b < 2 ^ 31) (ht : (pc : Int) + off = (tgt : Int)) (d : decode cc pc = .ok (.if_icmp .gt off, 3)) (kt : b < a → bkV E G Z k n M tgt L st) (kf : a ≤ b → bkV E G Z k n M (pc + 3) L st) : bkV E G Z k n M pc L (.int y :: .int x :: st) := by
  subst hx
  subst hy
  exact r_icmp_gt X tgt ht d (fun q => kt ((nI_ltI hb ha).mp q)) (fun q => kf (Nat.not_lt.mp fun z => q ((nI_ltI hb ha).mpr z)))
theorem r_if_le (X : bkX E G own cc nL ret R) {x : Int32} {off : Int} (tgt : Nat) (ht : (pc : Int) + off = (tgt : Int)) (d : decode cc pc = .ok (.ifCond .le off, 3)) (kt : x ≤ 0 → bkV E G Z k n M tgt L st) (kf : ¬ x ≤ 0 → bkV E G Z k n M (pc + 3) L st) : bkV E G Z k n M pc L (.int x :: st) := fun H locs ls h1 h2 h3 h4 => lv_if_le X.1 X.2.1 d ht (fun q => kt q H locs ls h1 h2 h3 h4) (fun q => kf q H locs ls h1 h2 h3 h4)
theorem r_icmp_le (X : bkX E G own cc nL ret R) {x y : Int32} {off : Int} (tgt : Nat) (ht : (pc : Int) + off = (tgt : Int)) (d : decode cc pc = .ok (.if_icmp .le off, 3)) (kt : x ≤ y → bkV E G Z k n M tgt L st) (kf : ¬ x ≤ y → bkV E G Z k n M (pc + 3) L st) : bkV E G Z k n M pc L (.int y :: .int x :: st) := fun H locs ls h1 h2 h3 h4 => lv_icmp_le X.1 X.2.1 d ht (fun q => kt q H locs ls h1 h2 h3 h4) (fun q => kf q H locs ls h1 h2 h3 h4)
theorem r_icmpN_le (X : bkX E G own cc nL ret R) {x y : Int32} {off : Int} (tgt a b : Nat) (hx : x = nI a) (hy : y = nI b) (ha : a < 2 ^ 31) (hb : b < 2 ^ 31) (ht : (pc : Int) + off = (tgt : Int)) (d : decode cc pc = .ok (.if_icmp .le off, 3)) (kt : a ≤ b → bkV E G Z k n M tgt L st) (kf : b < a → bkV E G Z k n M (pc + 3) L st) : bkV E G Z k n M pc L (.int y :: .int x :: st) := by
  subst hx
  subst hy
  exact r_icmp_le X tgt ht d (fun q => kt ((nI_leI ha hb).mp q)) (fun q => kf (Nat.not_le.mp fun z => q ((nI_leI ha hb).mpr z)))
theorem r_goto (X : bkX E G own cc nL ret R) {off : Int} (tgt : Nat) (ht : (pc : Int) + off = (tgt : Int)) (d : decode cc pc = .ok (.goto off, 3)) (kk : bkV E G Z k n M tgt L st) : bkV E G Z k n M pc L st := fun H locs ls h1 h2 h3 h4 => lv_goto X.1 X.2.1 d ht (kk H locs ls h1 h2 h3 h4)
theorem r_tableIn (X : bkX E G own cc nL ret R) {dflt lo hi : Int} {offs : Array Int} {len : Nat} {x : Int32} {off : Int} (tgt : Nat) (h1 : ¬ x.toInt < lo) (h2 : ¬ hi < x.toInt) (ho : offs[(x.toInt - lo).toNat]? = some off) (ht : (pc : Int) + off = (tgt : Int)) (d : decode cc pc = .ok (.tableswitch dflt lo hi offs, len)) (kk : bkV E G Z k n M tgt L st) : bkV E G Z k n M pc L (.int x :: st) := fun H locs ls g1 g2 g3 g4 => lv_tableIn X.1 X.2.1 d h1 h2 ho ht (kk H locs ls g1 g2 g3 g4)
theorem r_tableOut (X : bkX E G own cc nL ret R) {dflt lo hi : Int} {offs : Array Int} {len : Nat} {x : Int32} (tgt : Nat) (h : x.toInt < lo ∨ hi < x.toInt) (ht : (pc : Int) + dflt = (tgt : Int)) (d : decode cc pc = .ok (.tableswitch dflt lo hi offs, len)) (kk : bkV E G Z k n M tgt L st) : bkV E G Z k n M pc L (.int x :: st) := fun H locs ls g1 g2 g3 g4 => lv_tableOut X.1 X.2.1 d h ht (kk H locs ls g1 g2 g3 g4)
theorem r_lookup (X : bkX E G own cc nL ret R) {dflt : Int} {ps : Array (Int × Int)} {len : Nat} {x : Int32} {off : Int} (tgt : Nat) (hp : (ps.toList.zip (ps.toList.drop 1)).all (fun (a, next) => a.1 < next.1) = true) (ho : Op.lookupswitch.offset ps.toList dflt x.toInt = off) (ht : (pc : Int) + off = (tgt : Int)) (d : decode cc pc = .ok (.lookupswitch dflt ps, len)) (kk : bkV E G Z k n M tgt L st) : bkV E G Z k n M pc L (.int x :: st) := fun H locs ls g1 g2 g3 g4 => lv_lookup X.1 X.2.1 d hp ho ht (kk H locs ls g1 g2 g3 g4)

/-! the heap -/
theorem bkP.one {a : Nat} {ev : va_E} {H : Heap} (h : bkP G M H) (hm : M a = some ev) : va_P G.1 vwCl [(a, ev)] H := by
  intro j q hj
  cases j with
  | zero => cases hj; exact (h.1 a ev hm).1
  | succ j => cases hj
theorem bkP.lt {a : Nat} {ev : va_E} {H : Heap} (h : bkP G M H) (hm : M a = some ev) : a < H.size := (h.1 a ev hm).1.lt
theorem bkP.inA {a : Nat} {ev : va_E} {H : Heap} (h : bkP G M H) (hm : M a = some ev) : bkA G a := (h.1 a ev hm).2
theorem bkP.put {a : Nat} {e0 e1 : va_E} {H H1 : Heap} (h : bkP G M H) (hm : M a = some e0) (he : va_at G.1 vwCl (a, e1) H1) (z : H1.size = H.size) (oq : ∀ q : Nat, q ≠ a → H1[q]? = H[q]?) : bkP G (bku M a e1) H1 := by
  refine ⟨fun b ev hb => ?_, by rw [z]; exact h.2⟩
  by_cases e : b = a
  · subst e
    rw [bku_at] at hb
    cases hb
    exact ⟨he, h.inA hm⟩
  · rw [bku_ne e] at hb
    exact ⟨(h.1 b ev hb).1.kept (oq b e), (h.1 b ev hb).2⟩
theorem bkP.add {a : Nat} {e1 : va_E} {H H1 : Heap} (h : bkP G M H) (ha : H.size = a) (he : va_at G.1 vwCl (a, e1) H1) (z : H1.size = a + 1) (oq : ∀ q : Nat, q < a → H1[q]? = H[q]?) : bkP G (bku M a e1) H1 := by
  refine ⟨fun b ev hb => ?_, by rw [z, ← ha]; exact Nat.le_succ_of_le h.2⟩
  by_cases e : b = a
  · subst e
    rw [bku_at] at hb
    cases hb
    exact ⟨he, by rw [← ha]; exact h.2⟩
  · rw [bku_ne e] at hb
    exact ⟨(h.1 b ev hb).1.kept (oq b (by rw [← ha]; exact h.lt hb)), (h.1 b ev hb).2⟩
theorem bkS_grow {H0 H H1 : Heap} {locs : List Loc} {a : Nat} (h : va_S (bkA G) H0 H locs) (ha : H.size = a) (z : H1.size = a + 1) (oq : ∀ q : Nat, q < a → H1[q]? = H[q]?) : va_S (bkA G) H0 H1 locs :=
  ⟨by rw [z, ← ha]; exact Nat.le_succ_of_le h.1, fun q h1 h2 => (oq q (by rw [← ha]; exact Nat.lt_of_lt_of_le h1 h.1)).trans (h.2.1 q h1 h2), h.2.2⟩
/-- the same cells, told otherwise -/
theorem bkV.ext {M2 : bkM} (h : ∀ a, M2 a = M a) (kk : bkV E G Z k n M2 pc L st) : bkV E G Z k n M pc L st := by
  have e : M2 = M := funext h
  rw [← e]
  exact kk
theorem bkV.sub {M2 : bkM} (h : ∀ a ev, M2 a = some ev → M a = some ev) (kk : bkV E G Z k n M2 pc L st) : bkV E G Z k n M pc L st :=
  fun H locs ls h1 h2 h3 h4 => kk H locs ls ⟨fun a ev hm => h1.1 a ev (h a ev hm), h1.2⟩ h2 h3 h4
theorem bkV.widen {k2 n2 : Nat} (h1 : k ≤ k2) (h2 : n ≤ n2) (kk : bkV E G Z k2 n2 M pc L st) : bkV E G Z k n M pc L st :=
  fun H locs ls g1 g2 g3 g4 => W.widen h1 h2 (kk H locs ls g1 g2 g3 g4)
abbrev aI (G : bkG) (N : Nat) (f : Nat → Int32) : va_E := .inl (G.2.1 0, N, .inl f)
abbrev aC (G : bkG) (N : Nat) (f : Nat → Int32) : va_E := .inl (G.2.1 1, N, .inl f)
abbrev aQ (G : bkG) (t N : Nat) (f : Nat → Option Nat) : va_E := .inl (G.2.1 t, N, .inr (.inr (.inr (.inr f))))
/-- an array's cells beyond its end don't count -/
theorem bk_arrV {cA : ClassId} {N : Nat} {f g : Nat → Value} (h : ∀ j, j < N → f j = g j) : arrV cA N f = arrV cA N g := by
  unfold arrV
  congr 1
  apply Array.ext
  · simp
  · intro i h1 h2
    simp at h1 ⊢
    exact h i h1
theorem bkV.extI {a N : Nat} {cA : ClassId} {f g : Nat → Int32} (hm : M a = some (.inl (cA, N, .inl f))) (h : ∀ j, j < N → f j = g j) (kk : bkV E G Z k n (bku M a (.inl (cA, N, .inl g))) pc L st) : bkV E G Z k n M pc L st := by
  intro H locs ls h1 h2 h3 h4
  refine kk H locs ls (h1.put hm ?_ rfl (fun _ _ => rfl)) h2 h3 h4
  have := (h1.1 a _ hm).1
  show H[a]? = some (vp_cell cA (N, .inl g))
  have e : vp_cell cA (N, .inl g) = vp_cell cA (N, .inl f) := by
    rw [vp_cell_i, vp_cell_i]
    exact bk_arrV fun j hj => by rw [h j hj]
  rw [e]
  exact this

theorem r_get (X : bkX E G own cc nL ret R) {a : Nat} {ci : Nat} {fs : List Value} (hm : M a = some (.inr (ci, fs))) {C : String} {T : u_T} {N : Nat} (hc : vwCl[ci]? = some (C, T, N)) (hin : ∀ w ∈ u_ws C T N, w ∈ bkTB) (f : Nat) (hf : f < N) {idx : Nat} (hl : Cond.fieldLink own idx (T f).1 (T f).2.1 (T f).2.2.1 ∈ bkTB) {v : Value} (hv : fs[f]? = some v) (d : decode cc pc = .ok (.getfield idx, 3)) (kk : bkV E G Z k n M (pc + 3) L (v :: st)) : bkV E G Z k n M pc L (.ref a :: st) := fun H locs ls h1 h2 h3 h4 =>
  va_get (D := G.1) (cl := vwCl) (ws := [(a, .inr (ci, fs))]) X.1 X.2.1 X.2.2.2.2.1 hin X.2.2.2.1 X.2.2.2.2.2.1.1 (h1.one hm) 0 rfl hc f hf (X.2.2.2.2.1 _ hl) (fun _ h9 => h9) hv d (kk H locs ls h1 h2 h3 h4)
theorem r_put (X : bkX E G own cc nL ret R) {a : Nat} {ci : Nat} {fs : List Value} (hm : M a = some (.inr (ci, fs))) {C : String} {T : u_T} {N : Nat} (hc : vwCl[ci]? = some (C, T, N)) (hin : ∀ w ∈ u_ws C T N, w ∈ bkTB) (ty0 : Nat → FieldType) (hty : ∀ k, k < N → parseFieldDescriptor (T k).2.2.1 = some (ty0 k)) (hnm : ∀ a, a < N → ∀ b, b < N → a ≠ b → (T a).2.1 ≠ (T b).2.1) (f : Nat) (hf : f < N) {idx : Nat} (hl : Cond.fieldLink own idx (T f).1 (T f).2.1 (T f).2.2.1 ∈ bkTB) (hfin : (T f).2.2.2 = false ∨ ((T f).2.2.2 = true ∧ (eT E).name = "<init>" ∧ (T f).1 = own)) {v : Value} (hn : narrow (ty0 f) v = v) (hfit : fits (ty0 f) v = true) (hlen : f < fs.length) (d : decode cc pc = .ok (.putfield idx, 3)) (kk : bkV E G Z k n (bku M a (.inr (ci, fs.set f v))) (pc + 3) L st) : bkV E G Z k n M pc L (v :: .ref a :: st) := by
  intro H locs ls h1 h2 h3 h4
  have hts := X.2.2.2.2.1
  have hown := X.2.2.2.1
  have hK := X.2.2.2.2.2.1.1
  have hap := va_apart (own := own) hts hin ty0 hty hnm hK hc
  obtain ⟨r, g1, cell, q1, q2, q3, q4⟩ := (h1.1 a _ hm).1
  have hr : r = (C, T, N) := Option.some.inj (g1.symm.trans hc)
  subst hr
  obtain ⟨hS, hfc, kC, hkC, hkind⟩ := hK.1 ci _ hc
  obtain ⟨cf, kf, fi, f0, hi, hsl⟩ := hS f hf
  have hst := (u_facts hfc hkC (u_lays hts hin hf) hi).1
  have hd := hty f hf
  have done : ∀ H' : Heap, H'[a]? = some (cell.setSlot f0.slot v) → H'.size = H.size → (∀ q, q ≠ a → H'[q]? = H[q]?) → bkW E H' (locs ++ [⟨a, f0.slot⟩]) k n (F0 (eM E) (pc + 3) ls st) := by
    intro H' e1 e2 e3
    rw [hsl] at e1
    refine kk H' _ ls (h1.put hm ⟨_, hc, t_OB.to (V := updV (vp_V fs) f v) ⟨_, e1, q2, q3, t_set q4 hap hf v⟩ (fun j _ => vp_updV_set hlen v j)⟩ e2 e3) (by rw [e2]; exact h2) (h3.put e2 e3 (h1.inA hm)) h4
  have hslot : f0.slot < cell.slots.size := by rw [hsl]; exact k2_hasslot (q4 f hf)
  rcases hfin with hfin | ⟨hfin, hin2, hdecl⟩
  · have hlay := hts _ (hin _ (u_in_lay hf))
    unfold u_lay at hlay
    rw [if_neg (by rw [hfin]; decide)] at hlay
    have h6 := u_store hfc hkC hkind hlay hi hd hn hfit
    exact W.putK X.1 X.2.1 (f := f0) ⟨hown, hts _ hl, ⟨_, _, _, hi⟩, hst⟩ (by rw [q2]; exact h6) q1 q3 hslot rfl rfl d done
  · have hlay := hts _ (hin _ (u_in_lay hf))
    unfold u_lay at hlay
    rw [if_pos hfin] at hlay
    have hcf : (eM E).cls = cf := by
      obtain ⟨_, _, c', _, _, _, -, -, hf', -, -, -, hown2, -⟩ := Cond.laysFinal_spec hlay
      have e1 : c' = cf := by have := hi.symm.trans hf'; simp at this; exact this.1.symm
      rw [hdecl] at hown2
      rw [← e1]; exact Option.some.inj (hown.symm.trans hown2)
    have h6 := u_fits hfc hkC hkind (Or.inr hlay) hi hd hn hfit
    exact W.putFinK X.1 X.2.1 hown (hts _ hl) hi hst hcf hin2 (by rw [q2]; exact h6) q1 q3 hslot rfl rfl d done
theorem bkX.ty {t : Nat} (X : bkX E G own cc nL ret R) {q : ClassId × FieldType} (ht : (bkT G)[t]? = some q) : ArrOfT (eS E) q.1 q.2 ∧ va_RA (eS E) q.1 q.2 := X.2.2.2.2.2.1.1.2 t q ht
theorem r_iald (X : bkX E G own cc nL ret R) {a N : Nat} {f : Nat → Int32} (hm : M a = some (aI G N f)) {i : Int32} (j : Nat) (hi : i = nI j) (hj : j < N) (hN : N < 2 ^ 31) (d : decode cc pc = .ok (.iaload, 1)) (kk : bkV E G Z k n M (pc + 1) L (.int (f j) :: st)) : bkV E G Z k n M pc L (.int i :: .ref a :: st) := by
  subst hi
  intro H locs ls h1 h2 h3 h4
  refine va_iald (D := G.1) (cl := vwCl) (tys := bkT G) X.1 X.2.1 X.2.2.2.2.2.1.1 (h1.one hm) 0 0 rfl rfl (vp_in_nI hj hN) d ?_
  rw [nI_clamp (Nat.lt_trans hj hN)]
  exact (kk H locs ls h1 h2 h3 h4)
theorem r_cald (X : bkX E G own cc nL ret R) {a N : Nat} {f : Nat → Int32} (hm : M a = some (aC G N f)) {i : Int32} (j : Nat) (hi : i = nI j) (hj : j < N) (hN : N < 2 ^ 31) (d : decode cc pc = .ok (.caload, 1)) (kk : bkV E G Z k n M (pc + 1) L (.int (f j) :: st)) : bkV E G Z k n M pc L (.int i :: .ref a :: st) := by
  subst hi
  intro H locs ls h1 h2 h3 h4
  refine va_cald (D := G.1) (cl := vwCl) (tys := bkT G) X.1 X.2.1 X.2.2.2.2.2.1.1 (h1.one hm) 0 1 rfl rfl (vp_in_nI hj hN) d ?_
  rw [nI_clamp (Nat.lt_trans hj hN)]
  exact (kk H locs ls h1 h2 h3 h4)
theorem r_aald (X : bkX E G own cc nL ret R) {a N t b : Nat} {ty : FieldType} {f : Nat → Option Nat} (hm : M a = some (aQ G t N f)) (ht : (bkT G)[t]? = some (G.2.1 t, ty)) (hr : ty.isReference = true) {i : Int32} (j : Nat) (hi : i = nI j) (hj : j < N) (hN : N < 2 ^ 31) (hb : f j = some b) (d : decode cc pc = .ok (.aaload, 1)) (kk : bkV E G Z k n M (pc + 1) L (.ref b :: st)) : bkV E G Z k n M pc L (.int i :: .ref a :: st) := by
  subst hi
  intro H locs ls h1 h2 h3 h4
  have hin := vp_in_nI hj hN
  refine W.aald (v := va_rf (f j)) (ty := ty) X.1 X.2.1 (h1.1 a _ hm).1 ((X.ty ht).1 N (fun j => va_rf (f j))) hr (fun q => by cases q) (by show ¬ (_ ∨ (arrV _ _ _).slots.size ≤ _); rw [arrV_size]; exact hin) (by rw [nI_clamp (Nat.lt_trans hj hN)]; show (arrV _ _ _).slots[_]? = _; rw [arrV_read _ _ hj]) rfl rfl d ?_
  rw [hb]
  exact (kk H locs ls h1 h2 h3 h4)
theorem r_alen (X : bkX E G own cc nL ret R) {a N t : Nat} {cA : ClassId} {x : (Nat → Int32) ⊕ (Nat → Int64) ⊕ (Nat → UInt32) ⊕ (Nat → UInt64) ⊕ (Nat → Option Nat)} {ty : FieldType} (hm : M a = some (.inl (cA, N, x))) (t : Nat) (ht : (bkT G)[t]? = some (cA, ty)) (d : decode cc pc = .ok (.arraylength, 1)) (kk : bkV E G Z k n M (pc + 1) L (.int (nI N) :: st)) : bkV E G Z k n M pc L (.ref a :: st) := fun H locs ls h1 h2 h3 h4 =>
  va_alen (D := G.1) (cl := vwCl) (tys := bkT G) X.1 X.2.1 X.2.2.2.2.2.1.1 (h1.one hm) 0 t rfl ht rfl d (kk H locs ls h1 h2 h3 h4)
theorem r_iast (X : bkX E G own cc nL ret R) {a N : Nat} {f : Nat → Int32} (hm : M a = some (aI G N f)) {i x : Int32} (j : Nat) (hi : i = nI j) (hj : j < N) (hN : N < 2 ^ 31) (d : decode cc pc = .ok (.iastore, 1)) (kk : bkV E G Z k n (bku M a (aI G N (upd f j x))) (pc + 1) L st) : bkV E G Z k n M pc L (.int x :: .int i :: .ref a :: st) := by
  subst hi
  intro H locs ls h1 h2 h3 h4
  refine W.iast X.1 X.2.1 (h1.1 a _ hm).1 ((X.ty (t := 0) rfl).1 N (fun j => .int (f j))) (fun q => by cases q) (by show ¬ (_ ∨ (arrV _ _ _).slots.size ≤ _); rw [arrV_size]; exact vp_in_nI hj hN) rfl rfl d fun H1 e z oq => ?_
  refine kk H1 _ ls (h1.put hm ?_ z oq) (by rw [z]; exact h2) (h3.put z oq (h1.inA hm)) h4
  show H1[a]? = some (vp_cell _ _)
  rw [e, vp_cell_i, vp_cell_i, arrV_store, nI_clamp (Nat.lt_trans hj hN)]
  congr 2
  funext q
  by_cases hq : q = j
  · subst hq
    simp [updV, upd]
  · simp [updV, upd, hq]
theorem r_cast (X : bkX E G own cc nL ret R) {a N : Nat} {f : Nat → Int32} (hm : M a = some (aC G N f)) {i x : Int32} (j : Nat) (hi : i = nI j) (hj : j < N) (hN : N < 2 ^ 31) (d : decode cc pc = .ok (.castore, 1)) (kk : bkV E G Z k n (bku M a (aC G N (upd f j (vp_nar .char x)))) (pc + 1) L st) : bkV E G Z k n M pc L (.int x :: .int i :: .ref a :: st) := by
  subst hi
  intro H locs ls h1 h2 h3 h4
  refine W.cast X.1 X.2.1 (h1.1 a _ hm).1 ((X.ty (t := 1) rfl).1 N (fun j => .int (f j))) (fun q => by cases q) (by show ¬ (_ ∨ (arrV _ _ _).slots.size ≤ _); rw [arrV_size]; exact vp_in_nI hj hN) rfl rfl d fun H1 e z oq => ?_
  refine kk H1 _ ls (h1.put hm ?_ z oq) (by rw [z]; exact h2) (h3.put z oq (h1.inA hm)) h4
  show H1[a]? = some (vp_cell _ _)
  rw [e, vp_cell_i, vp_cell_i, arrV_store, nI_clamp (Nat.lt_trans hj hN)]
  congr 2
  funext q
  by_cases hq : q = j
  · subst hq
    simp [updV, upd, vp_nar]
    try rfl
  · simp [updV, upd, hq]
theorem r_aast (X : bkX E G own cc nL ret R) {a N v t ci : Nat} {C : String} {T : u_T} {nf : Nat} {vs : List Value} {f : Nat → Option Nat} (hm : M a = some (aQ G t N f)) (ht : (bkT G)[t]? = some (G.2.1 t, .object C)) (hmv : M v = some (.inr (ci, vs))) (hc : vwCl[ci]? = some (C, T, nf)) {i : Int32} (j : Nat) (hi : i = nI j) (hj : j < N) (hN : N < 2 ^ 31) (d : decode cc pc = .ok (.aastore, 1)) (kk : bkV E G Z k n (bku M a (aQ G t N (va_up f j (some v)))) (pc + 1) L st) : bkV E G Z k n M pc L (.ref v :: .int i :: .ref a :: st) := by
  subst hi
  intro H locs ls h1 h2 h3 h4
  have hcl := nI_clamp (Nat.lt_trans hj hN)
  have h0 : ¬ nI j < 0 := nI_pos (Nat.lt_trans hj hN)
  obtain ⟨r', hr', cellV, g1, g2, g3, -⟩ := (h1.1 v _ hmv).1
  have hcls := (X.2.2.2.2.2.1.1.1 ci _ hc).2
  obtain ⟨kA, comp, k1, k2, k3, -⟩ := (X.ty ht).2
  have hcomp : comp = G.1.1 ci := Option.some.inj (k3.symm.trans hcls.1)
  subst hcomp
  obtain ⟨kC, hkC, -⟩ := hcls.2
  refine W.aast X.1 X.2.1 (h1.1 a _ hm).1 (fun q h => by cases h) (fun h => by cases h) k1 k2 rfl hkC ⟨h0, by rw [hcl]; show _ < (arrV _ _ _).slots.size; rw [arrV_size]; exact hj⟩ g1 (fun q h => by rw [g3] at h; cases h) (by rw [g2]; exact hkC) (by rw [g2]; exact va_assign hcls) rfl rfl d fun H1 e z oq => ?_
  refine kk H1 _ ls (h1.put hm ?_ z oq) (by rw [z]; exact h2) (h3.put z oq (h1.inA hm)) h4
  show H1[a]? = some (vp_cell _ _)
  rw [e, vp_cell_q, vp_cell_q, arrV_store, hcl]
  congr 2
  funext q
  by_cases hq : q = j
  · subst hq
    simp [updV, va_up, va_rf]
  · simp [updV, va_up, hq]

end BKR
end
section
theorem bk_good {w : Cond} (h : w ∈ bkTB) : w ∈ bkTB ∧ ((w.onTables && w.keeps) = true ∨ ∃ ty, w = .arrayClass ty) := ⟨h, good_of_word (List.mem_filter.mp h).2⟩
theorem bkN.same {u U : State} (h : u.vm = U.vm) (g : bkN u) : bkN U := by
  obtain ⟨⟨a1, a2, a3, a4, a5, a6⟩, ⟨b1, b2, b3⟩, ⟨c1, c2, c3, c4, c5, c6⟩⟩ := g
  have al : u.vm.Alike U.vm := by rw [h]; exact Vm.Alike.refl _
  exact ⟨⟨a1.same rfl h, a2.same rfl h, a3.same rfl h, a4.same rfl h, a5.same rfl h, a6.same rfl h⟩, ⟨b1.same rfl h, b2.same rfl h, b3.same rfl h⟩, ⟨c1.moved al, c2.moved al, c3.moved al, c4.moved al, c5.moved al, c6.moved al⟩⟩
theorem bk_blind {G : bkG} {Z : Nat → Prop} {M : bkM} {av : List Value} : FrameBlind (va_Pc av (bkH G Z M)) := by
  intro a U g mk h
  obtain ⟨e, hP, hZ, hK, hS, hN⟩ := h
  have al : U.vm.Alike (U.calling g mk a).vm := Vm.Alike.refl _
  exact ⟨e, hP, hZ, hK.moved al, ⟨hS.1.go al (fun _ _ _ => rfl), hS.2.1.go al (fun _ _ _ => rfl), hS.2.2.go al (fun _ _ _ => rfl)⟩, hN.same rfl⟩
section BKC
variable {E : bkEnv} {R : Room} {G : bkG} {Z : Nat → Prop} {k n : Nat} {M : bkM} {pc : Nat} {L : List (Option Value)} {st st0 : List Value} {own : String} {cc : ByteArray} {nL : Nat} {ret : Option FieldType}
theorem bkX.pre (X : bkX E G own cc nL ret R) {H : Heap} {locs : List Loc} (h1 : bkP G M H) (h2 : Z H.size) (h3 : va_S (bkA G) (eS E).heap H locs) {U : State} (hU : U.heap = H) (hW : (eS E).WarmedH U.vm) : bkH G Z M U :=
  ⟨by rw [hU]; exact h1, by rw [hU]; exact h2, X.2.2.2.2.2.1.go hW (fun a g1 g2 => by rw [hU]; exact h3.2.1 a g1 g2)⟩
variable {y : MethodName} {code : ByteArray} {nL' h' mc ms idx : Nat} {ret' : Option FieldType} {Z' : Nat → Prop} {b : Nat} {as : List Value}
def bk_dsc (y : MethodName) (j : Nat) : Prop := y.cls ≠ "java/lang/invoke/MethodHandle" ∧ y.cls ≠ "java/lang/invoke/VarHandle" ∧ (parseMethodDescriptor y.desc).map (fun d => d.parameters.length) = some j
def bk_fit (R : Room) (nL' h' k n mc ms : Nat) : Prop := (h' + 1 ≤ R.frames ∧ 8 + (nL' + 11) + 39 * h' ≤ R.locals) ∧ k + mc ≤ R.cells ∧ n + ms ≤ R.slots
theorem bk_gV (hl : Cond.methodLink own idx y ∈ bkTB) (hi : Cond.instanceMethod y ∈ bkTB) (hs : Cond.selects y.cls y y ∈ bkTB) (hini : Cond.initialized y.cls ∈ bkTB) (hcd : Cond.code y code nL' ret' ∈ bkTB) : GoodIn bkTB (wsV own idx y.cls y (.code y code nL' ret' :: bkTB)) := by
  intro w hw
  unfold wsV at hw
  rcases List.mem_append.mp hw with h | h
  · simp only [List.mem_cons, List.not_mem_nil, or_false] at h
    rcases h with rfl | rfl | rfl | rfl
    · exact bk_good hl
    · exact bk_good hi
    · exact bk_good hs
    · exact bk_good hini
  · rcases List.mem_cons.mp h with rfl | h
    · exact bk_good hcd
    · exact bk_good h
theorem bk_gS (hl : Cond.methodLink own idx y ∈ bkTB) (hi : Cond.static y ∈ bkTB) (hini : Cond.initialized y.cls ∈ bkTB) (hcd : Cond.code y code nL' ret' ∈ bkTB) : GoodIn bkTB (va_wsS own idx y (.code y code nL' ret' :: bkTB)) := by
  intro w hw
  unfold va_wsS at hw
  rcases List.mem_append.mp hw with h | h
  · simp only [List.mem_cons, List.not_mem_nil, or_false] at h
    rcases h with rfl | rfl | rfl
    · exact bk_good hl
    · exact bk_good hi
    · exact bk_good hini
  · rcases List.mem_cons.mp h with rfl | h
    · exact bk_good hcd
    · exact bk_good h
theorem bk_gC (hcd : Cond.code y code nL' ret' ∈ bkTB) : GoodIn bkTB (.code y code nL' ret' :: bkTB) := by
  intro w h
  rcases List.mem_cons.mp h with rfl | h
  · exact bk_good hcd
  · exact bk_good h

theorem r_callVi (X : bkX E G own cc nL ret R) {post : Int32 → bkM → Prop} (C : bkCi G Z Z' y code nL' ret' h' mc ms (.ref b :: as) M post) {ci : Nat} {fs : List Value} (hm : M b = some (.inr (ci, fs))) {q : vw_C} (hq : vwCl[ci]? = some q) (hqc : q.1 = y.cls) (hl : Cond.methodLink own idx y ∈ bkTB) (hi : Cond.instanceMethod y ∈ bkTB) (hs : Cond.selects y.cls y y ∈ bkTB) (hini : Cond.initialized y.cls ∈ bkTB) (hcd : Cond.code y code nL' ret' ∈ bkTB) (hd : bk_dsc y as.length) (hR : bk_fit R nL' h' k n mc ms) (hcat : (st.map fun v => v.category).sum ≤ 8) (hlen : L.length = nL) (hst : st0 = as.reverse ++ .ref b :: st) (d : decode cc pc = .ok (.invokevirtual idx, 3)) (kk : ∀ (r : Int32) (M' : bkM), post r M' → bkV E G Z' (k + mc) (n + ms) M' (pc + 3) L (.int r :: st)) : bkV E G Z k n M pc L st0 := by
  subst hst
  intro H locs ls h1 h2 h3 h4
  have hrun := va_runV (p := eP E) (l := eL E) (e := eE E) (R := eR E) (s := eS E) (m := eM E) (args := eA E) (below := eB E) (meth := eT E) (c := eC E) (H := H) (locs := locs) (cells := k) (slots := n) (As := as) (rest := st) (g := F0 (eM E) pc ls (as.reverse ++ .ref b :: st)) (ws := .code y code nL' ret' :: bkTB) (C := y.cls) ⟨X.1, X.2.1, X.2.2.1, X.2.2.2.1, X.2.2.2.2.1⟩ (C (eL E)) (cwV as.length X.2.2.2.2.1 (bk_gV hl hi hs hini hcd) rfl rfl rfl ⟨rfl, hd⟩ (by rw [X.rm]; exact hR.1)) ⟨bk_blind, by rw [← hqc]; exact va_recv (q0 := 0) X.2.2.2.2.2.1.1 (h1.one hm) hq rfl, fun U hU hW => ⟨rfl, X.pre h1 h2 h3 hU hW⟩⟩ rfl rfl (h4.1.trans hlen) rfl (lv_room hcat) d (by rw [X.rm]; exact hR.2)
  exact va_calli hrun h3 (fun q _ h => h) (fun q h => h) (fun r u t H1 locs1 ht hvm hw hB hz hk hS => kk r u hw H1 locs1 ls (by rw [← ht]; exact hB.1) (by rw [← ht]; exact hB.2.1) hS h4)
theorem r_callSi (X : bkX E G own cc nL ret R) {post : Int32 → bkM → Prop} (C : bkCi G Z Z' y code nL' ret' h' mc ms as M post) (hl : Cond.methodLink own idx y ∈ bkTB) (hi : Cond.static y ∈ bkTB) (hini : Cond.initialized y.cls ∈ bkTB) (hcd : Cond.code y code nL' ret' ∈ bkTB) (hd : bk_dsc y as.length) (hR : bk_fit R nL' h' k n mc ms) (hcat : (st.map fun v => v.category).sum ≤ 8) (hlen : L.length = nL) (hst : st0 = as.reverse ++ st) (d : decode cc pc = .ok (.invokestatic idx, 3)) (kk : ∀ (r : Int32) (M' : bkM), post r M' → bkV E G Z' (k + mc) (n + ms) M' (pc + 3) L (.int r :: st)) : bkV E G Z k n M pc L st0 := by
  subst hst
  intro H locs ls h1 h2 h3 h4
  have hrun := va_runS (p := eP E) (l := eL E) (e := eE E) (R := eR E) (s := eS E) (m := eM E) (args := eA E) (below := eB E) (meth := eT E) (c := eC E) (H := H) (locs := locs) (cells := k) (slots := n) (As := as) (rest := st) (g := F0 (eM E) pc ls (as.reverse ++ st)) (ws := .code y code nL' ret' :: bkTB) ⟨X.1, X.2.1, X.2.2.1, X.2.2.2.1, X.2.2.2.2.1⟩ (C (eL E)) (va_cwS as.length X.2.2.2.2.1 (bk_gS hl hi hini hcd) rfl rfl rfl hd (by rw [X.rm]; exact hR.1)) ⟨bk_blind, fun U hU hW => ⟨rfl, X.pre h1 h2 h3 hU hW⟩⟩ rfl rfl (h4.1.trans hlen) rfl (lv_room hcat) d (by rw [X.rm]; exact hR.2)
  exact va_calli hrun h3 (fun q _ h => h) (fun q h => h) (fun r u t H1 locs1 ht hvm hw hB hz hk hS => kk r u hw H1 locs1 ls (by rw [← ht]; exact hB.1) (by rw [← ht]; exact hB.2.1) hS h4)
theorem r_callSNi (X : bkX E G own cc nL ret R) {host : String} {post : Int32 → bkM → Prop} (C : bkCi G Z Z' y code nL' ret' h' mc ms as M post) (hl : va_Nw (.methodLinkNest own idx y host) (eS E)) (hi : Cond.static y ∈ bkTB) (hini : Cond.initialized y.cls ∈ bkTB) (hcd : Cond.code y code nL' ret' ∈ bkTB) (hd : bk_dsc y as.length) (hR : bk_fit R nL' h' k n mc ms) (hcat : (st.map fun v => v.category).sum ≤ 8) (hlen : L.length = nL) (hst : st0 = as.reverse ++ st) (d : decode cc pc = .ok (.invokestatic idx, 3)) (kk : ∀ (r : Int32) (M' : bkM), post r M' → bkV E G Z' (k + mc) (n + ms) M' (pc + 3) L (.int r :: st)) : bkV E G Z k n M pc L st0 := by
  subst hst
  intro H locs ls h1 h2 h3 h4
  have hrun := va_runSN (p := eP E) (l := eL E) (e := eE E) (R := eR E) (s := eS E) (m := eM E) (args := eA E) (below := eB E) (meth := eT E) (c := eC E) (H := H) (locs := locs) (cells := k) (slots := n) (As := as) (rest := st) (g := F0 (eM E) pc ls (as.reverse ++ st)) (ws := .code y code nL' ret' :: bkTB) ⟨X.1, X.2.1, X.2.2.1, X.2.2.2.1, X.2.2.2.2.1⟩ (C (eL E)) ⟨va_cnB as.length X.2.2.2.2.1 (bk_gC hcd) rfl rfl rfl hl (X.2.2.2.2.1 _ hini) hd (by rw [X.rm]; exact hR.1), X.2.2.2.2.1 _ hi, trivial⟩ ⟨bk_blind, fun U hU hW => ⟨rfl, X.pre h1 h2 h3 hU hW⟩⟩ rfl rfl (h4.1.trans hlen) rfl (lv_room hcat) d (by rw [X.rm]; exact hR.2)
  exact va_calli hrun h3 (fun q _ h => h) (fun q h => h) (fun r u t H1 locs1 ht hvm hw hB hz hk hS => kk r u hw H1 locs1 ls (by rw [← ht]; exact hB.1) (by rw [← ht]; exact hB.2.1) hS h4)
theorem r_callVv (X : bkX E G own cc nL ret R) {post : bkM → Prop} (C : bkCv G Z Z' y code nL' h' mc ms (.ref b :: as) M post) {ci : Nat} {fs : List Value} (hm : M b = some (.inr (ci, fs))) {q : vw_C} (hq : vwCl[ci]? = some q) (hqc : q.1 = y.cls) (hl : Cond.methodLink own idx y ∈ bkTB) (hi : Cond.instanceMethod y ∈ bkTB) (hs : Cond.selects y.cls y y ∈ bkTB) (hini : Cond.initialized y.cls ∈ bkTB) (hcd : Cond.code y code nL' none ∈ bkTB) (hd : bk_dsc y as.length) (hR : bk_fit R nL' h' k n mc ms) (hcat : (st.map fun v => v.category).sum ≤ 8) (hlen : L.length = nL) (hst : st0 = as.reverse ++ .ref b :: st) (d : decode cc pc = .ok (.invokevirtual idx, 3)) (kk : ∀ (M' : bkM), post M' → bkV E G Z' (k + mc) (n + ms) M' (pc + 3) L st) : bkV E G Z k n M pc L st0 := by
  subst hst
  intro H locs ls h1 h2 h3 h4
  have hrun := va_runV (p := eP E) (l := eL E) (e := eE E) (R := eR E) (s := eS E) (m := eM E) (args := eA E) (below := eB E) (meth := eT E) (c := eC E) (H := H) (locs := locs) (cells := k) (slots := n) (As := as) (rest := st) (g := F0 (eM E) pc ls (as.reverse ++ .ref b :: st)) (ws := .code y code nL' none :: bkTB) (C := y.cls) ⟨X.1, X.2.1, X.2.2.1, X.2.2.2.1, X.2.2.2.2.1⟩ (C (eL E)) (cwV as.length X.2.2.2.2.1 (bk_gV hl hi hs hini hcd) rfl rfl rfl ⟨rfl, hd⟩ (by rw [X.rm]; exact hR.1)) ⟨bk_blind, by rw [← hqc]; exact va_recv (q0 := 0) X.2.2.2.2.2.1.1 (h1.one hm) hq rfl, fun U hU hW => ⟨rfl, X.pre h1 h2 h3 hU hW⟩⟩ rfl rfl (h4.1.trans hlen) rfl (lv_room hcat) d (by rw [X.rm]; exact hR.2)
  exact va_callv hrun h3 (fun q _ h => h) (fun q h => h) (fun u t H1 locs1 ht hvm hw hB hz hk hS => kk u hw H1 locs1 ls (by rw [← ht]; exact hB.1) (by rw [← ht]; exact hB.2.1) hS h4)
theorem r_callSv (X : bkX E G own cc nL ret R) {post : bkM → Prop} (C : bkCv G Z Z' y code nL' h' mc ms as M post) (hl : Cond.methodLink own idx y ∈ bkTB) (hi : Cond.static y ∈ bkTB) (hini : Cond.initialized y.cls ∈ bkTB) (hcd : Cond.code y code nL' none ∈ bkTB) (hd : bk_dsc y as.length) (hR : bk_fit R nL' h' k n mc ms) (hcat : (st.map fun v => v.category).sum ≤ 8) (hlen : L.length = nL) (hst : st0 = as.reverse ++ st) (d : decode cc pc = .ok (.invokestatic idx, 3)) (kk : ∀ (M' : bkM), post M' → bkV E G Z' (k + mc) (n + ms) M' (pc + 3) L st) : bkV E G Z k n M pc L st0 := by
  subst hst
  intro H locs ls h1 h2 h3 h4
  have hrun := va_runS (p := eP E) (l := eL E) (e := eE E) (R := eR E) (s := eS E) (m := eM E) (args := eA E) (below := eB E) (meth := eT E) (c := eC E) (H := H) (locs := locs) (cells := k) (slots := n) (As := as) (rest := st) (g := F0 (eM E) pc ls (as.reverse ++ st)) (ws := .code y code nL' none :: bkTB) ⟨X.1, X.2.1, X.2.2.1, X.2.2.2.1, X.2.2.2.2.1⟩ (C (eL E)) (va_cwS as.length X.2.2.2.2.1 (bk_gS hl hi hini hcd) rfl rfl rfl hd (by rw [X.rm]; exact hR.1)) ⟨bk_blind, fun U hU hW => ⟨rfl, X.pre h1 h2 h3 hU hW⟩⟩ rfl rfl (h4.1.trans hlen) rfl (lv_room hcat) d (by rw [X.rm]; exact hR.2)
  exact va_callv hrun h3 (fun q _ h => h) (fun q h => h) (fun u t H1 locs1 ht hvm hw hB hz hk hS => kk u hw H1 locs1 ls (by rw [← ht]; exact hB.1) (by rw [← ht]; exact hB.2.1) hS h4)
theorem r_callI (X : bkX E G own cc nL ret R) {post : bkM → Prop} (C : bkCv G Z Z' y code nL' h' mc ms (.ref b :: as) M post) (hnm : y.name = "<init>") (hl : Cond.methodLink own idx y ∈ bkTB) (hi : Cond.instanceMethod y ∈ bkTB) (hini : Cond.initialized y.cls ∈ bkTB) (hcd : Cond.code y code nL' none ∈ bkTB) (hd : bk_dsc y as.length) (hR : bk_fit R nL' h' k n mc ms) (hcat : (st.map fun v => v.category).sum ≤ 8) (hlen : L.length = nL) (hst : st0 = as.reverse ++ .ref b :: st) (d : decode cc pc = .ok (.invokespecial idx, 3)) (kk : ∀ (M' : bkM), post M' → bkV E G Z' (k + mc) (n + ms) M' (pc + 3) L st) : bkV E G Z k n M pc L st0 := by
  subst hst
  intro H locs ls h1 h2 h3 h4
  have hrun := va_runI (p := eP E) (l := eL E) (e := eE E) (R := eR E) (s := eS E) (m := eM E) (args := eA E) (below := eB E) (meth := eT E) (c := eC E) (H := H) (locs := locs) (cells := k) (slots := n) (As := as) (rest := st) (g := F0 (eM E) pc ls (as.reverse ++ .ref b :: st)) (ws := .code y code nL' none :: bkTB) ⟨X.1, X.2.1, X.2.2.1, X.2.2.2.1, X.2.2.2.2.1⟩ (C (eL E)) (cwI as.length X.2.2.2.2.1 (bk_gC hcd) rfl rfl rfl (X.2.2.2.2.1 _ hini) (X.2.2.2.2.1 _ hl) (X.2.2.2.2.1 _ hi) hnm hd (by rw [X.rm]; exact hR.1)) ⟨bk_blind, fun U hU hW => ⟨rfl, X.pre h1 h2 h3 hU hW⟩⟩ rfl rfl (h4.1.trans hlen) rfl (lv_room hcat) d (by rw [X.rm]; exact hR.2)
  exact va_callv hrun h3 (fun q _ h => h) (fun q h => h) (fun u t H1 locs1 ht hvm hw hB hz hk hS => kk u hw H1 locs1 ls (by rw [← ht]; exact hB.1) (by rw [← ht]; exact hB.2.1) hS h4)
theorem r_callIN (X : bkX E G own cc nL ret R) {host : String} {post : bkM → Prop} (C : bkCv G Z Z' y code nL' h' mc ms (.ref b :: as) M post) (hnm : y.name = "<init>") (hl : va_Nw (.methodLinkNest own idx y host) (eS E)) (hi : Cond.instanceMethod y ∈ bkTB) (hini : Cond.initialized y.cls ∈ bkTB) (hcd : Cond.code y code nL' none ∈ bkTB) (hd : bk_dsc y as.length) (hR : bk_fit R nL' h' k n mc ms) (hcat : (st.map fun v => v.category).sum ≤ 8) (hlen : L.length = nL) (hst : st0 = as.reverse ++ .ref b :: st) (d : decode cc pc = .ok (.invokespecial idx, 3)) (kk : ∀ (M' : bkM), post M' → bkV E G Z' (k + mc) (n + ms) M' (pc + 3) L st) : bkV E G Z k n M pc L st0 := by
  subst hst
  intro H locs ls h1 h2 h3 h4
  have hrun := va_runIN (p := eP E) (l := eL E) (e := eE E) (R := eR E) (s := eS E) (m := eM E) (args := eA E) (below := eB E) (meth := eT E) (c := eC E) (H := H) (locs := locs) (cells := k) (slots := n) (As := as) (rest := st) (g := F0 (eM E) pc ls (as.reverse ++ .ref b :: st)) (ws := .code y code nL' none :: bkTB) ⟨X.1, X.2.1, X.2.2.1, X.2.2.2.1, X.2.2.2.2.1⟩ (C (eL E)) ⟨va_cnB as.length X.2.2.2.2.1 (bk_gC hcd) rfl rfl rfl hl (X.2.2.2.2.1 _ hini) hd (by rw [X.rm]; exact hR.1), hnm, X.2.2.2.2.1 _ hi⟩ ⟨bk_blind, fun U hU hW => ⟨rfl, X.pre h1 h2 h3 hU hW⟩⟩ rfl rfl (h4.1.trans hlen) rfl (lv_room hcat) d (by rw [X.rm]; exact hR.2)
  exact va_callv hrun h3 (fun q _ h => h) (fun q h => h) (fun u t H1 locs1 ht hvm hw hB hz hk hS => kk u hw H1 locs1 ls (by rw [← ht]; exact hB.1) (by rw [← ht]; exact hB.2.1) hS h4)
theorem r_callVf (X : bkX E G own cc nL ret R) {post : UInt32 → bkM → Prop} (C : bkCf G Z Z' y code nL' h' mc ms (.ref b :: as) M post) {ci : Nat} {fs : List Value} (hm : M b = some (.inr (ci, fs))) {q : vw_C} (hq : vwCl[ci]? = some q) (hqc : q.1 = y.cls) (hl : Cond.methodLink own idx y ∈ bkTB) (hi : Cond.instanceMethod y ∈ bkTB) (hs : Cond.selects y.cls y y ∈ bkTB) (hini : Cond.initialized y.cls ∈ bkTB) (hcd : Cond.code y code nL' (some .float) ∈ bkTB) (hd : bk_dsc y as.length) (hR : bk_fit R nL' h' k n mc ms) (hcat : (st.map fun v => v.category).sum ≤ 8) (hlen : L.length = nL) (hst : st0 = as.reverse ++ .ref b :: st) (d : decode cc pc = .ok (.invokevirtual idx, 3)) (kk : ∀ (r : UInt32) (M' : bkM), post r M' → bkV E G Z' (k + mc) (n + ms) M' (pc + 3) L (.float r :: st)) : bkV E G Z k n M pc L st0 := by
  subst hst
  intro H locs ls h1 h2 h3 h4
  have hrun := va_runV (p := eP E) (l := eL E) (e := eE E) (R := eR E) (s := eS E) (m := eM E) (args := eA E) (below := eB E) (meth := eT E) (c := eC E) (H := H) (locs := locs) (cells := k) (slots := n) (As := as) (rest := st) (g := F0 (eM E) pc ls (as.reverse ++ .ref b :: st)) (ws := .code y code nL' (some .float) :: bkTB) (C := y.cls) ⟨X.1, X.2.1, X.2.2.1, X.2.2.2.1, X.2.2.2.2.1⟩ (C (eL E)) (cwV as.length X.2.2.2.2.1 (bk_gV hl hi hs hini hcd) rfl rfl rfl ⟨rfl, hd⟩ (by rw [X.rm]; exact hR.1)) ⟨bk_blind, by rw [← hqc]; exact va_recv (q0 := 0) X.2.2.2.2.2.1.1 (h1.one hm) hq rfl, fun U hU hW => ⟨rfl, X.pre h1 h2 h3 hU hW⟩⟩ rfl rfl (h4.1.trans hlen) rfl (lv_room hcat) d (by rw [X.rm]; exact hR.2)
  exact va_callf hrun h3 (fun q _ h => h) (fun q h => h) (fun r u t H1 locs1 ht hvm hw hB hz hk hS => kk r u hw H1 locs1 ls (by rw [← ht]; exact hB.1) (by rw [← ht]; exact hB.2.1) hS h4)

/-! ends -/
theorem r_iret {post : Int32 → bkM → Prop} (X : bkX E G own cc nL (some .int) R) (hQ : eQ E = MQ (eB E) (va_Qi post (bkH G Z) (bkA G)) (eA E) (eS E) k n (bkA G)) {v : Int32} (d : decode cc pc = .ok (.ireturn, 1)) (hp : post v M) : bkV E G Z k n M pc L [.int v] := fun H locs ls h1 h2 h3 h4 => by
  unfold bkW
  rw [hQ]
  exact W.iret X.1 X.2.1 X.2.2.2.2.2.2.1 (fun t ht hW => ⟨⟨v, M, rfl, hp, X.pre h1 h2 h3 ht hW⟩, h3.F ht⟩) h3.2.2 d X.2.2.2.2.2.2.2.1
theorem r_zret {post : Int32 → bkM → Prop} (X : bkX E G own cc nL (some .boolean) R) (hQ : eQ E = MQ (eB E) (va_Qi post (bkH G Z) (bkA G)) (eA E) (eS E) k n (bkA G)) {v : Int32} (d : decode cc pc = .ok (.ireturn, 1)) (hb : v = 0 ∨ v = 1) (hp : post v M) : bkV E G Z k n M pc L [.int v] := fun H locs ls h1 h2 h3 h4 => by
  unfold bkW
  rw [hQ]
  exact W.zret X.1 X.2.1 X.2.2.2.2.2.2.1 (by rcases hb with rfl | rfl <;> rfl) (fun t ht hW => ⟨⟨v, M, rfl, hp, X.pre h1 h2 h3 ht hW⟩, h3.F ht⟩) h3.2.2 d X.2.2.2.2.2.2.2.1
theorem r_vret {post : bkM → Prop} (X : bkX E G own cc nL none R) (hQ : eQ E = MQ (eB E) (va_Qv post (bkH G Z) (bkA G)) (eA E) (eS E) k n (bkA G)) (d : decode cc pc = .ok (.return_, 1)) (hp : post M) : bkV E G Z k n M pc L [] := fun H locs ls h1 h2 h3 h4 => by
  unfold bkW
  rw [hQ]
  exact W.vret X.1 X.2.1 X.2.2.2.2.2.2.1 (fun t ht hW => ⟨⟨M, rfl, hp, X.pre h1 h2 h3 ht hW⟩, h3.F ht⟩) h3.2.2 d X.2.2.2.2.2.2.2.1
theorem r_fret {post : UInt32 → bkM → Prop} (X : bkX E G own cc nL (some .float) R) (hQ : eQ E = MQ (eB E) (va_Qf post (bkH G Z) (bkA G)) (eA E) (eS E) k n (bkA G)) {v : UInt32} (d : decode cc pc = .ok (.freturn, 1)) (hp : post v M) : bkV E G Z k n M pc L [.float v] := fun H locs ls h1 h2 h3 h4 => by
  unfold bkW
  rw [hQ]
  exact W.fret X.1 X.2.1 X.2.2.2.2.2.2.1 (fun t ht hW => ⟨⟨v, M, rfl, hp, X.pre h1 h2 h3 ht hW⟩, h3.F ht⟩) h3.2.2 d X.2.2.2.2.2.2.2.1
end BKC
section BKM
variable {G : bkG} {Z Z' : Nat → Prop} {y : MethodName} {code : ByteArray} {nL h mc ms : Nat} {av : List Value} {M : bkM}
theorem bk_meti {post : Int32 → bkM → Prop} (L : List (Option Value)) (hL : bkE av nL = L) (hy : plainName y.cls = true) (hc : av.all (fun v => v.category == 1) = true) (ha : Nat.ble av.length nL = true)
    (body : ∀ E : bkEnv, bkX E G y.cls code nL (some .int) (bkR h mc ms) → (∀ {M' : bkM} {v : Int32} {pc : Nat} {L' : List (Option Value)}, decode code pc = .ok (.ireturn, 1) → post v M' → bkV E G Z' mc ms M' pc L' [.int v]) → bkV E G Z 0 0 M 0 L []) : bkCi G Z Z' y code nL (some .int) h mc ms av M post :=
  bk_met L hL hy hc ha fun E X hn hQ => body E X fun d hp => r_iret X hQ d hp
theorem bk_metz {post : Int32 → bkM → Prop} (L : List (Option Value)) (hL : bkE av nL = L) (hy : plainName y.cls = true) (hc : av.all (fun v => v.category == 1) = true) (ha : Nat.ble av.length nL = true)
    (body : ∀ E : bkEnv, bkX E G y.cls code nL (some .boolean) (bkR h mc ms) → (∀ {M' : bkM} {v : Int32} {pc : Nat} {L' : List (Option Value)}, decode code pc = .ok (.ireturn, 1) → v = 0 ∨ v = 1 → post v M' → bkV E G Z' mc ms M' pc L' [.int v]) → bkV E G Z 0 0 M 0 L []) : bkCi G Z Z' y code nL (some .boolean) h mc ms av M post :=
  bk_met L hL hy hc ha fun E X hn hQ => body E X fun d hb hp => r_zret X hQ d hb hp
theorem bk_metv {post : bkM → Prop} (L : List (Option Value)) (hL : bkE av nL = L) (hy : plainName y.cls = true) (hc : av.all (fun v => v.category == 1) = true) (ha : Nat.ble av.length nL = true)
    (body : ∀ E : bkEnv, bkX E G y.cls code nL none (bkR h mc ms) → (eT E).name = y.name → (∀ {M' : bkM} {pc : Nat} {L' : List (Option Value)}, decode code pc = .ok (.return_, 1) → post M' → bkV E G Z' mc ms M' pc L' []) → bkV E G Z 0 0 M 0 L []) : bkCv G Z Z' y code nL h mc ms av M post :=
  bk_met L hL hy hc ha fun E X hn hQ => body E X hn fun d hp => r_vret X hQ d hp
theorem bk_metf {post : UInt32 → bkM → Prop} (L : List (Option Value)) (hL : bkE av nL = L) (hy : plainName y.cls = true) (hc : av.all (fun v => v.category == 1) = true) (ha : Nat.ble av.length nL = true)
    (body : ∀ E : bkEnv, bkX E G y.cls code nL (some .float) (bkR h mc ms) → (∀ {M' : bkM} {v : UInt32} {pc : Nat} {L' : List (Option Value)}, decode code pc = .ok (.freturn, 1) → post v M' → bkV E G Z' mc ms M' pc L' [.float v]) → bkV E G Z 0 0 M 0 L []) : bkCf G Z Z' y code nL h mc ms av M post :=
  bk_met L hL hy hc ha fun E X hn hQ => body E X fun d hp => r_fret X hQ d hp
end BKM
section BKD
variable {E : bkEnv} {R : Room} {G : bkG} {Z : Nat → Prop} {k n : Nat} {M : bkM} {pc idx : Nat} {L : List (Option Value)} {st st0 : List Value} {own : String} {cc : ByteArray} {nL : Nat} {ret : Option FieldType}


/-! static arrays, making, copying -/
theorem bkX.sta {i : Nat} (X : bkX E G own cc nL ret R) {nm : String} {f : Nat → Int32} (h : bkS G (eS E) (eS E).heap → bkS1 G nm i f (eS E) (eS E).heap) : bkS1 G nm i f (eS E) (eS E).heap := h X.2.2.2.2.2.1.2.1
theorem r_gets (X : bkX E G own cc nL ret R) {i : Nat} {nm : String} {f : Nat → Int32} (h : bkS G (eS E) (eS E).heap → bkS1 G nm i f (eS E) (eS E).heap) (hl : Cond.fieldLink own idx RX8 nm "[I" ∈ bkTB) (d : decode cc pc = .ok (.getstatic idx, 3)) (kk : bkV E G Z k n M (pc + 3) L (.ref (G.2.2.2 i) :: st)) : bkV E G Z k n M pc L st := fun H locs ls h1 h2 h3 h4 =>
  va_gets X.1 X.2.1 (X.sta h).1 h3 X.2.2.2.1 (X.2.2.2.2.1 _ hl) (fun _ h9 => h9) d (kk H locs ls h1 h2 h3 h4)
theorem r_getsN (X : bkX E G own cc nL ret R) {i : Nat} {nm host : String} {f : Nat → Int32} (h : bkS G (eS E) (eS E).heap → bkS1 G nm i f (eS E) (eS E).heap) (hl : va_Nw (.fieldLinkNest own idx RX8 nm "[I" host) (eS E)) (d : decode cc pc = .ok (.getstatic idx, 3)) (kk : bkV E G Z k n M (pc + 3) L (.ref (G.2.2.2 i) :: st)) : bkV E G Z k n M pc L st := fun H locs ls h1 h2 h3 h4 =>
  va_getsN X.1 X.2.1 (X.sta h).1 h3 X.2.2.2.1 (hl.use rfl) (fun _ h9 => h9) d (kk H locs ls h1 h2 h3 h4)
theorem r_ialdS (X : bkX E G own cc nL ret R) {t : Nat} {nm : String} {f : Nat → Int32} (h : bkS G (eS E) (eS E).heap → bkS1 G nm t f (eS E) (eS E).heap) {i : Int32} (j : Nat) (hi : i = nI j) (hj : j < 4) (d : decode cc pc = .ok (.iaload, 1)) (kk : bkV E G Z k n M (pc + 1) L (.int (f j) :: st)) : bkV E G Z k n M pc L (.int i :: .ref (G.2.2.2 t) :: st) := fun H locs ls h1 h2 h3 h4 =>
  va_ti X.1 X.2.1 (X.sta h).2 h3 (by rw [hi]; exact vp_in_nI hj (by decide)) (by rw [hi, nI_clamp (Nat.lt_trans hj (by decide))]) d (kk H locs ls h1 h2 h3 h4)
theorem r_alenS (X : bkX E G own cc nL ret R) {t : Nat} {nm : String} {f : Nat → Int32} (h : bkS G (eS E) (eS E).heap → bkS1 G nm t f (eS E) (eS E).heap) (d : decode cc pc = .ok (.arraylength, 1)) (kk : bkV E G Z k n M (pc + 1) L (.int 4 :: st)) : bkV E G Z k n M pc L (.ref (G.2.2.2 t) :: st) := fun H locs ls h1 h2 h3 h4 =>
  va_tlen X.1 X.2.1 (X.sta h).2 h3 rfl d (kk H locs ls h1 h2 h3 h4)
theorem r_objInit (X : bkX E G own cc nL ret R) {a : Nat} (hl : Cond.methodLink own idx objectInit ∈ bkTB) (hi : Cond.instanceMethod objectInit ∈ bkTB) (hc : Cond.code objectInit ⟨#[0xb1]⟩ 1 none ∈ bkTB) (hlen : L.length = nL) (hR : 1 ≤ R.frames ∧ 0 + (st.map fun v => v.category).sum + 12 ≤ R.locals) (d : decode cc pc = .ok (.invokespecial idx, 3)) (kk : bkV E G Z k n M (pc + 3) L st) : bkV E G Z k n M pc L (.ref a :: st) := fun H locs ls h1 h2 h3 h4 =>
  W.objInit X.1 X.2.1 X.2.2.2.1 (X.2.2.2.2.1 _ hl) (X.2.2.2.2.1 _ hi) (X.2.2.2.2.1 _ hc) rfl ((h4.1.trans hlen).trans X.2.2.1.symm) rfl d (by rw [X.rm]; exact hR.1) (by rw [X.rm]; exact hR.2) (kk H locs ls h1 h2 h3 h4)
theorem r_new (X : bkX E G own cc nL ret R) {a : Nat} {ci : Nat} {C : String} {T : u_T} {N : Nat} (hc : vwCl[ci]? = some (C, T, N)) (hin : ∀ w ∈ u_ws C T N, w ∈ bkTB) (ty0 : Nat → FieldType) (hty : ∀ k, k < N → parseFieldDescriptor (T k).2.2.1 = some (ty0 k)) (fs : List Value) (hfs : ∀ j, j < N → defaultValue (ty0 j) = vp_V fs j) (hcl : Cond.classLink own idx C ∈ bkTB) (hinst : Cond.instantiable C N ∈ bkTB) (hini : Cond.initialized C ∈ bkTB) (hR : k + 1 ≤ R.cells ∧ n + N ≤ R.slots) (d : decode cc pc = .ok (.new idx, 3)) (kk : bkV E G (fun z => z = a + 1) (k + 1) (n + N) (bku M a (.inr (ci, fs))) (pc + 3) L (.ref a :: st)) : bkV E G (fun z => z = a) k n M pc L st := by
  intro H locs ls h1 h2 h3 h4
  have hts := X.2.2.2.2.1
  have hKn := X.2.2.2.2.2.1.1.1 ci _ hc
  refine W.newcK X.1 X.2.1 X.2.2.2.1 (hts _ hcl) (hts _ hinst) (hts _ hini) rfl d (by rw [X.rm]; exact hR.1) (by rw [X.rm]; exact hR.2) hKn.2.1 h2 fun H1 kC hkC e1 z1 o1 => ?_
  exact kk H1 locs ls (h1.add h2 ⟨_, hc, (u_born ty0 hts hin hKn hkC e1 hty).to hfs⟩ z1 o1) z1 (bkS_grow h3 h2 z1 o1) h4
theorem r_newI (X : bkX E G own cc nL ret R) {a : Nat} {i : Int32} (N : Nat) (hi : i = nI N) (hN : N ≤ 4096) (hw : Cond.arrayClass .int ∈ bkTB) (hR : k + 1 ≤ R.cells ∧ n + N ≤ R.slots) (d : decode cc pc = .ok (.newarray .int, 2)) (kk : bkV E G (fun z => z = a + 1) (k + 1) (n + N) (bku M a (aI G N (fun _ => 0))) (pc + 2) L (.ref a :: st)) : bkV E G (fun z => z = a) k n M pc L (.int i :: st) := by
  subst hi
  intro H locs ls h1 h2 h3 h4
  refine va_newaK X.1 X.2.1 (atype := .int) (X.2.2.2.2.1 _ hw) rfl d rfl (nI_pos (by omega)) (nI_clamp (by omega)) (by show N * 4 ≤ 536870912; omega) (by rw [X.rm]; exact hR.1) (by rw [X.rm]; exact hR.2) h2 fun H1 cA e1 z1 o1 _ hf => ?_
  have hA : (eS E).vm.findClass ("[" ++ FieldType.int.toString) = some (G.2.1 0) := (X.2.2.2.2.2.1.1.2 0 _ rfl).2
  have e : cA = G.2.1 0 := Option.some.inj (hf.symm.trans hA)
  subst e
  exact kk H1 locs ls (h1.add h2 e1 z1 o1) z1 (bkS_grow h3 h2 z1 o1) h4
theorem r_newC (X : bkX E G own cc nL ret R) {a : Nat} {i : Int32} (N : Nat) (hi : i = nI N) (hN : N ≤ 4096) (hw : Cond.arrayClass .char ∈ bkTB) (hR : k + 1 ≤ R.cells ∧ n + N ≤ R.slots) (d : decode cc pc = .ok (.newarray .char, 2)) (kk : bkV E G (fun z => z = a + 1) (k + 1) (n + N) (bku M a (aC G N (fun _ => 0))) (pc + 2) L (.ref a :: st)) : bkV E G (fun z => z = a) k n M pc L (.int i :: st) := by
  subst hi
  intro H locs ls h1 h2 h3 h4
  refine va_newaK X.1 X.2.1 (atype := .char) (X.2.2.2.2.1 _ hw) rfl d rfl (nI_pos (by omega)) (nI_clamp (by omega)) (by show N * 2 ≤ 536870912; omega) (by rw [X.rm]; exact hR.1) (by rw [X.rm]; exact hR.2) h2 fun H1 cA e1 z1 o1 _ hf => ?_
  have hA : (eS E).vm.findClass ("[" ++ FieldType.char.toString) = some (G.2.1 1) := (X.2.2.2.2.2.1.1.2 1 _ rfl).2
  have e : cA = G.2.1 1 := Option.some.inj (hf.symm.trans hA)
  subst e
  exact kk H1 locs ls (h1.add h2 e1 z1 o1) z1 (bkS_grow h3 h2 z1 o1) h4
theorem r_newQ (X : bkX E G own cc nL ret R) {a : Nat} {i : Int32} {t : Nat} {C : String} (N : Nat) (hi : i = nI N) (hN : N ≤ 4096) (hcl : Cond.classLink own idx C ∈ bkTB) (hao : va_AO C (eS E)) (ht : (bkT G)[t]? = some (G.2.1 t, .object C)) (hR : k + 1 ≤ R.cells ∧ n + N ≤ R.slots) (d : decode cc pc = .ok (.anewarray idx, 3)) (kk : bkV E G (fun z => z = a + 1) (k + 1) (n + N) (bku M a (aQ G t N (fun _ => none))) (pc + 3) L (.ref a :: st)) : bkV E G (fun z => z = a) k n M pc L (.int i :: st) := by
  subst hi
  intro H locs ls h1 h2 h3 h4
  have hcl1 : (nI N).toNatClampNeg = N := nI_clamp (by omega)
  refine W.anew X.1 X.2.1 X.2.2.2.1 (X.2.2.2.2.1 _ hcl) hao.use rfl d rfl (nI_pos (by omega)) (by rw [hcl1]; omega) (by rw [X.rm]; exact hR.1) (by rw [hcl1, X.rm]; exact hR.2) fun cA kA comp f1 f2 f3 f4 => ?_
  obtain ⟨_, _, -, -, -, f5⟩ := (X.2.2.2.2.2.1.1.2 t _ ht).2
  have e : cA = G.2.1 t := Option.some.inj (f1.symm.trans f5)
  subst e
  rw [hcl1]
  have h2' : H.size = a := h2
  have z1 : (H.push ({ cls := G.2.1 t, slots := Array.replicate N .null, vm := .none } : Cell)).size = a + 1 := by rw [Array.size_push, h2']
  have e1 : (H.push ({ cls := G.2.1 t, slots := Array.replicate N .null, vm := .none } : Cell))[a]? = some (arrV (G.2.1 t) N (fun _ => .null)) := by rw [← h2', Array.getElem?_push_size, ← arrV_new]
  have o1 : ∀ q : Nat, q < a → (H.push ({ cls := G.2.1 t, slots := Array.replicate N .null, vm := .none } : Cell))[q]? = H[q]? := fun q hq => by rw [Array.getElem?_push, if_neg (by omega)]
  rw [h2']
  exact kk _ locs ls (h1.add h2 e1 z1 o1) z1 (bkS_grow h3 h2 z1 o1) h4
theorem r_copyI (X : bkX E G own cc nL ret R) {a b N0 N1 : Nat} {f g : Nat → Int32} (hma : M a = some (aI G N0 f)) (hmb : M b = some (aI G N1 g)) {i : Int32} (N : Nat) (hi : i = nI N) (hN0 : N ≤ N0) (hN1 : N ≤ N1) (hN : N < 2 ^ 31) (hl : Cond.methodLink own idx arraycopyName ∈ bkTB) (hnat : Cond.native arraycopyName ∈ bkTB) (hstc : Cond.static arraycopyName ∈ bkTB) (hini : Cond.initialized "java/lang/System" ∈ bkTB) (hlen : L.length = nL) (hR : 1 ≤ R.frames ∧ (st.map fun v => v.category).sum + (nativeFrameWords "java/lang/System" "arraycopy" 5 + 11) ≤ R.locals) (d : decode cc pc = .ok (.invokestatic idx, 3)) (kk : bkV E G Z k n (bku M b (aI G N1 (fun j => if j < N then f j else g j))) (pc + 3) L st) : bkV E G Z k n M pc L (.int i :: .int 0 :: .ref b :: .int 0 :: .ref a :: st) := by
  subst hi
  intro H locs ls h1 h2 h3 h4
  intro T hT XS
  have hcN : (nI N).toNatClampNeg = N := nI_clamp hN
  have hpN : ¬ nI N < 0 := nI_pos hN
  have hc0 : H[a]? = some (vp_cell (G.2.1 0) (N0, .inl f)) := (h1.1 a _ hma).1
  have hc1 : H[b]? = some (vp_cell (G.2.1 0) (N1, .inl g)) := (h1.1 b _ hmb).1
  obtain ⟨-, k0, hk0, cm0, hkk0⟩ := (X.ty (t := 0) rfl).1 N0 (fun j => .int (f j))
  obtain ⟨-, k1, hk1, cm1, hkk1⟩ := (X.ty (t := 0) rfl).1 N1 (fun j => .int (g j))
  have hnI : (nI N).toInt = (N : Int) := nI_toInt hN
  obtain ⟨vm', X', step⟩ := XS.arraycopy X.1 X.2.2.2.1 (X.2.2.2.2.1 _ hl) (X.2.2.2.2.1 _ hnat) (X.2.2.2.2.1 _ hstc) (X.2.2.2.2.1 _ hini) (src := a) (dst := b) (cs := vp_cell (G.2.1 0) (N0, .inl f)) (cd := vp_cell (G.2.1 0) (N1, .inl g)) (srcPos := 0) (destPos := 0) (n := nI N) (by rw [hT]; exact hc0) (by rw [hT]; exact hc1)
    (fun _ h => by cases h) (fun _ h => by cases h) (fun h => by cases h) (fun h => by cases h) hk0 hk1 hkk0 hkk1 rfl (by decide) (by decide) hpN
    (by rw [hnI]; show ¬ (0 : Int) + _ > ((arrV (G.2.1 0) N0 (fun j => .int (f j))).slots.size : Int); rw [arrV_size]; omega)
    (by rw [hnI]; show ¬ (0 : Int) + _ > ((arrV (G.2.1 0) N1 (fun j => .int (g j))).slots.size : Int); rw [arrV_size]; omega)
    (fun vm₁ _ i hi => by
      have hi' : i < N := by rw [hcN] at hi; exact hi
      have e : (vp_cell (G.2.1 0) (N0, .inl f)).slots.getD ((0 : Int32).toNatClampNeg + i) .null = .int (f ((0 : Int32).toNatClampNeg + i)) := by
        show (arrV (G.2.1 0) N0 (fun j => .int (f j))).slots.getD _ _ = _
        rw [Array.getD_eq_getD_getElem?, arrV_read _ _ (by rw [show (0 : Int32).toNatClampNeg = 0 from rfl]; omega)]
        rfl
      refine ⟨?_, ?_⟩
      · rw [e]; rfl
      · rw [e]
        exact trivial)
    (g := F0 (eM E) pc ls (.int (nI N) :: .int 0 :: .ref b :: .int 0 :: .ref a :: st)) rfl ((h4.1.trans hlen).trans X.2.2.1.symm) (rest := st) rfl (by rw [X.2.1]; exact d) (by rw [X.rm]; exact hR.1) (by rw [X.rm]; show 2 * 0 + _ + _ ≤ _; have := hR.2; omega)
  have e1 : copied (vp_cell (G.2.1 0) (N0, .inl f)) (vp_cell (G.2.1 0) (N1, .inl g)) 0 0 (nI N) = vp_cell (G.2.1 0) (N1, .inl (va_cpy f g (0 : Int32).toNatClampNeg (0 : Int32).toNatClampNeg (nI N).toNatClampNeg)) := va_copied (fun z => .int z) (G.2.1 0) (G.2.1 0) f g (by rw [hcN]; show 0 + N ≤ N0; omega)
  rw [e1] at X' step
  have e2 : va_cpy f g (0 : Int32).toNatClampNeg (0 : Int32).toNatClampNeg (nI N).toNatClampNeg = (fun j => if j < N then f j else g j) := by
    rw [hcN]
    funext j
    show (if 0 ≤ j ∧ j < 0 + N then f (0 + (j - 0)) else g j) = _
    by_cases hj : j < N
    · rw [if_pos ⟨Nat.zero_le _, by omega⟩, if_pos hj, Nat.sub_zero, Nat.zero_add]
    · rw [if_neg (fun q => hj (by omega)), if_neg hj]
  rw [e2] at X' step
  have hl1 : b < H.size := h1.lt hmb
  have hheap : ((T.setVm vm').setCell b (vp_cell (G.2.1 0) (N1, .inl (fun j => if j < N then f j else g j)))).heap = H.setIfInBounds b (vp_cell (G.2.1 0) (N1, .inl (fun j => if j < N then f j else g j))) := by rw [← hT]; rfl
  have oq : ∀ q : Nat, q ≠ b → (H.setIfInBounds b (vp_cell (G.2.1 0) (N1, .inl (fun j => if j < N then f j else g j))))[q]? = H[q]? := fun q hq => by simp [Array.getElem?_setIfInBounds, Ne.symm hq]
  have z1 : (H.setIfInBounds b (vp_cell (G.2.1 0) (N1, .inl (fun j => if j < N then f j else g j)))).size = H.size := by simp
  obtain ⟨t, a1, b1⟩ := kk _ _ ls (h1.put hmb (show (H.setIfInBounds b _)[b]? = some _ by simp [Array.getElem?_setIfInBounds, hl1]) z1 oq) (by rw [z1]; exact h2) ⟨by rw [z1]; exact h3.1, fun q g1 g2 => by
      rw [oq q (fun e => g2 (by rw [e]; exact h1.inA hmb))]
      exact h3.2.1 q g1 g2, fun q hq => by
      rcases List.mem_append.mp hq with h | h
      · exact h3.2.2 q h
      · obtain ⟨z, -, hz⟩ := List.mem_map.mp h
        rw [← hz]
        exact h1.inA hmb⟩ h4 _ hheap X'
  exact ⟨t, step t a1, b1⟩
/-- new int[N][K]: the outer row at a, the inner ones behind it -/
def bkI (M : bkM) (a N : Nat) (eo ei : va_E) : bkM := fun x => if x = a then some eo else if a < x ∧ x ≤ a + N then some ei else M x
theorem r_newII (X : bkX E G own cc nL ret R) {a : Nat} {i1 i2 : Int32} (N K : Nat) (hi1 : i1 = nI N) (hi2 : i2 = nI K) (hN : N ≤ 4096) (hK : K ≤ 4096) (hcl : Cond.classLink own idx "[[I" ∈ bkTB) (hao : bkAO .int (eS E)) (hw : Cond.arrayClass .int ∈ bkTB) (hR : k + (1 + N) ≤ R.cells ∧ n + (N + N * K) ≤ R.slots) (d : decode cc pc = .ok (.multianewarray idx 2, 4)) (kk : bkV E G (fun z => z = a + 1 + N) (k + 1 + N) (n + N + N * K) (bkI M a N (aQ G 2 N (fun i => if i < N then some (a + 1 + i) else none)) (aI G K (fun _ => 0))) (pc + 4) L (.ref a :: st)) : bkV E G (fun z => z = a) k n M pc L (.int i2 :: .int i1 :: st) := by
  subst hi1
  subst hi2
  intro H locs ls h1 h2 h3 h4 T hT Xs
  have hcN : (nI N).toNatClampNeg = N := nI_clamp (by omega)
  have hcK : (nI K).toNatClampNeg = K := nI_clamp (by omega)
  have h2' : H.size = a := h2
  obtain ⟨vm₁, cA, comp, -, fA, fC, hO, -, X', step⟩ := Xs.multianewarray2F X.1 X.2.2.2.1 (ty := .int) (X.2.2.2.2.1 _ hcl) hao.use (X.2.2.2.2.1 _ hw) (g := F0 (eM E) pc ls (.int (nI K) :: .int (nI N) :: st)) rfl (by rw [X.2.1]; exact d) rfl (nI_pos (by omega)) (nI_pos (by omega)) (by rw [hcN]; omega) (by rw [hcK]; show K * 4 ≤ _; omega) (by rw [hcK]; omega) rfl rfl (by rw [hcN, X.rm]; exact hR.1) (by rw [hcN, hcK, X.rm]; exact hR.2)
  have hA0 : (eS E).vm.findClass ("[" ++ FieldType.int.toString) = some (G.2.1 0) := (X.2.2.2.2.2.1.1.2 0 _ rfl).2
  have hA2 : (eS E).vm.findClass ("[" ++ (FieldType.array .int).toString) = some (G.2.1 2) := (X.2.2.2.2.2.1.1.2 2 _ rfl).2
  have ec : some (G.2.1 0) = some comp := hA0.symm.trans fC
  cases ec
  have ea : some (G.2.1 2) = some cA := hA2.symm.trans fA
  cases ea
  rw [hcN, hcK] at X' step
  generalize hF : Jvm.Free.Multi.fill (T.setVm vm₁) (G.2.1 2) (G.2.1 0) N K (defaultValue .int) N = F at X' step
  have hTh : (T.setVm vm₁).heap = H := hT
  obtain ⟨f1, f2, -, -⟩ := Jvm.Free.Multi.fill_facts (T.setVm vm₁) (G.2.1 2) (G.2.1 0) N K (defaultValue .int) N
  rw [hF, hTh] at f1 f2
  have hold : ∀ x : Nat, x < H.size → F.heap[x]? = H[x]? := fun x hx => by
    have := Jvm.Free.Multi.fill_old (T.setVm vm₁) (G.2.1 2) (G.2.1 0) N K (defaultValue .int) (a := x) (by rw [hTh]; exact hx) N
    rw [hF, hTh] at this
    exact this
  have hrow : ∀ j : Nat, j < N → F.heap[H.size + 1 + j]? = some (vp_cell (G.2.1 0) (K, .inl (fun _ => 0))) := fun j hj => by
    have := Jvm.Free.Multi.fill_inner (T.setVm vm₁) (G.2.1 2) (G.2.1 0) N K (defaultValue .int) N j hj
    rw [hF, hTh] at this
    rw [this]
    refine congrArg some ?_
    rw [vp_cell_i, ← arrV_new]
    rfl
  have hout : Jvm.Free.Multi.outerC (G.2.1 2) N H.size N = vp_cell (G.2.1 2) (N, .inr (.inr (.inr (.inr (fun i => if i < N then some (H.size + 1 + i) else none))))) := by
    rw [vp_cell_q]
    exact vr_outer (G.2.1 2) N H.size N
  rw [hout] at f2
  rw [h2'] at f1 f2 hrow
  have hZ1 : F.heap.size = a + 1 + N := by rw [f1]
  have hTs : T.heap.size = a := by rw [hT]; exact h2'
  obtain ⟨t, a1, b1⟩ := kk F.heap locs ls ⟨fun x ev hx => by
      unfold bkI at hx
      by_cases e0 : x = a
      · subst e0
        rw [if_pos rfl] at hx
        cases hx
        exact ⟨f2, by rw [← h2']; exact h1.2⟩
      · rw [if_neg e0] at hx
        by_cases e1 : a < x ∧ x ≤ a + N
        · rw [if_pos e1] at hx
          cases hx
          have := hrow (x - (a + 1)) (by omega)
          rw [show a + 1 + (x - (a + 1)) = x by omega] at this
          exact ⟨this, Nat.le_trans (by rw [← h2']; exact h1.2) (Nat.le_of_lt e1.1)⟩
        · rw [if_neg e1] at hx
          exact ⟨(h1.1 x ev hx).1.kept (hold x (h1.lt hx)), (h1.1 x ev hx).2⟩, by rw [hZ1]; have := h1.2; omega⟩ hZ1 ⟨by rw [hZ1]; have := h3.1; omega, fun q g1 g2 => (hold q (Nat.lt_of_lt_of_le g1 h3.1)).trans (h3.2.1 q g1 g2), h3.2.2⟩ h4 F rfl (by
      have e : k + 1 + N = k + (1 + N) := by omega
      have e2 : n + N + N * K = n + (N + N * K) := by omega
      first | exact X' | (rw [e, e2]; exact X'))
  refine ⟨t, step t ?_, b1⟩
  rw [hTs]
  exact a1
theorem bkX.nw (X : bkX E G own cc nL ret R) : bkN (eS E) := X.2.2.2.2.2.1.2.2
theorem bk_cat {st : List Value} (h : Nat.ble ((st.map fun v => v.category).sum) 8 = true) : (st.map fun v => v.category).sum ≤ 8 := Nat.le_of_ble_eq_true h
theorem bk_room {nL' h' mc ms : Nat} (h : (Nat.ble (h' + 1) R.frames && Nat.ble (8 + (nL' + 11) + 39 * h') R.locals && Nat.ble (k + mc) R.cells && Nat.ble (n + ms) R.slots) = true) : bk_fit R nL' h' k n mc ms := by
  simp only [Bool.and_eq_true] at h
  exact ⟨⟨Nat.le_of_ble_eq_true h.1.1.1, Nat.le_of_ble_eq_true h.1.1.2⟩, Nat.le_of_ble_eq_true h.1.2, Nat.le_of_ble_eq_true h.2⟩
end BKD
end
